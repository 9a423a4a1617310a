theorem dX5_areSeveral_118 : decode cX5_areSeveral 118 = .ok (.iconst 5, 1) := by decide +kernel
theorem dX5_areSeveral_119 : decode cX5_areSeveral 119 = .ok (.irem, 1) := by decide +kernel
theorem dX5_areSeveral_120 : decode cX5_areSeveral 120 = .ok (.istore 5, 2) := by decide +kernel
theorem dX5_areSeveral_122 : decode cX5_areSeveral 122 = .ok (.iload_n 2, 1) := by decide +kernel
theorem dX5_areSeveral_123 : decode cX5_areSeveral 123 = .ok (.iconst 4, 1) := by decide +kernel
theorem dX5_areSeveral_124 : decode cX5_areSeveral 124 = .ok (.iadd, 1) := by decide +kernel
theorem dX5_areSeveral_125 : decode cX5_areSeveral 125 = .ok (.iconst 5, 1) := by decide +kernel
theorem dX5_areSeveral_126 : decode cX5_areSeveral 126 = .ok (.irem, 1) := by decide +kernel
theorem dX5_areSeveral_127 : decode cX5_areSeveral 127 = .ok (.istore 6, 2) := by decide +kernel
theorem dX5_areSeveral_129 : decode cX5_areSeveral 129 = .ok (.iload_n 1, 1) := by decide +kernel
theorem dX5_areSeveral_130 : decode cX5_areSeveral 130 = .ok (.ifCond .ne 60, 3) := by decide +kernel
theorem dX5_areSeveral_133 : decode cX5_areSeveral 133 = .ok (.aload_n 0, 1) := by decide +kernel
theorem dX5_areSeveral_134 : decode cX5_areSeveral 134 = .ok (.iload_n 3, 1) := by decide +kernel
theorem dX5_areSeveral_135 : decode cX5_areSeveral 135 = .ok (.iload 4, 2) := by decide +kernel
theorem dX5_areSeveral_137 : decode cX5_areSeveral 137 = .ok (.iload 5, 2) := by decide +kernel
theorem dX5_areSeveral_139 : decode cX5_areSeveral 139 = .ok (.invokevirtual 123, 3) := by decide +kernel
theorem dX5_areSeveral_142 : decode cX5_areSeveral 142 = .ok (.lconst 0, 1) := by decide +kernel
theorem dX5_areSeveral_143 : decode cX5_areSeveral 143 = .ok (.lcmp, 1) := by decide +kernel
theorem dX5_areSeveral_144 : decode cX5_areSeveral 144 = .ok (.ifCond .ne 50, 3) := by decide +kernel
theorem dX5_areSeveral_147 : decode cX5_areSeveral 147 = .ok (.aload_n 0, 1) := by decide +kernel
theorem dX5_areSeveral_148 : decode cX5_areSeveral 148 = .ok (.iload_n 3, 1) := by decide +kernel
theorem dX5_areSeveral_149 : decode cX5_areSeveral 149 = .ok (.iload 4, 2) := by decide +kernel
theorem dX5_areSeveral_151 : decode cX5_areSeveral 151 = .ok (.iload 6, 2) := by decide +kernel
theorem dX5_areSeveral_153 : decode cX5_areSeveral 153 = .ok (.invokevirtual 123, 3) := by decide +kernel
theorem dX5_areSeveral_156 : decode cX5_areSeveral 156 = .ok (.lconst 0, 1) := by decide +kernel
theorem dX5_areSeveral_157 : decode cX5_areSeveral 157 = .ok (.lcmp, 1) := by decide +kernel
theorem dX5_areSeveral_158 : decode cX5_areSeveral 158 = .ok (.ifCond .ne 36, 3) := by decide +kernel
theorem dX5_areSeveral_161 : decode cX5_areSeveral 161 = .ok (.aload_n 0, 1) := by decide +kernel
theorem dX5_areSeveral_162 : decode cX5_areSeveral 162 = .ok (.iload 4, 2) := by decide +kernel
theorem dX5_areSeveral_164 : decode cX5_areSeveral 164 = .ok (.iload 5, 2) := by decide +kernel
theorem dX5_areSeveral_166 : decode cX5_areSeveral 166 = .ok (.iload 6, 2) := by decide +kernel
theorem dX5_areSeveral_168 : decode cX5_areSeveral 168 = .ok (.invokevirtual 123, 3) := by decide +kernel
theorem dX5_areSeveral_171 : decode cX5_areSeveral 171 = .ok (.lconst 0, 1) := by decide +kernel
theorem dX5_areSeveral_172 : decode cX5_areSeveral 172 = .ok (.lcmp, 1) := by decide +kernel
theorem dX5_areSeveral_173 : decode cX5_areSeveral 173 = .ok (.ifCond .ne 21, 3) := by decide +kernel
theorem dX5_areSeveral_176 : decode cX5_areSeveral 176 = .ok (.aload_n 0, 1) := by decide +kernel
theorem dX5_areSeveral_177 : decode cX5_areSeveral 177 = .ok (.iload_n 3, 1) := by decide +kernel
theorem dX5_areSeveral_178 : decode cX5_areSeveral 178 = .ok (.iload 5, 2) := by decide +kernel
theorem dX5_areSeveral_180 : decode cX5_areSeveral 180 = .ok (.iload 6, 2) := by decide +kernel
theorem dX5_areSeveral_182 : decode cX5_areSeveral 182 = .ok (.invokevirtual 123, 3) := by decide +kernel
theorem dX5_areSeveral_185 : decode cX5_areSeveral 185 = .ok (.lconst 0, 1) := by decide +kernel
theorem dX5_areSeveral_186 : decode cX5_areSeveral 186 = .ok (.lcmp, 1) := by decide +kernel
theorem dX5_areSeveral_187 : decode cX5_areSeveral 187 = .ok (.ifCond .ne 7, 3) := by decide +kernel
theorem dX5_areSeveral_190 : decode cX5_areSeveral 190 = .ok (.iconst 1, 1) := by decide +kernel
theorem dX5_areSeveral_191 : decode cX5_areSeveral 191 = .ok (.goto 4, 3) := by decide +kernel
theorem dX5_areSeveral_194 : decode cX5_areSeveral 194 = .ok (.iconst 0, 1) := by decide +kernel
theorem dX5_areSeveral_195 : decode cX5_areSeveral 195 = .ok (.istore_n 1, 1) := by decide +kernel
theorem dX5_areSeveral_196 : decode cX5_areSeveral 196 = .ok (.iinc 2 1, 3) := by decide +kernel
theorem dX5_areSeveral_199 : decode cX5_areSeveral 199 = .ok (.goto (-195), 3) := by decide +kernel
theorem dX5_areSeveral_202 : decode cX5_areSeveral 202 = .ok (.iload_n 1, 1) := by decide +kernel
theorem dX5_areSeveral_203 : decode cX5_areSeveral 203 = .ok (.ireturn, 1) := by decide +kernel
set_option maxRecDepth 20000 in
theorem ggX5_five_X5_isOf : GoodIn wsX5_five wsX5_isOf := goodIn_r _ [11, 12, 13, 14, 10, 15, 59, 60, 61, 62, 63, 64, 65, 66, 67, 68, 69, 70, 71, 72, 73, 74, 75] (by decide +kernel) (by decide +kernel)
set_option maxRecDepth 20000 in
theorem gX5_five_X5_isOf : GoodIn wsX5_five (wsV RX5 97 RX5 yX5_isOf wsX5_isOf) := goodIn_app (goodIn_of _ (by decide +kernel)) ggX5_five_X5_isOf
set_option maxRecDepth 20000 in
theorem ggX5_five_X5_areSeveral : GoodIn wsX5_five wsX5_areSeveral := goodIn_r _ [19, 20, 2, 21, 22, 23, 10, 24, 59, 60, 61, 62, 63, 64, 65, 66, 67, 68, 69, 70, 71, 72, 73, 74, 75] (by decide +kernel) (by decide +kernel)
set_option maxRecDepth 20000 in
theorem gX5_five_X5_areSeveral : GoodIn wsX5_five (wsV RX5 127 RX5 yX5_areSeveral wsX5_areSeveral) := goodIn_app (goodIn_of _ (by decide +kernel)) ggX5_five_X5_areSeveral
set_option maxRecDepth 20000 in
theorem ggX5_five_X5_isSmall : GoodIn wsX5_five wsX5_isSmall := goodIn_r _ [28, 20, 29, 30, 13, 14, 10, 15, 59, 60, 61, 62, 63, 64, 65, 66, 67, 68, 69, 70, 71, 72, 73, 74, 75] (by decide +kernel) (by decide +kernel)
set_option maxRecDepth 20000 in
theorem gX5_five_X5_isSmall : GoodIn wsX5_five (wsV RX5 131 RX5 yX5_isSmall wsX5_isSmall) := goodIn_app (goodIn_of _ (by decide +kernel)) ggX5_five_X5_isSmall
set_option maxRecDepth 20000 in
theorem ggX5_five_X5_layRow : GoodIn wsX5_five wsX5_layRow := goodIn_r _ [34, 20, 35, 59, 60, 61, 62, 63, 64, 65, 66, 67, 68, 69, 70, 71, 72, 73, 74, 75] (by decide +kernel) (by decide +kernel)
set_option maxRecDepth 20000 in
theorem gX5_five_X5_layRow : GoodIn wsX5_five (wsV RX5 135 RX5 yX5_layRow wsX5_layRow) := goodIn_app (goodIn_of _ (by decide +kernel)) ggX5_five_X5_layRow
set_option maxRecDepth 20000 in
theorem ggX5_five_X5_layMinors : GoodIn wsX5_five wsX5_layMinors := goodIn_r _ [39, 6, 40, 35, 59, 60, 61, 62, 63, 64, 65, 66, 67, 68, 69, 70, 71, 72, 73, 74, 75] (by decide +kernel) (by decide +kernel)
set_option maxRecDepth 20000 in
theorem gX5_five_X5_layMinors : GoodIn wsX5_five (wsV RX5 139 RX5 yX5_layMinors wsX5_layMinors) := goodIn_app (goodIn_of _ (by decide +kernel)) ggX5_five_X5_layMinors
set_option maxRecDepth 20000 in
theorem ggX5_five_X5_keep : GoodIn wsX5_five wsX5_keep := goodIn_r _ [44, 5, 45, 46, 4, 12, 47, 20, 48, 49, 50, 51, 10, 52, 53, 54, 55, 56, 57, 58, 13, 14, 15, 59, 60, 61, 62, 63, 64, 65, 66, 67, 68, 69, 70, 71, 72, 73, 74, 75] (by decide +kernel) (by decide +kernel)
set_option maxRecDepth 20000 in
theorem gX5_five_X5_keep : GoodIn wsX5_five (wsV RX5 87 RX5 yX5_keep wsX5_keep) := goodIn_app (goodIn_of _ (by decide +kernel)) ggX5_five_X5_keep
theorem dX5_five_0 : decode cX5_five 0 = .ok (.aload_n 0, 1) := by decide +kernel
theorem dX5_five_1 : decode cX5_five 1 = .ok (.iconst 0, 1) := by decide +kernel
theorem dX5_five_2 : decode cX5_five 2 = .ok (.iload_n 1, 1) := by decide +kernel
theorem dX5_five_3 : decode cX5_five 3 = .ok (.invokevirtual 97, 3) := by decide +kernel
theorem dX5_five_6 : decode cX5_five 6 = .ok (.ifCond .eq 41, 3) := by decide +kernel
theorem dX5_five_9 : decode cX5_five 9 = .ok (.aload_n 0, 1) := by decide +kernel
theorem dX5_five_10 : decode cX5_five 10 = .ok (.iconst 0, 1) := by decide +kernel
theorem dX5_five_11 : decode cX5_five 11 = .ok (.iload_n 2, 1) := by decide +kernel
theorem dX5_five_12 : decode cX5_five 12 = .ok (.invokevirtual 97, 3) := by decide +kernel
theorem dX5_five_15 : decode cX5_five 15 = .ok (.ifCond .eq 32, 3) := by decide +kernel
theorem dX5_five_18 : decode cX5_five 18 = .ok (.aload_n 0, 1) := by decide +kernel
theorem dX5_five_19 : decode cX5_five 19 = .ok (.iconst 0, 1) := by decide +kernel
theorem dX5_five_20 : decode cX5_five 20 = .ok (.iload_n 3, 1) := by decide +kernel
theorem dX5_five_21 : decode cX5_five 21 = .ok (.invokevirtual 97, 3) := by decide +kernel
theorem dX5_five_24 : decode cX5_five 24 = .ok (.ifCond .eq 23, 3) := by decide +kernel
theorem dX5_five_27 : decode cX5_five 27 = .ok (.aload_n 0, 1) := by decide +kernel
theorem dX5_five_28 : decode cX5_five 28 = .ok (.iconst 0, 1) := by decide +kernel
theorem dX5_five_29 : decode cX5_five 29 = .ok (.iload 4, 2) := by decide +kernel
theorem dX5_five_31 : decode cX5_five 31 = .ok (.invokevirtual 97, 3) := by decide +kernel
theorem dX5_five_34 : decode cX5_five 34 = .ok (.ifCond .eq 13, 3) := by decide +kernel
theorem dX5_five_37 : decode cX5_five 37 = .ok (.aload_n 0, 1) := by decide +kernel
theorem dX5_five_38 : decode cX5_five 38 = .ok (.iconst 0, 1) := by decide +kernel
theorem dX5_five_39 : decode cX5_five 39 = .ok (.iload 5, 2) := by decide +kernel
theorem dX5_five_41 : decode cX5_five 41 = .ok (.invokevirtual 97, 3) := by decide +kernel
theorem dX5_five_44 : decode cX5_five 44 = .ok (.ifCond .ne 6, 3) := by decide +kernel
theorem dX5_five_47 : decode cX5_five 47 = .ok (.ldc 101, 2) := by decide +kernel
theorem dX5_five_49 : decode cX5_five 49 = .ok (.ireturn, 1) := by decide +kernel
theorem dX5_five_50 : decode cX5_five 50 = .ok (.aload_n 0, 1) := by decide +kernel
theorem dX5_five_51 : decode cX5_five 51 = .ok (.getfield 32, 3) := by decide +kernel
theorem dX5_five_54 : decode cX5_five 54 = .ok (.iconst 0, 1) := by decide +kernel
theorem dX5_five_55 : decode cX5_five 55 = .ok (.iload_n 1, 1) := by decide +kernel
theorem dX5_five_56 : decode cX5_five 56 = .ok (.iastore, 1) := by decide +kernel
theorem dX5_five_57 : decode cX5_five 57 = .ok (.aload_n 0, 1) := by decide +kernel
theorem dX5_five_58 : decode cX5_five 58 = .ok (.getfield 32, 3) := by decide +kernel
theorem dX5_five_61 : decode cX5_five 61 = .ok (.iconst 1, 1) := by decide +kernel
theorem dX5_five_62 : decode cX5_five 62 = .ok (.iload_n 2, 1) := by decide +kernel
theorem dX5_five_63 : decode cX5_five 63 = .ok (.iastore, 1) := by decide +kernel
theorem dX5_five_64 : decode cX5_five 64 = .ok (.aload_n 0, 1) := by decide +kernel
theorem dX5_five_65 : decode cX5_five 65 = .ok (.getfield 32, 3) := by decide +kernel
theorem dX5_five_68 : decode cX5_five 68 = .ok (.iconst 2, 1) := by decide +kernel
theorem dX5_five_69 : decode cX5_five 69 = .ok (.iload_n 3, 1) := by decide +kernel
theorem dX5_five_70 : decode cX5_five 70 = .ok (.iastore, 1) := by decide +kernel
theorem dX5_five_71 : decode cX5_five 71 = .ok (.aload_n 0, 1) := by decide +kernel
theorem dX5_five_72 : decode cX5_five 72 = .ok (.getfield 32, 3) := by decide +kernel
theorem dX5_five_75 : decode cX5_five 75 = .ok (.iconst 3, 1) := by decide +kernel
theorem dX5_five_76 : decode cX5_five 76 = .ok (.iload 4, 2) := by decide +kernel
theorem dX5_five_78 : decode cX5_five 78 = .ok (.iastore, 1) := by decide +kernel
theorem dX5_five_79 : decode cX5_five 79 = .ok (.aload_n 0, 1) := by decide +kernel
theorem dX5_five_80 : decode cX5_five 80 = .ok (.getfield 32, 3) := by decide +kernel
theorem dX5_five_83 : decode cX5_five 83 = .ok (.iconst 4, 1) := by decide +kernel
theorem dX5_five_84 : decode cX5_five 84 = .ok (.iload 5, 2) := by decide +kernel
theorem dX5_five_86 : decode cX5_five 86 = .ok (.iastore, 1) := by decide +kernel
theorem dX5_five_87 : decode cX5_five 87 = .ok (.aload_n 0, 1) := by decide +kernel
theorem dX5_five_88 : decode cX5_five 88 = .ok (.invokevirtual 127, 3) := by decide +kernel
theorem dX5_five_91 : decode cX5_five 91 = .ok (.ifCond .eq 6, 3) := by decide +kernel
theorem dX5_five_94 : decode cX5_five 94 = .ok (.ldc 106, 2) := by decide +kernel
theorem dX5_five_96 : decode cX5_five 96 = .ok (.ireturn, 1) := by decide +kernel
theorem dX5_five_97 : decode cX5_five 97 = .ok (.aload_n 0, 1) := by decide +kernel
theorem dX5_five_98 : decode cX5_five 98 = .ok (.iload_n 1, 1) := by decide +kernel
theorem dX5_five_99 : decode cX5_five 99 = .ok (.invokevirtual 131, 3) := by decide +kernel
theorem dX5_five_102 : decode cX5_five 102 = .ok (.ifCond .eq 37, 3) := by decide +kernel
theorem dX5_five_105 : decode cX5_five 105 = .ok (.aload_n 0, 1) := by decide +kernel
theorem dX5_five_106 : decode cX5_five 106 = .ok (.iload_n 2, 1) := by decide +kernel
theorem dX5_five_107 : decode cX5_five 107 = .ok (.invokevirtual 131, 3) := by decide +kernel
theorem dX5_five_110 : decode cX5_five 110 = .ok (.ifCond .eq 29, 3) := by decide +kernel
theorem dX5_five_113 : decode cX5_five 113 = .ok (.aload_n 0, 1) := by decide +kernel
theorem dX5_five_114 : decode cX5_five 114 = .ok (.iload_n 3, 1) := by decide +kernel
theorem dX5_five_115 : decode cX5_five 115 = .ok (.invokevirtual 131, 3) := by decide +kernel
theorem dX5_five_118 : decode cX5_five 118 = .ok (.ifCond .eq 21, 3) := by decide +kernel
theorem dX5_five_121 : decode cX5_five 121 = .ok (.aload_n 0, 1) := by decide +kernel
theorem dX5_five_122 : decode cX5_five 122 = .ok (.iload 4, 2) := by decide +kernel
theorem dX5_five_124 : decode cX5_five 124 = .ok (.invokevirtual 131, 3) := by decide +kernel
theorem dX5_five_127 : decode cX5_five 127 = .ok (.ifCond .eq 12, 3) := by decide +kernel
theorem dX5_five_130 : decode cX5_five 130 = .ok (.aload_n 0, 1) := by decide +kernel
theorem dX5_five_131 : decode cX5_five 131 = .ok (.iload 5, 2) := by decide +kernel
theorem dX5_five_133 : decode cX5_five 133 = .ok (.invokevirtual 131, 3) := by decide +kernel
theorem dX5_five_136 : decode cX5_five 136 = .ok (.ifCond .ne 6, 3) := by decide +kernel
theorem dX5_five_139 : decode cX5_five 139 = .ok (.ldc 76, 2) := by decide +kernel
theorem dX5_five_141 : decode cX5_five 141 = .ok (.ireturn, 1) := by decide +kernel
theorem dX5_five_142 : decode cX5_five 142 = .ok (.aload_n 0, 1) := by decide +kernel
theorem dX5_five_143 : decode cX5_five 143 = .ok (.iconst 0, 1) := by decide +kernel
theorem dX5_five_144 : decode cX5_five 144 = .ok (.iload_n 1, 1) := by decide +kernel
theorem dX5_five_145 : decode cX5_five 145 = .ok (.invokevirtual 135, 3) := by decide +kernel
theorem dX5_five_148 : decode cX5_five 148 = .ok (.aload_n 0, 1) := by decide +kernel
theorem dX5_five_149 : decode cX5_five 149 = .ok (.iconst 1, 1) := by decide +kernel
theorem dX5_five_150 : decode cX5_five 150 = .ok (.iload_n 2, 1) := by decide +kernel
theorem dX5_five_151 : decode cX5_five 151 = .ok (.invokevirtual 135, 3) := by decide +kernel
theorem dX5_five_154 : decode cX5_five 154 = .ok (.aload_n 0, 1) := by decide +kernel
theorem dX5_five_155 : decode cX5_five 155 = .ok (.iconst 2, 1) := by decide +kernel
theorem dX5_five_156 : decode cX5_five 156 = .ok (.iload_n 3, 1) := by decide +kernel
theorem dX5_five_157 : decode cX5_five 157 = .ok (.invokevirtual 135, 3) := by decide +kernel
theorem dX5_five_160 : decode cX5_five 160 = .ok (.aload_n 0, 1) := by decide +kernel
theorem dX5_five_161 : decode cX5_five 161 = .ok (.iconst 3, 1) := by decide +kernel
theorem dX5_five_162 : decode cX5_five 162 = .ok (.iload 4, 2) := by decide +kernel
theorem dX5_five_164 : decode cX5_five 164 = .ok (.invokevirtual 135, 3) := by decide +kernel
theorem dX5_five_167 : decode cX5_five 167 = .ok (.aload_n 0, 1) := by decide +kernel
theorem dX5_five_168 : decode cX5_five 168 = .ok (.iconst 4, 1) := by decide +kernel
theorem dX5_five_169 : decode cX5_five 169 = .ok (.iload 5, 2) := by decide +kernel
theorem dX5_five_171 : decode cX5_five 171 = .ok (.invokevirtual 135, 3) := by decide +kernel
theorem dX5_five_174 : decode cX5_five 174 = .ok (.aload_n 0, 1) := by decide +kernel
theorem dX5_five_175 : decode cX5_five 175 = .ok (.invokevirtual 139, 3) := by decide +kernel
theorem dX5_five_178 : decode cX5_five 178 = .ok (.iconst 0, 1) := by decide +kernel
theorem dX5_five_179 : decode cX5_five 179 = .ok (.istore 6, 2) := by decide +kernel
theorem dX5_five_181 : decode cX5_five 181 = .ok (.iload 6, 2) := by decide +kernel
theorem dX5_five_183 : decode cX5_five 183 = .ok (.bipush 6, 2) := by decide +kernel
theorem dX5_five_185 : decode cX5_five 185 = .ok (.if_icmp .ge 51, 3) := by decide +kernel
theorem dX5_five_188 : decode cX5_five 188 = .ok (.aload_n 0, 1) := by decide +kernel
theorem dX5_five_189 : decode cX5_five 189 = .ok (.getfield 22, 3) := by decide +kernel
theorem dX5_five_192 : decode cX5_five 192 = .ok (.iload 6, 2) := by decide +kernel
theorem dX5_five_194 : decode cX5_five 194 = .ok (.iload 6, 2) := by decide +kernel
theorem dX5_five_196 : decode cX5_five 196 = .ok (.iconst 2, 1) := by decide +kernel
theorem dX5_five_197 : decode cX5_five 197 = .ok (.irem, 1) := by decide +kernel
theorem dX5_five_198 : decode cX5_five 198 = .ok (.ifCond .ne 18, 3) := by decide +kernel
theorem dX5_five_201 : decode cX5_five 201 = .ok (.aload_n 0, 1) := by decide +kernel
theorem dX5_five_202 : decode cX5_five 202 = .ok (.getfield 29, 3) := by decide +kernel
theorem dX5_five_205 : decode cX5_five 205 = .ok (.bipush 63, 2) := by decide +kernel
theorem dX5_five_207 : decode cX5_five 207 = .ok (.iconst 1, 1) := by decide +kernel
theorem dX5_five_208 : decode cX5_five 208 = .ok (.iload 6, 2) := by decide +kernel
theorem dX5_five_210 : decode cX5_five 210 = .ok (.ishl, 1) := by decide +kernel
theorem dX5_five_211 : decode cX5_five 211 = .ok (.isub, 1) := by decide +kernel
theorem dX5_five_212 : decode cX5_five 212 = .ok (.laload, 1) := by decide +kernel
theorem dX5_five_213 : decode cX5_five 213 = .ok (.goto 16, 3) := by decide +kernel
theorem dX5_five_216 : decode cX5_five 216 = .ok (.aload_n 0, 1) := by decide +kernel
theorem dX5_five_217 : decode cX5_five 217 = .ok (.getfield 29, 3) := by decide +kernel
theorem dX5_five_220 : decode cX5_five 220 = .ok (.bipush 63, 2) := by decide +kernel
theorem dX5_five_222 : decode cX5_five 222 = .ok (.iconst 1, 1) := by decide +kernel
theorem dX5_five_223 : decode cX5_five 223 = .ok (.iload 6, 2) := by decide +kernel
theorem dX5_five_225 : decode cX5_five 225 = .ok (.ishl, 1) := by decide +kernel
theorem dX5_five_226 : decode cX5_five 226 = .ok (.isub, 1) := by decide +kernel
theorem dX5_five_227 : decode cX5_five 227 = .ok (.laload, 1) := by decide +kernel
theorem dX5_five_228 : decode cX5_five 228 = .ok (.lneg, 1) := by decide +kernel
theorem dX5_five_229 : decode cX5_five 229 = .ok (.lastore, 1) := by decide +kernel
theorem dX5_five_230 : decode cX5_five 230 = .ok (.iinc 6 1, 3) := by decide +kernel
theorem dX5_five_233 : decode cX5_five 233 = .ok (.goto (-52), 3) := by decide +kernel
theorem dX5_five_236 : decode cX5_five 236 = .ok (.aload_n 0, 1) := by decide +kernel
theorem dX5_five_237 : decode cX5_five 237 = .ok (.iconst 2, 1) := by decide +kernel
theorem dX5_five_238 : decode cX5_five 238 = .ok (.ldc 106, 2) := by decide +kernel
theorem dX5_five_240 : decode cX5_five 240 = .ok (.invokevirtual 87, 3) := by decide +kernel
theorem dX5_five_243 : decode cX5_five 243 = .ok (.ireturn, 1) := by decide +kernel
theorem dX5_layMatrix_0 : decode cX5_layMatrix 0 = .ok (.aload_n 0, 1) := by decide +kernel
theorem dX5_layMatrix_1 : decode cX5_layMatrix 1 = .ok (.getfield 35, 3) := by decide +kernel
theorem dX5_layMatrix_4 : decode cX5_layMatrix 4 = .ok (.iconst 0, 1) := by decide +kernel
theorem dX5_layMatrix_5 : decode cX5_layMatrix 5 = .ok (.ldc2_w 95, 3) := by decide +kernel
theorem dX5_layMatrix_8 : decode cX5_layMatrix 8 = .ok (.lload_n 1, 1) := by decide +kernel
theorem dX5_layMatrix_9 : decode cX5_layMatrix 9 = .ok (.lmul, 1) := by decide +kernel
theorem dX5_layMatrix_10 : decode cX5_layMatrix 10 = .ok (.lastore, 1) := by decide +kernel
theorem dX5_layMatrix_11 : decode cX5_layMatrix 11 = .ok (.aload_n 0, 1) := by decide +kernel
theorem dX5_layMatrix_12 : decode cX5_layMatrix 12 = .ok (.getfield 35, 3) := by decide +kernel
theorem dX5_layMatrix_15 : decode cX5_layMatrix 15 = .ok (.iconst 1, 1) := by decide +kernel
theorem dX5_layMatrix_16 : decode cX5_layMatrix 16 = .ok (.lload_n 3, 1) := by decide +kernel
theorem dX5_layMatrix_17 : decode cX5_layMatrix 17 = .ok (.lastore, 1) := by decide +kernel
theorem dX5_layMatrix_18 : decode cX5_layMatrix 18 = .ok (.aload_n 0, 1) := by decide +kernel
theorem dX5_layMatrix_19 : decode cX5_layMatrix 19 = .ok (.getfield 35, 3) := by decide +kernel
theorem dX5_layMatrix_22 : decode cX5_layMatrix 22 = .ok (.iconst 2, 1) := by decide +kernel
theorem dX5_layMatrix_23 : decode cX5_layMatrix 23 = .ok (.lload 7, 2) := by decide +kernel
theorem dX5_layMatrix_25 : decode cX5_layMatrix 25 = .ok (.lastore, 1) := by decide +kernel
theorem dX5_layMatrix_26 : decode cX5_layMatrix 26 = .ok (.aload_n 0, 1) := by decide +kernel
theorem dX5_layMatrix_27 : decode cX5_layMatrix 27 = .ok (.getfield 35, 3) := by decide +kernel
theorem dX5_layMatrix_30 : decode cX5_layMatrix 30 = .ok (.iconst 3, 1) := by decide +kernel
theorem dX5_layMatrix_31 : decode cX5_layMatrix 31 = .ok (.lload_n 3, 1) := by decide +kernel
theorem dX5_layMatrix_32 : decode cX5_layMatrix 32 = .ok (.lastore, 1) := by decide +kernel
theorem dX5_layMatrix_33 : decode cX5_layMatrix 33 = .ok (.aload_n 0, 1) := by decide +kernel
theorem dX5_layMatrix_34 : decode cX5_layMatrix 34 = .ok (.getfield 35, 3) := by decide +kernel
theorem dX5_layMatrix_37 : decode cX5_layMatrix 37 = .ok (.iconst 4, 1) := by decide +kernel
theorem dX5_layMatrix_38 : decode cX5_layMatrix 38 = .ok (.ldc2_w 95, 3) := by decide +kernel
theorem dX5_layMatrix_41 : decode cX5_layMatrix 41 = .ok (.lload 5, 2) := by decide +kernel
theorem dX5_layMatrix_43 : decode cX5_layMatrix 43 = .ok (.lmul, 1) := by decide +kernel
theorem dX5_layMatrix_44 : decode cX5_layMatrix 44 = .ok (.lastore, 1) := by decide +kernel
theorem dX5_layMatrix_45 : decode cX5_layMatrix 45 = .ok (.aload_n 0, 1) := by decide +kernel
theorem dX5_layMatrix_46 : decode cX5_layMatrix 46 = .ok (.getfield 35, 3) := by decide +kernel
theorem dX5_layMatrix_49 : decode cX5_layMatrix 49 = .ok (.iconst 5, 1) := by decide +kernel
theorem dX5_layMatrix_50 : decode cX5_layMatrix 50 = .ok (.lload 9, 2) := by decide +kernel
theorem dX5_layMatrix_52 : decode cX5_layMatrix 52 = .ok (.lastore, 1) := by decide +kernel
theorem dX5_layMatrix_53 : decode cX5_layMatrix 53 = .ok (.aload_n 0, 1) := by decide +kernel
theorem dX5_layMatrix_54 : decode cX5_layMatrix 54 = .ok (.getfield 35, 3) := by decide +kernel
theorem dX5_layMatrix_57 : decode cX5_layMatrix 57 = .ok (.bipush 6, 2) := by decide +kernel
theorem dX5_layMatrix_59 : decode cX5_layMatrix 59 = .ok (.lload 7, 2) := by decide +kernel
theorem dX5_layMatrix_61 : decode cX5_layMatrix 61 = .ok (.lastore, 1) := by decide +kernel
theorem dX5_layMatrix_62 : decode cX5_layMatrix 62 = .ok (.aload_n 0, 1) := by decide +kernel
theorem dX5_layMatrix_63 : decode cX5_layMatrix 63 = .ok (.getfield 35, 3) := by decide +kernel
theorem dX5_layMatrix_66 : decode cX5_layMatrix 66 = .ok (.bipush 7, 2) := by decide +kernel
theorem dX5_layMatrix_68 : decode cX5_layMatrix 68 = .ok (.lload 9, 2) := by decide +kernel
theorem dX5_layMatrix_70 : decode cX5_layMatrix 70 = .ok (.lastore, 1) := by decide +kernel
theorem dX5_layMatrix_71 : decode cX5_layMatrix 71 = .ok (.aload_n 0, 1) := by decide +kernel
theorem dX5_layMatrix_72 : decode cX5_layMatrix 72 = .ok (.getfield 35, 3) := by decide +kernel
theorem dX5_layMatrix_75 : decode cX5_layMatrix 75 = .ok (.bipush 8, 2) := by decide +kernel
theorem dX5_layMatrix_77 : decode cX5_layMatrix 77 = .ok (.ldc2_w 95, 3) := by decide +kernel
theorem dX5_layMatrix_80 : decode cX5_layMatrix 80 = .ok (.lload 11, 2) := by decide +kernel
theorem dX5_layMatrix_82 : decode cX5_layMatrix 82 = .ok (.lmul, 1) := by decide +kernel
theorem dX5_layMatrix_83 : decode cX5_layMatrix 83 = .ok (.lastore, 1) := by decide +kernel
theorem dX5_layMatrix_84 : decode cX5_layMatrix 84 = .ok (.return_, 1) := by decide +kernel
set_option maxRecDepth 20000 in
theorem ggX5_layConic_X5_layMatrix : GoodIn wsX5_layConic wsX5_layMatrix := goodIn_r _ [6, 7, 8, 9, 10, 11, 12, 13, 14, 15, 16, 17, 18, 19, 20, 21, 22, 23, 24, 25] (by decide +kernel) (by decide +kernel)
set_option maxRecDepth 20000 in
theorem gX5_layConic_X5_layMatrix : GoodIn wsX5_layConic (wsV RX5 142 RX5 yX5_layMatrix wsX5_layMatrix) := goodIn_app (goodIn_of _ (by decide +kernel)) ggX5_layConic_X5_layMatrix
theorem dX5_layConic_0 : decode cX5_layConic 0 = .ok (.bipush 6, 2) := by decide +kernel
theorem dX5_layConic_2 : decode cX5_layConic 2 = .ok (.iload_n 1, 1) := by decide +kernel
theorem dX5_layConic_3 : decode cX5_layConic 3 = .ok (.imul, 1) := by decide +kernel
theorem dX5_layConic_4 : decode cX5_layConic 4 = .ok (.istore_n 2, 1) := by decide +kernel
theorem dX5_layConic_5 : decode cX5_layConic 5 = .ok (.aload_n 0, 1) := by decide +kernel
theorem dX5_layConic_6 : decode cX5_layConic 6 = .ok (.aload_n 0, 1) := by decide +kernel
theorem dX5_layConic_7 : decode cX5_layConic 7 = .ok (.getfield 16, 3) := by decide +kernel
theorem dX5_layConic_10 : decode cX5_layConic 10 = .ok (.iload_n 2, 1) := by decide +kernel
theorem dX5_layConic_11 : decode cX5_layConic 11 = .ok (.iaload, 1) := by decide +kernel
theorem dX5_layConic_12 : decode cX5_layConic 12 = .ok (.i2l, 1) := by decide +kernel
theorem dX5_layConic_13 : decode cX5_layConic 13 = .ok (.aload_n 0, 1) := by decide +kernel
theorem dX5_layConic_14 : decode cX5_layConic 14 = .ok (.getfield 16, 3) := by decide +kernel
theorem dX5_layConic_17 : decode cX5_layConic 17 = .ok (.iload_n 2, 1) := by decide +kernel
theorem dX5_layConic_18 : decode cX5_layConic 18 = .ok (.iconst 1, 1) := by decide +kernel
theorem dX5_layConic_19 : decode cX5_layConic 19 = .ok (.iadd, 1) := by decide +kernel
theorem dX5_layConic_20 : decode cX5_layConic 20 = .ok (.iaload, 1) := by decide +kernel
theorem dX5_layConic_21 : decode cX5_layConic 21 = .ok (.i2l, 1) := by decide +kernel
theorem dX5_layConic_22 : decode cX5_layConic 22 = .ok (.aload_n 0, 1) := by decide +kernel
theorem dX5_layConic_23 : decode cX5_layConic 23 = .ok (.getfield 16, 3) := by decide +kernel
theorem dX5_layConic_26 : decode cX5_layConic 26 = .ok (.iload_n 2, 1) := by decide +kernel
theorem dX5_layConic_27 : decode cX5_layConic 27 = .ok (.iconst 2, 1) := by decide +kernel
theorem dX5_layConic_28 : decode cX5_layConic 28 = .ok (.iadd, 1) := by decide +kernel
theorem dX5_layConic_29 : decode cX5_layConic 29 = .ok (.iaload, 1) := by decide +kernel
theorem dX5_layConic_30 : decode cX5_layConic 30 = .ok (.i2l, 1) := by decide +kernel
theorem dX5_layConic_31 : decode cX5_layConic 31 = .ok (.aload_n 0, 1) := by decide +kernel
theorem dX5_layConic_32 : decode cX5_layConic 32 = .ok (.getfield 16, 3) := by decide +kernel
theorem dX5_layConic_35 : decode cX5_layConic 35 = .ok (.iload_n 2, 1) := by decide +kernel
theorem dX5_layConic_36 : decode cX5_layConic 36 = .ok (.iconst 3, 1) := by decide +kernel
theorem dX5_layConic_37 : decode cX5_layConic 37 = .ok (.iadd, 1) := by decide +kernel
theorem dX5_layConic_38 : decode cX5_layConic 38 = .ok (.iaload, 1) := by decide +kernel
theorem dX5_layConic_39 : decode cX5_layConic 39 = .ok (.i2l, 1) := by decide +kernel
theorem dX5_layConic_40 : decode cX5_layConic 40 = .ok (.aload_n 0, 1) := by decide +kernel
theorem dX5_layConic_41 : decode cX5_layConic 41 = .ok (.getfield 16, 3) := by decide +kernel
theorem dX5_layConic_44 : decode cX5_layConic 44 = .ok (.iload_n 2, 1) := by decide +kernel
theorem dX5_layConic_45 : decode cX5_layConic 45 = .ok (.iconst 4, 1) := by decide +kernel
theorem dX5_layConic_46 : decode cX5_layConic 46 = .ok (.iadd, 1) := by decide +kernel
theorem dX5_layConic_47 : decode cX5_layConic 47 = .ok (.iaload, 1) := by decide +kernel
theorem dX5_layConic_48 : decode cX5_layConic 48 = .ok (.i2l, 1) := by decide +kernel
theorem dX5_layConic_49 : decode cX5_layConic 49 = .ok (.aload_n 0, 1) := by decide +kernel
theorem dX5_layConic_50 : decode cX5_layConic 50 = .ok (.getfield 16, 3) := by decide +kernel
theorem dX5_layConic_53 : decode cX5_layConic 53 = .ok (.iload_n 2, 1) := by decide +kernel
theorem dX5_layConic_54 : decode cX5_layConic 54 = .ok (.iconst 5, 1) := by decide +kernel
theorem dX5_layConic_55 : decode cX5_layConic 55 = .ok (.iadd, 1) := by decide +kernel
theorem dX5_layConic_56 : decode cX5_layConic 56 = .ok (.iaload, 1) := by decide +kernel
theorem dX5_layConic_57 : decode cX5_layConic 57 = .ok (.i2l, 1) := by decide +kernel
theorem dX5_layConic_58 : decode cX5_layConic 58 = .ok (.invokevirtual 142, 3) := by decide +kernel
theorem dX5_layConic_61 : decode cX5_layConic 61 = .ok (.return_, 1) := by decide +kernel
theorem dX5_layAdjoint_0 : decode cX5_layAdjoint 0 = .ok (.iconst 0, 1) := by decide +kernel
theorem dX5_layAdjoint_1 : decode cX5_layAdjoint 1 = .ok (.istore_n 1, 1) := by decide +kernel
theorem dX5_layAdjoint_2 : decode cX5_layAdjoint 2 = .ok (.iload_n 1, 1) := by decide +kernel
theorem dX5_layAdjoint_3 : decode cX5_layAdjoint 3 = .ok (.iconst 3, 1) := by decide +kernel
theorem dX5_layAdjoint_4 : decode cX5_layAdjoint 4 = .ok (.if_icmp .ge 108, 3) := by decide +kernel
theorem dX5_layAdjoint_7 : decode cX5_layAdjoint 7 = .ok (.iconst 0, 1) := by decide +kernel
theorem dX5_layAdjoint_8 : decode cX5_layAdjoint 8 = .ok (.istore_n 2, 1) := by decide +kernel
theorem dX5_layAdjoint_9 : decode cX5_layAdjoint 9 = .ok (.iload_n 2, 1) := by decide +kernel
theorem dX5_layAdjoint_10 : decode cX5_layAdjoint 10 = .ok (.iconst 3, 1) := by decide +kernel
theorem dX5_layAdjoint_11 : decode cX5_layAdjoint 11 = .ok (.if_icmp .ge 95, 3) := by decide +kernel
theorem dX5_layAdjoint_14 : decode cX5_layAdjoint 14 = .ok (.iload_n 1, 1) := by decide +kernel
theorem dX5_layAdjoint_15 : decode cX5_layAdjoint 15 = .ok (.iconst 1, 1) := by decide +kernel
theorem dX5_layAdjoint_16 : decode cX5_layAdjoint 16 = .ok (.iadd, 1) := by decide +kernel
theorem dX5_layAdjoint_17 : decode cX5_layAdjoint 17 = .ok (.iconst 3, 1) := by decide +kernel
theorem dX5_layAdjoint_18 : decode cX5_layAdjoint 18 = .ok (.irem, 1) := by decide +kernel
theorem dX5_layAdjoint_19 : decode cX5_layAdjoint 19 = .ok (.istore_n 3, 1) := by decide +kernel
theorem dX5_layAdjoint_20 : decode cX5_layAdjoint 20 = .ok (.iload_n 1, 1) := by decide +kernel
theorem dX5_layAdjoint_21 : decode cX5_layAdjoint 21 = .ok (.iconst 2, 1) := by decide +kernel
theorem dX5_layAdjoint_22 : decode cX5_layAdjoint 22 = .ok (.iadd, 1) := by decide +kernel
theorem dX5_layAdjoint_23 : decode cX5_layAdjoint 23 = .ok (.iconst 3, 1) := by decide +kernel
theorem dX5_layAdjoint_24 : decode cX5_layAdjoint 24 = .ok (.irem, 1) := by decide +kernel
theorem dX5_layAdjoint_25 : decode cX5_layAdjoint 25 = .ok (.istore 4, 2) := by decide +kernel
theorem dX5_layAdjoint_27 : decode cX5_layAdjoint 27 = .ok (.iload_n 2, 1) := by decide +kernel
theorem dX5_layAdjoint_28 : decode cX5_layAdjoint 28 = .ok (.iconst 1, 1) := by decide +kernel
theorem dX5_layAdjoint_29 : decode cX5_layAdjoint 29 = .ok (.iadd, 1) := by decide +kernel
theorem dX5_layAdjoint_30 : decode cX5_layAdjoint 30 = .ok (.iconst 3, 1) := by decide +kernel
theorem dX5_layAdjoint_31 : decode cX5_layAdjoint 31 = .ok (.irem, 1) := by decide +kernel
theorem dX5_layAdjoint_32 : decode cX5_layAdjoint 32 = .ok (.istore 5, 2) := by decide +kernel
theorem dX5_layAdjoint_34 : decode cX5_layAdjoint 34 = .ok (.iload_n 2, 1) := by decide +kernel
theorem dX5_layAdjoint_35 : decode cX5_layAdjoint 35 = .ok (.iconst 2, 1) := by decide +kernel
theorem dX5_layAdjoint_36 : decode cX5_layAdjoint 36 = .ok (.iadd, 1) := by decide +kernel
theorem dX5_layAdjoint_37 : decode cX5_layAdjoint 37 = .ok (.iconst 3, 1) := by decide +kernel
theorem dX5_layAdjoint_38 : decode cX5_layAdjoint 38 = .ok (.irem, 1) := by decide +kernel
theorem dX5_layAdjoint_39 : decode cX5_layAdjoint 39 = .ok (.istore 6, 2) := by decide +kernel
theorem dX5_layAdjoint_41 : decode cX5_layAdjoint 41 = .ok (.aload_n 0, 1) := by decide +kernel
theorem dX5_layAdjoint_42 : decode cX5_layAdjoint 42 = .ok (.getfield 38, 3) := by decide +kernel
theorem dX5_layAdjoint_45 : decode cX5_layAdjoint 45 = .ok (.iconst 3, 1) := by decide +kernel
theorem dX5_layAdjoint_46 : decode cX5_layAdjoint 46 = .ok (.iload_n 2, 1) := by decide +kernel
theorem dX5_layAdjoint_47 : decode cX5_layAdjoint 47 = .ok (.imul, 1) := by decide +kernel
theorem dX5_layAdjoint_48 : decode cX5_layAdjoint 48 = .ok (.iload_n 1, 1) := by decide +kernel
theorem dX5_layAdjoint_49 : decode cX5_layAdjoint 49 = .ok (.iadd, 1) := by decide +kernel
theorem dX5_layAdjoint_50 : decode cX5_layAdjoint 50 = .ok (.aload_n 0, 1) := by decide +kernel
theorem dX5_layAdjoint_51 : decode cX5_layAdjoint 51 = .ok (.getfield 35, 3) := by decide +kernel
theorem dX5_layAdjoint_54 : decode cX5_layAdjoint 54 = .ok (.iconst 3, 1) := by decide +kernel
theorem dX5_layAdjoint_55 : decode cX5_layAdjoint 55 = .ok (.iload_n 3, 1) := by decide +kernel
theorem dX5_layAdjoint_56 : decode cX5_layAdjoint 56 = .ok (.imul, 1) := by decide +kernel
theorem dX5_layAdjoint_57 : decode cX5_layAdjoint 57 = .ok (.iload 5, 2) := by decide +kernel
theorem dX5_layAdjoint_59 : decode cX5_layAdjoint 59 = .ok (.iadd, 1) := by decide +kernel
theorem dX5_layAdjoint_60 : decode cX5_layAdjoint 60 = .ok (.laload, 1) := by decide +kernel
theorem dX5_layAdjoint_61 : decode cX5_layAdjoint 61 = .ok (.aload_n 0, 1) := by decide +kernel
theorem dX5_layAdjoint_62 : decode cX5_layAdjoint 62 = .ok (.getfield 35, 3) := by decide +kernel
theorem dX5_layAdjoint_65 : decode cX5_layAdjoint 65 = .ok (.iconst 3, 1) := by decide +kernel
theorem dX5_layAdjoint_66 : decode cX5_layAdjoint 66 = .ok (.iload 4, 2) := by decide +kernel
theorem dX5_layAdjoint_68 : decode cX5_layAdjoint 68 = .ok (.imul, 1) := by decide +kernel
theorem dX5_layAdjoint_69 : decode cX5_layAdjoint 69 = .ok (.iload 6, 2) := by decide +kernel
theorem dX5_layAdjoint_71 : decode cX5_layAdjoint 71 = .ok (.iadd, 1) := by decide +kernel
theorem dX5_layAdjoint_72 : decode cX5_layAdjoint 72 = .ok (.laload, 1) := by decide +kernel
theorem dX5_layAdjoint_73 : decode cX5_layAdjoint 73 = .ok (.lmul, 1) := by decide +kernel
theorem dX5_layAdjoint_74 : decode cX5_layAdjoint 74 = .ok (.aload_n 0, 1) := by decide +kernel
theorem dX5_layAdjoint_75 : decode cX5_layAdjoint 75 = .ok (.getfield 35, 3) := by decide +kernel
theorem dX5_layAdjoint_78 : decode cX5_layAdjoint 78 = .ok (.iconst 3, 1) := by decide +kernel
theorem dX5_layAdjoint_79 : decode cX5_layAdjoint 79 = .ok (.iload_n 3, 1) := by decide +kernel
theorem dX5_layAdjoint_80 : decode cX5_layAdjoint 80 = .ok (.imul, 1) := by decide +kernel
theorem dX5_layAdjoint_81 : decode cX5_layAdjoint 81 = .ok (.iload 6, 2) := by decide +kernel
theorem dX5_layAdjoint_83 : decode cX5_layAdjoint 83 = .ok (.iadd, 1) := by decide +kernel
theorem dX5_layAdjoint_84 : decode cX5_layAdjoint 84 = .ok (.laload, 1) := by decide +kernel
theorem dX5_layAdjoint_85 : decode cX5_layAdjoint 85 = .ok (.aload_n 0, 1) := by decide +kernel
theorem dX5_layAdjoint_86 : decode cX5_layAdjoint 86 = .ok (.getfield 35, 3) := by decide +kernel
theorem dX5_layAdjoint_89 : decode cX5_layAdjoint 89 = .ok (.iconst 3, 1) := by decide +kernel
theorem dX5_layAdjoint_90 : decode cX5_layAdjoint 90 = .ok (.iload 4, 2) := by decide +kernel
theorem dX5_layAdjoint_92 : decode cX5_layAdjoint 92 = .ok (.imul, 1) := by decide +kernel
theorem dX5_layAdjoint_93 : decode cX5_layAdjoint 93 = .ok (.iload 5, 2) := by decide +kernel
theorem dX5_layAdjoint_95 : decode cX5_layAdjoint 95 = .ok (.iadd, 1) := by decide +kernel
theorem dX5_layAdjoint_96 : decode cX5_layAdjoint 96 = .ok (.laload, 1) := by decide +kernel
theorem dX5_layAdjoint_97 : decode cX5_layAdjoint 97 = .ok (.lmul, 1) := by decide +kernel
theorem dX5_layAdjoint_98 : decode cX5_layAdjoint 98 = .ok (.lsub, 1) := by decide +kernel
theorem dX5_layAdjoint_99 : decode cX5_layAdjoint 99 = .ok (.lastore, 1) := by decide +kernel
theorem dX5_layAdjoint_100 : decode cX5_layAdjoint 100 = .ok (.iinc 2 1, 3) := by decide +kernel
theorem dX5_layAdjoint_103 : decode cX5_layAdjoint 103 = .ok (.goto (-94), 3) := by decide +kernel
theorem dX5_layAdjoint_106 : decode cX5_layAdjoint 106 = .ok (.iinc 1 1, 3) := by decide +kernel
theorem dX5_layAdjoint_109 : decode cX5_layAdjoint 109 = .ok (.goto (-107), 3) := by decide +kernel
theorem dX5_layAdjoint_112 : decode cX5_layAdjoint 112 = .ok (.return_, 1) := by decide +kernel
set_option maxRecDepth 20000 in
theorem ggX5_det_X5_layAdjoint : GoodIn wsX5_det wsX5_layAdjoint := goodIn_r _ [8, 2, 1, 9, 10, 11, 12, 13, 14, 15, 16, 17, 18, 19, 20, 21, 22, 23, 24, 25] (by decide +kernel) (by decide +kernel)
set_option maxRecDepth 20000 in
theorem gX5_det_X5_layAdjoint : GoodIn wsX5_det (wsV RX5 146 RX5 yX5_layAdjoint wsX5_layAdjoint) := goodIn_app (goodIn_of _ (by decide +kernel)) ggX5_det_X5_layAdjoint
theorem dX5_det_0 : decode cX5_det 0 = .ok (.aload_n 0, 1) := by decide +kernel
theorem dX5_det_1 : decode cX5_det 1 = .ok (.invokevirtual 146, 3) := by decide +kernel
theorem dX5_det_4 : decode cX5_det 4 = .ok (.aload_n 0, 1) := by decide +kernel
theorem dX5_det_5 : decode cX5_det 5 = .ok (.getfield 35, 3) := by decide +kernel
theorem dX5_det_8 : decode cX5_det 8 = .ok (.iconst 0, 1) := by decide +kernel
theorem dX5_det_9 : decode cX5_det 9 = .ok (.laload, 1) := by decide +kernel
theorem dX5_det_10 : decode cX5_det 10 = .ok (.aload_n 0, 1) := by decide +kernel
theorem dX5_det_11 : decode cX5_det 11 = .ok (.getfield 38, 3) := by decide +kernel
theorem dX5_det_14 : decode cX5_det 14 = .ok (.iconst 0, 1) := by decide +kernel
theorem dX5_det_15 : decode cX5_det 15 = .ok (.laload, 1) := by decide +kernel
theorem dX5_det_16 : decode cX5_det 16 = .ok (.lmul, 1) := by decide +kernel
theorem dX5_det_17 : decode cX5_det 17 = .ok (.aload_n 0, 1) := by decide +kernel
theorem dX5_det_18 : decode cX5_det 18 = .ok (.getfield 35, 3) := by decide +kernel
