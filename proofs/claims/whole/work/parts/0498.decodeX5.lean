theorem dX5_cross_145 : decode cX5_cross 145 = .ok (.iinc 9 1, 3) := by decide +kernel
theorem dX5_cross_148 : decode cX5_cross 148 = .ok (.goto (-57), 3) := by decide +kernel
theorem dX5_cross_151 : decode cX5_cross 151 = .ok (.lload_n 3, 1) := by decide +kernel
theorem dX5_cross_152 : decode cX5_cross 152 = .ok (.lconst 0, 1) := by decide +kernel
theorem dX5_cross_153 : decode cX5_cross 153 = .ok (.lcmp, 1) := by decide +kernel
theorem dX5_cross_154 : decode cX5_cross 154 = .ok (.ifCond .ne 19, 3) := by decide +kernel
theorem dX5_cross_157 : decode cX5_cross 157 = .ok (.lload 7, 2) := by decide +kernel
theorem dX5_cross_159 : decode cX5_cross 159 = .ok (.lconst 0, 1) := by decide +kernel
theorem dX5_cross_160 : decode cX5_cross 160 = .ok (.lcmp, 1) := by decide +kernel
theorem dX5_cross_161 : decode cX5_cross 161 = .ok (.ifCond .ne 12, 3) := by decide +kernel
theorem dX5_cross_164 : decode cX5_cross 164 = .ok (.lload 5, 2) := by decide +kernel
theorem dX5_cross_166 : decode cX5_cross 166 = .ok (.lconst 0, 1) := by decide +kernel
theorem dX5_cross_167 : decode cX5_cross 167 = .ok (.lcmp, 1) := by decide +kernel
theorem dX5_cross_168 : decode cX5_cross 168 = .ok (.ifCond .ne 5, 3) := by decide +kernel
theorem dX5_cross_171 : decode cX5_cross 171 = .ok (.iconst 3, 1) := by decide +kernel
theorem dX5_cross_172 : decode cX5_cross 172 = .ok (.ireturn, 1) := by decide +kernel
theorem dX5_cross_173 : decode cX5_cross 173 = .ok (.lload_n 3, 1) := by decide +kernel
theorem dX5_cross_174 : decode cX5_cross 174 = .ok (.lload 7, 2) := by decide +kernel
theorem dX5_cross_176 : decode cX5_cross 176 = .ok (.invokestatic 60, 3) := by decide +kernel
theorem dX5_cross_179 : decode cX5_cross 179 = .ok (.lload 5, 2) := by decide +kernel
theorem dX5_cross_181 : decode cX5_cross 181 = .ok (.invokestatic 60, 3) := by decide +kernel
theorem dX5_cross_184 : decode cX5_cross 184 = .ok (.lstore 9, 2) := by decide +kernel
theorem dX5_cross_186 : decode cX5_cross 186 = .ok (.lload_n 3, 1) := by decide +kernel
theorem dX5_cross_187 : decode cX5_cross 187 = .ok (.lload 9, 2) := by decide +kernel
theorem dX5_cross_189 : decode cX5_cross 189 = .ok (.ldiv, 1) := by decide +kernel
theorem dX5_cross_190 : decode cX5_cross 190 = .ok (.lstore_n 3, 1) := by decide +kernel
theorem dX5_cross_191 : decode cX5_cross 191 = .ok (.lload 7, 2) := by decide +kernel
theorem dX5_cross_193 : decode cX5_cross 193 = .ok (.lload 9, 2) := by decide +kernel
theorem dX5_cross_195 : decode cX5_cross 195 = .ok (.ldiv, 1) := by decide +kernel
theorem dX5_cross_196 : decode cX5_cross 196 = .ok (.lstore 7, 2) := by decide +kernel
theorem dX5_cross_198 : decode cX5_cross 198 = .ok (.lload 5, 2) := by decide +kernel
theorem dX5_cross_200 : decode cX5_cross 200 = .ok (.lload 9, 2) := by decide +kernel
theorem dX5_cross_202 : decode cX5_cross 202 = .ok (.ldiv, 1) := by decide +kernel
theorem dX5_cross_203 : decode cX5_cross 203 = .ok (.lstore 5, 2) := by decide +kernel
theorem dX5_cross_205 : decode cX5_cross 205 = .ok (.lload 7, 2) := by decide +kernel
theorem dX5_cross_207 : decode cX5_cross 207 = .ok (.lload 7, 2) := by decide +kernel
theorem dX5_cross_209 : decode cX5_cross 209 = .ok (.lmul, 1) := by decide +kernel
theorem dX5_cross_210 : decode cX5_cross 210 = .ok (.ldc2_w 164, 3) := by decide +kernel
theorem dX5_cross_213 : decode cX5_cross 213 = .ok (.lload_n 3, 1) := by decide +kernel
theorem dX5_cross_214 : decode cX5_cross 214 = .ok (.lmul, 1) := by decide +kernel
theorem dX5_cross_215 : decode cX5_cross 215 = .ok (.lload 5, 2) := by decide +kernel
theorem dX5_cross_217 : decode cX5_cross 217 = .ok (.lmul, 1) := by decide +kernel
theorem dX5_cross_218 : decode cX5_cross 218 = .ok (.lsub, 1) := by decide +kernel
theorem dX5_cross_219 : decode cX5_cross 219 = .ok (.lstore 11, 2) := by decide +kernel
theorem dX5_cross_221 : decode cX5_cross 221 = .ok (.lload 11, 2) := by decide +kernel
theorem dX5_cross_223 : decode cX5_cross 223 = .ok (.lconst 0, 1) := by decide +kernel
theorem dX5_cross_224 : decode cX5_cross 224 = .ok (.lcmp, 1) := by decide +kernel
theorem dX5_cross_225 : decode cX5_cross 225 = .ok (.ifCond .ge 5, 3) := by decide +kernel
theorem dX5_cross_228 : decode cX5_cross 228 = .ok (.iconst 0, 1) := by decide +kernel
theorem dX5_cross_229 : decode cX5_cross 229 = .ok (.ireturn, 1) := by decide +kernel
theorem dX5_cross_230 : decode cX5_cross 230 = .ok (.lload 11, 2) := by decide +kernel
theorem dX5_cross_232 : decode cX5_cross 232 = .ok (.invokestatic 195, 3) := by decide +kernel
theorem dX5_cross_235 : decode cX5_cross 235 = .ok (.lstore 13, 2) := by decide +kernel
theorem dX5_cross_237 : decode cX5_cross 237 = .ok (.lload 13, 2) := by decide +kernel
theorem dX5_cross_239 : decode cX5_cross 239 = .ok (.lload 13, 2) := by decide +kernel
theorem dX5_cross_241 : decode cX5_cross 241 = .ok (.lmul, 1) := by decide +kernel
theorem dX5_cross_242 : decode cX5_cross 242 = .ok (.lload 11, 2) := by decide +kernel
theorem dX5_cross_244 : decode cX5_cross 244 = .ok (.lcmp, 1) := by decide +kernel
theorem dX5_cross_245 : decode cX5_cross 245 = .ok (.ifCond .eq 5, 3) := by decide +kernel
theorem dX5_cross_248 : decode cX5_cross 248 = .ok (.iconst 4, 1) := by decide +kernel
theorem dX5_cross_249 : decode cX5_cross 249 = .ok (.ireturn, 1) := by decide +kernel
theorem dX5_cross_250 : decode cX5_cross 250 = .ok (.aload_n 0, 1) := by decide +kernel
theorem dX5_cross_251 : decode cX5_cross 251 = .ok (.lload 11, 2) := by decide +kernel
theorem dX5_cross_253 : decode cX5_cross 253 = .ok (.lconst 0, 1) := by decide +kernel
theorem dX5_cross_254 : decode cX5_cross 254 = .ok (.lcmp, 1) := by decide +kernel
theorem dX5_cross_255 : decode cX5_cross 255 = .ok (.ifCond .ne 7, 3) := by decide +kernel
theorem dX5_cross_258 : decode cX5_cross 258 = .ok (.iconst 1, 1) := by decide +kernel
theorem dX5_cross_259 : decode cX5_cross 259 = .ok (.goto 4, 3) := by decide +kernel
theorem dX5_cross_262 : decode cX5_cross 262 = .ok (.iconst 2, 1) := by decide +kernel
theorem dX5_cross_263 : decode cX5_cross 263 = .ok (.putfield 188, 3) := by decide +kernel
theorem dX5_cross_266 : decode cX5_cross 266 = .ok (.lload_n 3, 1) := by decide +kernel
theorem dX5_cross_267 : decode cX5_cross 267 = .ok (.lconst 0, 1) := by decide +kernel
theorem dX5_cross_268 : decode cX5_cross 268 = .ok (.lcmp, 1) := by decide +kernel
theorem dX5_cross_269 : decode cX5_cross 269 = .ok (.ifCond .ne 38, 3) := by decide +kernel
theorem dX5_cross_272 : decode cX5_cross 272 = .ok (.aload_n 0, 1) := by decide +kernel
theorem dX5_cross_273 : decode cX5_cross 273 = .ok (.iconst 0, 1) := by decide +kernel
theorem dX5_cross_274 : decode cX5_cross 274 = .ok (.lconst 1, 1) := by decide +kernel
theorem dX5_cross_275 : decode cX5_cross 275 = .ok (.lconst 0, 1) := by decide +kernel
theorem dX5_cross_276 : decode cX5_cross 276 = .ok (.invokevirtual 199, 3) := by decide +kernel
theorem dX5_cross_279 : decode cX5_cross 279 = .ok (.aload_n 0, 1) := by decide +kernel
theorem dX5_cross_280 : decode cX5_cross 280 = .ok (.getfield 188, 3) := by decide +kernel
theorem dX5_cross_283 : decode cX5_cross 283 = .ok (.iconst 2, 1) := by decide +kernel
theorem dX5_cross_284 : decode cX5_cross 284 = .ok (.if_icmp .ne 69, 3) := by decide +kernel
theorem dX5_cross_287 : decode cX5_cross 287 = .ok (.aload_n 0, 1) := by decide +kernel
theorem dX5_cross_288 : decode cX5_cross 288 = .ok (.iconst 1, 1) := by decide +kernel
theorem dX5_cross_289 : decode cX5_cross 289 = .ok (.lload 5, 2) := by decide +kernel
theorem dX5_cross_291 : decode cX5_cross 291 = .ok (.lneg, 1) := by decide +kernel
theorem dX5_cross_292 : decode cX5_cross 292 = .ok (.lload 7, 2) := by decide +kernel
theorem dX5_cross_294 : decode cX5_cross 294 = .ok (.invokevirtual 199, 3) := by decide +kernel
theorem dX5_cross_297 : decode cX5_cross 297 = .ok (.aload_n 0, 1) := by decide +kernel
theorem dX5_cross_298 : decode cX5_cross 298 = .ok (.getfield 41, 3) := by decide +kernel
theorem dX5_cross_301 : decode cX5_cross 301 = .ok (.invokestatic 203, 3) := by decide +kernel
theorem dX5_cross_304 : decode cX5_cross 304 = .ok (.goto 49, 3) := by decide +kernel
theorem dX5_cross_307 : decode cX5_cross 307 = .ok (.aload_n 0, 1) := by decide +kernel
theorem dX5_cross_308 : decode cX5_cross 308 = .ok (.iconst 0, 1) := by decide +kernel
theorem dX5_cross_309 : decode cX5_cross 309 = .ok (.lload 13, 2) := by decide +kernel
theorem dX5_cross_311 : decode cX5_cross 311 = .ok (.lload 7, 2) := by decide +kernel
theorem dX5_cross_313 : decode cX5_cross 313 = .ok (.lsub, 1) := by decide +kernel
theorem dX5_cross_314 : decode cX5_cross 314 = .ok (.ldc2_w 95, 3) := by decide +kernel
theorem dX5_cross_317 : decode cX5_cross 317 = .ok (.lload_n 3, 1) := by decide +kernel
theorem dX5_cross_318 : decode cX5_cross 318 = .ok (.lmul, 1) := by decide +kernel
theorem dX5_cross_319 : decode cX5_cross 319 = .ok (.invokevirtual 199, 3) := by decide +kernel
theorem dX5_cross_322 : decode cX5_cross 322 = .ok (.aload_n 0, 1) := by decide +kernel
theorem dX5_cross_323 : decode cX5_cross 323 = .ok (.iconst 1, 1) := by decide +kernel
theorem dX5_cross_324 : decode cX5_cross 324 = .ok (.lload 13, 2) := by decide +kernel
theorem dX5_cross_326 : decode cX5_cross 326 = .ok (.lneg, 1) := by decide +kernel
theorem dX5_cross_327 : decode cX5_cross 327 = .ok (.lload 7, 2) := by decide +kernel
theorem dX5_cross_329 : decode cX5_cross 329 = .ok (.lsub, 1) := by decide +kernel
theorem dX5_cross_330 : decode cX5_cross 330 = .ok (.ldc2_w 95, 3) := by decide +kernel
theorem dX5_cross_333 : decode cX5_cross 333 = .ok (.lload_n 3, 1) := by decide +kernel
theorem dX5_cross_334 : decode cX5_cross 334 = .ok (.lmul, 1) := by decide +kernel
theorem dX5_cross_335 : decode cX5_cross 335 = .ok (.invokevirtual 199, 3) := by decide +kernel
theorem dX5_cross_338 : decode cX5_cross 338 = .ok (.aload_n 0, 1) := by decide +kernel
theorem dX5_cross_339 : decode cX5_cross 339 = .ok (.getfield 188, 3) := by decide +kernel
theorem dX5_cross_342 : decode cX5_cross 342 = .ok (.iconst 2, 1) := by decide +kernel
theorem dX5_cross_343 : decode cX5_cross 343 = .ok (.if_icmp .ne 10, 3) := by decide +kernel
theorem dX5_cross_346 : decode cX5_cross 346 = .ok (.aload_n 0, 1) := by decide +kernel
theorem dX5_cross_347 : decode cX5_cross 347 = .ok (.getfield 41, 3) := by decide +kernel
theorem dX5_cross_350 : decode cX5_cross 350 = .ok (.invokestatic 203, 3) := by decide +kernel
theorem dX5_cross_353 : decode cX5_cross 353 = .ok (.aload_n 0, 1) := by decide +kernel
theorem dX5_cross_354 : decode cX5_cross 354 = .ok (.getfield 188, 3) := by decide +kernel
theorem dX5_cross_357 : decode cX5_cross 357 = .ok (.ireturn, 1) := by decide +kernel
set_option maxRecDepth 20000 in
theorem ggX5_crossing_X5_in : GoodIn wsX5_crossing wsX5_in := goodIn_r _ [9] (by decide +kernel) (by decide +kernel)
set_option maxRecDepth 20000 in
theorem gX5_crossing_X5_in : GoodIn wsX5_crossing (va_wsS RX5 56 yX5_in wsX5_in) := goodIn_app (goodIn_of _ (by decide +kernel)) ggX5_crossing_X5_in
theorem dX5_crossing_0 : decode cX5_crossing 0 = .ok (.iload_n 2, 1) := by decide +kernel
theorem dX5_crossing_1 : decode cX5_crossing 1 = .ok (.i2l, 1) := by decide +kernel
theorem dX5_crossing_2 : decode cX5_crossing 2 = .ok (.lconst 0, 1) := by decide +kernel
theorem dX5_crossing_3 : decode cX5_crossing 3 = .ok (.ldc2_w 95, 3) := by decide +kernel
theorem dX5_crossing_6 : decode cX5_crossing 6 = .ok (.invokestatic 56, 3) := by decide +kernel
theorem dX5_crossing_9 : decode cX5_crossing 9 = .ok (.ifCond .ne 7, 3) := by decide +kernel
theorem dX5_crossing_12 : decode cX5_crossing 12 = .ok (.ldc2_w 168, 3) := by decide +kernel
theorem dX5_crossing_15 : decode cX5_crossing 15 = .ok (.lreturn, 1) := by decide +kernel
theorem dX5_crossing_16 : decode cX5_crossing 16 = .ok (.iload_n 1, 1) := by decide +kernel
theorem dX5_crossing_17 : decode cX5_crossing 17 = .ok (.i2l, 1) := by decide +kernel
theorem dX5_crossing_18 : decode cX5_crossing 18 = .ok (.lconst 0, 1) := by decide +kernel
theorem dX5_crossing_19 : decode cX5_crossing 19 = .ok (.aload_n 0, 1) := by decide +kernel
theorem dX5_crossing_20 : decode cX5_crossing 20 = .ok (.getfield 188, 3) := by decide +kernel
theorem dX5_crossing_23 : decode cX5_crossing 23 = .ok (.i2l, 1) := by decide +kernel
theorem dX5_crossing_24 : decode cX5_crossing 24 = .ok (.lconst 1, 1) := by decide +kernel
theorem dX5_crossing_25 : decode cX5_crossing 25 = .ok (.lsub, 1) := by decide +kernel
theorem dX5_crossing_26 : decode cX5_crossing 26 = .ok (.invokestatic 56, 3) := by decide +kernel
theorem dX5_crossing_29 : decode cX5_crossing 29 = .ok (.ifCond .eq 16, 3) := by decide +kernel
theorem dX5_crossing_32 : decode cX5_crossing 32 = .ok (.aload_n 0, 1) := by decide +kernel
theorem dX5_crossing_33 : decode cX5_crossing 33 = .ok (.getfield 41, 3) := by decide +kernel
theorem dX5_crossing_36 : decode cX5_crossing 36 = .ok (.iconst 3, 1) := by decide +kernel
theorem dX5_crossing_37 : decode cX5_crossing 37 = .ok (.iload_n 1, 1) := by decide +kernel
theorem dX5_crossing_38 : decode cX5_crossing 38 = .ok (.imul, 1) := by decide +kernel
theorem dX5_crossing_39 : decode cX5_crossing 39 = .ok (.iload_n 2, 1) := by decide +kernel
theorem dX5_crossing_40 : decode cX5_crossing 40 = .ok (.iadd, 1) := by decide +kernel
theorem dX5_crossing_41 : decode cX5_crossing 41 = .ok (.laload, 1) := by decide +kernel
theorem dX5_crossing_42 : decode cX5_crossing 42 = .ok (.goto 6, 3) := by decide +kernel
theorem dX5_crossing_45 : decode cX5_crossing 45 = .ok (.ldc2_w 207, 3) := by decide +kernel
theorem dX5_crossing_48 : decode cX5_crossing 48 = .ok (.lreturn, 1) := by decide +kernel
set_option maxRecDepth 20000 in
theorem ggX5_split_X5_isOf : GoodIn wsX5_split wsX5_isOf := goodIn_r _ [10, 11, 12, 13, 9, 14, 61, 62, 63, 64, 65, 66, 67, 68, 69, 70, 71, 72, 73, 74, 75, 76, 77] (by decide +kernel) (by decide +kernel)
set_option maxRecDepth 20000 in
theorem gX5_split_X5_isOf : GoodIn wsX5_split (wsV RX5 97 RX5 yX5_isOf wsX5_isOf) := goodIn_app (goodIn_of _ (by decide +kernel)) ggX5_split_X5_isOf
set_option maxRecDepth 20000 in
theorem ggX5_split_X5_detOf : GoodIn wsX5_split wsX5_detOf := goodIn_r _ [18, 19, 20, 21, 9, 22, 23, 24, 25, 26, 27, 28, 29, 30, 31, 32, 33, 5, 34, 35, 36, 37, 61, 62, 63, 64, 65, 66, 67, 68, 69, 70, 71, 72, 73, 74, 75, 76, 77] (by decide +kernel) (by decide +kernel)
set_option maxRecDepth 20000 in
theorem gX5_split_X5_detOf : GoodIn wsX5_split (wsV RX5 157 RX5 yX5_detOf wsX5_detOf) := goodIn_app (goodIn_of _ (by decide +kernel)) ggX5_split_X5_detOf
set_option maxRecDepth 20000 in
theorem ggX5_split_X5_takeLines : GoodIn wsX5_split wsX5_takeLines := goodIn_r _ [41, 5, 28, 3, 42, 43, 44, 45, 9, 46, 47, 48, 49, 50, 51, 52, 53, 54, 55, 56, 61, 62, 63, 64, 65, 66, 67, 68, 69, 70, 71, 72, 73, 74, 75, 76, 77] (by decide +kernel) (by decide +kernel)
set_option maxRecDepth 20000 in
theorem gX5_split_X5_takeLines : GoodIn wsX5_split (wsV RX5 212 RX5 yX5_takeLines wsX5_takeLines) := goodIn_app (goodIn_of _ (by decide +kernel)) ggX5_split_X5_takeLines
set_option maxRecDepth 20000 in
theorem ggX5_split_X5_rootOf : GoodIn wsX5_split wsX5_rootOf := goodIn_r _ [59, 60, 29] (by decide +kernel) (by decide +kernel)
set_option maxRecDepth 20000 in
theorem gX5_split_X5_rootOf : GoodIn wsX5_split (va_wsS RX5 195 yX5_rootOf wsX5_rootOf) := goodIn_app (goodIn_of _ (by decide +kernel)) ggX5_split_X5_rootOf
theorem dX5_split_0 : decode cX5_split 0 = .ok (.aload_n 0, 1) := by decide +kernel
theorem dX5_split_1 : decode cX5_split 1 = .ok (.iconst 2, 1) := by decide +kernel
theorem dX5_split_2 : decode cX5_split 2 = .ok (.iload_n 1, 1) := by decide +kernel
theorem dX5_split_3 : decode cX5_split 3 = .ok (.invokevirtual 97, 3) := by decide +kernel
theorem dX5_split_6 : decode cX5_split 6 = .ok (.ifCond .ne 6, 3) := by decide +kernel
theorem dX5_split_9 : decode cX5_split 9 = .ok (.ldc 101, 2) := by decide +kernel
theorem dX5_split_11 : decode cX5_split 11 = .ok (.ireturn, 1) := by decide +kernel
theorem dX5_split_12 : decode cX5_split 12 = .ok (.aload_n 0, 1) := by decide +kernel
theorem dX5_split_13 : decode cX5_split 13 = .ok (.iload_n 1, 1) := by decide +kernel
theorem dX5_split_14 : decode cX5_split 14 = .ok (.invokevirtual 157, 3) := by decide +kernel
theorem dX5_split_17 : decode cX5_split 17 = .ok (.lconst 0, 1) := by decide +kernel
theorem dX5_split_18 : decode cX5_split 18 = .ok (.lcmp, 1) := by decide +kernel
theorem dX5_split_19 : decode cX5_split 19 = .ok (.ifCond .eq 6, 3) := by decide +kernel
theorem dX5_split_22 : decode cX5_split 22 = .ok (.ldc 106, 2) := by decide +kernel
theorem dX5_split_24 : decode cX5_split 24 = .ok (.ireturn, 1) := by decide +kernel
theorem dX5_split_25 : decode cX5_split 25 = .ok (.aload_n 0, 1) := by decide +kernel
theorem dX5_split_26 : decode cX5_split 26 = .ok (.iconst 0, 1) := by decide +kernel
theorem dX5_split_27 : decode cX5_split 27 = .ok (.putfield 209, 3) := by decide +kernel
theorem dX5_split_30 : decode cX5_split 30 = .ok (.ldc 122, 2) := by decide +kernel
theorem dX5_split_32 : decode cX5_split 32 = .ok (.istore_n 2, 1) := by decide +kernel
theorem dX5_split_33 : decode cX5_split 33 = .ok (.iconst 0, 1) := by decide +kernel
theorem dX5_split_34 : decode cX5_split 34 = .ok (.istore_n 3, 1) := by decide +kernel
theorem dX5_split_35 : decode cX5_split 35 = .ok (.iload_n 3, 1) := by decide +kernel
theorem dX5_split_36 : decode cX5_split 36 = .ok (.iconst 3, 1) := by decide +kernel
theorem dX5_split_37 : decode cX5_split 37 = .ok (.if_icmp .ge 28, 3) := by decide +kernel
theorem dX5_split_40 : decode cX5_split 40 = .ok (.aload_n 0, 1) := by decide +kernel
theorem dX5_split_41 : decode cX5_split 41 = .ok (.getfield 38, 3) := by decide +kernel
theorem dX5_split_44 : decode cX5_split 44 = .ok (.iconst 4, 1) := by decide +kernel
theorem dX5_split_45 : decode cX5_split 45 = .ok (.iload_n 3, 1) := by decide +kernel
theorem dX5_split_46 : decode cX5_split 46 = .ok (.imul, 1) := by decide +kernel
theorem dX5_split_47 : decode cX5_split 47 = .ok (.laload, 1) := by decide +kernel
theorem dX5_split_48 : decode cX5_split 48 = .ok (.lconst 0, 1) := by decide +kernel
theorem dX5_split_49 : decode cX5_split 49 = .ok (.lcmp, 1) := by decide +kernel
theorem dX5_split_50 : decode cX5_split 50 = .ok (.ifCond .eq 7, 3) := by decide +kernel
theorem dX5_split_53 : decode cX5_split 53 = .ok (.iload_n 3, 1) := by decide +kernel
theorem dX5_split_54 : decode cX5_split 54 = .ok (.goto 4, 3) := by decide +kernel
theorem dX5_split_57 : decode cX5_split 57 = .ok (.iload_n 2, 1) := by decide +kernel
theorem dX5_split_58 : decode cX5_split 58 = .ok (.istore_n 2, 1) := by decide +kernel
theorem dX5_split_59 : decode cX5_split 59 = .ok (.iinc 3 1, 3) := by decide +kernel
theorem dX5_split_62 : decode cX5_split 62 = .ok (.goto (-27), 3) := by decide +kernel
theorem dX5_split_65 : decode cX5_split 65 = .ok (.iload_n 2, 1) := by decide +kernel
theorem dX5_split_66 : decode cX5_split 66 = .ok (.ldc 122, 2) := by decide +kernel
theorem dX5_split_68 : decode cX5_split 68 = .ok (.if_icmp .ne 10, 3) := by decide +kernel
theorem dX5_split_71 : decode cX5_split 71 = .ok (.aload_n 0, 1) := by decide +kernel
theorem dX5_split_72 : decode cX5_split 72 = .ok (.lconst 0, 1) := by decide +kernel
theorem dX5_split_73 : decode cX5_split 73 = .ok (.iconst 0, 1) := by decide +kernel
theorem dX5_split_74 : decode cX5_split 74 = .ok (.invokevirtual 212, 3) := by decide +kernel
theorem dX5_split_77 : decode cX5_split 77 = .ok (.ireturn, 1) := by decide +kernel
theorem dX5_split_78 : decode cX5_split 78 = .ok (.aload_n 0, 1) := by decide +kernel
theorem dX5_split_79 : decode cX5_split 79 = .ok (.getfield 38, 3) := by decide +kernel
theorem dX5_split_82 : decode cX5_split 82 = .ok (.iconst 4, 1) := by decide +kernel
theorem dX5_split_83 : decode cX5_split 83 = .ok (.iload_n 2, 1) := by decide +kernel
theorem dX5_split_84 : decode cX5_split 84 = .ok (.imul, 1) := by decide +kernel
theorem dX5_split_85 : decode cX5_split 85 = .ok (.laload, 1) := by decide +kernel
theorem dX5_split_86 : decode cX5_split 86 = .ok (.lconst 0, 1) := by decide +kernel
theorem dX5_split_87 : decode cX5_split 87 = .ok (.lcmp, 1) := by decide +kernel
theorem dX5_split_88 : decode cX5_split 88 = .ok (.ifCond .le 5, 3) := by decide +kernel
theorem dX5_split_91 : decode cX5_split 91 = .ok (.iconst 0, 1) := by decide +kernel
theorem dX5_split_92 : decode cX5_split 92 = .ok (.ireturn, 1) := by decide +kernel
theorem dX5_split_93 : decode cX5_split 93 = .ok (.aload_n 0, 1) := by decide +kernel
theorem dX5_split_94 : decode cX5_split 94 = .ok (.getfield 38, 3) := by decide +kernel
theorem dX5_split_97 : decode cX5_split 97 = .ok (.iconst 4, 1) := by decide +kernel
theorem dX5_split_98 : decode cX5_split 98 = .ok (.iload_n 2, 1) := by decide +kernel
theorem dX5_split_99 : decode cX5_split 99 = .ok (.imul, 1) := by decide +kernel
theorem dX5_split_100 : decode cX5_split 100 = .ok (.laload, 1) := by decide +kernel
theorem dX5_split_101 : decode cX5_split 101 = .ok (.lneg, 1) := by decide +kernel
theorem dX5_split_102 : decode cX5_split 102 = .ok (.invokestatic 195, 3) := by decide +kernel
theorem dX5_split_105 : decode cX5_split 105 = .ok (.lstore_n 3, 1) := by decide +kernel
theorem dX5_split_106 : decode cX5_split 106 = .ok (.lload_n 3, 1) := by decide +kernel
theorem dX5_split_107 : decode cX5_split 107 = .ok (.lload_n 3, 1) := by decide +kernel
theorem dX5_split_108 : decode cX5_split 108 = .ok (.lmul, 1) := by decide +kernel
theorem dX5_split_109 : decode cX5_split 109 = .ok (.aload_n 0, 1) := by decide +kernel
theorem dX5_split_110 : decode cX5_split 110 = .ok (.getfield 38, 3) := by decide +kernel
theorem dX5_split_113 : decode cX5_split 113 = .ok (.iconst 4, 1) := by decide +kernel
theorem dX5_split_114 : decode cX5_split 114 = .ok (.iload_n 2, 1) := by decide +kernel
theorem dX5_split_115 : decode cX5_split 115 = .ok (.imul, 1) := by decide +kernel
theorem dX5_split_116 : decode cX5_split 116 = .ok (.laload, 1) := by decide +kernel
theorem dX5_split_117 : decode cX5_split 117 = .ok (.lneg, 1) := by decide +kernel
theorem dX5_split_118 : decode cX5_split 118 = .ok (.lcmp, 1) := by decide +kernel
theorem dX5_split_119 : decode cX5_split 119 = .ok (.ifCond .eq 7, 3) := by decide +kernel
theorem dX5_split_122 : decode cX5_split 122 = .ok (.iconst 4, 1) := by decide +kernel
theorem dX5_split_123 : decode cX5_split 123 = .ok (.goto 9, 3) := by decide +kernel
theorem dX5_split_126 : decode cX5_split 126 = .ok (.aload_n 0, 1) := by decide +kernel
theorem dX5_split_127 : decode cX5_split 127 = .ok (.lload_n 3, 1) := by decide +kernel
theorem dX5_split_128 : decode cX5_split 128 = .ok (.iload_n 2, 1) := by decide +kernel
theorem dX5_split_129 : decode cX5_split 129 = .ok (.invokevirtual 212, 3) := by decide +kernel
theorem dX5_split_132 : decode cX5_split 132 = .ok (.ireturn, 1) := by decide +kernel
set_option maxRecDepth 20000 in
theorem ggX5_takeLines_X5_putPart : GoodIn wsX5_takeLines wsX5_putPart := goodIn_r _ [9, 10, 2, 4, 11, 12, 8, 13, 14, 15, 16, 20, 21, 22, 23, 24, 25, 26, 27, 28, 29, 30, 31, 32, 33, 34, 35, 36] (by decide +kernel) (by decide +kernel)
set_option maxRecDepth 20000 in
theorem gX5_takeLines_X5_putPart : GoodIn wsX5_takeLines (wsV RX5 216 RX5 yX5_putPart wsX5_putPart) := goodIn_app (goodIn_of _ (by decide +kernel)) ggX5_takeLines_X5_putPart
set_option maxRecDepth 20000 in
theorem ggX5_takeLines_X5_arrange : GoodIn wsX5_takeLines wsX5_arrange := goodIn_r _ [19] (by decide +kernel) (by decide +kernel)
set_option maxRecDepth 20000 in
theorem gX5_takeLines_X5_arrange : GoodIn wsX5_takeLines (va_wsS RX5 203 yX5_arrange wsX5_arrange) := goodIn_app (goodIn_of _ (by decide +kernel)) ggX5_takeLines_X5_arrange
theorem dX5_takeLines_0 : decode cX5_takeLines 0 = .ok (.lload_n 1, 1) := by decide +kernel
theorem dX5_takeLines_1 : decode cX5_takeLines 1 = .ok (.lconst 0, 1) := by decide +kernel
theorem dX5_takeLines_2 : decode cX5_takeLines 2 = .ok (.lcmp, 1) := by decide +kernel
theorem dX5_takeLines_3 : decode cX5_takeLines 3 = .ok (.ifCond .eq 109, 3) := by decide +kernel
theorem dX5_takeLines_6 : decode cX5_takeLines 6 = .ok (.aload_n 0, 1) := by decide +kernel
theorem dX5_takeLines_7 : decode cX5_takeLines 7 = .ok (.getfield 38, 3) := by decide +kernel
theorem dX5_takeLines_10 : decode cX5_takeLines 10 = .ok (.iload_n 3, 1) := by decide +kernel
theorem dX5_takeLines_11 : decode cX5_takeLines 11 = .ok (.laload, 1) := by decide +kernel
theorem dX5_takeLines_12 : decode cX5_takeLines 12 = .ok (.lneg, 1) := by decide +kernel
theorem dX5_takeLines_13 : decode cX5_takeLines 13 = .ok (.lload_n 1, 1) := by decide +kernel
theorem dX5_takeLines_14 : decode cX5_takeLines 14 = .ok (.ldiv, 1) := by decide +kernel
theorem dX5_takeLines_15 : decode cX5_takeLines 15 = .ok (.lstore 4, 2) := by decide +kernel
theorem dX5_takeLines_17 : decode cX5_takeLines 17 = .ok (.aload_n 0, 1) := by decide +kernel
theorem dX5_takeLines_18 : decode cX5_takeLines 18 = .ok (.getfield 38, 3) := by decide +kernel
theorem dX5_takeLines_21 : decode cX5_takeLines 21 = .ok (.iconst 3, 1) := by decide +kernel
theorem dX5_takeLines_22 : decode cX5_takeLines 22 = .ok (.iload_n 3, 1) := by decide +kernel
theorem dX5_takeLines_23 : decode cX5_takeLines 23 = .ok (.iadd, 1) := by decide +kernel
theorem dX5_takeLines_24 : decode cX5_takeLines 24 = .ok (.laload, 1) := by decide +kernel
theorem dX5_takeLines_25 : decode cX5_takeLines 25 = .ok (.lneg, 1) := by decide +kernel
theorem dX5_takeLines_26 : decode cX5_takeLines 26 = .ok (.lload_n 1, 1) := by decide +kernel
theorem dX5_takeLines_27 : decode cX5_takeLines 27 = .ok (.ldiv, 1) := by decide +kernel
theorem dX5_takeLines_28 : decode cX5_takeLines 28 = .ok (.lstore 6, 2) := by decide +kernel
theorem dX5_takeLines_30 : decode cX5_takeLines 30 = .ok (.aload_n 0, 1) := by decide +kernel
theorem dX5_takeLines_31 : decode cX5_takeLines 31 = .ok (.getfield 38, 3) := by decide +kernel
theorem dX5_takeLines_34 : decode cX5_takeLines 34 = .ok (.bipush 6, 2) := by decide +kernel
theorem dX5_takeLines_36 : decode cX5_takeLines 36 = .ok (.iload_n 3, 1) := by decide +kernel
theorem dX5_takeLines_37 : decode cX5_takeLines 37 = .ok (.iadd, 1) := by decide +kernel
theorem dX5_takeLines_38 : decode cX5_takeLines 38 = .ok (.laload, 1) := by decide +kernel
theorem dX5_takeLines_39 : decode cX5_takeLines 39 = .ok (.lneg, 1) := by decide +kernel
theorem dX5_takeLines_40 : decode cX5_takeLines 40 = .ok (.lload_n 1, 1) := by decide +kernel
theorem dX5_takeLines_41 : decode cX5_takeLines 41 = .ok (.ldiv, 1) := by decide +kernel
theorem dX5_takeLines_42 : decode cX5_takeLines 42 = .ok (.lstore 8, 2) := by decide +kernel
theorem dX5_takeLines_44 : decode cX5_takeLines 44 = .ok (.aload_n 0, 1) := by decide +kernel
theorem dX5_takeLines_45 : decode cX5_takeLines 45 = .ok (.getfield 35, 3) := by decide +kernel
theorem dX5_takeLines_48 : decode cX5_takeLines 48 = .ok (.iconst 1, 1) := by decide +kernel
theorem dX5_takeLines_49 : decode cX5_takeLines 49 = .ok (.dup2, 1) := by decide +kernel
theorem dX5_takeLines_50 : decode cX5_takeLines 50 = .ok (.laload, 1) := by decide +kernel
theorem dX5_takeLines_51 : decode cX5_takeLines 51 = .ok (.lload 8, 2) := by decide +kernel
theorem dX5_takeLines_53 : decode cX5_takeLines 53 = .ok (.lsub, 1) := by decide +kernel
theorem dX5_takeLines_54 : decode cX5_takeLines 54 = .ok (.lastore, 1) := by decide +kernel
theorem dX5_takeLines_55 : decode cX5_takeLines 55 = .ok (.aload_n 0, 1) := by decide +kernel
theorem dX5_takeLines_56 : decode cX5_takeLines 56 = .ok (.getfield 35, 3) := by decide +kernel
theorem dX5_takeLines_59 : decode cX5_takeLines 59 = .ok (.iconst 2, 1) := by decide +kernel
theorem dX5_takeLines_60 : decode cX5_takeLines 60 = .ok (.dup2, 1) := by decide +kernel
theorem dX5_takeLines_61 : decode cX5_takeLines 61 = .ok (.laload, 1) := by decide +kernel
theorem dX5_takeLines_62 : decode cX5_takeLines 62 = .ok (.lload 6, 2) := by decide +kernel
theorem dX5_takeLines_64 : decode cX5_takeLines 64 = .ok (.ladd, 1) := by decide +kernel
theorem dX5_takeLines_65 : decode cX5_takeLines 65 = .ok (.lastore, 1) := by decide +kernel
theorem dX5_takeLines_66 : decode cX5_takeLines 66 = .ok (.aload_n 0, 1) := by decide +kernel
theorem dX5_takeLines_67 : decode cX5_takeLines 67 = .ok (.getfield 35, 3) := by decide +kernel
theorem dX5_takeLines_70 : decode cX5_takeLines 70 = .ok (.iconst 3, 1) := by decide +kernel
theorem dX5_takeLines_71 : decode cX5_takeLines 71 = .ok (.dup2, 1) := by decide +kernel
theorem dX5_takeLines_72 : decode cX5_takeLines 72 = .ok (.laload, 1) := by decide +kernel
theorem dX5_takeLines_73 : decode cX5_takeLines 73 = .ok (.lload 8, 2) := by decide +kernel
theorem dX5_takeLines_75 : decode cX5_takeLines 75 = .ok (.ladd, 1) := by decide +kernel
theorem dX5_takeLines_76 : decode cX5_takeLines 76 = .ok (.lastore, 1) := by decide +kernel
theorem dX5_takeLines_77 : decode cX5_takeLines 77 = .ok (.aload_n 0, 1) := by decide +kernel
theorem dX5_takeLines_78 : decode cX5_takeLines 78 = .ok (.getfield 35, 3) := by decide +kernel
theorem dX5_takeLines_81 : decode cX5_takeLines 81 = .ok (.iconst 5, 1) := by decide +kernel
theorem dX5_takeLines_82 : decode cX5_takeLines 82 = .ok (.dup2, 1) := by decide +kernel
theorem dX5_takeLines_83 : decode cX5_takeLines 83 = .ok (.laload, 1) := by decide +kernel
theorem dX5_takeLines_84 : decode cX5_takeLines 84 = .ok (.lload 4, 2) := by decide +kernel
theorem dX5_takeLines_86 : decode cX5_takeLines 86 = .ok (.lsub, 1) := by decide +kernel
theorem dX5_takeLines_87 : decode cX5_takeLines 87 = .ok (.lastore, 1) := by decide +kernel
theorem dX5_takeLines_88 : decode cX5_takeLines 88 = .ok (.aload_n 0, 1) := by decide +kernel
theorem dX5_takeLines_89 : decode cX5_takeLines 89 = .ok (.getfield 35, 3) := by decide +kernel
theorem dX5_takeLines_92 : decode cX5_takeLines 92 = .ok (.bipush 6, 2) := by decide +kernel
theorem dX5_takeLines_94 : decode cX5_takeLines 94 = .ok (.dup2, 1) := by decide +kernel
theorem dX5_takeLines_95 : decode cX5_takeLines 95 = .ok (.laload, 1) := by decide +kernel
theorem dX5_takeLines_96 : decode cX5_takeLines 96 = .ok (.lload 6, 2) := by decide +kernel
theorem dX5_takeLines_98 : decode cX5_takeLines 98 = .ok (.lsub, 1) := by decide +kernel
theorem dX5_takeLines_99 : decode cX5_takeLines 99 = .ok (.lastore, 1) := by decide +kernel
theorem dX5_takeLines_100 : decode cX5_takeLines 100 = .ok (.aload_n 0, 1) := by decide +kernel
theorem dX5_takeLines_101 : decode cX5_takeLines 101 = .ok (.getfield 35, 3) := by decide +kernel
theorem dX5_takeLines_104 : decode cX5_takeLines 104 = .ok (.bipush 7, 2) := by decide +kernel
theorem dX5_takeLines_106 : decode cX5_takeLines 106 = .ok (.dup2, 1) := by decide +kernel
theorem dX5_takeLines_107 : decode cX5_takeLines 107 = .ok (.laload, 1) := by decide +kernel
theorem dX5_takeLines_108 : decode cX5_takeLines 108 = .ok (.lload 4, 2) := by decide +kernel
theorem dX5_takeLines_110 : decode cX5_takeLines 110 = .ok (.ladd, 1) := by decide +kernel
theorem dX5_takeLines_111 : decode cX5_takeLines 111 = .ok (.lastore, 1) := by decide +kernel
theorem dX5_takeLines_112 : decode cX5_takeLines 112 = .ok (.iconst 0, 1) := by decide +kernel
theorem dX5_takeLines_113 : decode cX5_takeLines 113 = .ok (.istore 4, 2) := by decide +kernel
theorem dX5_takeLines_115 : decode cX5_takeLines 115 = .ok (.aload_n 0, 1) := by decide +kernel
theorem dX5_takeLines_116 : decode cX5_takeLines 116 = .ok (.getfield 35, 3) := by decide +kernel
theorem dX5_takeLines_119 : decode cX5_takeLines 119 = .ok (.iload 4, 2) := by decide +kernel
theorem dX5_takeLines_121 : decode cX5_takeLines 121 = .ok (.laload, 1) := by decide +kernel
theorem dX5_takeLines_122 : decode cX5_takeLines 122 = .ok (.lconst 0, 1) := by decide +kernel
theorem dX5_takeLines_123 : decode cX5_takeLines 123 = .ok (.lcmp, 1) := by decide +kernel
theorem dX5_takeLines_124 : decode cX5_takeLines 124 = .ok (.ifCond .ne 9, 3) := by decide +kernel
theorem dX5_takeLines_127 : decode cX5_takeLines 127 = .ok (.iinc 4 1, 3) := by decide +kernel
theorem dX5_takeLines_130 : decode cX5_takeLines 130 = .ok (.goto (-15), 3) := by decide +kernel
theorem dX5_takeLines_133 : decode cX5_takeLines 133 = .ok (.aload_n 0, 1) := by decide +kernel
theorem dX5_takeLines_134 : decode cX5_takeLines 134 = .ok (.iconst 0, 1) := by decide +kernel
theorem dX5_takeLines_135 : decode cX5_takeLines 135 = .ok (.iconst 3, 1) := by decide +kernel
theorem dX5_takeLines_136 : decode cX5_takeLines 136 = .ok (.iload 4, 2) := by decide +kernel
theorem dX5_takeLines_138 : decode cX5_takeLines 138 = .ok (.iconst 3, 1) := by decide +kernel
theorem dX5_takeLines_139 : decode cX5_takeLines 139 = .ok (.idiv, 1) := by decide +kernel
theorem dX5_takeLines_140 : decode cX5_takeLines 140 = .ok (.imul, 1) := by decide +kernel
theorem dX5_takeLines_141 : decode cX5_takeLines 141 = .ok (.iconst 1, 1) := by decide +kernel
theorem dX5_takeLines_142 : decode cX5_takeLines 142 = .ok (.invokevirtual 216, 3) := by decide +kernel
theorem dX5_takeLines_145 : decode cX5_takeLines 145 = .ok (.aload_n 0, 1) := by decide +kernel
theorem dX5_takeLines_146 : decode cX5_takeLines 146 = .ok (.iconst 1, 1) := by decide +kernel
theorem dX5_takeLines_147 : decode cX5_takeLines 147 = .ok (.iload 4, 2) := by decide +kernel
theorem dX5_takeLines_149 : decode cX5_takeLines 149 = .ok (.iconst 3, 1) := by decide +kernel
theorem dX5_takeLines_150 : decode cX5_takeLines 150 = .ok (.irem, 1) := by decide +kernel
theorem dX5_takeLines_151 : decode cX5_takeLines 151 = .ok (.iconst 3, 1) := by decide +kernel
theorem dX5_takeLines_152 : decode cX5_takeLines 152 = .ok (.invokevirtual 216, 3) := by decide +kernel
theorem dX5_takeLines_155 : decode cX5_takeLines 155 = .ok (.aload_n 0, 1) := by decide +kernel
theorem dX5_takeLines_156 : decode cX5_takeLines 156 = .ok (.lload_n 1, 1) := by decide +kernel
theorem dX5_takeLines_157 : decode cX5_takeLines 157 = .ok (.lconst 0, 1) := by decide +kernel
theorem dX5_takeLines_158 : decode cX5_takeLines 158 = .ok (.lcmp, 1) := by decide +kernel
theorem dX5_takeLines_159 : decode cX5_takeLines 159 = .ok (.ifCond .ne 7, 3) := by decide +kernel
theorem dX5_takeLines_162 : decode cX5_takeLines 162 = .ok (.iconst 1, 1) := by decide +kernel
theorem dX5_takeLines_163 : decode cX5_takeLines 163 = .ok (.goto 4, 3) := by decide +kernel
theorem dX5_takeLines_166 : decode cX5_takeLines 166 = .ok (.iconst 2, 1) := by decide +kernel
theorem dX5_takeLines_167 : decode cX5_takeLines 167 = .ok (.putfield 209, 3) := by decide +kernel
theorem dX5_takeLines_170 : decode cX5_takeLines 170 = .ok (.aload_n 0, 1) := by decide +kernel
theorem dX5_takeLines_171 : decode cX5_takeLines 171 = .ok (.getfield 209, 3) := by decide +kernel
theorem dX5_takeLines_174 : decode cX5_takeLines 174 = .ok (.iconst 2, 1) := by decide +kernel
theorem dX5_takeLines_175 : decode cX5_takeLines 175 = .ok (.if_icmp .ne 10, 3) := by decide +kernel
theorem dX5_takeLines_178 : decode cX5_takeLines 178 = .ok (.aload_n 0, 1) := by decide +kernel
theorem dX5_takeLines_179 : decode cX5_takeLines 179 = .ok (.getfield 44, 3) := by decide +kernel
theorem dX5_takeLines_182 : decode cX5_takeLines 182 = .ok (.invokestatic 203, 3) := by decide +kernel
theorem dX5_takeLines_185 : decode cX5_takeLines 185 = .ok (.aload_n 0, 1) := by decide +kernel
theorem dX5_takeLines_186 : decode cX5_takeLines 186 = .ok (.getfield 209, 3) := by decide +kernel
theorem dX5_takeLines_189 : decode cX5_takeLines 189 = .ok (.ireturn, 1) := by decide +kernel
set_option maxRecDepth 20000 in
theorem ggX5_putPart_X5_norm : GoodIn wsX5_putPart wsX5_norm := goodIn_r _ [7, 8, 9, 6, 10] (by decide +kernel) (by decide +kernel)
set_option maxRecDepth 20000 in
theorem gX5_putPart_X5_norm : GoodIn wsX5_putPart (va_wsS RX5 68 yX5_norm wsX5_norm) := goodIn_app (goodIn_of _ (by decide +kernel)) ggX5_putPart_X5_norm
theorem dX5_putPart_0 : decode cX5_putPart 0 = .ok (.iconst 0, 1) := by decide +kernel
theorem dX5_putPart_1 : decode cX5_putPart 1 = .ok (.istore 4, 2) := by decide +kernel
theorem dX5_putPart_3 : decode cX5_putPart 3 = .ok (.iload 4, 2) := by decide +kernel
theorem dX5_putPart_5 : decode cX5_putPart 5 = .ok (.iconst 3, 1) := by decide +kernel
theorem dX5_putPart_6 : decode cX5_putPart 6 = .ok (.if_icmp .ge 27, 3) := by decide +kernel
theorem dX5_putPart_9 : decode cX5_putPart 9 = .ok (.aload_n 0, 1) := by decide +kernel
theorem dX5_putPart_10 : decode cX5_putPart 10 = .ok (.getfield 53, 3) := by decide +kernel
theorem dX5_putPart_13 : decode cX5_putPart 13 = .ok (.iload 4, 2) := by decide +kernel
theorem dX5_putPart_15 : decode cX5_putPart 15 = .ok (.aload_n 0, 1) := by decide +kernel
theorem dX5_putPart_16 : decode cX5_putPart 16 = .ok (.getfield 35, 3) := by decide +kernel
theorem dX5_putPart_19 : decode cX5_putPart 19 = .ok (.iload_n 2, 1) := by decide +kernel
theorem dX5_putPart_20 : decode cX5_putPart 20 = .ok (.iload_n 3, 1) := by decide +kernel
theorem dX5_putPart_21 : decode cX5_putPart 21 = .ok (.iload 4, 2) := by decide +kernel
theorem dX5_putPart_23 : decode cX5_putPart 23 = .ok (.imul, 1) := by decide +kernel
theorem dX5_putPart_24 : decode cX5_putPart 24 = .ok (.iadd, 1) := by decide +kernel
theorem dX5_putPart_25 : decode cX5_putPart 25 = .ok (.laload, 1) := by decide +kernel
theorem dX5_putPart_26 : decode cX5_putPart 26 = .ok (.lastore, 1) := by decide +kernel
theorem dX5_putPart_27 : decode cX5_putPart 27 = .ok (.iinc 4 1, 3) := by decide +kernel
theorem dX5_putPart_30 : decode cX5_putPart 30 = .ok (.goto (-27), 3) := by decide +kernel
theorem dX5_putPart_33 : decode cX5_putPart 33 = .ok (.aload_n 0, 1) := by decide +kernel
