theorem dX4_load_212 : decode cX4_load 212 = .ok (.getfield 32, 3) := by decide +kernel
theorem dX4_load_215 : decode cX4_load 215 = .ok (.iconst 3, 1) := by decide +kernel
theorem dX4_load_216 : decode cX4_load 216 = .ok (.aload_n 0, 1) := by decide +kernel
theorem dX4_load_217 : decode cX4_load 217 = .ok (.getfield 62, 3) := by decide +kernel
theorem dX4_load_220 : decode cX4_load 220 = .ok (.imul, 1) := by decide +kernel
theorem dX4_load_221 : decode cX4_load 221 = .ok (.iload_n 2, 1) := by decide +kernel
theorem dX4_load_222 : decode cX4_load 222 = .ok (.iastore, 1) := by decide +kernel
theorem dX4_load_223 : decode cX4_load 223 = .ok (.aload_n 0, 1) := by decide +kernel
theorem dX4_load_224 : decode cX4_load 224 = .ok (.getfield 32, 3) := by decide +kernel
theorem dX4_load_227 : decode cX4_load 227 = .ok (.iconst 3, 1) := by decide +kernel
theorem dX4_load_228 : decode cX4_load 228 = .ok (.aload_n 0, 1) := by decide +kernel
theorem dX4_load_229 : decode cX4_load 229 = .ok (.getfield 62, 3) := by decide +kernel
theorem dX4_load_232 : decode cX4_load 232 = .ok (.imul, 1) := by decide +kernel
theorem dX4_load_233 : decode cX4_load 233 = .ok (.iconst 1, 1) := by decide +kernel
theorem dX4_load_234 : decode cX4_load 234 = .ok (.iadd, 1) := by decide +kernel
theorem dX4_load_235 : decode cX4_load 235 = .ok (.iload_n 3, 1) := by decide +kernel
theorem dX4_load_236 : decode cX4_load 236 = .ok (.iastore, 1) := by decide +kernel
theorem dX4_load_237 : decode cX4_load 237 = .ok (.aload_n 0, 1) := by decide +kernel
theorem dX4_load_238 : decode cX4_load 238 = .ok (.getfield 32, 3) := by decide +kernel
theorem dX4_load_241 : decode cX4_load 241 = .ok (.iconst 3, 1) := by decide +kernel
theorem dX4_load_242 : decode cX4_load 242 = .ok (.aload_n 0, 1) := by decide +kernel
theorem dX4_load_243 : decode cX4_load 243 = .ok (.getfield 62, 3) := by decide +kernel
theorem dX4_load_246 : decode cX4_load 246 = .ok (.imul, 1) := by decide +kernel
theorem dX4_load_247 : decode cX4_load 247 = .ok (.iconst 2, 1) := by decide +kernel
theorem dX4_load_248 : decode cX4_load 248 = .ok (.iadd, 1) := by decide +kernel
theorem dX4_load_249 : decode cX4_load 249 = .ok (.iload 4, 2) := by decide +kernel
theorem dX4_load_251 : decode cX4_load 251 = .ok (.iastore, 1) := by decide +kernel
theorem dX4_load_252 : decode cX4_load 252 = .ok (.aload_n 0, 1) := by decide +kernel
theorem dX4_load_253 : decode cX4_load 253 = .ok (.getfield 35, 3) := by decide +kernel
theorem dX4_load_256 : decode cX4_load 256 = .ok (.aload_n 0, 1) := by decide +kernel
theorem dX4_load_257 : decode cX4_load 257 = .ok (.getfield 62, 3) := by decide +kernel
theorem dX4_load_260 : decode cX4_load 260 = .ok (.iconst (-1), 1) := by decide +kernel
theorem dX4_load_261 : decode cX4_load 261 = .ok (.iastore, 1) := by decide +kernel
theorem dX4_load_262 : decode cX4_load 262 = .ok (.iconst 0, 1) := by decide +kernel
theorem dX4_load_263 : decode cX4_load 263 = .ok (.istore 8, 2) := by decide +kernel
theorem dX4_load_265 : decode cX4_load 265 = .ok (.iload 8, 2) := by decide +kernel
theorem dX4_load_267 : decode cX4_load 267 = .ok (.iconst 3, 1) := by decide +kernel
theorem dX4_load_268 : decode cX4_load 268 = .ok (.if_icmp .ge 24, 3) := by decide +kernel
theorem dX4_load_271 : decode cX4_load 271 = .ok (.aload_n 0, 1) := by decide +kernel
theorem dX4_load_272 : decode cX4_load 272 = .ok (.getfield 38, 3) := by decide +kernel
theorem dX4_load_275 : decode cX4_load 275 = .ok (.iconst 3, 1) := by decide +kernel
theorem dX4_load_276 : decode cX4_load 276 = .ok (.aload_n 0, 1) := by decide +kernel
theorem dX4_load_277 : decode cX4_load 277 = .ok (.getfield 62, 3) := by decide +kernel
theorem dX4_load_280 : decode cX4_load 280 = .ok (.imul, 1) := by decide +kernel
theorem dX4_load_281 : decode cX4_load 281 = .ok (.iload 8, 2) := by decide +kernel
theorem dX4_load_283 : decode cX4_load 283 = .ok (.iadd, 1) := by decide +kernel
theorem dX4_load_284 : decode cX4_load 284 = .ok (.iconst 0, 1) := by decide +kernel
theorem dX4_load_285 : decode cX4_load 285 = .ok (.iastore, 1) := by decide +kernel
theorem dX4_load_286 : decode cX4_load 286 = .ok (.iinc 8 1, 3) := by decide +kernel
theorem dX4_load_289 : decode cX4_load 289 = .ok (.goto (-24), 3) := by decide +kernel
theorem dX4_load_292 : decode cX4_load 292 = .ok (.aload_n 0, 1) := by decide +kernel
theorem dX4_load_293 : decode cX4_load 293 = .ok (.dup, 1) := by decide +kernel
theorem dX4_load_294 : decode cX4_load 294 = .ok (.getfield 62, 3) := by decide +kernel
theorem dX4_load_297 : decode cX4_load 297 = .ok (.iconst 1, 1) := by decide +kernel
theorem dX4_load_298 : decode cX4_load 298 = .ok (.iadd, 1) := by decide +kernel
theorem dX4_load_299 : decode cX4_load 299 = .ok (.putfield 62, 3) := by decide +kernel
theorem dX4_load_302 : decode cX4_load 302 = .ok (.aload_n 0, 1) := by decide +kernel
theorem dX4_load_303 : decode cX4_load 303 = .ok (.getfield 62, 3) := by decide +kernel
theorem dX4_load_306 : decode cX4_load 306 = .ok (.iconst 1, 1) := by decide +kernel
theorem dX4_load_307 : decode cX4_load 307 = .ok (.isub, 1) := by decide +kernel
theorem dX4_load_308 : decode cX4_load 308 = .ok (.ireturn, 1) := by decide +kernel
set_option maxRecDepth 20000 in
theorem ggX4_cofactor_X4_isRow : GoodIn wsX4_cofactor wsX4_isRow := goodIn_r _ [8, 9, 10, 11, 7, 12, 18, 19, 20, 21, 22, 23, 24, 25, 26, 27, 28, 29, 30, 31, 32, 33, 34] (by decide +kernel) (by decide +kernel)
set_option maxRecDepth 20000 in
theorem gX4_cofactor_X4_isRow : GoodIn wsX4_cofactor (wsV RX4 126 RX4 yX4_isRow wsX4_isRow) := goodIn_app (goodIn_of _ (by decide +kernel)) ggX4_cofactor_X4_isRow
set_option maxRecDepth 20000 in
theorem ggX4_cofactor_X4_isTree : GoodIn wsX4_cofactor wsX4_isTree := goodIn_r _ [16, 17, 10, 11, 7, 12, 18, 19, 20, 21, 22, 23, 24, 25, 26, 27, 28, 29, 30, 31, 32, 33, 34] (by decide +kernel) (by decide +kernel)
set_option maxRecDepth 20000 in
theorem gX4_cofactor_X4_isTree : GoodIn wsX4_cofactor (wsV RX4 86 RX4 yX4_isTree wsX4_isTree) := goodIn_app (goodIn_of _ (by decide +kernel)) ggX4_cofactor_X4_isTree
theorem dX4_cofactor_0 : decode cX4_cofactor 0 = .ok (.aload_n 0, 1) := by decide +kernel
theorem dX4_cofactor_1 : decode cX4_cofactor 1 = .ok (.aload_n 0, 1) := by decide +kernel
theorem dX4_cofactor_2 : decode cX4_cofactor 2 = .ok (.iload_n 1, 1) := by decide +kernel
theorem dX4_cofactor_3 : decode cX4_cofactor 3 = .ok (.invokevirtual 126, 3) := by decide +kernel
theorem dX4_cofactor_6 : decode cX4_cofactor 6 = .ok (.ifCond .eq 11, 3) := by decide +kernel
theorem dX4_cofactor_9 : decode cX4_cofactor 9 = .ok (.aload_n 0, 1) := by decide +kernel
theorem dX4_cofactor_10 : decode cX4_cofactor 10 = .ok (.iload_n 2, 1) := by decide +kernel
theorem dX4_cofactor_11 : decode cX4_cofactor 11 = .ok (.invokevirtual 86, 3) := by decide +kernel
theorem dX4_cofactor_14 : decode cX4_cofactor 14 = .ok (.ifCond .ne 7, 3) := by decide +kernel
theorem dX4_cofactor_17 : decode cX4_cofactor 17 = .ok (.iconst 1, 1) := by decide +kernel
theorem dX4_cofactor_18 : decode cX4_cofactor 18 = .ok (.goto 19, 3) := by decide +kernel
theorem dX4_cofactor_21 : decode cX4_cofactor 21 = .ok (.aload_n 0, 1) := by decide +kernel
theorem dX4_cofactor_22 : decode cX4_cofactor 22 = .ok (.getfield 29, 3) := by decide +kernel
theorem dX4_cofactor_25 : decode cX4_cofactor 25 = .ok (.iload_n 1, 1) := by decide +kernel
theorem dX4_cofactor_26 : decode cX4_cofactor 26 = .ok (.iaload, 1) := by decide +kernel
theorem dX4_cofactor_27 : decode cX4_cofactor 27 = .ok (.bipush 6, 2) := by decide +kernel
theorem dX4_cofactor_29 : decode cX4_cofactor 29 = .ok (.if_icmp .eq 7, 3) := by decide +kernel
theorem dX4_cofactor_32 : decode cX4_cofactor 32 = .ok (.iconst 2, 1) := by decide +kernel
theorem dX4_cofactor_33 : decode cX4_cofactor 33 = .ok (.goto 4, 3) := by decide +kernel
theorem dX4_cofactor_36 : decode cX4_cofactor 36 = .ok (.iconst 0, 1) := by decide +kernel
theorem dX4_cofactor_37 : decode cX4_cofactor 37 = .ok (.putfield 51, 3) := by decide +kernel
theorem dX4_cofactor_40 : decode cX4_cofactor 40 = .ok (.aload_n 0, 1) := by decide +kernel
theorem dX4_cofactor_41 : decode cX4_cofactor 41 = .ok (.getfield 51, 3) := by decide +kernel
theorem dX4_cofactor_44 : decode cX4_cofactor 44 = .ok (.ifCond .ne 10, 3) := by decide +kernel
theorem dX4_cofactor_47 : decode cX4_cofactor 47 = .ok (.aload_n 0, 1) := by decide +kernel
theorem dX4_cofactor_48 : decode cX4_cofactor 48 = .ok (.getfield 35, 3) := by decide +kernel
theorem dX4_cofactor_51 : decode cX4_cofactor 51 = .ok (.iload_n 1, 1) := by decide +kernel
theorem dX4_cofactor_52 : decode cX4_cofactor 52 = .ok (.iload_n 2, 1) := by decide +kernel
theorem dX4_cofactor_53 : decode cX4_cofactor 53 = .ok (.iastore, 1) := by decide +kernel
theorem dX4_cofactor_54 : decode cX4_cofactor 54 = .ok (.return_, 1) := by decide +kernel
set_option maxRecDepth 20000 in
theorem ggX4_sample_X4_isRow : GoodIn wsX4_sample wsX4_isRow := goodIn_r _ [10, 11, 12, 13, 9, 14, 15, 16, 17, 18, 19, 20, 21, 22, 23, 24, 25, 26, 27, 28, 29, 30, 31] (by decide +kernel) (by decide +kernel)
set_option maxRecDepth 20000 in
theorem gX4_sample_X4_isRow : GoodIn wsX4_sample (wsV RX4 126 RX4 yX4_isRow wsX4_isRow) := goodIn_app (goodIn_of _ (by decide +kernel)) ggX4_sample_X4_isRow
set_option maxRecDepth 20000 in
theorem ggX4_sample_X4_in : GoodIn wsX4_sample wsX4_in := goodIn_r _ [14] (by decide +kernel) (by decide +kernel)
set_option maxRecDepth 20000 in
theorem gX4_sample_X4_in : GoodIn wsX4_sample (va_wsS RX4 58 yX4_in wsX4_in) := goodIn_app (goodIn_of _ (by decide +kernel)) ggX4_sample_X4_in
theorem dX4_sample_0 : decode cX4_sample 0 = .ok (.aload_n 0, 1) := by decide +kernel
theorem dX4_sample_1 : decode cX4_sample 1 = .ok (.aload_n 0, 1) := by decide +kernel
theorem dX4_sample_2 : decode cX4_sample 2 = .ok (.iload_n 1, 1) := by decide +kernel
theorem dX4_sample_3 : decode cX4_sample 3 = .ok (.invokevirtual 126, 3) := by decide +kernel
theorem dX4_sample_6 : decode cX4_sample 6 = .ok (.ifCond .eq 15, 3) := by decide +kernel
theorem dX4_sample_9 : decode cX4_sample 9 = .ok (.iload_n 2, 1) := by decide +kernel
theorem dX4_sample_10 : decode cX4_sample 10 = .ok (.i2l, 1) := by decide +kernel
theorem dX4_sample_11 : decode cX4_sample 11 = .ok (.lconst 0, 1) := by decide +kernel
theorem dX4_sample_12 : decode cX4_sample 12 = .ok (.ldc2_w 76, 3) := by decide +kernel
theorem dX4_sample_15 : decode cX4_sample 15 = .ok (.invokestatic 58, 3) := by decide +kernel
theorem dX4_sample_18 : decode cX4_sample 18 = .ok (.ifCond .ne 7, 3) := by decide +kernel
theorem dX4_sample_21 : decode cX4_sample 21 = .ok (.iconst 1, 1) := by decide +kernel
theorem dX4_sample_22 : decode cX4_sample 22 = .ok (.goto 22, 3) := by decide +kernel
theorem dX4_sample_25 : decode cX4_sample 25 = .ok (.iload_n 3, 1) := by decide +kernel
theorem dX4_sample_26 : decode cX4_sample 26 = .ok (.i2l, 1) := by decide +kernel
theorem dX4_sample_27 : decode cX4_sample 27 = .ok (.ldc2_w 122, 3) := by decide +kernel
theorem dX4_sample_30 : decode cX4_sample 30 = .ok (.ldc2_w 124, 3) := by decide +kernel
theorem dX4_sample_33 : decode cX4_sample 33 = .ok (.invokestatic 58, 3) := by decide +kernel
theorem dX4_sample_36 : decode cX4_sample 36 = .ok (.ifCond .eq 7, 3) := by decide +kernel
theorem dX4_sample_39 : decode cX4_sample 39 = .ok (.iconst 0, 1) := by decide +kernel
theorem dX4_sample_40 : decode cX4_sample 40 = .ok (.goto 4, 3) := by decide +kernel
theorem dX4_sample_43 : decode cX4_sample 43 = .ok (.iconst 2, 1) := by decide +kernel
theorem dX4_sample_44 : decode cX4_sample 44 = .ok (.putfield 51, 3) := by decide +kernel
theorem dX4_sample_47 : decode cX4_sample 47 = .ok (.aload_n 0, 1) := by decide +kernel
theorem dX4_sample_48 : decode cX4_sample 48 = .ok (.getfield 51, 3) := by decide +kernel
theorem dX4_sample_51 : decode cX4_sample 51 = .ok (.ifCond .ne 14, 3) := by decide +kernel
theorem dX4_sample_54 : decode cX4_sample 54 = .ok (.aload_n 0, 1) := by decide +kernel
theorem dX4_sample_55 : decode cX4_sample 55 = .ok (.getfield 38, 3) := by decide +kernel
theorem dX4_sample_58 : decode cX4_sample 58 = .ok (.iconst 3, 1) := by decide +kernel
theorem dX4_sample_59 : decode cX4_sample 59 = .ok (.iload_n 1, 1) := by decide +kernel
theorem dX4_sample_60 : decode cX4_sample 60 = .ok (.imul, 1) := by decide +kernel
theorem dX4_sample_61 : decode cX4_sample 61 = .ok (.iload_n 2, 1) := by decide +kernel
theorem dX4_sample_62 : decode cX4_sample 62 = .ok (.iadd, 1) := by decide +kernel
theorem dX4_sample_63 : decode cX4_sample 63 = .ok (.iload_n 3, 1) := by decide +kernel
theorem dX4_sample_64 : decode cX4_sample 64 = .ok (.iastore, 1) := by decide +kernel
theorem dX4_sample_65 : decode cX4_sample 65 = .ok (.return_, 1) := by decide +kernel
theorem dX4_power_0 : decode cX4_power 0 = .ok (.lconst 1, 1) := by decide +kernel
theorem dX4_power_1 : decode cX4_power 1 = .ok (.lstore_n 3, 1) := by decide +kernel
theorem dX4_power_2 : decode cX4_power 2 = .ok (.iconst 0, 1) := by decide +kernel
theorem dX4_power_3 : decode cX4_power 3 = .ok (.istore 5, 2) := by decide +kernel
theorem dX4_power_5 : decode cX4_power 5 = .ok (.iload 5, 2) := by decide +kernel
theorem dX4_power_7 : decode cX4_power 7 = .ok (.iload_n 2, 1) := by decide +kernel
theorem dX4_power_8 : decode cX4_power 8 = .ok (.if_icmp .ge 13, 3) := by decide +kernel
theorem dX4_power_11 : decode cX4_power 11 = .ok (.lload_n 3, 1) := by decide +kernel
theorem dX4_power_12 : decode cX4_power 12 = .ok (.lload_n 0, 1) := by decide +kernel
theorem dX4_power_13 : decode cX4_power 13 = .ok (.lmul, 1) := by decide +kernel
theorem dX4_power_14 : decode cX4_power 14 = .ok (.lstore_n 3, 1) := by decide +kernel
theorem dX4_power_15 : decode cX4_power 15 = .ok (.iinc 5 1, 3) := by decide +kernel
theorem dX4_power_18 : decode cX4_power 18 = .ok (.goto (-13), 3) := by decide +kernel
theorem dX4_power_21 : decode cX4_power 21 = .ok (.lload_n 3, 1) := by decide +kernel
theorem dX4_power_22 : decode cX4_power 22 = .ok (.lreturn, 1) := by decide +kernel
set_option maxRecDepth 20000 in
theorem ggX4_value_X4_place : GoodIn wsX4_value wsX4_place := goodIn_r _ [6, 7, 8, 5, 9, 10, 11, 12] (by decide +kernel) (by decide +kernel)
set_option maxRecDepth 20000 in
theorem gX4_value_X4_place : GoodIn wsX4_value (va_wsS RX4 99 yX4_place wsX4_place) := goodIn_app (goodIn_of _ (by decide +kernel)) ggX4_value_X4_place
set_option maxRecDepth 20000 in
theorem ggX4_value_X4_power : GoodIn wsX4_value wsX4_power := goodIn_r _ [15] (by decide +kernel) (by decide +kernel)
set_option maxRecDepth 20000 in
theorem gX4_value_X4_power : GoodIn wsX4_value (va_wsS RX4 129 yX4_power wsX4_power) := goodIn_app (goodIn_of _ (by decide +kernel)) ggX4_value_X4_power
theorem dX4_value_0 : decode cX4_value 0 = .ok (.lconst 0, 1) := by decide +kernel
theorem dX4_value_1 : decode cX4_value 1 = .ok (.lstore_n 3, 1) := by decide +kernel
theorem dX4_value_2 : decode cX4_value 2 = .ok (.iconst 0, 1) := by decide +kernel
theorem dX4_value_3 : decode cX4_value 3 = .ok (.istore 5, 2) := by decide +kernel
theorem dX4_value_5 : decode cX4_value 5 = .ok (.iload 5, 2) := by decide +kernel
theorem dX4_value_7 : decode cX4_value 7 = .ok (.bipush 10, 2) := by decide +kernel
theorem dX4_value_9 : decode cX4_value 9 = .ok (.if_icmp .ge 134, 3) := by decide +kernel
theorem dX4_value_12 : decode cX4_value 12 = .ok (.iconst 0, 1) := by decide +kernel
theorem dX4_value_13 : decode cX4_value 13 = .ok (.istore 6, 2) := by decide +kernel
theorem dX4_value_15 : decode cX4_value 15 = .ok (.iload 5, 2) := by decide +kernel
theorem dX4_value_17 : decode cX4_value 17 = .ok (.iload 6, 2) := by decide +kernel
theorem dX4_value_19 : decode cX4_value 19 = .ok (.iadd, 1) := by decide +kernel
theorem dX4_value_20 : decode cX4_value 20 = .ok (.bipush 10, 2) := by decide +kernel
theorem dX4_value_22 : decode cX4_value 22 = .ok (.if_icmp .ge 115, 3) := by decide +kernel
theorem dX4_value_25 : decode cX4_value 25 = .ok (.iconst 0, 1) := by decide +kernel
theorem dX4_value_26 : decode cX4_value 26 = .ok (.istore 7, 2) := by decide +kernel
theorem dX4_value_28 : decode cX4_value 28 = .ok (.iload 5, 2) := by decide +kernel
theorem dX4_value_30 : decode cX4_value 30 = .ok (.iload 6, 2) := by decide +kernel
theorem dX4_value_32 : decode cX4_value 32 = .ok (.iadd, 1) := by decide +kernel
theorem dX4_value_33 : decode cX4_value 33 = .ok (.iload 7, 2) := by decide +kernel
theorem dX4_value_35 : decode cX4_value 35 = .ok (.iadd, 1) := by decide +kernel
theorem dX4_value_36 : decode cX4_value 36 = .ok (.bipush 10, 2) := by decide +kernel
theorem dX4_value_38 : decode cX4_value 38 = .ok (.if_icmp .ge 93, 3) := by decide +kernel
theorem dX4_value_41 : decode cX4_value 41 = .ok (.aload_n 0, 1) := by decide +kernel
theorem dX4_value_42 : decode cX4_value 42 = .ok (.getfield 22, 3) := by decide +kernel
theorem dX4_value_45 : decode cX4_value 45 = .ok (.sipush 220, 3) := by decide +kernel
theorem dX4_value_48 : decode cX4_value 48 = .ok (.iload_n 1, 1) := by decide +kernel
theorem dX4_value_49 : decode cX4_value 49 = .ok (.imul, 1) := by decide +kernel
theorem dX4_value_50 : decode cX4_value 50 = .ok (.iload 5, 2) := by decide +kernel
theorem dX4_value_52 : decode cX4_value 52 = .ok (.iload 6, 2) := by decide +kernel
theorem dX4_value_54 : decode cX4_value 54 = .ok (.iload 7, 2) := by decide +kernel
theorem dX4_value_56 : decode cX4_value 56 = .ok (.invokestatic 99, 3) := by decide +kernel
theorem dX4_value_59 : decode cX4_value 59 = .ok (.iadd, 1) := by decide +kernel
theorem dX4_value_60 : decode cX4_value 60 = .ok (.iaload, 1) := by decide +kernel
theorem dX4_value_61 : decode cX4_value 61 = .ok (.i2l, 1) := by decide +kernel
theorem dX4_value_62 : decode cX4_value 62 = .ok (.lstore 8, 2) := by decide +kernel
theorem dX4_value_64 : decode cX4_value 64 = .ok (.lload 8, 2) := by decide +kernel
theorem dX4_value_66 : decode cX4_value 66 = .ok (.lconst 0, 1) := by decide +kernel
theorem dX4_value_67 : decode cX4_value 67 = .ok (.lcmp, 1) := by decide +kernel
theorem dX4_value_68 : decode cX4_value 68 = .ok (.ifCond .eq 57, 3) := by decide +kernel
theorem dX4_value_71 : decode cX4_value 71 = .ok (.lload_n 3, 1) := by decide +kernel
theorem dX4_value_72 : decode cX4_value 72 = .ok (.lload 8, 2) := by decide +kernel
theorem dX4_value_74 : decode cX4_value 74 = .ok (.aload_n 0, 1) := by decide +kernel
theorem dX4_value_75 : decode cX4_value 75 = .ok (.getfield 38, 3) := by decide +kernel
theorem dX4_value_78 : decode cX4_value 78 = .ok (.iconst 3, 1) := by decide +kernel
theorem dX4_value_79 : decode cX4_value 79 = .ok (.iload_n 2, 1) := by decide +kernel
theorem dX4_value_80 : decode cX4_value 80 = .ok (.imul, 1) := by decide +kernel
theorem dX4_value_81 : decode cX4_value 81 = .ok (.iaload, 1) := by decide +kernel
theorem dX4_value_82 : decode cX4_value 82 = .ok (.i2l, 1) := by decide +kernel
theorem dX4_value_83 : decode cX4_value 83 = .ok (.iload 5, 2) := by decide +kernel
theorem dX4_value_85 : decode cX4_value 85 = .ok (.invokestatic 129, 3) := by decide +kernel
theorem dX4_value_88 : decode cX4_value 88 = .ok (.lmul, 1) := by decide +kernel
theorem dX4_value_89 : decode cX4_value 89 = .ok (.aload_n 0, 1) := by decide +kernel
theorem dX4_value_90 : decode cX4_value 90 = .ok (.getfield 38, 3) := by decide +kernel
theorem dX4_value_93 : decode cX4_value 93 = .ok (.iconst 3, 1) := by decide +kernel
theorem dX4_value_94 : decode cX4_value 94 = .ok (.iload_n 2, 1) := by decide +kernel
theorem dX4_value_95 : decode cX4_value 95 = .ok (.imul, 1) := by decide +kernel
theorem dX4_value_96 : decode cX4_value 96 = .ok (.iconst 1, 1) := by decide +kernel
theorem dX4_value_97 : decode cX4_value 97 = .ok (.iadd, 1) := by decide +kernel
theorem dX4_value_98 : decode cX4_value 98 = .ok (.iaload, 1) := by decide +kernel
theorem dX4_value_99 : decode cX4_value 99 = .ok (.i2l, 1) := by decide +kernel
theorem dX4_value_100 : decode cX4_value 100 = .ok (.iload 6, 2) := by decide +kernel
theorem dX4_value_102 : decode cX4_value 102 = .ok (.invokestatic 129, 3) := by decide +kernel
theorem dX4_value_105 : decode cX4_value 105 = .ok (.lmul, 1) := by decide +kernel
theorem dX4_value_106 : decode cX4_value 106 = .ok (.aload_n 0, 1) := by decide +kernel
theorem dX4_value_107 : decode cX4_value 107 = .ok (.getfield 38, 3) := by decide +kernel
theorem dX4_value_110 : decode cX4_value 110 = .ok (.iconst 3, 1) := by decide +kernel
theorem dX4_value_111 : decode cX4_value 111 = .ok (.iload_n 2, 1) := by decide +kernel
theorem dX4_value_112 : decode cX4_value 112 = .ok (.imul, 1) := by decide +kernel
theorem dX4_value_113 : decode cX4_value 113 = .ok (.iconst 2, 1) := by decide +kernel
theorem dX4_value_114 : decode cX4_value 114 = .ok (.iadd, 1) := by decide +kernel
theorem dX4_value_115 : decode cX4_value 115 = .ok (.iaload, 1) := by decide +kernel
theorem dX4_value_116 : decode cX4_value 116 = .ok (.i2l, 1) := by decide +kernel
theorem dX4_value_117 : decode cX4_value 117 = .ok (.iload 7, 2) := by decide +kernel
theorem dX4_value_119 : decode cX4_value 119 = .ok (.invokestatic 129, 3) := by decide +kernel
theorem dX4_value_122 : decode cX4_value 122 = .ok (.lmul, 1) := by decide +kernel
theorem dX4_value_123 : decode cX4_value 123 = .ok (.ladd, 1) := by decide +kernel
theorem dX4_value_124 : decode cX4_value 124 = .ok (.lstore_n 3, 1) := by decide +kernel
theorem dX4_value_125 : decode cX4_value 125 = .ok (.iinc 7 1, 3) := by decide +kernel
theorem dX4_value_128 : decode cX4_value 128 = .ok (.goto (-100), 3) := by decide +kernel
theorem dX4_value_131 : decode cX4_value 131 = .ok (.iinc 6 1, 3) := by decide +kernel
theorem dX4_value_134 : decode cX4_value 134 = .ok (.goto (-119), 3) := by decide +kernel
theorem dX4_value_137 : decode cX4_value 137 = .ok (.iinc 5 1, 3) := by decide +kernel
theorem dX4_value_140 : decode cX4_value 140 = .ok (.goto (-135), 3) := by decide +kernel
theorem dX4_value_143 : decode cX4_value 143 = .ok (.lload_n 3, 1) := by decide +kernel
theorem dX4_value_144 : decode cX4_value 144 = .ok (.lreturn, 1) := by decide +kernel
theorem dX4_isWork_0 : decode cX4_isWork 0 = .ok (.iconst 1, 1) := by decide +kernel
theorem dX4_isWork_1 : decode cX4_isWork 1 = .ok (.istore_n 2, 1) := by decide +kernel
theorem dX4_isWork_2 : decode cX4_isWork 2 = .ok (.iconst 0, 1) := by decide +kernel
theorem dX4_isWork_3 : decode cX4_isWork 3 = .ok (.istore_n 3, 1) := by decide +kernel
theorem dX4_isWork_4 : decode cX4_isWork 4 = .ok (.iload_n 3, 1) := by decide +kernel
theorem dX4_isWork_5 : decode cX4_isWork 5 = .ok (.sipush 220, 3) := by decide +kernel
theorem dX4_isWork_8 : decode cX4_isWork 8 = .ok (.if_icmp .ge 42, 3) := by decide +kernel
theorem dX4_isWork_11 : decode cX4_isWork 11 = .ok (.iload_n 2, 1) := by decide +kernel
theorem dX4_isWork_12 : decode cX4_isWork 12 = .ok (.ifCond .eq 30, 3) := by decide +kernel
theorem dX4_isWork_15 : decode cX4_isWork 15 = .ok (.aload_n 0, 1) := by decide +kernel
theorem dX4_isWork_16 : decode cX4_isWork 16 = .ok (.getfield 41, 3) := by decide +kernel
theorem dX4_isWork_19 : decode cX4_isWork 19 = .ok (.iload_n 3, 1) := by decide +kernel
theorem dX4_isWork_20 : decode cX4_isWork 20 = .ok (.laload, 1) := by decide +kernel
theorem dX4_isWork_21 : decode cX4_isWork 21 = .ok (.aload_n 0, 1) := by decide +kernel
theorem dX4_isWork_22 : decode cX4_isWork 22 = .ok (.getfield 22, 3) := by decide +kernel
theorem dX4_isWork_25 : decode cX4_isWork 25 = .ok (.sipush 220, 3) := by decide +kernel
theorem dX4_isWork_28 : decode cX4_isWork 28 = .ok (.iload_n 1, 1) := by decide +kernel
theorem dX4_isWork_29 : decode cX4_isWork 29 = .ok (.imul, 1) := by decide +kernel
theorem dX4_isWork_30 : decode cX4_isWork 30 = .ok (.iload_n 3, 1) := by decide +kernel
theorem dX4_isWork_31 : decode cX4_isWork 31 = .ok (.iadd, 1) := by decide +kernel
theorem dX4_isWork_32 : decode cX4_isWork 32 = .ok (.iaload, 1) := by decide +kernel
theorem dX4_isWork_33 : decode cX4_isWork 33 = .ok (.i2l, 1) := by decide +kernel
theorem dX4_isWork_34 : decode cX4_isWork 34 = .ok (.lcmp, 1) := by decide +kernel
theorem dX4_isWork_35 : decode cX4_isWork 35 = .ok (.ifCond .ne 7, 3) := by decide +kernel
theorem dX4_isWork_38 : decode cX4_isWork 38 = .ok (.iconst 1, 1) := by decide +kernel
theorem dX4_isWork_39 : decode cX4_isWork 39 = .ok (.goto 4, 3) := by decide +kernel
theorem dX4_isWork_42 : decode cX4_isWork 42 = .ok (.iconst 0, 1) := by decide +kernel
theorem dX4_isWork_43 : decode cX4_isWork 43 = .ok (.istore_n 2, 1) := by decide +kernel
theorem dX4_isWork_44 : decode cX4_isWork 44 = .ok (.iinc 3 1, 3) := by decide +kernel
theorem dX4_isWork_47 : decode cX4_isWork 47 = .ok (.goto (-43), 3) := by decide +kernel
theorem dX4_isWork_50 : decode cX4_isWork 50 = .ok (.iload_n 2, 1) := by decide +kernel
theorem dX4_isWork_51 : decode cX4_isWork 51 = .ok (.ireturn, 1) := by decide +kernel
set_option maxRecDepth 20000 in
theorem ggX4_isSame_X4_isWork : GoodIn wsX4_isSame wsX4_isWork := goodIn_r _ [7, 1, 2, 8, 9, 10, 11, 12, 13, 14, 15, 16, 17, 18, 19, 20, 21, 22, 23, 24] (by decide +kernel) (by decide +kernel)
set_option maxRecDepth 20000 in
theorem gX4_isSame_X4_isWork : GoodIn wsX4_isSame (wsV RX4 133 RX4 yX4_isWork wsX4_isWork) := goodIn_app (goodIn_of _ (by decide +kernel)) ggX4_isSame_X4_isWork
theorem dX4_isSame_0 : decode cX4_isSame 0 = .ok (.iconst 0, 1) := by decide +kernel
theorem dX4_isSame_1 : decode cX4_isSame 1 = .ok (.istore_n 3, 1) := by decide +kernel
theorem dX4_isSame_2 : decode cX4_isSame 2 = .ok (.iload_n 3, 1) := by decide +kernel
theorem dX4_isSame_3 : decode cX4_isSame 3 = .ok (.sipush 220, 3) := by decide +kernel
theorem dX4_isSame_6 : decode cX4_isSame 6 = .ok (.if_icmp .ge 28, 3) := by decide +kernel
theorem dX4_isSame_9 : decode cX4_isSame 9 = .ok (.aload_n 0, 1) := by decide +kernel
theorem dX4_isSame_10 : decode cX4_isSame 10 = .ok (.getfield 41, 3) := by decide +kernel
theorem dX4_isSame_13 : decode cX4_isSame 13 = .ok (.iload_n 3, 1) := by decide +kernel
theorem dX4_isSame_14 : decode cX4_isSame 14 = .ok (.aload_n 0, 1) := by decide +kernel
theorem dX4_isSame_15 : decode cX4_isSame 15 = .ok (.getfield 22, 3) := by decide +kernel
theorem dX4_isSame_18 : decode cX4_isSame 18 = .ok (.sipush 220, 3) := by decide +kernel
theorem dX4_isSame_21 : decode cX4_isSame 21 = .ok (.iload_n 1, 1) := by decide +kernel
theorem dX4_isSame_22 : decode cX4_isSame 22 = .ok (.imul, 1) := by decide +kernel
theorem dX4_isSame_23 : decode cX4_isSame 23 = .ok (.iload_n 3, 1) := by decide +kernel
theorem dX4_isSame_24 : decode cX4_isSame 24 = .ok (.iadd, 1) := by decide +kernel
theorem dX4_isSame_25 : decode cX4_isSame 25 = .ok (.iaload, 1) := by decide +kernel
theorem dX4_isSame_26 : decode cX4_isSame 26 = .ok (.i2l, 1) := by decide +kernel
theorem dX4_isSame_27 : decode cX4_isSame 27 = .ok (.lastore, 1) := by decide +kernel
theorem dX4_isSame_28 : decode cX4_isSame 28 = .ok (.iinc 3 1, 3) := by decide +kernel
theorem dX4_isSame_31 : decode cX4_isSame 31 = .ok (.goto (-29), 3) := by decide +kernel
theorem dX4_isSame_34 : decode cX4_isSame 34 = .ok (.aload_n 0, 1) := by decide +kernel
theorem dX4_isSame_35 : decode cX4_isSame 35 = .ok (.iload_n 2, 1) := by decide +kernel
theorem dX4_isSame_36 : decode cX4_isSame 36 = .ok (.invokevirtual 133, 3) := by decide +kernel
theorem dX4_isSame_39 : decode cX4_isSame 39 = .ok (.ireturn, 1) := by decide +kernel
set_option maxRecDepth 20000 in
theorem ggX4_isSlope_X4_place : GoodIn wsX4_isSlope wsX4_place := goodIn_r _ [6, 7, 8, 5, 9, 10, 11, 12] (by decide +kernel) (by decide +kernel)
set_option maxRecDepth 20000 in
theorem gX4_isSlope_X4_place : GoodIn wsX4_isSlope (va_wsS RX4 99 yX4_place wsX4_place) := goodIn_app (goodIn_of _ (by decide +kernel)) ggX4_isSlope_X4_place
set_option maxRecDepth 20000 in
theorem ggX4_isSlope_X4_isWork : GoodIn wsX4_isSlope wsX4_isWork := goodIn_r _ [16, 1, 2, 17, 18, 19, 20, 21, 22, 23, 24, 25, 26, 27, 28, 29, 30, 31, 32, 33] (by decide +kernel) (by decide +kernel)
set_option maxRecDepth 20000 in
theorem gX4_isSlope_X4_isWork : GoodIn wsX4_isSlope (wsV RX4 133 RX4 yX4_isWork wsX4_isWork) := goodIn_app (goodIn_of _ (by decide +kernel)) ggX4_isSlope_X4_isWork
theorem dX4_isSlope_0 : decode cX4_isSlope 0 = .ok (.iconst 0, 1) := by decide +kernel
theorem dX4_isSlope_1 : decode cX4_isSlope 1 = .ok (.istore 4, 2) := by decide +kernel
theorem dX4_isSlope_3 : decode cX4_isSlope 3 = .ok (.iload 4, 2) := by decide +kernel
theorem dX4_isSlope_5 : decode cX4_isSlope 5 = .ok (.sipush 220, 3) := by decide +kernel
theorem dX4_isSlope_8 : decode cX4_isSlope 8 = .ok (.if_icmp .ge 17, 3) := by decide +kernel
theorem dX4_isSlope_11 : decode cX4_isSlope 11 = .ok (.aload_n 0, 1) := by decide +kernel
theorem dX4_isSlope_12 : decode cX4_isSlope 12 = .ok (.getfield 41, 3) := by decide +kernel
theorem dX4_isSlope_15 : decode cX4_isSlope 15 = .ok (.iload 4, 2) := by decide +kernel
theorem dX4_isSlope_17 : decode cX4_isSlope 17 = .ok (.lconst 0, 1) := by decide +kernel
theorem dX4_isSlope_18 : decode cX4_isSlope 18 = .ok (.lastore, 1) := by decide +kernel
theorem dX4_isSlope_19 : decode cX4_isSlope 19 = .ok (.iinc 4 1, 3) := by decide +kernel
theorem dX4_isSlope_22 : decode cX4_isSlope 22 = .ok (.goto (-19), 3) := by decide +kernel
theorem dX4_isSlope_25 : decode cX4_isSlope 25 = .ok (.iconst 0, 1) := by decide +kernel
theorem dX4_isSlope_26 : decode cX4_isSlope 26 = .ok (.istore 4, 2) := by decide +kernel
theorem dX4_isSlope_28 : decode cX4_isSlope 28 = .ok (.iload 4, 2) := by decide +kernel
theorem dX4_isSlope_30 : decode cX4_isSlope 30 = .ok (.bipush 10, 2) := by decide +kernel
theorem dX4_isSlope_32 : decode cX4_isSlope 32 = .ok (.if_icmp .ge 163, 3) := by decide +kernel
theorem dX4_isSlope_35 : decode cX4_isSlope 35 = .ok (.iconst 0, 1) := by decide +kernel
theorem dX4_isSlope_36 : decode cX4_isSlope 36 = .ok (.istore 5, 2) := by decide +kernel
theorem dX4_isSlope_38 : decode cX4_isSlope 38 = .ok (.iload 4, 2) := by decide +kernel
theorem dX4_isSlope_40 : decode cX4_isSlope 40 = .ok (.iload 5, 2) := by decide +kernel
theorem dX4_isSlope_42 : decode cX4_isSlope 42 = .ok (.iadd, 1) := by decide +kernel
theorem dX4_isSlope_43 : decode cX4_isSlope 43 = .ok (.bipush 10, 2) := by decide +kernel
theorem dX4_isSlope_45 : decode cX4_isSlope 45 = .ok (.if_icmp .ge 144, 3) := by decide +kernel
theorem dX4_isSlope_48 : decode cX4_isSlope 48 = .ok (.iconst 0, 1) := by decide +kernel
theorem dX4_isSlope_49 : decode cX4_isSlope 49 = .ok (.istore 6, 2) := by decide +kernel
theorem dX4_isSlope_51 : decode cX4_isSlope 51 = .ok (.iload 4, 2) := by decide +kernel
theorem dX4_isSlope_53 : decode cX4_isSlope 53 = .ok (.iload 5, 2) := by decide +kernel
theorem dX4_isSlope_55 : decode cX4_isSlope 55 = .ok (.iadd, 1) := by decide +kernel
theorem dX4_isSlope_56 : decode cX4_isSlope 56 = .ok (.iload 6, 2) := by decide +kernel
theorem dX4_isSlope_58 : decode cX4_isSlope 58 = .ok (.iadd, 1) := by decide +kernel
theorem dX4_isSlope_59 : decode cX4_isSlope 59 = .ok (.bipush 10, 2) := by decide +kernel
theorem dX4_isSlope_61 : decode cX4_isSlope 61 = .ok (.if_icmp .ge 122, 3) := by decide +kernel
theorem dX4_isSlope_64 : decode cX4_isSlope 64 = .ok (.iload_n 3, 1) := by decide +kernel
theorem dX4_isSlope_65 : decode cX4_isSlope 65 = .ok (.ifCond .ne 8, 3) := by decide +kernel
theorem dX4_isSlope_68 : decode cX4_isSlope 68 = .ok (.iload 4, 2) := by decide +kernel
theorem dX4_isSlope_70 : decode cX4_isSlope 70 = .ok (.goto 15, 3) := by decide +kernel
theorem dX4_isSlope_73 : decode cX4_isSlope 73 = .ok (.iload_n 3, 1) := by decide +kernel
theorem dX4_isSlope_74 : decode cX4_isSlope 74 = .ok (.iconst 1, 1) := by decide +kernel
theorem dX4_isSlope_75 : decode cX4_isSlope 75 = .ok (.if_icmp .ne 8, 3) := by decide +kernel
theorem dX4_isSlope_78 : decode cX4_isSlope 78 = .ok (.iload 5, 2) := by decide +kernel
theorem dX4_isSlope_80 : decode cX4_isSlope 80 = .ok (.goto 5, 3) := by decide +kernel
theorem dX4_isSlope_83 : decode cX4_isSlope 83 = .ok (.iload 6, 2) := by decide +kernel
theorem dX4_isSlope_85 : decode cX4_isSlope 85 = .ok (.istore 7, 2) := by decide +kernel
theorem dX4_isSlope_87 : decode cX4_isSlope 87 = .ok (.iload 7, 2) := by decide +kernel
theorem dX4_isSlope_89 : decode cX4_isSlope 89 = .ok (.ifCond .ne 6, 3) := by decide +kernel
theorem dX4_isSlope_92 : decode cX4_isSlope 92 = .ok (.goto 85, 3) := by decide +kernel
theorem dX4_isSlope_95 : decode cX4_isSlope 95 = .ok (.iload_n 3, 1) := by decide +kernel
theorem dX4_isSlope_96 : decode cX4_isSlope 96 = .ok (.ifCond .ne 17, 3) := by decide +kernel
theorem dX4_isSlope_99 : decode cX4_isSlope 99 = .ok (.iload 4, 2) := by decide +kernel
theorem dX4_isSlope_101 : decode cX4_isSlope 101 = .ok (.iconst 1, 1) := by decide +kernel
theorem dX4_isSlope_102 : decode cX4_isSlope 102 = .ok (.isub, 1) := by decide +kernel
theorem dX4_isSlope_103 : decode cX4_isSlope 103 = .ok (.iload 5, 2) := by decide +kernel
theorem dX4_isSlope_105 : decode cX4_isSlope 105 = .ok (.iload 6, 2) := by decide +kernel
theorem dX4_isSlope_107 : decode cX4_isSlope 107 = .ok (.invokestatic 99, 3) := by decide +kernel
theorem dX4_isSlope_110 : decode cX4_isSlope 110 = .ok (.goto 33, 3) := by decide +kernel
theorem dX4_isSlope_113 : decode cX4_isSlope 113 = .ok (.iload_n 3, 1) := by decide +kernel
theorem dX4_isSlope_114 : decode cX4_isSlope 114 = .ok (.iconst 1, 1) := by decide +kernel
theorem dX4_isSlope_115 : decode cX4_isSlope 115 = .ok (.if_icmp .ne 17, 3) := by decide +kernel
theorem dX4_isSlope_118 : decode cX4_isSlope 118 = .ok (.iload 4, 2) := by decide +kernel
theorem dX4_isSlope_120 : decode cX4_isSlope 120 = .ok (.iload 5, 2) := by decide +kernel
theorem dX4_isSlope_122 : decode cX4_isSlope 122 = .ok (.iconst 1, 1) := by decide +kernel
theorem dX4_isSlope_123 : decode cX4_isSlope 123 = .ok (.isub, 1) := by decide +kernel
theorem dX4_isSlope_124 : decode cX4_isSlope 124 = .ok (.iload 6, 2) := by decide +kernel
theorem dX4_isSlope_126 : decode cX4_isSlope 126 = .ok (.invokestatic 99, 3) := by decide +kernel
theorem dX4_isSlope_129 : decode cX4_isSlope 129 = .ok (.goto 14, 3) := by decide +kernel
theorem dX4_isSlope_132 : decode cX4_isSlope 132 = .ok (.iload 4, 2) := by decide +kernel
theorem dX4_isSlope_134 : decode cX4_isSlope 134 = .ok (.iload 5, 2) := by decide +kernel
theorem dX4_isSlope_136 : decode cX4_isSlope 136 = .ok (.iload 6, 2) := by decide +kernel
theorem dX4_isSlope_138 : decode cX4_isSlope 138 = .ok (.iconst 1, 1) := by decide +kernel
theorem dX4_isSlope_139 : decode cX4_isSlope 139 = .ok (.isub, 1) := by decide +kernel
theorem dX4_isSlope_140 : decode cX4_isSlope 140 = .ok (.invokestatic 99, 3) := by decide +kernel
theorem dX4_isSlope_143 : decode cX4_isSlope 143 = .ok (.istore 8, 2) := by decide +kernel
theorem dX4_isSlope_145 : decode cX4_isSlope 145 = .ok (.aload_n 0, 1) := by decide +kernel
theorem dX4_isSlope_146 : decode cX4_isSlope 146 = .ok (.getfield 41, 3) := by decide +kernel
theorem dX4_isSlope_149 : decode cX4_isSlope 149 = .ok (.iload 8, 2) := by decide +kernel
theorem dX4_isSlope_151 : decode cX4_isSlope 151 = .ok (.iload 7, 2) := by decide +kernel
theorem dX4_isSlope_153 : decode cX4_isSlope 153 = .ok (.i2l, 1) := by decide +kernel
theorem dX4_isSlope_154 : decode cX4_isSlope 154 = .ok (.aload_n 0, 1) := by decide +kernel
theorem dX4_isSlope_155 : decode cX4_isSlope 155 = .ok (.getfield 22, 3) := by decide +kernel
theorem dX4_isSlope_158 : decode cX4_isSlope 158 = .ok (.sipush 220, 3) := by decide +kernel
theorem dX4_isSlope_161 : decode cX4_isSlope 161 = .ok (.iload_n 1, 1) := by decide +kernel
theorem dX4_isSlope_162 : decode cX4_isSlope 162 = .ok (.imul, 1) := by decide +kernel
theorem dX4_isSlope_163 : decode cX4_isSlope 163 = .ok (.iload 4, 2) := by decide +kernel
theorem dX4_isSlope_165 : decode cX4_isSlope 165 = .ok (.iload 5, 2) := by decide +kernel
theorem dX4_isSlope_167 : decode cX4_isSlope 167 = .ok (.iload 6, 2) := by decide +kernel
theorem dX4_isSlope_169 : decode cX4_isSlope 169 = .ok (.invokestatic 99, 3) := by decide +kernel
theorem dX4_isSlope_172 : decode cX4_isSlope 172 = .ok (.iadd, 1) := by decide +kernel
theorem dX4_isSlope_173 : decode cX4_isSlope 173 = .ok (.iaload, 1) := by decide +kernel
theorem dX4_isSlope_174 : decode cX4_isSlope 174 = .ok (.i2l, 1) := by decide +kernel
theorem dX4_isSlope_175 : decode cX4_isSlope 175 = .ok (.lmul, 1) := by decide +kernel
theorem dX4_isSlope_176 : decode cX4_isSlope 176 = .ok (.lastore, 1) := by decide +kernel
theorem dX4_isSlope_177 : decode cX4_isSlope 177 = .ok (.iinc 6 1, 3) := by decide +kernel
theorem dX4_isSlope_180 : decode cX4_isSlope 180 = .ok (.goto (-129), 3) := by decide +kernel
theorem dX4_isSlope_183 : decode cX4_isSlope 183 = .ok (.iinc 5 1, 3) := by decide +kernel
theorem dX4_isSlope_186 : decode cX4_isSlope 186 = .ok (.goto (-148), 3) := by decide +kernel
theorem dX4_isSlope_189 : decode cX4_isSlope 189 = .ok (.iinc 4 1, 3) := by decide +kernel
theorem dX4_isSlope_192 : decode cX4_isSlope 192 = .ok (.goto (-164), 3) := by decide +kernel
theorem dX4_isSlope_195 : decode cX4_isSlope 195 = .ok (.aload_n 0, 1) := by decide +kernel
theorem dX4_isSlope_196 : decode cX4_isSlope 196 = .ok (.iload_n 2, 1) := by decide +kernel
theorem dX4_isSlope_197 : decode cX4_isSlope 197 = .ok (.invokevirtual 133, 3) := by decide +kernel
theorem dX4_isSlope_200 : decode cX4_isSlope 200 = .ok (.ireturn, 1) := by decide +kernel
set_option maxRecDepth 20000 in
theorem ggX4_isProduct_X4_multiply : GoodIn wsX4_isProduct wsX4_multiply := goodIn_r _ [6, 7, 1, 8, 9, 10, 11, 5, 12, 13, 14, 15, 16, 17, 18, 19, 20, 21, 22, 23, 24, 25, 30, 31, 32, 33, 34, 35, 36, 37, 38, 39, 40, 41, 42, 43, 44, 45, 46] (by decide +kernel) (by decide +kernel)
set_option maxRecDepth 20000 in
theorem gX4_isProduct_X4_multiply : GoodIn wsX4_isProduct (wsV RX4 103 RX4 yX4_multiply wsX4_multiply) := goodIn_app (goodIn_of _ (by decide +kernel)) ggX4_isProduct_X4_multiply
set_option maxRecDepth 20000 in
theorem ggX4_isProduct_X4_isWork : GoodIn wsX4_isProduct wsX4_isWork := goodIn_r _ [29, 7, 8, 30, 31, 32, 33, 34, 35, 36, 37, 38, 39, 40, 41, 42, 43, 44, 45, 46] (by decide +kernel) (by decide +kernel)
set_option maxRecDepth 20000 in
theorem gX4_isProduct_X4_isWork : GoodIn wsX4_isProduct (wsV RX4 133 RX4 yX4_isWork wsX4_isWork) := goodIn_app (goodIn_of _ (by decide +kernel)) ggX4_isProduct_X4_isWork
theorem dX4_isProduct_0 : decode cX4_isProduct 0 = .ok (.aload_n 0, 1) := by decide +kernel
theorem dX4_isProduct_1 : decode cX4_isProduct 1 = .ok (.iconst 0, 1) := by decide +kernel
theorem dX4_isProduct_2 : decode cX4_isProduct 2 = .ok (.putfield 95, 3) := by decide +kernel
theorem dX4_isProduct_5 : decode cX4_isProduct 5 = .ok (.aload_n 0, 1) := by decide +kernel
theorem dX4_isProduct_6 : decode cX4_isProduct 6 = .ok (.iload_n 2, 1) := by decide +kernel
theorem dX4_isProduct_7 : decode cX4_isProduct 7 = .ok (.iload_n 3, 1) := by decide +kernel
theorem dX4_isProduct_8 : decode cX4_isProduct 8 = .ok (.invokevirtual 103, 3) := by decide +kernel
theorem dX4_isProduct_11 : decode cX4_isProduct 11 = .ok (.aload_n 0, 1) := by decide +kernel
theorem dX4_isProduct_12 : decode cX4_isProduct 12 = .ok (.getfield 95, 3) := by decide +kernel
theorem dX4_isProduct_15 : decode cX4_isProduct 15 = .ok (.ifCond .ne 15, 3) := by decide +kernel
theorem dX4_isProduct_18 : decode cX4_isProduct 18 = .ok (.aload_n 0, 1) := by decide +kernel
theorem dX4_isProduct_19 : decode cX4_isProduct 19 = .ok (.iload_n 1, 1) := by decide +kernel
theorem dX4_isProduct_20 : decode cX4_isProduct 20 = .ok (.invokevirtual 133, 3) := by decide +kernel
theorem dX4_isProduct_23 : decode cX4_isProduct 23 = .ok (.ifCond .eq 7, 3) := by decide +kernel
theorem dX4_isProduct_26 : decode cX4_isProduct 26 = .ok (.iconst 1, 1) := by decide +kernel
theorem dX4_isProduct_27 : decode cX4_isProduct 27 = .ok (.goto 4, 3) := by decide +kernel
theorem dX4_isProduct_30 : decode cX4_isProduct 30 = .ok (.iconst 0, 1) := by decide +kernel
theorem dX4_isProduct_31 : decode cX4_isProduct 31 = .ok (.ireturn, 1) := by decide +kernel
set_option maxRecDepth 20000 in
theorem ggX4_isZeroAt_X4_place : GoodIn wsX4_isZeroAt wsX4_place := goodIn_r _ [6, 7, 8, 5, 9, 10, 11, 12] (by decide +kernel) (by decide +kernel)
set_option maxRecDepth 20000 in
theorem gX4_isZeroAt_X4_place : GoodIn wsX4_isZeroAt (va_wsS RX4 99 yX4_place wsX4_place) := goodIn_app (goodIn_of _ (by decide +kernel)) ggX4_isZeroAt_X4_place
set_option maxRecDepth 20000 in
theorem ggX4_isZeroAt_X4_power : GoodIn wsX4_isZeroAt wsX4_power := goodIn_r _ [15] (by decide +kernel) (by decide +kernel)
set_option maxRecDepth 20000 in
theorem gX4_isZeroAt_X4_power : GoodIn wsX4_isZeroAt (va_wsS RX4 129 yX4_power wsX4_power) := goodIn_app (goodIn_of _ (by decide +kernel)) ggX4_isZeroAt_X4_power
theorem dX4_isZeroAt_0 : decode cX4_isZeroAt 0 = .ok (.iconst 0, 1) := by decide +kernel
theorem dX4_isZeroAt_1 : decode cX4_isZeroAt 1 = .ok (.istore 4, 2) := by decide +kernel
theorem dX4_isZeroAt_3 : decode cX4_isZeroAt 3 = .ok (.iload 4, 2) := by decide +kernel
theorem dX4_isZeroAt_5 : decode cX4_isZeroAt 5 = .ok (.sipush 220, 3) := by decide +kernel
theorem dX4_isZeroAt_8 : decode cX4_isZeroAt 8 = .ok (.if_icmp .ge 17, 3) := by decide +kernel
theorem dX4_isZeroAt_11 : decode cX4_isZeroAt 11 = .ok (.aload_n 0, 1) := by decide +kernel
theorem dX4_isZeroAt_12 : decode cX4_isZeroAt 12 = .ok (.getfield 45, 3) := by decide +kernel
theorem dX4_isZeroAt_15 : decode cX4_isZeroAt 15 = .ok (.iload 4, 2) := by decide +kernel
theorem dX4_isZeroAt_17 : decode cX4_isZeroAt 17 = .ok (.lconst 0, 1) := by decide +kernel
theorem dX4_isZeroAt_18 : decode cX4_isZeroAt 18 = .ok (.lastore, 1) := by decide +kernel
theorem dX4_isZeroAt_19 : decode cX4_isZeroAt 19 = .ok (.iinc 4 1, 3) := by decide +kernel
theorem dX4_isZeroAt_22 : decode cX4_isZeroAt 22 = .ok (.goto (-19), 3) := by decide +kernel
theorem dX4_isZeroAt_25 : decode cX4_isZeroAt 25 = .ok (.iconst 0, 1) := by decide +kernel
theorem dX4_isZeroAt_26 : decode cX4_isZeroAt 26 = .ok (.istore 4, 2) := by decide +kernel
theorem dX4_isZeroAt_28 : decode cX4_isZeroAt 28 = .ok (.iload 4, 2) := by decide +kernel
theorem dX4_isZeroAt_30 : decode cX4_isZeroAt 30 = .ok (.bipush 10, 2) := by decide +kernel
theorem dX4_isZeroAt_32 : decode cX4_isZeroAt 32 = .ok (.if_icmp .ge 149, 3) := by decide +kernel
theorem dX4_isZeroAt_35 : decode cX4_isZeroAt 35 = .ok (.iconst 0, 1) := by decide +kernel
theorem dX4_isZeroAt_36 : decode cX4_isZeroAt 36 = .ok (.istore 5, 2) := by decide +kernel
theorem dX4_isZeroAt_38 : decode cX4_isZeroAt 38 = .ok (.iload 4, 2) := by decide +kernel
theorem dX4_isZeroAt_40 : decode cX4_isZeroAt 40 = .ok (.iload 5, 2) := by decide +kernel
theorem dX4_isZeroAt_42 : decode cX4_isZeroAt 42 = .ok (.iadd, 1) := by decide +kernel
theorem dX4_isZeroAt_43 : decode cX4_isZeroAt 43 = .ok (.bipush 10, 2) := by decide +kernel
theorem dX4_isZeroAt_45 : decode cX4_isZeroAt 45 = .ok (.if_icmp .ge 130, 3) := by decide +kernel
theorem dX4_isZeroAt_48 : decode cX4_isZeroAt 48 = .ok (.iconst 0, 1) := by decide +kernel
theorem dX4_isZeroAt_49 : decode cX4_isZeroAt 49 = .ok (.istore 6, 2) := by decide +kernel
theorem dX4_isZeroAt_51 : decode cX4_isZeroAt 51 = .ok (.iload 4, 2) := by decide +kernel
theorem dX4_isZeroAt_53 : decode cX4_isZeroAt 53 = .ok (.iload 5, 2) := by decide +kernel
theorem dX4_isZeroAt_55 : decode cX4_isZeroAt 55 = .ok (.iadd, 1) := by decide +kernel
theorem dX4_isZeroAt_56 : decode cX4_isZeroAt 56 = .ok (.iload 6, 2) := by decide +kernel
theorem dX4_isZeroAt_58 : decode cX4_isZeroAt 58 = .ok (.iadd, 1) := by decide +kernel
theorem dX4_isZeroAt_59 : decode cX4_isZeroAt 59 = .ok (.bipush 10, 2) := by decide +kernel
theorem dX4_isZeroAt_61 : decode cX4_isZeroAt 61 = .ok (.if_icmp .ge 108, 3) := by decide +kernel
theorem dX4_isZeroAt_64 : decode cX4_isZeroAt 64 = .ok (.aload_n 0, 1) := by decide +kernel
theorem dX4_isZeroAt_65 : decode cX4_isZeroAt 65 = .ok (.getfield 22, 3) := by decide +kernel
theorem dX4_isZeroAt_68 : decode cX4_isZeroAt 68 = .ok (.sipush 220, 3) := by decide +kernel
theorem dX4_isZeroAt_71 : decode cX4_isZeroAt 71 = .ok (.iload_n 1, 1) := by decide +kernel
theorem dX4_isZeroAt_72 : decode cX4_isZeroAt 72 = .ok (.imul, 1) := by decide +kernel
theorem dX4_isZeroAt_73 : decode cX4_isZeroAt 73 = .ok (.iload 4, 2) := by decide +kernel
theorem dX4_isZeroAt_75 : decode cX4_isZeroAt 75 = .ok (.iload 5, 2) := by decide +kernel
theorem dX4_isZeroAt_77 : decode cX4_isZeroAt 77 = .ok (.iload 6, 2) := by decide +kernel
theorem dX4_isZeroAt_79 : decode cX4_isZeroAt 79 = .ok (.invokestatic 99, 3) := by decide +kernel
theorem dX4_isZeroAt_82 : decode cX4_isZeroAt 82 = .ok (.iadd, 1) := by decide +kernel
theorem dX4_isZeroAt_83 : decode cX4_isZeroAt 83 = .ok (.iaload, 1) := by decide +kernel
