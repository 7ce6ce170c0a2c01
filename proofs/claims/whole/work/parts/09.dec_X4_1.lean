theorem dX4_findWorst_197 : decode cX4_findWorst 197 = .ok (.iaload, 1) := by decide +kernel
theorem dX4_findWorst_198 : decode cX4_findWorst 198 = .ok (.aload_n 0, 1) := by decide +kernel
theorem dX4_findWorst_199 : decode cX4_findWorst 199 = .ok (.getfield 45, 3) := by decide +kernel
theorem dX4_findWorst_202 : decode cX4_findWorst 202 = .ok (.iload 5, 2) := by decide +kernel
theorem dX4_findWorst_204 : decode cX4_findWorst 204 = .ok (.iaload, 1) := by decide +kernel
theorem dX4_findWorst_205 : decode cX4_findWorst 205 = .ok (.if_icmp .le 8, 3) := by decide +kernel
theorem dX4_findWorst_208 : decode cX4_findWorst 208 = .ok (.iload 6, 2) := by decide +kernel
theorem dX4_findWorst_210 : decode cX4_findWorst 210 = .ok (.goto 5, 3) := by decide +kernel
theorem dX4_findWorst_213 : decode cX4_findWorst 213 = .ok (.iload 5, 2) := by decide +kernel
theorem dX4_findWorst_215 : decode cX4_findWorst 215 = .ok (.istore 5, 2) := by decide +kernel
theorem dX4_findWorst_217 : decode cX4_findWorst 217 = .ok (.iinc 6 1, 3) := by decide +kernel
theorem dX4_findWorst_220 : decode cX4_findWorst 220 = .ok (.goto (-53), 3) := by decide +kernel
theorem dX4_findWorst_223 : decode cX4_findWorst 223 = .ok (.iload 5, 2) := by decide +kernel
theorem dX4_findWorst_225 : decode cX4_findWorst 225 = .ok (.ifCond .lt 56, 3) := by decide +kernel
theorem dX4_findWorst_228 : decode cX4_findWorst 228 = .ok (.iload_n 3, 1) := by decide +kernel
theorem dX4_findWorst_229 : decode cX4_findWorst 229 = .ok (.aload_n 0, 1) := by decide +kernel
theorem dX4_findWorst_230 : decode cX4_findWorst 230 = .ok (.getfield 45, 3) := by decide +kernel
theorem dX4_findWorst_233 : decode cX4_findWorst 233 = .ok (.iload 5, 2) := by decide +kernel
theorem dX4_findWorst_235 : decode cX4_findWorst 235 = .ok (.iaload, 1) := by decide +kernel
theorem dX4_findWorst_236 : decode cX4_findWorst 236 = .ok (.iadd, 1) := by decide +kernel
theorem dX4_findWorst_237 : decode cX4_findWorst 237 = .ok (.istore_n 3, 1) := by decide +kernel
theorem dX4_findWorst_238 : decode cX4_findWorst 238 = .ok (.aload_n 0, 1) := by decide +kernel
theorem dX4_findWorst_239 : decode cX4_findWorst 239 = .ok (.getfield 45, 3) := by decide +kernel
theorem dX4_findWorst_242 : decode cX4_findWorst 242 = .ok (.iload 5, 2) := by decide +kernel
theorem dX4_findWorst_244 : decode cX4_findWorst 244 = .ok (.iconst 0, 1) := by decide +kernel
theorem dX4_findWorst_245 : decode cX4_findWorst 245 = .ok (.iastore, 1) := by decide +kernel
theorem dX4_findWorst_246 : decode cX4_findWorst 246 = .ok (.aload_n 0, 1) := by decide +kernel
theorem dX4_findWorst_247 : decode cX4_findWorst 247 = .ok (.getfield 48, 3) := by decide +kernel
theorem dX4_findWorst_250 : decode cX4_findWorst 250 = .ok (.iload 5, 2) := by decide +kernel
theorem dX4_findWorst_252 : decode cX4_findWorst 252 = .ok (.aload_n 0, 1) := by decide +kernel
theorem dX4_findWorst_253 : decode cX4_findWorst 253 = .ok (.iload_n 1, 1) := by decide +kernel
theorem dX4_findWorst_254 : decode cX4_findWorst 254 = .ok (.iload_n 2, 1) := by decide +kernel
theorem dX4_findWorst_255 : decode cX4_findWorst 255 = .ok (.iload 5, 2) := by decide +kernel
theorem dX4_findWorst_257 : decode cX4_findWorst 257 = .ok (.invokevirtual 93, 3) := by decide +kernel
theorem dX4_findWorst_260 : decode cX4_findWorst 260 = .ok (.ifCond .eq 13, 3) := by decide +kernel
theorem dX4_findWorst_263 : decode cX4_findWorst 263 = .ok (.aload_n 0, 1) := by decide +kernel
theorem dX4_findWorst_264 : decode cX4_findWorst 264 = .ok (.getfield 20, 3) := by decide +kernel
theorem dX4_findWorst_267 : decode cX4_findWorst 267 = .ok (.iload 5, 2) := by decide +kernel
theorem dX4_findWorst_269 : decode cX4_findWorst 269 = .ok (.iaload, 1) := by decide +kernel
theorem dX4_findWorst_270 : decode cX4_findWorst 270 = .ok (.goto 10, 3) := by decide +kernel
theorem dX4_findWorst_273 : decode cX4_findWorst 273 = .ok (.aload_n 0, 1) := by decide +kernel
theorem dX4_findWorst_274 : decode cX4_findWorst 274 = .ok (.getfield 13, 3) := by decide +kernel
theorem dX4_findWorst_277 : decode cX4_findWorst 277 = .ok (.iload 5, 2) := by decide +kernel
theorem dX4_findWorst_279 : decode cX4_findWorst 279 = .ok (.iaload, 1) := by decide +kernel
theorem dX4_findWorst_280 : decode cX4_findWorst 280 = .ok (.iastore, 1) := by decide +kernel
theorem dX4_findWorst_281 : decode cX4_findWorst 281 = .ok (.iinc 4 1, 3) := by decide +kernel
theorem dX4_findWorst_284 : decode cX4_findWorst 284 = .ok (.goto (-132), 3) := by decide +kernel
theorem dX4_findWorst_287 : decode cX4_findWorst 287 = .ok (.iload_n 3, 1) := by decide +kernel
theorem dX4_findWorst_288 : decode cX4_findWorst 288 = .ok (.ireturn, 1) := by decide +kernel
set_option maxRecDepth 20000 in
theorem ggX4_isUp_X4_isOn : GoodIn wsX4_isUp wsX4_isOn := goodIn_r _ [8, 9, 10, 11, 12, 13, 14, 15, 16, 17, 18, 19, 20, 21, 22, 23, 24, 25, 26, 27, 28, 29, 30] (by decide +kernel) (by decide +kernel)
set_option maxRecDepth 20000 in
theorem gX4_isUp_X4_isOn : GoodIn wsX4_isUp (wsV RX4 82 RX4 yX4_isOn wsX4_isOn) := goodIn_app (goodIn_of _ (by decide +kernel)) ggX4_isUp_X4_isOn
theorem dX4_isUp_0 : decode cX4_isUp 0 = .ok (.iconst 0, 1) := by decide +kernel
theorem dX4_isUp_1 : decode cX4_isUp 1 = .ok (.istore 4, 2) := by decide +kernel
theorem dX4_isUp_3 : decode cX4_isUp 3 = .ok (.iconst 0, 1) := by decide +kernel
theorem dX4_isUp_4 : decode cX4_isUp 4 = .ok (.istore 5, 2) := by decide +kernel
theorem dX4_isUp_6 : decode cX4_isUp 6 = .ok (.iload 5, 2) := by decide +kernel
theorem dX4_isUp_8 : decode cX4_isUp 8 = .ok (.aload_n 0, 1) := by decide +kernel
theorem dX4_isUp_9 : decode cX4_isUp 9 = .ok (.getfield 59, 3) := by decide +kernel
theorem dX4_isUp_12 : decode cX4_isUp 12 = .ok (.if_icmp .ge 47, 3) := by decide +kernel
theorem dX4_isUp_15 : decode cX4_isUp 15 = .ok (.iload 4, 2) := by decide +kernel
theorem dX4_isUp_17 : decode cX4_isUp 17 = .ok (.aload_n 0, 1) := by decide +kernel
theorem dX4_isUp_18 : decode cX4_isUp 18 = .ok (.iload 5, 2) := by decide +kernel
theorem dX4_isUp_20 : decode cX4_isUp 20 = .ok (.iload_n 1, 1) := by decide +kernel
theorem dX4_isUp_21 : decode cX4_isUp 21 = .ok (.iload_n 2, 1) := by decide +kernel
theorem dX4_isUp_22 : decode cX4_isUp 22 = .ok (.invokevirtual 82, 3) := by decide +kernel
theorem dX4_isUp_25 : decode cX4_isUp 25 = .ok (.ifCond .eq 24, 3) := by decide +kernel
theorem dX4_isUp_28 : decode cX4_isUp 28 = .ok (.aload_n 0, 1) := by decide +kernel
theorem dX4_isUp_29 : decode cX4_isUp 29 = .ok (.getfield 29, 3) := by decide +kernel
theorem dX4_isUp_32 : decode cX4_isUp 32 = .ok (.iload 5, 2) := by decide +kernel
theorem dX4_isUp_34 : decode cX4_isUp 34 = .ok (.iaload, 1) := by decide +kernel
theorem dX4_isUp_35 : decode cX4_isUp 35 = .ok (.iload_n 3, 1) := by decide +kernel
theorem dX4_isUp_36 : decode cX4_isUp 36 = .ok (.if_icmp .ne 13, 3) := by decide +kernel
theorem dX4_isUp_39 : decode cX4_isUp 39 = .ok (.aload_n 0, 1) := by decide +kernel
theorem dX4_isUp_40 : decode cX4_isUp 40 = .ok (.getfield 32, 3) := by decide +kernel
theorem dX4_isUp_43 : decode cX4_isUp 43 = .ok (.iload 5, 2) := by decide +kernel
theorem dX4_isUp_45 : decode cX4_isUp 45 = .ok (.iaload, 1) := by decide +kernel
theorem dX4_isUp_46 : decode cX4_isUp 46 = .ok (.goto 4, 3) := by decide +kernel
theorem dX4_isUp_49 : decode cX4_isUp 49 = .ok (.iconst 0, 1) := by decide +kernel
theorem dX4_isUp_50 : decode cX4_isUp 50 = .ok (.iadd, 1) := by decide +kernel
theorem dX4_isUp_51 : decode cX4_isUp 51 = .ok (.istore 4, 2) := by decide +kernel
theorem dX4_isUp_53 : decode cX4_isUp 53 = .ok (.iinc 5 1, 3) := by decide +kernel
theorem dX4_isUp_56 : decode cX4_isUp 56 = .ok (.goto (-50), 3) := by decide +kernel
theorem dX4_isUp_59 : decode cX4_isUp 59 = .ok (.iload 4, 2) := by decide +kernel
theorem dX4_isUp_61 : decode cX4_isUp 61 = .ok (.ifCond .le 7, 3) := by decide +kernel
theorem dX4_isUp_64 : decode cX4_isUp 64 = .ok (.iconst 1, 1) := by decide +kernel
theorem dX4_isUp_65 : decode cX4_isUp 65 = .ok (.goto 4, 3) := by decide +kernel
theorem dX4_isUp_68 : decode cX4_isUp 68 = .ok (.iconst 0, 1) := by decide +kernel
theorem dX4_isUp_69 : decode cX4_isUp 69 = .ok (.ireturn, 1) := by decide +kernel
set_option maxRecDepth 20000 in
theorem ggX4_worst_X4_isPlan : GoodIn wsX4_worst wsX4_isPlan := goodIn_r _ [7, 8, 9, 10, 11, 6, 12, 42, 43, 44, 45, 46, 47, 48, 49, 50, 51, 52, 53, 54, 55, 56, 57, 58, 59, 60, 61] (by decide +kernel) (by decide +kernel)
set_option maxRecDepth 20000 in
theorem gX4_worst_X4_isPlan : GoodIn wsX4_worst (wsV RX4 85 RX4 yX4_isPlan wsX4_isPlan) := goodIn_app (goodIn_of _ (by decide +kernel)) ggX4_worst_X4_isPlan
set_option maxRecDepth 20000 in
theorem ggX4_worst_X4_in : GoodIn wsX4_worst wsX4_in := goodIn_r _ [12] (by decide +kernel) (by decide +kernel)
set_option maxRecDepth 20000 in
theorem gX4_worst_X4_in : GoodIn wsX4_worst (va_wsS RX4 54 yX4_in wsX4_in) := goodIn_app (goodIn_of _ (by decide +kernel)) ggX4_worst_X4_in
set_option maxRecDepth 20000 in
theorem ggX4_worst_X4_findWorst : GoodIn wsX4_worst wsX4_findWorst := goodIn_r _ [16, 17, 18, 19, 20, 21, 22, 23, 24, 25, 26, 27, 28, 29, 6, 30, 31, 32, 33, 34, 35, 36, 37, 38, 39, 40, 41, 42, 43, 44, 45, 46, 47, 48, 49, 50, 51, 52, 53, 54, 55, 56, 57, 58, 59, 60, 61] (by decide +kernel) (by decide +kernel)
set_option maxRecDepth 20000 in
theorem gX4_worst_X4_findWorst : GoodIn wsX4_worst (wsV RX4 96 RX4 yX4_findWorst wsX4_findWorst) := goodIn_app (goodIn_of _ (by decide +kernel)) ggX4_worst_X4_findWorst
theorem dX4_worst_0 : decode cX4_worst 0 = .ok (.aload_n 0, 1) := by decide +kernel
theorem dX4_worst_1 : decode cX4_worst 1 = .ok (.iload_n 1, 1) := by decide +kernel
theorem dX4_worst_2 : decode cX4_worst 2 = .ok (.invokevirtual 85, 3) := by decide +kernel
theorem dX4_worst_5 : decode cX4_worst 5 = .ok (.ifCond .eq 26, 3) := by decide +kernel
theorem dX4_worst_8 : decode cX4_worst 8 = .ok (.iload_n 2, 1) := by decide +kernel
theorem dX4_worst_9 : decode cX4_worst 9 = .ok (.iconst (-1), 1) := by decide +kernel
theorem dX4_worst_10 : decode cX4_worst 10 = .ok (.aload_n 0, 1) := by decide +kernel
theorem dX4_worst_11 : decode cX4_worst 11 = .ok (.getfield 71, 3) := by decide +kernel
theorem dX4_worst_14 : decode cX4_worst 14 = .ok (.iconst 1, 1) := by decide +kernel
theorem dX4_worst_15 : decode cX4_worst 15 = .ok (.isub, 1) := by decide +kernel
theorem dX4_worst_16 : decode cX4_worst 16 = .ok (.invokestatic 54, 3) := by decide +kernel
theorem dX4_worst_19 : decode cX4_worst 19 = .ok (.ifCond .eq 12, 3) := by decide +kernel
theorem dX4_worst_22 : decode cX4_worst 22 = .ok (.aload_n 0, 1) := by decide +kernel
theorem dX4_worst_23 : decode cX4_worst 23 = .ok (.iload_n 1, 1) := by decide +kernel
theorem dX4_worst_24 : decode cX4_worst 24 = .ok (.iload_n 2, 1) := by decide +kernel
theorem dX4_worst_25 : decode cX4_worst 25 = .ok (.invokevirtual 96, 3) := by decide +kernel
theorem dX4_worst_28 : decode cX4_worst 28 = .ok (.goto 5, 3) := by decide +kernel
theorem dX4_worst_31 : decode cX4_worst 31 = .ok (.ldc 58, 2) := by decide +kernel
theorem dX4_worst_33 : decode cX4_worst 33 = .ok (.ireturn, 1) := by decide +kernel
set_option maxRecDepth 20000 in
theorem ggX4_worstName_X4_isPlan : GoodIn wsX4_worstName wsX4_isPlan := goodIn_r _ [9, 10, 11, 12, 13, 8, 14, 42, 43, 44, 45, 46, 47, 48, 49, 50, 51, 52, 53, 54, 55, 56, 57, 58, 59, 60, 61] (by decide +kernel) (by decide +kernel)
set_option maxRecDepth 20000 in
theorem gX4_worstName_X4_isPlan : GoodIn wsX4_worstName (wsV RX4 85 RX4 yX4_isPlan wsX4_isPlan) := goodIn_app (goodIn_of _ (by decide +kernel)) ggX4_worstName_X4_isPlan
set_option maxRecDepth 20000 in
theorem ggX4_worstName_X4_in : GoodIn wsX4_worstName wsX4_in := goodIn_r _ [14] (by decide +kernel) (by decide +kernel)
set_option maxRecDepth 20000 in
theorem gX4_worstName_X4_in : GoodIn wsX4_worstName (va_wsS RX4 54 yX4_in wsX4_in) := goodIn_app (goodIn_of _ (by decide +kernel)) ggX4_worstName_X4_in
set_option maxRecDepth 20000 in
theorem ggX4_worstName_X4_findWorst : GoodIn wsX4_worstName wsX4_findWorst := goodIn_r _ [18, 2, 19, 20, 21, 22, 23, 24, 25, 4, 26, 27, 28, 29, 8, 30, 31, 32, 33, 34, 35, 36, 37, 38, 39, 40, 41, 42, 43, 44, 45, 46, 47, 48, 49, 50, 51, 52, 53, 54, 55, 56, 57, 58, 59, 60, 61] (by decide +kernel) (by decide +kernel)
set_option maxRecDepth 20000 in
theorem gX4_worstName_X4_findWorst : GoodIn wsX4_worstName (wsV RX4 96 RX4 yX4_findWorst wsX4_findWorst) := goodIn_app (goodIn_of _ (by decide +kernel)) ggX4_worstName_X4_findWorst
theorem dX4_worstName_0 : decode cX4_worstName 0 = .ok (.aload_n 0, 1) := by decide +kernel
theorem dX4_worstName_1 : decode cX4_worstName 1 = .ok (.iload_n 1, 1) := by decide +kernel
theorem dX4_worstName_2 : decode cX4_worstName 2 = .ok (.invokevirtual 85, 3) := by decide +kernel
theorem dX4_worstName_5 : decode cX4_worstName 5 = .ok (.ifCond .eq 31, 3) := by decide +kernel
theorem dX4_worstName_8 : decode cX4_worstName 8 = .ok (.iload_n 2, 1) := by decide +kernel
theorem dX4_worstName_9 : decode cX4_worstName 9 = .ok (.iconst (-1), 1) := by decide +kernel
theorem dX4_worstName_10 : decode cX4_worstName 10 = .ok (.aload_n 0, 1) := by decide +kernel
theorem dX4_worstName_11 : decode cX4_worstName 11 = .ok (.getfield 71, 3) := by decide +kernel
theorem dX4_worstName_14 : decode cX4_worstName 14 = .ok (.iconst 1, 1) := by decide +kernel
theorem dX4_worstName_15 : decode cX4_worstName 15 = .ok (.isub, 1) := by decide +kernel
theorem dX4_worstName_16 : decode cX4_worstName 16 = .ok (.invokestatic 54, 3) := by decide +kernel
theorem dX4_worstName_19 : decode cX4_worstName 19 = .ok (.ifCond .eq 17, 3) := by decide +kernel
theorem dX4_worstName_22 : decode cX4_worstName 22 = .ok (.iload_n 3, 1) := by decide +kernel
theorem dX4_worstName_23 : decode cX4_worstName 23 = .ok (.iconst 0, 1) := by decide +kernel
theorem dX4_worstName_24 : decode cX4_worstName 24 = .ok (.aload_n 0, 1) := by decide +kernel
theorem dX4_worstName_25 : decode cX4_worstName 25 = .ok (.getfield 65, 3) := by decide +kernel
theorem dX4_worstName_28 : decode cX4_worstName 28 = .ok (.iconst 1, 1) := by decide +kernel
theorem dX4_worstName_29 : decode cX4_worstName 29 = .ok (.isub, 1) := by decide +kernel
theorem dX4_worstName_30 : decode cX4_worstName 30 = .ok (.invokestatic 54, 3) := by decide +kernel
theorem dX4_worstName_33 : decode cX4_worstName 33 = .ok (.ifCond .ne 6, 3) := by decide +kernel
theorem dX4_worstName_36 : decode cX4_worstName 36 = .ok (.ldc 58, 2) := by decide +kernel
theorem dX4_worstName_38 : decode cX4_worstName 38 = .ok (.ireturn, 1) := by decide +kernel
theorem dX4_worstName_39 : decode cX4_worstName 39 = .ok (.aload_n 0, 1) := by decide +kernel
theorem dX4_worstName_40 : decode cX4_worstName 40 = .ok (.iload_n 1, 1) := by decide +kernel
theorem dX4_worstName_41 : decode cX4_worstName 41 = .ok (.iload_n 2, 1) := by decide +kernel
theorem dX4_worstName_42 : decode cX4_worstName 42 = .ok (.invokevirtual 96, 3) := by decide +kernel
theorem dX4_worstName_45 : decode cX4_worstName 45 = .ok (.istore 4, 2) := by decide +kernel
theorem dX4_worstName_47 : decode cX4_worstName 47 = .ok (.aload_n 0, 1) := by decide +kernel
theorem dX4_worstName_48 : decode cX4_worstName 48 = .ok (.getfield 48, 3) := by decide +kernel
theorem dX4_worstName_51 : decode cX4_worstName 51 = .ok (.iload_n 3, 1) := by decide +kernel
theorem dX4_worstName_52 : decode cX4_worstName 52 = .ok (.iaload, 1) := by decide +kernel
theorem dX4_worstName_53 : decode cX4_worstName 53 = .ok (.ireturn, 1) := by decide +kernel
set_option maxRecDepth 20000 in
theorem ggX4_breaks_X4_isPlan : GoodIn wsX4_breaks wsX4_isPlan := goodIn_r _ [8, 9, 10, 11, 12, 7, 13, 43, 44, 45, 46, 47, 48, 49, 50, 51, 52, 53, 54, 55, 56, 57, 58, 59, 60, 61, 62] (by decide +kernel) (by decide +kernel)
set_option maxRecDepth 20000 in
theorem gX4_breaks_X4_isPlan : GoodIn wsX4_breaks (wsV RX4 85 RX4 yX4_isPlan wsX4_isPlan) := goodIn_app (goodIn_of _ (by decide +kernel)) ggX4_breaks_X4_isPlan
set_option maxRecDepth 20000 in
theorem ggX4_breaks_X4_findWorst : GoodIn wsX4_breaks wsX4_findWorst := goodIn_r _ [17, 18, 19, 20, 21, 22, 23, 24, 25, 26, 27, 28, 29, 30, 7, 31, 32, 33, 34, 35, 36, 37, 38, 39, 40, 41, 42, 43, 44, 45, 46, 47, 48, 49, 50, 51, 52, 53, 54, 55, 56, 57, 58, 59, 60, 61, 62] (by decide +kernel) (by decide +kernel)
set_option maxRecDepth 20000 in
theorem gX4_breaks_X4_findWorst : GoodIn wsX4_breaks (wsV RX4 96 RX4 yX4_findWorst wsX4_findWorst) := goodIn_app (goodIn_of _ (by decide +kernel)) ggX4_breaks_X4_findWorst
theorem dX4_breaks_0 : decode cX4_breaks 0 = .ok (.aload_n 0, 1) := by decide +kernel
theorem dX4_breaks_1 : decode cX4_breaks 1 = .ok (.iload_n 1, 1) := by decide +kernel
theorem dX4_breaks_2 : decode cX4_breaks 2 = .ok (.invokevirtual 85, 3) := by decide +kernel
theorem dX4_breaks_5 : decode cX4_breaks 5 = .ok (.ifCond .ne 6, 3) := by decide +kernel
theorem dX4_breaks_8 : decode cX4_breaks 8 = .ok (.ldc 58, 2) := by decide +kernel
theorem dX4_breaks_10 : decode cX4_breaks 10 = .ok (.ireturn, 1) := by decide +kernel
theorem dX4_breaks_11 : decode cX4_breaks 11 = .ok (.iconst 0, 1) := by decide +kernel
theorem dX4_breaks_12 : decode cX4_breaks 12 = .ok (.istore_n 2, 1) := by decide +kernel
theorem dX4_breaks_13 : decode cX4_breaks 13 = .ok (.iload_n 2, 1) := by decide +kernel
theorem dX4_breaks_14 : decode cX4_breaks 14 = .ok (.aload_n 0, 1) := by decide +kernel
theorem dX4_breaks_15 : decode cX4_breaks 15 = .ok (.getfield 71, 3) := by decide +kernel
theorem dX4_breaks_18 : decode cX4_breaks 18 = .ok (.if_icmp .ge 20, 3) := by decide +kernel
theorem dX4_breaks_21 : decode cX4_breaks 21 = .ok (.aload_n 0, 1) := by decide +kernel
theorem dX4_breaks_22 : decode cX4_breaks 22 = .ok (.iload_n 1, 1) := by decide +kernel
theorem dX4_breaks_23 : decode cX4_breaks 23 = .ok (.iload_n 2, 1) := by decide +kernel
theorem dX4_breaks_24 : decode cX4_breaks 24 = .ok (.invokevirtual 96, 3) := by decide +kernel
theorem dX4_breaks_27 : decode cX4_breaks 27 = .ok (.ifCond .le 5, 3) := by decide +kernel
theorem dX4_breaks_30 : decode cX4_breaks 30 = .ok (.iload_n 2, 1) := by decide +kernel
theorem dX4_breaks_31 : decode cX4_breaks 31 = .ok (.ireturn, 1) := by decide +kernel
theorem dX4_breaks_32 : decode cX4_breaks 32 = .ok (.iinc 2 1, 3) := by decide +kernel
theorem dX4_breaks_35 : decode cX4_breaks 35 = .ok (.goto (-22), 3) := by decide +kernel
theorem dX4_breaks_38 : decode cX4_breaks 38 = .ok (.ldc 100, 2) := by decide +kernel
theorem dX4_breaks_40 : decode cX4_breaks 40 = .ok (.ireturn, 1) := by decide +kernel
set_option maxRecDepth 20000 in
theorem ggX4_safest_X4_breaks : GoodIn wsX4_safest wsX4_breaks := goodIn_r _ [8, 9, 10, 1, 11, 12, 13, 7, 14, 2, 3, 15, 16, 17, 18, 19, 20, 21, 22, 23, 24, 25, 26, 27, 28, 29, 30, 31, 32, 33, 34, 35, 36, 37, 38, 39, 40, 41, 42, 43, 44, 45, 46, 47, 48, 49, 50, 51, 52, 53, 54, 55, 56, 57, 58, 59, 60, 61, 62, 63, 64, 65, 66] (by decide +kernel) (by decide +kernel)
set_option maxRecDepth 20000 in
theorem gX4_safest_X4_breaks : GoodIn wsX4_safest (wsV RX4 101 RX4 yX4_breaks wsX4_breaks) := goodIn_app (goodIn_of _ (by decide +kernel)) ggX4_safest_X4_breaks
set_option maxRecDepth 20000 in
theorem ggX4_safest_X4_findWorst : GoodIn wsX4_safest wsX4_findWorst := goodIn_r _ [21, 22, 23, 24, 25, 26, 27, 28, 29, 30, 31, 32, 33, 34, 7, 35, 36, 37, 38, 39, 40, 41, 42, 43, 44, 45, 46, 47, 48, 49, 50, 51, 52, 53, 54, 55, 56, 57, 58, 59, 60, 61, 62, 63, 64, 65, 66] (by decide +kernel) (by decide +kernel)
set_option maxRecDepth 20000 in
theorem gX4_safest_X4_findWorst : GoodIn wsX4_safest (wsV RX4 96 RX4 yX4_findWorst wsX4_findWorst) := goodIn_app (goodIn_of _ (by decide +kernel)) ggX4_safest_X4_findWorst
theorem dX4_safest_0 : decode cX4_safest 0 = .ok (.ldc 100, 2) := by decide +kernel
theorem dX4_safest_2 : decode cX4_safest 2 = .ok (.istore_n 1, 1) := by decide +kernel
theorem dX4_safest_3 : decode cX4_safest 3 = .ok (.iconst 0, 1) := by decide +kernel
theorem dX4_safest_4 : decode cX4_safest 4 = .ok (.istore_n 2, 1) := by decide +kernel
theorem dX4_safest_5 : decode cX4_safest 5 = .ok (.iconst 0, 1) := by decide +kernel
theorem dX4_safest_6 : decode cX4_safest 6 = .ok (.istore_n 3, 1) := by decide +kernel
theorem dX4_safest_7 : decode cX4_safest 7 = .ok (.iload_n 3, 1) := by decide +kernel
theorem dX4_safest_8 : decode cX4_safest 8 = .ok (.iconst 1, 1) := by decide +kernel
theorem dX4_safest_9 : decode cX4_safest 9 = .ok (.aload_n 0, 1) := by decide +kernel
theorem dX4_safest_10 : decode cX4_safest 10 = .ok (.getfield 7, 3) := by decide +kernel
theorem dX4_safest_13 : decode cX4_safest 13 = .ok (.aload_n 0, 1) := by decide +kernel
theorem dX4_safest_14 : decode cX4_safest 14 = .ok (.getfield 62, 3) := by decide +kernel
theorem dX4_safest_17 : decode cX4_safest 17 = .ok (.iadd, 1) := by decide +kernel
theorem dX4_safest_18 : decode cX4_safest 18 = .ok (.ishl, 1) := by decide +kernel
theorem dX4_safest_19 : decode cX4_safest 19 = .ok (.if_icmp .ge 69, 3) := by decide +kernel
theorem dX4_safest_22 : decode cX4_safest 22 = .ok (.aload_n 0, 1) := by decide +kernel
theorem dX4_safest_23 : decode cX4_safest 23 = .ok (.iload_n 3, 1) := by decide +kernel
theorem dX4_safest_24 : decode cX4_safest 24 = .ok (.invokevirtual 101, 3) := by decide +kernel
theorem dX4_safest_27 : decode cX4_safest 27 = .ok (.ldc 100, 2) := by decide +kernel
theorem dX4_safest_29 : decode cX4_safest 29 = .ok (.if_icmp .ne 53, 3) := by decide +kernel
theorem dX4_safest_32 : decode cX4_safest 32 = .ok (.aload_n 0, 1) := by decide +kernel
theorem dX4_safest_33 : decode cX4_safest 33 = .ok (.iload_n 3, 1) := by decide +kernel
theorem dX4_safest_34 : decode cX4_safest 34 = .ok (.iconst (-1), 1) := by decide +kernel
theorem dX4_safest_35 : decode cX4_safest 35 = .ok (.invokevirtual 96, 3) := by decide +kernel
theorem dX4_safest_38 : decode cX4_safest 38 = .ok (.istore 4, 2) := by decide +kernel
theorem dX4_safest_40 : decode cX4_safest 40 = .ok (.iload_n 1, 1) := by decide +kernel
theorem dX4_safest_41 : decode cX4_safest 41 = .ok (.ldc 100, 2) := by decide +kernel
theorem dX4_safest_43 : decode cX4_safest 43 = .ok (.if_icmp .eq 9, 3) := by decide +kernel
theorem dX4_safest_46 : decode cX4_safest 46 = .ok (.iload 4, 2) := by decide +kernel
theorem dX4_safest_48 : decode cX4_safest 48 = .ok (.iload_n 2, 1) := by decide +kernel
theorem dX4_safest_49 : decode cX4_safest 49 = .ok (.if_icmp .ge 7, 3) := by decide +kernel
theorem dX4_safest_52 : decode cX4_safest 52 = .ok (.iconst 1, 1) := by decide +kernel
theorem dX4_safest_53 : decode cX4_safest 53 = .ok (.goto 4, 3) := by decide +kernel
theorem dX4_safest_56 : decode cX4_safest 56 = .ok (.iconst 0, 1) := by decide +kernel
theorem dX4_safest_57 : decode cX4_safest 57 = .ok (.istore 5, 2) := by decide +kernel
theorem dX4_safest_59 : decode cX4_safest 59 = .ok (.iload 5, 2) := by decide +kernel
theorem dX4_safest_61 : decode cX4_safest 61 = .ok (.ifCond .eq 7, 3) := by decide +kernel
theorem dX4_safest_64 : decode cX4_safest 64 = .ok (.iload_n 3, 1) := by decide +kernel
theorem dX4_safest_65 : decode cX4_safest 65 = .ok (.goto 4, 3) := by decide +kernel
theorem dX4_safest_68 : decode cX4_safest 68 = .ok (.iload_n 1, 1) := by decide +kernel
theorem dX4_safest_69 : decode cX4_safest 69 = .ok (.istore_n 1, 1) := by decide +kernel
theorem dX4_safest_70 : decode cX4_safest 70 = .ok (.iload 5, 2) := by decide +kernel
theorem dX4_safest_72 : decode cX4_safest 72 = .ok (.ifCond .eq 8, 3) := by decide +kernel
theorem dX4_safest_75 : decode cX4_safest 75 = .ok (.iload 4, 2) := by decide +kernel
theorem dX4_safest_77 : decode cX4_safest 77 = .ok (.goto 4, 3) := by decide +kernel
theorem dX4_safest_80 : decode cX4_safest 80 = .ok (.iload_n 2, 1) := by decide +kernel
theorem dX4_safest_81 : decode cX4_safest 81 = .ok (.istore_n 2, 1) := by decide +kernel
theorem dX4_safest_82 : decode cX4_safest 82 = .ok (.iinc 3 1, 3) := by decide +kernel
theorem dX4_safest_85 : decode cX4_safest 85 = .ok (.goto (-78), 3) := by decide +kernel
theorem dX4_safest_88 : decode cX4_safest 88 = .ok (.iload_n 1, 1) := by decide +kernel
theorem dX4_safest_89 : decode cX4_safest 89 = .ok (.ireturn, 1) := by decide +kernel
set_option maxRecDepth 20000 in
theorem ggX4_holds_X4_sum : GoodIn wsX4_holds wsX4_sum := goodIn_r _ [6, 7, 8, 9, 10, 11, 12, 13, 14, 5, 15, 16, 17, 18, 19, 20, 21, 22, 23, 24, 25, 26, 27, 28, 29, 30, 31, 32, 33, 34, 35, 36, 37] (by decide +kernel) (by decide +kernel)
set_option maxRecDepth 20000 in
theorem gX4_holds_X4_sum : GoodIn wsX4_holds (wsV RX4 89 RX4 yX4_sum wsX4_sum) := goodIn_app (goodIn_of _ (by decide +kernel)) ggX4_holds_X4_sum
theorem dX4_holds_0 : decode cX4_holds 0 = .ok (.iconst 0, 1) := by decide +kernel
theorem dX4_holds_1 : decode cX4_holds 1 = .ok (.istore_n 3, 1) := by decide +kernel
theorem dX4_holds_2 : decode cX4_holds 2 = .ok (.iload_n 3, 1) := by decide +kernel
theorem dX4_holds_3 : decode cX4_holds 3 = .ok (.aload_n 0, 1) := by decide +kernel
theorem dX4_holds_4 : decode cX4_holds 4 = .ok (.getfield 71, 3) := by decide +kernel
theorem dX4_holds_7 : decode cX4_holds 7 = .ok (.if_icmp .ge 21, 3) := by decide +kernel
theorem dX4_holds_10 : decode cX4_holds 10 = .ok (.aload_n 0, 1) := by decide +kernel
theorem dX4_holds_11 : decode cX4_holds 11 = .ok (.iload_n 1, 1) := by decide +kernel
theorem dX4_holds_12 : decode cX4_holds 12 = .ok (.iload_n 3, 1) := by decide +kernel
theorem dX4_holds_13 : decode cX4_holds 13 = .ok (.iload_n 2, 1) := by decide +kernel
theorem dX4_holds_14 : decode cX4_holds 14 = .ok (.invokevirtual 89, 3) := by decide +kernel
theorem dX4_holds_17 : decode cX4_holds 17 = .ok (.ifCond .le 5, 3) := by decide +kernel
theorem dX4_holds_20 : decode cX4_holds 20 = .ok (.iconst 0, 1) := by decide +kernel
theorem dX4_holds_21 : decode cX4_holds 21 = .ok (.ireturn, 1) := by decide +kernel
theorem dX4_holds_22 : decode cX4_holds 22 = .ok (.iinc 3 1, 3) := by decide +kernel
theorem dX4_holds_25 : decode cX4_holds 25 = .ok (.goto (-23), 3) := by decide +kernel
theorem dX4_holds_28 : decode cX4_holds 28 = .ok (.iconst 1, 1) := by decide +kernel
theorem dX4_holds_29 : decode cX4_holds 29 = .ok (.ireturn, 1) := by decide +kernel
set_option maxRecDepth 20000 in
theorem ggX4_answerTo_X4_holds : GoodIn wsX4_answerTo wsX4_holds := goodIn_r _ [8, 9, 10, 11, 12, 7, 13, 14, 15, 16, 17, 18, 19, 20, 21, 22, 23, 24, 25, 26, 27, 28, 29, 30, 31, 32, 33, 34, 35, 36, 37, 38, 39, 40, 41, 42, 43, 44] (by decide +kernel) (by decide +kernel)
set_option maxRecDepth 20000 in
theorem gX4_answerTo_X4_holds : GoodIn wsX4_answerTo (wsV RX4 105 RX4 yX4_holds wsX4_holds) := goodIn_app (goodIn_of _ (by decide +kernel)) ggX4_answerTo_X4_holds
set_option maxRecDepth 20000 in
theorem ggX4_answerTo_X4_sum : GoodIn wsX4_answerTo wsX4_sum := goodIn_r _ [13, 14, 15, 16, 17, 18, 19, 20, 21, 7, 22, 23, 24, 25, 26, 27, 28, 29, 30, 31, 32, 33, 34, 35, 36, 37, 38, 39, 40, 41, 42, 43, 44] (by decide +kernel) (by decide +kernel)
set_option maxRecDepth 20000 in
theorem gX4_answerTo_X4_sum : GoodIn wsX4_answerTo (wsV RX4 89 RX4 yX4_sum wsX4_sum) := goodIn_app (goodIn_of _ (by decide +kernel)) ggX4_answerTo_X4_sum
theorem dX4_answerTo_0 : decode cX4_answerTo 0 = .ok (.ldc 100, 2) := by decide +kernel
theorem dX4_answerTo_2 : decode cX4_answerTo 2 = .ok (.istore_n 3, 1) := by decide +kernel
theorem dX4_answerTo_3 : decode cX4_answerTo 3 = .ok (.iconst 0, 1) := by decide +kernel
theorem dX4_answerTo_4 : decode cX4_answerTo 4 = .ok (.istore 4, 2) := by decide +kernel
theorem dX4_answerTo_6 : decode cX4_answerTo 6 = .ok (.iconst 0, 1) := by decide +kernel
theorem dX4_answerTo_7 : decode cX4_answerTo 7 = .ok (.istore 5, 2) := by decide +kernel
theorem dX4_answerTo_9 : decode cX4_answerTo 9 = .ok (.iload 5, 2) := by decide +kernel
theorem dX4_answerTo_11 : decode cX4_answerTo 11 = .ok (.iconst 1, 1) := by decide +kernel
theorem dX4_answerTo_12 : decode cX4_answerTo 12 = .ok (.aload_n 0, 1) := by decide +kernel
theorem dX4_answerTo_13 : decode cX4_answerTo 13 = .ok (.getfield 62, 3) := by decide +kernel
theorem dX4_answerTo_16 : decode cX4_answerTo 16 = .ok (.ishl, 1) := by decide +kernel
theorem dX4_answerTo_17 : decode cX4_answerTo 17 = .ok (.if_icmp .ge 86, 3) := by decide +kernel
theorem dX4_answerTo_20 : decode cX4_answerTo 20 = .ok (.iload_n 1, 1) := by decide +kernel
theorem dX4_answerTo_21 : decode cX4_answerTo 21 = .ok (.iload 5, 2) := by decide +kernel
theorem dX4_answerTo_23 : decode cX4_answerTo 23 = .ok (.aload_n 0, 1) := by decide +kernel
theorem dX4_answerTo_24 : decode cX4_answerTo 24 = .ok (.getfield 7, 3) := by decide +kernel
theorem dX4_answerTo_27 : decode cX4_answerTo 27 = .ok (.ishl, 1) := by decide +kernel
theorem dX4_answerTo_28 : decode cX4_answerTo 28 = .ok (.ior, 1) := by decide +kernel
theorem dX4_answerTo_29 : decode cX4_answerTo 29 = .ok (.istore 6, 2) := by decide +kernel
theorem dX4_answerTo_31 : decode cX4_answerTo 31 = .ok (.aload_n 0, 1) := by decide +kernel
theorem dX4_answerTo_32 : decode cX4_answerTo 32 = .ok (.iload 6, 2) := by decide +kernel
theorem dX4_answerTo_34 : decode cX4_answerTo 34 = .ok (.iload_n 2, 1) := by decide +kernel
theorem dX4_answerTo_35 : decode cX4_answerTo 35 = .ok (.invokevirtual 105, 3) := by decide +kernel
theorem dX4_answerTo_38 : decode cX4_answerTo 38 = .ok (.ifCond .eq 59, 3) := by decide +kernel
theorem dX4_answerTo_41 : decode cX4_answerTo 41 = .ok (.aload_n 0, 1) := by decide +kernel
theorem dX4_answerTo_42 : decode cX4_answerTo 42 = .ok (.iload 6, 2) := by decide +kernel
theorem dX4_answerTo_44 : decode cX4_answerTo 44 = .ok (.iconst (-1), 1) := by decide +kernel
theorem dX4_answerTo_45 : decode cX4_answerTo 45 = .ok (.iload_n 2, 1) := by decide +kernel
theorem dX4_answerTo_46 : decode cX4_answerTo 46 = .ok (.invokevirtual 89, 3) := by decide +kernel
theorem dX4_answerTo_49 : decode cX4_answerTo 49 = .ok (.istore 7, 2) := by decide +kernel
theorem dX4_answerTo_51 : decode cX4_answerTo 51 = .ok (.iload_n 3, 1) := by decide +kernel
theorem dX4_answerTo_52 : decode cX4_answerTo 52 = .ok (.ldc 100, 2) := by decide +kernel
theorem dX4_answerTo_54 : decode cX4_answerTo 54 = .ok (.if_icmp .eq 10, 3) := by decide +kernel
theorem dX4_answerTo_57 : decode cX4_answerTo 57 = .ok (.iload 7, 2) := by decide +kernel
theorem dX4_answerTo_59 : decode cX4_answerTo 59 = .ok (.iload 4, 2) := by decide +kernel
theorem dX4_answerTo_61 : decode cX4_answerTo 61 = .ok (.if_icmp .ge 7, 3) := by decide +kernel
theorem dX4_answerTo_64 : decode cX4_answerTo 64 = .ok (.iconst 1, 1) := by decide +kernel
theorem dX4_answerTo_65 : decode cX4_answerTo 65 = .ok (.goto 4, 3) := by decide +kernel
theorem dX4_answerTo_68 : decode cX4_answerTo 68 = .ok (.iconst 0, 1) := by decide +kernel
theorem dX4_answerTo_69 : decode cX4_answerTo 69 = .ok (.istore 8, 2) := by decide +kernel
theorem dX4_answerTo_71 : decode cX4_answerTo 71 = .ok (.iload 8, 2) := by decide +kernel
theorem dX4_answerTo_73 : decode cX4_answerTo 73 = .ok (.ifCond .eq 8, 3) := by decide +kernel
theorem dX4_answerTo_76 : decode cX4_answerTo 76 = .ok (.iload 6, 2) := by decide +kernel
theorem dX4_answerTo_78 : decode cX4_answerTo 78 = .ok (.goto 4, 3) := by decide +kernel
theorem dX4_answerTo_81 : decode cX4_answerTo 81 = .ok (.iload_n 3, 1) := by decide +kernel
theorem dX4_answerTo_82 : decode cX4_answerTo 82 = .ok (.istore_n 3, 1) := by decide +kernel
theorem dX4_answerTo_83 : decode cX4_answerTo 83 = .ok (.iload 8, 2) := by decide +kernel
theorem dX4_answerTo_85 : decode cX4_answerTo 85 = .ok (.ifCond .eq 8, 3) := by decide +kernel
theorem dX4_answerTo_88 : decode cX4_answerTo 88 = .ok (.iload 7, 2) := by decide +kernel
theorem dX4_answerTo_90 : decode cX4_answerTo 90 = .ok (.goto 5, 3) := by decide +kernel
theorem dX4_answerTo_93 : decode cX4_answerTo 93 = .ok (.iload 4, 2) := by decide +kernel
theorem dX4_answerTo_95 : decode cX4_answerTo 95 = .ok (.istore 4, 2) := by decide +kernel
theorem dX4_answerTo_97 : decode cX4_answerTo 97 = .ok (.iinc 5 1, 3) := by decide +kernel
theorem dX4_answerTo_100 : decode cX4_answerTo 100 = .ok (.goto (-91), 3) := by decide +kernel
theorem dX4_answerTo_103 : decode cX4_answerTo 103 = .ok (.iload_n 3, 1) := by decide +kernel
theorem dX4_answerTo_104 : decode cX4_answerTo 104 = .ok (.ireturn, 1) := by decide +kernel
set_option maxRecDepth 20000 in
theorem ggX4_isFirst_X4_in : GoodIn wsX4_isFirst wsX4_in := goodIn_r _ [5] (by decide +kernel) (by decide +kernel)
set_option maxRecDepth 20000 in
theorem gX4_isFirst_X4_in : GoodIn wsX4_isFirst (va_wsS RX4 54 yX4_in wsX4_in) := goodIn_app (goodIn_of _ (by decide +kernel)) ggX4_isFirst_X4_in
theorem dX4_isFirst_0 : decode cX4_isFirst 0 = .ok (.iload_n 1, 1) := by decide +kernel
theorem dX4_isFirst_1 : decode cX4_isFirst 1 = .ok (.iconst 0, 1) := by decide +kernel
theorem dX4_isFirst_2 : decode cX4_isFirst 2 = .ok (.iconst 1, 1) := by decide +kernel
theorem dX4_isFirst_3 : decode cX4_isFirst 3 = .ok (.aload_n 0, 1) := by decide +kernel
theorem dX4_isFirst_4 : decode cX4_isFirst 4 = .ok (.getfield 7, 3) := by decide +kernel
theorem dX4_isFirst_7 : decode cX4_isFirst 7 = .ok (.ishl, 1) := by decide +kernel
theorem dX4_isFirst_8 : decode cX4_isFirst 8 = .ok (.iconst 1, 1) := by decide +kernel
theorem dX4_isFirst_9 : decode cX4_isFirst 9 = .ok (.isub, 1) := by decide +kernel
theorem dX4_isFirst_10 : decode cX4_isFirst 10 = .ok (.invokestatic 54, 3) := by decide +kernel
theorem dX4_isFirst_13 : decode cX4_isFirst 13 = .ok (.ireturn, 1) := by decide +kernel
set_option maxRecDepth 20000 in
theorem ggX4_answer_X4_isFirst : GoodIn wsX4_answer wsX4_isFirst := goodIn_r _ [7, 8, 9, 10, 6, 11, 38, 39, 40, 41, 42, 43, 44, 45, 46, 47, 48, 49, 50, 51, 52, 53, 54, 55, 56, 57] (by decide +kernel) (by decide +kernel)
set_option maxRecDepth 20000 in
theorem gX4_answer_X4_isFirst : GoodIn wsX4_answer (wsV RX4 109 RX4 yX4_isFirst wsX4_isFirst) := goodIn_app (goodIn_of _ (by decide +kernel)) ggX4_answer_X4_isFirst
set_option maxRecDepth 20000 in
theorem ggX4_answer_X4_in : GoodIn wsX4_answer wsX4_in := goodIn_r _ [11] (by decide +kernel) (by decide +kernel)
set_option maxRecDepth 20000 in
theorem gX4_answer_X4_in : GoodIn wsX4_answer (va_wsS RX4 54 yX4_in wsX4_in) := goodIn_app (goodIn_of _ (by decide +kernel)) ggX4_answer_X4_in
set_option maxRecDepth 20000 in
theorem ggX4_answer_X4_answerTo : GoodIn wsX4_answer wsX4_answerTo := goodIn_r _ [15, 16, 17, 8, 18, 19, 20, 6, 21, 22, 23, 24, 25, 26, 27, 28, 29, 30, 31, 32, 33, 34, 35, 36, 37, 38, 39, 40, 41, 42, 43, 44, 45, 46, 47, 48, 49, 50, 51, 52, 53, 54, 55, 56, 57] (by decide +kernel) (by decide +kernel)
set_option maxRecDepth 20000 in
theorem gX4_answer_X4_answerTo : GoodIn wsX4_answer (wsV RX4 112 RX4 yX4_answerTo wsX4_answerTo) := goodIn_app (goodIn_of _ (by decide +kernel)) ggX4_answer_X4_answerTo
theorem dX4_answer_0 : decode cX4_answer 0 = .ok (.aload_n 0, 1) := by decide +kernel
theorem dX4_answer_1 : decode cX4_answer 1 = .ok (.iload_n 1, 1) := by decide +kernel
theorem dX4_answer_2 : decode cX4_answer 2 = .ok (.invokevirtual 109, 3) := by decide +kernel
theorem dX4_answer_5 : decode cX4_answer 5 = .ok (.ifCond .eq 26, 3) := by decide +kernel
theorem dX4_answer_8 : decode cX4_answer 8 = .ok (.iload_n 2, 1) := by decide +kernel
theorem dX4_answer_9 : decode cX4_answer 9 = .ok (.iconst 0, 1) := by decide +kernel
theorem dX4_answer_10 : decode cX4_answer 10 = .ok (.aload_n 0, 1) := by decide +kernel
theorem dX4_answer_11 : decode cX4_answer 11 = .ok (.getfield 74, 3) := by decide +kernel
theorem dX4_answer_14 : decode cX4_answer 14 = .ok (.iconst 1, 1) := by decide +kernel
theorem dX4_answer_15 : decode cX4_answer 15 = .ok (.isub, 1) := by decide +kernel
theorem dX4_answer_16 : decode cX4_answer 16 = .ok (.invokestatic 54, 3) := by decide +kernel
theorem dX4_answer_19 : decode cX4_answer 19 = .ok (.ifCond .eq 12, 3) := by decide +kernel
theorem dX4_answer_22 : decode cX4_answer 22 = .ok (.aload_n 0, 1) := by decide +kernel
theorem dX4_answer_23 : decode cX4_answer 23 = .ok (.iload_n 1, 1) := by decide +kernel
theorem dX4_answer_24 : decode cX4_answer 24 = .ok (.iload_n 2, 1) := by decide +kernel
theorem dX4_answer_25 : decode cX4_answer 25 = .ok (.invokevirtual 112, 3) := by decide +kernel
theorem dX4_answer_28 : decode cX4_answer 28 = .ok (.goto 5, 3) := by decide +kernel
theorem dX4_answer_31 : decode cX4_answer 31 = .ok (.ldc 58, 2) := by decide +kernel
theorem dX4_answer_33 : decode cX4_answer 33 = .ok (.ireturn, 1) := by decide +kernel
theorem dX4_allOdds_0 : decode cX4_allOdds 0 = .ok (.iconst 0, 1) := by decide +kernel
theorem dX4_allOdds_1 : decode cX4_allOdds 1 = .ok (.istore_n 1, 1) := by decide +kernel
theorem dX4_allOdds_2 : decode cX4_allOdds 2 = .ok (.iconst 0, 1) := by decide +kernel
theorem dX4_allOdds_3 : decode cX4_allOdds 3 = .ok (.istore_n 2, 1) := by decide +kernel
theorem dX4_allOdds_4 : decode cX4_allOdds 4 = .ok (.iload_n 2, 1) := by decide +kernel
theorem dX4_allOdds_5 : decode cX4_allOdds 5 = .ok (.aload_n 0, 1) := by decide +kernel
theorem dX4_allOdds_6 : decode cX4_allOdds 6 = .ok (.getfield 74, 3) := by decide +kernel
theorem dX4_allOdds_9 : decode cX4_allOdds 9 = .ok (.if_icmp .ge 31, 3) := by decide +kernel
theorem dX4_allOdds_12 : decode cX4_allOdds 12 = .ok (.iload_n 1, 1) := by decide +kernel
theorem dX4_allOdds_13 : decode cX4_allOdds 13 = .ok (.aload_n 0, 1) := by decide +kernel
theorem dX4_allOdds_14 : decode cX4_allOdds 14 = .ok (.getfield 38, 3) := by decide +kernel
theorem dX4_allOdds_17 : decode cX4_allOdds 17 = .ok (.iload_n 2, 1) := by decide +kernel
theorem dX4_allOdds_18 : decode cX4_allOdds 18 = .ok (.baload, 1) := by decide +kernel
theorem dX4_allOdds_19 : decode cX4_allOdds 19 = .ok (.ifCond .eq 7, 3) := by decide +kernel
theorem dX4_allOdds_22 : decode cX4_allOdds 22 = .ok (.iconst 0, 1) := by decide +kernel
theorem dX4_allOdds_23 : decode cX4_allOdds 23 = .ok (.goto 9, 3) := by decide +kernel
theorem dX4_allOdds_26 : decode cX4_allOdds 26 = .ok (.aload_n 0, 1) := by decide +kernel
theorem dX4_allOdds_27 : decode cX4_allOdds 27 = .ok (.getfield 35, 3) := by decide +kernel
theorem dX4_allOdds_30 : decode cX4_allOdds 30 = .ok (.iload_n 2, 1) := by decide +kernel
theorem dX4_allOdds_31 : decode cX4_allOdds 31 = .ok (.iaload, 1) := by decide +kernel
theorem dX4_allOdds_32 : decode cX4_allOdds 32 = .ok (.iadd, 1) := by decide +kernel
theorem dX4_allOdds_33 : decode cX4_allOdds 33 = .ok (.istore_n 1, 1) := by decide +kernel
theorem dX4_allOdds_34 : decode cX4_allOdds 34 = .ok (.iinc 2 1, 3) := by decide +kernel
theorem dX4_allOdds_37 : decode cX4_allOdds 37 = .ok (.goto (-33), 3) := by decide +kernel
theorem dX4_allOdds_40 : decode cX4_allOdds 40 = .ok (.iload_n 1, 1) := by decide +kernel
theorem dX4_allOdds_41 : decode cX4_allOdds 41 = .ok (.ireturn, 1) := by decide +kernel
set_option maxRecDepth 20000 in
theorem ggX4_total_X4_answerTo : GoodIn wsX4_total wsX4_answerTo := goodIn_r _ [9, 3, 10, 11, 12, 13, 14, 8, 15, 16, 17, 18, 19, 20, 21, 22, 23, 24, 25, 26, 27, 28, 29, 30, 31, 32, 33, 34, 35, 36, 37, 38, 39, 40, 41, 42, 43, 44, 45, 46, 47, 48, 49, 50, 51] (by decide +kernel) (by decide +kernel)
set_option maxRecDepth 20000 in
theorem gX4_total_X4_answerTo : GoodIn wsX4_total (wsV RX4 112 RX4 yX4_answerTo wsX4_answerTo) := goodIn_app (goodIn_of _ (by decide +kernel)) ggX4_total_X4_answerTo
set_option maxRecDepth 20000 in
theorem ggX4_total_X4_sum : GoodIn wsX4_total wsX4_sum := goodIn_r _ [20, 21, 22, 23, 24, 25, 26, 27, 28, 8, 29, 30, 31, 32, 33, 34, 35, 36, 37, 38, 39, 40, 41, 42, 43, 44, 45, 46, 47, 48, 49, 50, 51] (by decide +kernel) (by decide +kernel)
set_option maxRecDepth 20000 in
theorem gX4_total_X4_sum : GoodIn wsX4_total (wsV RX4 89 RX4 yX4_sum wsX4_sum) := goodIn_app (goodIn_of _ (by decide +kernel)) ggX4_total_X4_sum
theorem dX4_total_0 : decode cX4_total 0 = .ok (.iconst 0, 1) := by decide +kernel
theorem dX4_total_1 : decode cX4_total 1 = .ok (.istore_n 2, 1) := by decide +kernel
theorem dX4_total_2 : decode cX4_total 2 = .ok (.iconst 0, 1) := by decide +kernel
theorem dX4_total_3 : decode cX4_total 3 = .ok (.istore_n 3, 1) := by decide +kernel
theorem dX4_total_4 : decode cX4_total 4 = .ok (.iload_n 3, 1) := by decide +kernel
theorem dX4_total_5 : decode cX4_total 5 = .ok (.aload_n 0, 1) := by decide +kernel
theorem dX4_total_6 : decode cX4_total 6 = .ok (.getfield 74, 3) := by decide +kernel
theorem dX4_total_9 : decode cX4_total 9 = .ok (.if_icmp .ge 54, 3) := by decide +kernel
theorem dX4_total_12 : decode cX4_total 12 = .ok (.aload_n 0, 1) := by decide +kernel
theorem dX4_total_13 : decode cX4_total 13 = .ok (.getfield 38, 3) := by decide +kernel
theorem dX4_total_16 : decode cX4_total 16 = .ok (.iload_n 3, 1) := by decide +kernel
theorem dX4_total_17 : decode cX4_total 17 = .ok (.baload, 1) := by decide +kernel
theorem dX4_total_18 : decode cX4_total 18 = .ok (.ifCond .ne 39, 3) := by decide +kernel
theorem dX4_total_21 : decode cX4_total 21 = .ok (.aload_n 0, 1) := by decide +kernel
theorem dX4_total_22 : decode cX4_total 22 = .ok (.iload_n 1, 1) := by decide +kernel
theorem dX4_total_23 : decode cX4_total 23 = .ok (.iload_n 3, 1) := by decide +kernel
theorem dX4_total_24 : decode cX4_total 24 = .ok (.invokevirtual 112, 3) := by decide +kernel
theorem dX4_total_27 : decode cX4_total 27 = .ok (.istore 4, 2) := by decide +kernel
theorem dX4_total_29 : decode cX4_total 29 = .ok (.iload 4, 2) := by decide +kernel
theorem dX4_total_31 : decode cX4_total 31 = .ok (.ldc 100, 2) := by decide +kernel
theorem dX4_total_33 : decode cX4_total 33 = .ok (.if_icmp .ne 6, 3) := by decide +kernel
theorem dX4_total_36 : decode cX4_total 36 = .ok (.ldc 100, 2) := by decide +kernel
theorem dX4_total_38 : decode cX4_total 38 = .ok (.ireturn, 1) := by decide +kernel
theorem dX4_total_39 : decode cX4_total 39 = .ok (.iload_n 2, 1) := by decide +kernel
theorem dX4_total_40 : decode cX4_total 40 = .ok (.aload_n 0, 1) := by decide +kernel
theorem dX4_total_41 : decode cX4_total 41 = .ok (.getfield 35, 3) := by decide +kernel
theorem dX4_total_44 : decode cX4_total 44 = .ok (.iload_n 3, 1) := by decide +kernel
theorem dX4_total_45 : decode cX4_total 45 = .ok (.iaload, 1) := by decide +kernel
theorem dX4_total_46 : decode cX4_total 46 = .ok (.aload_n 0, 1) := by decide +kernel
theorem dX4_total_47 : decode cX4_total 47 = .ok (.iload 4, 2) := by decide +kernel
theorem dX4_total_49 : decode cX4_total 49 = .ok (.iconst (-1), 1) := by decide +kernel
theorem dX4_total_50 : decode cX4_total 50 = .ok (.iload_n 3, 1) := by decide +kernel
theorem dX4_total_51 : decode cX4_total 51 = .ok (.invokevirtual 89, 3) := by decide +kernel
theorem dX4_total_54 : decode cX4_total 54 = .ok (.imul, 1) := by decide +kernel
theorem dX4_total_55 : decode cX4_total 55 = .ok (.iadd, 1) := by decide +kernel
theorem dX4_total_56 : decode cX4_total 56 = .ok (.istore_n 2, 1) := by decide +kernel
theorem dX4_total_57 : decode cX4_total 57 = .ok (.iinc 3 1, 3) := by decide +kernel
theorem dX4_total_60 : decode cX4_total 60 = .ok (.goto (-56), 3) := by decide +kernel
theorem dX4_total_63 : decode cX4_total 63 = .ok (.iload_n 2, 1) := by decide +kernel
theorem dX4_total_64 : decode cX4_total 64 = .ok (.ireturn, 1) := by decide +kernel
set_option maxRecDepth 20000 in
theorem ggX4_twoStep_X4_counted : GoodIn wsX4_twoStep wsX4_counted := goodIn_r _ [7, 8, 9, 40, 41, 42, 43, 44, 45, 46, 47, 48, 49, 50, 51, 52, 53, 54, 55, 56, 57, 58, 59] (by decide +kernel) (by decide +kernel)
set_option maxRecDepth 20000 in
theorem gX4_twoStep_X4_counted : GoodIn wsX4_twoStep (wsV RX4 78 RX4 yX4_counted wsX4_counted) := goodIn_app (goodIn_of _ (by decide +kernel)) ggX4_twoStep_X4_counted
set_option maxRecDepth 20000 in
theorem ggX4_twoStep_X4_total : GoodIn wsX4_twoStep wsX4_total := goodIn_r _ [13, 8, 9, 1, 14, 15, 16, 17, 6, 18, 19, 2, 20, 21, 22, 23, 24, 25, 26, 27, 28, 29, 30, 31, 32, 33, 34, 35, 36, 37, 38, 39, 40, 41, 42, 43, 44, 45, 46, 47, 48, 49, 50, 51, 52, 53, 54, 55, 56, 57, 58, 59] (by decide +kernel) (by decide +kernel)
set_option maxRecDepth 20000 in
theorem gX4_twoStep_X4_total : GoodIn wsX4_twoStep (wsV RX4 115 RX4 yX4_total wsX4_total) := goodIn_app (goodIn_of _ (by decide +kernel)) ggX4_twoStep_X4_total
theorem dX4_twoStep_0 : decode cX4_twoStep 0 = .ok (.ldc 100, 2) := by decide +kernel
theorem dX4_twoStep_2 : decode cX4_twoStep 2 = .ok (.istore_n 1, 1) := by decide +kernel
theorem dX4_twoStep_3 : decode cX4_twoStep 3 = .ok (.iconst 0, 1) := by decide +kernel
theorem dX4_twoStep_4 : decode cX4_twoStep 4 = .ok (.istore_n 2, 1) := by decide +kernel
theorem dX4_twoStep_5 : decode cX4_twoStep 5 = .ok (.iconst 0, 1) := by decide +kernel
theorem dX4_twoStep_6 : decode cX4_twoStep 6 = .ok (.istore_n 3, 1) := by decide +kernel
theorem dX4_twoStep_7 : decode cX4_twoStep 7 = .ok (.iload_n 3, 1) := by decide +kernel
theorem dX4_twoStep_8 : decode cX4_twoStep 8 = .ok (.iconst 1, 1) := by decide +kernel
theorem dX4_twoStep_9 : decode cX4_twoStep 9 = .ok (.aload_n 0, 1) := by decide +kernel
theorem dX4_twoStep_10 : decode cX4_twoStep 10 = .ok (.getfield 7, 3) := by decide +kernel
theorem dX4_twoStep_13 : decode cX4_twoStep 13 = .ok (.ishl, 1) := by decide +kernel
theorem dX4_twoStep_14 : decode cX4_twoStep 14 = .ok (.if_icmp .ge 72, 3) := by decide +kernel
theorem dX4_twoStep_17 : decode cX4_twoStep 17 = .ok (.aload_n 0, 1) := by decide +kernel
theorem dX4_twoStep_18 : decode cX4_twoStep 18 = .ok (.invokevirtual 78, 3) := by decide +kernel
theorem dX4_twoStep_21 : decode cX4_twoStep 21 = .ok (.ifCond .le 65, 3) := by decide +kernel
theorem dX4_twoStep_24 : decode cX4_twoStep 24 = .ok (.aload_n 0, 1) := by decide +kernel
theorem dX4_twoStep_25 : decode cX4_twoStep 25 = .ok (.iload_n 3, 1) := by decide +kernel
theorem dX4_twoStep_26 : decode cX4_twoStep 26 = .ok (.invokevirtual 115, 3) := by decide +kernel
theorem dX4_twoStep_29 : decode cX4_twoStep 29 = .ok (.istore 4, 2) := by decide +kernel
theorem dX4_twoStep_31 : decode cX4_twoStep 31 = .ok (.iload 4, 2) := by decide +kernel
theorem dX4_twoStep_33 : decode cX4_twoStep 33 = .ok (.ldc 100, 2) := by decide +kernel
theorem dX4_twoStep_35 : decode cX4_twoStep 35 = .ok (.if_icmp .eq 19, 3) := by decide +kernel
theorem dX4_twoStep_38 : decode cX4_twoStep 38 = .ok (.iload_n 1, 1) := by decide +kernel
theorem dX4_twoStep_39 : decode cX4_twoStep 39 = .ok (.ldc 100, 2) := by decide +kernel
theorem dX4_twoStep_41 : decode cX4_twoStep 41 = .ok (.if_icmp .eq 9, 3) := by decide +kernel
theorem dX4_twoStep_44 : decode cX4_twoStep 44 = .ok (.iload 4, 2) := by decide +kernel
theorem dX4_twoStep_46 : decode cX4_twoStep 46 = .ok (.iload_n 2, 1) := by decide +kernel
theorem dX4_twoStep_47 : decode cX4_twoStep 47 = .ok (.if_icmp .ge 7, 3) := by decide +kernel
theorem dX4_twoStep_50 : decode cX4_twoStep 50 = .ok (.iconst 1, 1) := by decide +kernel
theorem dX4_twoStep_51 : decode cX4_twoStep 51 = .ok (.goto 4, 3) := by decide +kernel
theorem dX4_twoStep_54 : decode cX4_twoStep 54 = .ok (.iconst 0, 1) := by decide +kernel
theorem dX4_twoStep_55 : decode cX4_twoStep 55 = .ok (.istore 5, 2) := by decide +kernel
theorem dX4_twoStep_57 : decode cX4_twoStep 57 = .ok (.iload 5, 2) := by decide +kernel
theorem dX4_twoStep_59 : decode cX4_twoStep 59 = .ok (.ifCond .eq 7, 3) := by decide +kernel
theorem dX4_twoStep_62 : decode cX4_twoStep 62 = .ok (.iload_n 3, 1) := by decide +kernel
theorem dX4_twoStep_63 : decode cX4_twoStep 63 = .ok (.goto 4, 3) := by decide +kernel
theorem dX4_twoStep_66 : decode cX4_twoStep 66 = .ok (.iload_n 1, 1) := by decide +kernel
theorem dX4_twoStep_67 : decode cX4_twoStep 67 = .ok (.istore_n 1, 1) := by decide +kernel
theorem dX4_twoStep_68 : decode cX4_twoStep 68 = .ok (.iload 5, 2) := by decide +kernel
theorem dX4_twoStep_70 : decode cX4_twoStep 70 = .ok (.ifCond .eq 8, 3) := by decide +kernel
theorem dX4_twoStep_73 : decode cX4_twoStep 73 = .ok (.iload 4, 2) := by decide +kernel
theorem dX4_twoStep_75 : decode cX4_twoStep 75 = .ok (.goto 4, 3) := by decide +kernel
theorem dX4_twoStep_78 : decode cX4_twoStep 78 = .ok (.iload_n 2, 1) := by decide +kernel
theorem dX4_twoStep_79 : decode cX4_twoStep 79 = .ok (.istore_n 2, 1) := by decide +kernel
theorem dX4_twoStep_80 : decode cX4_twoStep 80 = .ok (.iinc 3 1, 3) := by decide +kernel
theorem dX4_twoStep_83 : decode cX4_twoStep 83 = .ok (.goto (-76), 3) := by decide +kernel
theorem dX4_twoStep_86 : decode cX4_twoStep 86 = .ok (.iload_n 1, 1) := by decide +kernel
theorem dX4_twoStep_87 : decode cX4_twoStep 87 = .ok (.ireturn, 1) := by decide +kernel
theorem dX4_lowest_0 : decode cX4_lowest 0 = .ok (.iload_n 0, 1) := by decide +kernel
theorem dX4_lowest_1 : decode cX4_lowest 1 = .ok (.ifCond .ge 8, 3) := by decide +kernel
theorem dX4_lowest_4 : decode cX4_lowest 4 = .ok (.iload_n 0, 1) := by decide +kernel
theorem dX4_lowest_5 : decode cX4_lowest 5 = .ok (.ineg, 1) := by decide +kernel
theorem dX4_lowest_6 : decode cX4_lowest 6 = .ok (.goto 4, 3) := by decide +kernel
theorem dX4_lowest_9 : decode cX4_lowest 9 = .ok (.iload_n 0, 1) := by decide +kernel
theorem dX4_lowest_10 : decode cX4_lowest 10 = .ok (.istore_n 3, 1) := by decide +kernel
theorem dX4_lowest_11 : decode cX4_lowest 11 = .ok (.iload_n 1, 1) := by decide +kernel
theorem dX4_lowest_12 : decode cX4_lowest 12 = .ok (.istore 4, 2) := by decide +kernel
theorem dX4_lowest_14 : decode cX4_lowest 14 = .ok (.iload 4, 2) := by decide +kernel
theorem dX4_lowest_16 : decode cX4_lowest 16 = .ok (.ifCond .eq 19, 3) := by decide +kernel
theorem dX4_lowest_19 : decode cX4_lowest 19 = .ok (.iload_n 3, 1) := by decide +kernel
theorem dX4_lowest_20 : decode cX4_lowest 20 = .ok (.iload 4, 2) := by decide +kernel
theorem dX4_lowest_22 : decode cX4_lowest 22 = .ok (.irem, 1) := by decide +kernel
theorem dX4_lowest_23 : decode cX4_lowest 23 = .ok (.istore 5, 2) := by decide +kernel
theorem dX4_lowest_25 : decode cX4_lowest 25 = .ok (.iload 4, 2) := by decide +kernel
theorem dX4_lowest_27 : decode cX4_lowest 27 = .ok (.istore_n 3, 1) := by decide +kernel
theorem dX4_lowest_28 : decode cX4_lowest 28 = .ok (.iload 5, 2) := by decide +kernel
theorem dX4_lowest_30 : decode cX4_lowest 30 = .ok (.istore 4, 2) := by decide +kernel
theorem dX4_lowest_32 : decode cX4_lowest 32 = .ok (.goto (-18), 3) := by decide +kernel
theorem dX4_lowest_35 : decode cX4_lowest 35 = .ok (.iload_n 2, 1) := by decide +kernel
theorem dX4_lowest_36 : decode cX4_lowest 36 = .ok (.ifCond .ne 7, 3) := by decide +kernel
theorem dX4_lowest_39 : decode cX4_lowest 39 = .ok (.iload_n 0, 1) := by decide +kernel
theorem dX4_lowest_40 : decode cX4_lowest 40 = .ok (.goto 4, 3) := by decide +kernel
theorem dX4_lowest_43 : decode cX4_lowest 43 = .ok (.iload_n 1, 1) := by decide +kernel
theorem dX4_lowest_44 : decode cX4_lowest 44 = .ok (.iload_n 3, 1) := by decide +kernel
theorem dX4_lowest_45 : decode cX4_lowest 45 = .ok (.idiv, 1) := by decide +kernel
theorem dX4_lowest_46 : decode cX4_lowest 46 = .ok (.ireturn, 1) := by decide +kernel
set_option maxRecDepth 20000 in
theorem ggX4_mean_X4_isFirst : GoodIn wsX4_mean wsX4_isFirst := goodIn_r _ [7, 8, 9, 10, 6, 11, 55, 56, 57, 58, 59, 60, 61, 62, 63, 64, 65, 66, 67, 68, 69, 70, 71, 72, 73, 74] (by decide +kernel) (by decide +kernel)
set_option maxRecDepth 20000 in
theorem gX4_mean_X4_isFirst : GoodIn wsX4_mean (wsV RX4 109 RX4 yX4_isFirst wsX4_isFirst) := goodIn_app (goodIn_of _ (by decide +kernel)) ggX4_mean_X4_isFirst
set_option maxRecDepth 20000 in
theorem ggX4_mean_X4_in : GoodIn wsX4_mean wsX4_in := goodIn_r _ [11] (by decide +kernel) (by decide +kernel)
set_option maxRecDepth 20000 in
theorem gX4_mean_X4_in : GoodIn wsX4_mean (va_wsS RX4 54 yX4_in wsX4_in) := goodIn_app (goodIn_of _ (by decide +kernel)) ggX4_mean_X4_in
set_option maxRecDepth 20000 in
theorem ggX4_mean_X4_counted : GoodIn wsX4_mean wsX4_counted := goodIn_r _ [15, 16, 17, 55, 56, 57, 58, 59, 60, 61, 62, 63, 64, 65, 66, 67, 68, 69, 70, 71, 72, 73, 74] (by decide +kernel) (by decide +kernel)
set_option maxRecDepth 20000 in
theorem gX4_mean_X4_counted : GoodIn wsX4_mean (wsV RX4 78 RX4 yX4_counted wsX4_counted) := goodIn_app (goodIn_of _ (by decide +kernel)) ggX4_mean_X4_counted
set_option maxRecDepth 20000 in
theorem ggX4_mean_X4_total : GoodIn wsX4_mean wsX4_total := goodIn_r _ [21, 16, 17, 2, 22, 23, 24, 25, 6, 26, 27, 8, 28, 29, 30, 31, 32, 33, 34, 35, 36, 37, 38, 39, 40, 41, 42, 43, 44, 45, 46, 47, 55, 56, 57, 58, 59, 60, 61, 62, 63, 64, 65, 66, 67, 68, 69, 70, 71, 72, 73, 74] (by decide +kernel) (by decide +kernel)
set_option maxRecDepth 20000 in
theorem gX4_mean_X4_total : GoodIn wsX4_mean (wsV RX4 115 RX4 yX4_total wsX4_total) := goodIn_app (goodIn_of _ (by decide +kernel)) ggX4_mean_X4_total
set_option maxRecDepth 20000 in
theorem ggX4_mean_X4_allOdds : GoodIn wsX4_mean wsX4_allOdds := goodIn_r _ [51, 16, 17, 22, 55, 56, 57, 58, 59, 60, 61, 62, 63, 64, 65, 66, 67, 68, 69, 70, 71, 72, 73, 74] (by decide +kernel) (by decide +kernel)
set_option maxRecDepth 20000 in
theorem gX4_mean_X4_allOdds : GoodIn wsX4_mean (wsV RX4 118 RX4 yX4_allOdds wsX4_allOdds) := goodIn_app (goodIn_of _ (by decide +kernel)) ggX4_mean_X4_allOdds
set_option maxRecDepth 20000 in
theorem ggX4_mean_X4_lowest : GoodIn wsX4_mean wsX4_lowest := goodIn_r _ [54] (by decide +kernel) (by decide +kernel)
set_option maxRecDepth 20000 in
theorem gX4_mean_X4_lowest : GoodIn wsX4_mean (va_wsS RX4 121 yX4_lowest wsX4_lowest) := goodIn_app (goodIn_of _ (by decide +kernel)) ggX4_mean_X4_lowest
theorem dX4_mean_0 : decode cX4_mean 0 = .ok (.aload_n 0, 1) := by decide +kernel
theorem dX4_mean_1 : decode cX4_mean 1 = .ok (.iload_n 1, 1) := by decide +kernel
theorem dX4_mean_2 : decode cX4_mean 2 = .ok (.invokevirtual 109, 3) := by decide +kernel
theorem dX4_mean_5 : decode cX4_mean 5 = .ok (.ifCond .eq 12, 3) := by decide +kernel
theorem dX4_mean_8 : decode cX4_mean 8 = .ok (.iload_n 2, 1) := by decide +kernel
theorem dX4_mean_9 : decode cX4_mean 9 = .ok (.iconst 0, 1) := by decide +kernel
theorem dX4_mean_10 : decode cX4_mean 10 = .ok (.iconst 1, 1) := by decide +kernel
theorem dX4_mean_11 : decode cX4_mean 11 = .ok (.invokestatic 54, 3) := by decide +kernel
theorem dX4_mean_14 : decode cX4_mean 14 = .ok (.ifCond .ne 6, 3) := by decide +kernel
theorem dX4_mean_17 : decode cX4_mean 17 = .ok (.ldc 58, 2) := by decide +kernel
theorem dX4_mean_19 : decode cX4_mean 19 = .ok (.ireturn, 1) := by decide +kernel
theorem dX4_mean_20 : decode cX4_mean 20 = .ok (.aload_n 0, 1) := by decide +kernel
theorem dX4_mean_21 : decode cX4_mean 21 = .ok (.invokevirtual 78, 3) := by decide +kernel
theorem dX4_mean_24 : decode cX4_mean 24 = .ok (.ifCond .ne 8, 3) := by decide +kernel
theorem dX4_mean_27 : decode cX4_mean 27 = .ok (.ldc 100, 2) := by decide +kernel
theorem dX4_mean_29 : decode cX4_mean 29 = .ok (.goto 8, 3) := by decide +kernel
theorem dX4_mean_32 : decode cX4_mean 32 = .ok (.aload_n 0, 1) := by decide +kernel
theorem dX4_mean_33 : decode cX4_mean 33 = .ok (.iload_n 1, 1) := by decide +kernel
theorem dX4_mean_34 : decode cX4_mean 34 = .ok (.invokevirtual 115, 3) := by decide +kernel
theorem dX4_mean_37 : decode cX4_mean 37 = .ok (.istore_n 3, 1) := by decide +kernel
theorem dX4_mean_38 : decode cX4_mean 38 = .ok (.iload_n 3, 1) := by decide +kernel
theorem dX4_mean_39 : decode cX4_mean 39 = .ok (.ldc 100, 2) := by decide +kernel
theorem dX4_mean_41 : decode cX4_mean 41 = .ok (.if_icmp .ne 8, 3) := by decide +kernel
theorem dX4_mean_44 : decode cX4_mean 44 = .ok (.ldc 100, 2) := by decide +kernel
theorem dX4_mean_46 : decode cX4_mean 46 = .ok (.goto 12, 3) := by decide +kernel
theorem dX4_mean_49 : decode cX4_mean 49 = .ok (.iload_n 3, 1) := by decide +kernel
theorem dX4_mean_50 : decode cX4_mean 50 = .ok (.aload_n 0, 1) := by decide +kernel
theorem dX4_mean_51 : decode cX4_mean 51 = .ok (.invokevirtual 118, 3) := by decide +kernel
theorem dX4_mean_54 : decode cX4_mean 54 = .ok (.iload_n 2, 1) := by decide +kernel
theorem dX4_mean_55 : decode cX4_mean 55 = .ok (.invokestatic 121, 3) := by decide +kernel
theorem dX4_mean_58 : decode cX4_mean 58 = .ok (.ireturn, 1) := by decide +kernel
set_option maxRecDepth 20000 in
theorem ggX4_bestOf_X4_answerTo : GoodIn wsX4_bestOf wsX4_answerTo := goodIn_r _ [7, 1, 8, 2, 9, 10, 11, 6, 12, 13, 14, 15, 16, 17, 18, 19, 20, 21, 22, 23, 24, 25, 26, 27, 28, 29, 30, 31, 32, 33, 34, 35, 36, 37, 38, 39, 40, 41, 42, 43, 44, 45, 46, 47, 48] (by decide +kernel) (by decide +kernel)
set_option maxRecDepth 20000 in
theorem gX4_bestOf_X4_answerTo : GoodIn wsX4_bestOf (wsV RX4 112 RX4 yX4_answerTo wsX4_answerTo) := goodIn_app (goodIn_of _ (by decide +kernel)) ggX4_bestOf_X4_answerTo
set_option maxRecDepth 20000 in
theorem ggX4_bestOf_X4_sum : GoodIn wsX4_bestOf wsX4_sum := goodIn_r _ [17, 18, 19, 20, 21, 22, 23, 24, 25, 6, 26, 27, 28, 29, 30, 31, 32, 33, 34, 35, 36, 37, 38, 39, 40, 41, 42, 43, 44, 45, 46, 47, 48] (by decide +kernel) (by decide +kernel)
set_option maxRecDepth 20000 in
theorem gX4_bestOf_X4_sum : GoodIn wsX4_bestOf (wsV RX4 89 RX4 yX4_sum wsX4_sum) := goodIn_app (goodIn_of _ (by decide +kernel)) ggX4_bestOf_X4_sum
theorem dX4_bestOf_0 : decode cX4_bestOf 0 = .ok (.ldc 100, 2) := by decide +kernel
theorem dX4_bestOf_2 : decode cX4_bestOf 2 = .ok (.istore_n 2, 1) := by decide +kernel
theorem dX4_bestOf_3 : decode cX4_bestOf 3 = .ok (.iconst 0, 1) := by decide +kernel
theorem dX4_bestOf_4 : decode cX4_bestOf 4 = .ok (.istore_n 3, 1) := by decide +kernel
theorem dX4_bestOf_5 : decode cX4_bestOf 5 = .ok (.iload_n 3, 1) := by decide +kernel
theorem dX4_bestOf_6 : decode cX4_bestOf 6 = .ok (.iconst 1, 1) := by decide +kernel
theorem dX4_bestOf_7 : decode cX4_bestOf 7 = .ok (.aload_n 0, 1) := by decide +kernel
theorem dX4_bestOf_8 : decode cX4_bestOf 8 = .ok (.getfield 7, 3) := by decide +kernel
theorem dX4_bestOf_11 : decode cX4_bestOf 11 = .ok (.ishl, 1) := by decide +kernel
theorem dX4_bestOf_12 : decode cX4_bestOf 12 = .ok (.if_icmp .ge 64, 3) := by decide +kernel
theorem dX4_bestOf_15 : decode cX4_bestOf 15 = .ok (.aload_n 0, 1) := by decide +kernel
theorem dX4_bestOf_16 : decode cX4_bestOf 16 = .ok (.iload_n 3, 1) := by decide +kernel
theorem dX4_bestOf_17 : decode cX4_bestOf 17 = .ok (.iload_n 1, 1) := by decide +kernel
theorem dX4_bestOf_18 : decode cX4_bestOf 18 = .ok (.invokevirtual 112, 3) := by decide +kernel
theorem dX4_bestOf_21 : decode cX4_bestOf 21 = .ok (.istore 4, 2) := by decide +kernel
theorem dX4_bestOf_23 : decode cX4_bestOf 23 = .ok (.iload 4, 2) := by decide +kernel
theorem dX4_bestOf_25 : decode cX4_bestOf 25 = .ok (.ldc 100, 2) := by decide +kernel
theorem dX4_bestOf_27 : decode cX4_bestOf 27 = .ok (.if_icmp .ne 7, 3) := by decide +kernel
theorem dX4_bestOf_30 : decode cX4_bestOf 30 = .ok (.iconst 0, 1) := by decide +kernel
theorem dX4_bestOf_31 : decode cX4_bestOf 31 = .ok (.goto 11, 3) := by decide +kernel
theorem dX4_bestOf_34 : decode cX4_bestOf 34 = .ok (.aload_n 0, 1) := by decide +kernel
theorem dX4_bestOf_35 : decode cX4_bestOf 35 = .ok (.iload 4, 2) := by decide +kernel
theorem dX4_bestOf_37 : decode cX4_bestOf 37 = .ok (.iconst (-1), 1) := by decide +kernel
theorem dX4_bestOf_38 : decode cX4_bestOf 38 = .ok (.iload_n 1, 1) := by decide +kernel
theorem dX4_bestOf_39 : decode cX4_bestOf 39 = .ok (.invokevirtual 89, 3) := by decide +kernel
theorem dX4_bestOf_42 : decode cX4_bestOf 42 = .ok (.istore 5, 2) := by decide +kernel
theorem dX4_bestOf_44 : decode cX4_bestOf 44 = .ok (.iload 4, 2) := by decide +kernel
theorem dX4_bestOf_46 : decode cX4_bestOf 46 = .ok (.ldc 100, 2) := by decide +kernel
theorem dX4_bestOf_48 : decode cX4_bestOf 48 = .ok (.if_icmp .eq 20, 3) := by decide +kernel
theorem dX4_bestOf_51 : decode cX4_bestOf 51 = .ok (.iload_n 2, 1) := by decide +kernel
theorem dX4_bestOf_52 : decode cX4_bestOf 52 = .ok (.ldc 100, 2) := by decide +kernel
theorem dX4_bestOf_54 : decode cX4_bestOf 54 = .ok (.if_icmp .eq 9, 3) := by decide +kernel
theorem dX4_bestOf_57 : decode cX4_bestOf 57 = .ok (.iload 5, 2) := by decide +kernel
theorem dX4_bestOf_59 : decode cX4_bestOf 59 = .ok (.iload_n 2, 1) := by decide +kernel
theorem dX4_bestOf_60 : decode cX4_bestOf 60 = .ok (.if_icmp .ge 8, 3) := by decide +kernel
theorem dX4_bestOf_63 : decode cX4_bestOf 63 = .ok (.iload 5, 2) := by decide +kernel
theorem dX4_bestOf_65 : decode cX4_bestOf 65 = .ok (.goto 4, 3) := by decide +kernel
theorem dX4_bestOf_68 : decode cX4_bestOf 68 = .ok (.iload_n 2, 1) := by decide +kernel
theorem dX4_bestOf_69 : decode cX4_bestOf 69 = .ok (.istore_n 2, 1) := by decide +kernel
theorem dX4_bestOf_70 : decode cX4_bestOf 70 = .ok (.iinc 3 1, 3) := by decide +kernel
theorem dX4_bestOf_73 : decode cX4_bestOf 73 = .ok (.goto (-68), 3) := by decide +kernel
theorem dX4_bestOf_76 : decode cX4_bestOf 76 = .ok (.iload_n 2, 1) := by decide +kernel
theorem dX4_bestOf_77 : decode cX4_bestOf 77 = .ok (.ireturn, 1) := by decide +kernel
set_option maxRecDepth 20000 in
theorem ggX4_best_X4_in : GoodIn wsX4_best wsX4_in := goodIn_r _ [6] (by decide +kernel) (by decide +kernel)
set_option maxRecDepth 20000 in
theorem gX4_best_X4_in : GoodIn wsX4_best (va_wsS RX4 54 yX4_in wsX4_in) := goodIn_app (goodIn_of _ (by decide +kernel)) ggX4_best_X4_in
set_option maxRecDepth 20000 in
theorem ggX4_best_X4_bestOf : GoodIn wsX4_best wsX4_bestOf := goodIn_r _ [10, 11, 12, 13, 14, 15, 5, 16, 17, 18, 19, 20, 21, 22, 23, 24, 25, 26, 27, 28, 29, 30, 31, 32, 33, 34, 35, 36, 37, 38, 39, 40, 41, 42, 43, 44, 45, 46, 47, 48, 49, 50, 51, 52, 53, 54, 55, 56, 57] (by decide +kernel) (by decide +kernel)
set_option maxRecDepth 20000 in
theorem gX4_best_X4_bestOf : GoodIn wsX4_best (wsV RX4 124 RX4 yX4_bestOf wsX4_bestOf) := goodIn_app (goodIn_of _ (by decide +kernel)) ggX4_best_X4_bestOf
theorem dX4_best_0 : decode cX4_best 0 = .ok (.iload_n 1, 1) := by decide +kernel
theorem dX4_best_1 : decode cX4_best 1 = .ok (.iconst 0, 1) := by decide +kernel
theorem dX4_best_2 : decode cX4_best 2 = .ok (.aload_n 0, 1) := by decide +kernel
theorem dX4_best_3 : decode cX4_best 3 = .ok (.getfield 74, 3) := by decide +kernel
theorem dX4_best_6 : decode cX4_best 6 = .ok (.iconst 1, 1) := by decide +kernel
theorem dX4_best_7 : decode cX4_best 7 = .ok (.isub, 1) := by decide +kernel
theorem dX4_best_8 : decode cX4_best 8 = .ok (.invokestatic 54, 3) := by decide +kernel
theorem dX4_best_11 : decode cX4_best 11 = .ok (.ifCond .eq 11, 3) := by decide +kernel
theorem dX4_best_14 : decode cX4_best 14 = .ok (.aload_n 0, 1) := by decide +kernel
theorem dX4_best_15 : decode cX4_best 15 = .ok (.iload_n 1, 1) := by decide +kernel
theorem dX4_best_16 : decode cX4_best 16 = .ok (.invokevirtual 124, 3) := by decide +kernel
theorem dX4_best_19 : decode cX4_best 19 = .ok (.goto 5, 3) := by decide +kernel
theorem dX4_best_22 : decode cX4_best 22 = .ok (.ldc 58, 2) := by decide +kernel
theorem dX4_best_24 : decode cX4_best 24 = .ok (.ireturn, 1) := by decide +kernel
set_option maxRecDepth 20000 in
theorem ggX4_findBests_X4_bestOf : GoodIn wsX4_findBests wsX4_bestOf := goodIn_r _ [7, 8, 9, 10, 11, 12, 6, 13, 14, 15, 16, 17, 18, 19, 20, 21, 22, 23, 24, 25, 26, 27, 28, 29, 30, 31, 32, 33, 34, 35, 36, 37, 38, 39, 40, 41, 42, 43, 44, 45, 46, 47, 48, 49, 50, 51, 52, 53, 54] (by decide +kernel) (by decide +kernel)
set_option maxRecDepth 20000 in
theorem gX4_findBests_X4_bestOf : GoodIn wsX4_findBests (wsV RX4 124 RX4 yX4_bestOf wsX4_bestOf) := goodIn_app (goodIn_of _ (by decide +kernel)) ggX4_findBests_X4_bestOf
theorem dX4_findBests_0 : decode cX4_findBests 0 = .ok (.iconst 0, 1) := by decide +kernel
theorem dX4_findBests_1 : decode cX4_findBests 1 = .ok (.istore_n 1, 1) := by decide +kernel
theorem dX4_findBests_2 : decode cX4_findBests 2 = .ok (.iload_n 1, 1) := by decide +kernel
theorem dX4_findBests_3 : decode cX4_findBests 3 = .ok (.aload_n 0, 1) := by decide +kernel
theorem dX4_findBests_4 : decode cX4_findBests 4 = .ok (.getfield 74, 3) := by decide +kernel
theorem dX4_findBests_7 : decode cX4_findBests 7 = .ok (.if_icmp .ge 20, 3) := by decide +kernel
theorem dX4_findBests_10 : decode cX4_findBests 10 = .ok (.aload_n 0, 1) := by decide +kernel
theorem dX4_findBests_11 : decode cX4_findBests 11 = .ok (.getfield 51, 3) := by decide +kernel
theorem dX4_findBests_14 : decode cX4_findBests 14 = .ok (.iload_n 1, 1) := by decide +kernel
theorem dX4_findBests_15 : decode cX4_findBests 15 = .ok (.aload_n 0, 1) := by decide +kernel
theorem dX4_findBests_16 : decode cX4_findBests 16 = .ok (.iload_n 1, 1) := by decide +kernel
theorem dX4_findBests_17 : decode cX4_findBests 17 = .ok (.invokevirtual 124, 3) := by decide +kernel
theorem dX4_findBests_20 : decode cX4_findBests 20 = .ok (.iastore, 1) := by decide +kernel
theorem dX4_findBests_21 : decode cX4_findBests 21 = .ok (.iinc 1 1, 3) := by decide +kernel
theorem dX4_findBests_24 : decode cX4_findBests 24 = .ok (.goto (-22), 3) := by decide +kernel
theorem dX4_findBests_27 : decode cX4_findBests 27 = .ok (.return_, 1) := by decide +kernel
set_option maxRecDepth 20000 in
theorem ggX4_regretOf_X4_counted : GoodIn wsX4_regretOf wsX4_counted := goodIn_r _ [9, 2, 3, 41, 42, 43, 44, 45, 46, 47, 48, 49, 50, 51, 52, 53, 54, 55, 56, 57, 58, 59, 60] (by decide +kernel) (by decide +kernel)
set_option maxRecDepth 20000 in
theorem gX4_regretOf_X4_counted : GoodIn wsX4_regretOf (wsV RX4 78 RX4 yX4_counted wsX4_counted) := goodIn_app (goodIn_of _ (by decide +kernel)) ggX4_regretOf_X4_counted
set_option maxRecDepth 20000 in
theorem ggX4_regretOf_X4_total : GoodIn wsX4_regretOf wsX4_total := goodIn_r _ [13, 2, 3, 1, 14, 15, 16, 17, 8, 18, 19, 20, 21, 22, 23, 24, 25, 26, 27, 28, 29, 30, 31, 32, 33, 34, 35, 36, 37, 38, 39, 40, 41, 42, 43, 44, 45, 46, 47, 48, 49, 50, 51, 52, 53, 54, 55, 56, 57, 58, 59, 60] (by decide +kernel) (by decide +kernel)
set_option maxRecDepth 20000 in
theorem gX4_regretOf_X4_total : GoodIn wsX4_regretOf (wsV RX4 115 RX4 yX4_total wsX4_total) := goodIn_app (goodIn_of _ (by decide +kernel)) ggX4_regretOf_X4_total
set_option maxRecDepth 20000 in
theorem ggX4_regretOf_X4_answerTo : GoodIn wsX4_regretOf wsX4_answerTo := goodIn_r _ [18, 1, 19, 20, 21, 22, 23, 8, 24, 25, 26, 27, 28, 29, 30, 31, 32, 33, 34, 35, 36, 37, 38, 39, 40, 41, 42, 43, 44, 45, 46, 47, 48, 49, 50, 51, 52, 53, 54, 55, 56, 57, 58, 59, 60] (by decide +kernel) (by decide +kernel)
set_option maxRecDepth 20000 in
theorem gX4_regretOf_X4_answerTo : GoodIn wsX4_regretOf (wsV RX4 112 RX4 yX4_answerTo wsX4_answerTo) := goodIn_app (goodIn_of _ (by decide +kernel)) ggX4_regretOf_X4_answerTo
set_option maxRecDepth 20000 in
theorem ggX4_regretOf_X4_sum : GoodIn wsX4_regretOf wsX4_sum := goodIn_r _ [29, 30, 31, 32, 33, 34, 35, 36, 37, 8, 38, 39, 40, 41, 42, 43, 44, 45, 46, 47, 48, 49, 50, 51, 52, 53, 54, 55, 56, 57, 58, 59, 60] (by decide +kernel) (by decide +kernel)
set_option maxRecDepth 20000 in
theorem gX4_regretOf_X4_sum : GoodIn wsX4_regretOf (wsV RX4 89 RX4 yX4_sum wsX4_sum) := goodIn_app (goodIn_of _ (by decide +kernel)) ggX4_regretOf_X4_sum
theorem dX4_regretOf_0 : decode cX4_regretOf 0 = .ok (.aload_n 0, 1) := by decide +kernel
theorem dX4_regretOf_1 : decode cX4_regretOf 1 = .ok (.invokevirtual 78, 3) := by decide +kernel
theorem dX4_regretOf_4 : decode cX4_regretOf 4 = .ok (.ifCond .eq 13, 3) := by decide +kernel
theorem dX4_regretOf_7 : decode cX4_regretOf 7 = .ok (.aload_n 0, 1) := by decide +kernel
theorem dX4_regretOf_8 : decode cX4_regretOf 8 = .ok (.iload_n 1, 1) := by decide +kernel
theorem dX4_regretOf_9 : decode cX4_regretOf 9 = .ok (.invokevirtual 115, 3) := by decide +kernel
theorem dX4_regretOf_12 : decode cX4_regretOf 12 = .ok (.ldc 100, 2) := by decide +kernel
theorem dX4_regretOf_14 : decode cX4_regretOf 14 = .ok (.if_icmp .ne 6, 3) := by decide +kernel
theorem dX4_regretOf_17 : decode cX4_regretOf 17 = .ok (.ldc 100, 2) := by decide +kernel
theorem dX4_regretOf_19 : decode cX4_regretOf 19 = .ok (.ireturn, 1) := by decide +kernel
theorem dX4_regretOf_20 : decode cX4_regretOf 20 = .ok (.iconst 0, 1) := by decide +kernel
theorem dX4_regretOf_21 : decode cX4_regretOf 21 = .ok (.istore_n 2, 1) := by decide +kernel
theorem dX4_regretOf_22 : decode cX4_regretOf 22 = .ok (.iconst 0, 1) := by decide +kernel
theorem dX4_regretOf_23 : decode cX4_regretOf 23 = .ok (.istore_n 3, 1) := by decide +kernel
theorem dX4_regretOf_24 : decode cX4_regretOf 24 = .ok (.iload_n 3, 1) := by decide +kernel
theorem dX4_regretOf_25 : decode cX4_regretOf 25 = .ok (.aload_n 0, 1) := by decide +kernel
theorem dX4_regretOf_26 : decode cX4_regretOf 26 = .ok (.getfield 74, 3) := by decide +kernel
theorem dX4_regretOf_29 : decode cX4_regretOf 29 = .ok (.if_icmp .ge 56, 3) := by decide +kernel
theorem dX4_regretOf_32 : decode cX4_regretOf 32 = .ok (.aload_n 0, 1) := by decide +kernel
theorem dX4_regretOf_33 : decode cX4_regretOf 33 = .ok (.getfield 38, 3) := by decide +kernel
theorem dX4_regretOf_36 : decode cX4_regretOf 36 = .ok (.iload_n 3, 1) := by decide +kernel
theorem dX4_regretOf_37 : decode cX4_regretOf 37 = .ok (.baload, 1) := by decide +kernel
theorem dX4_regretOf_38 : decode cX4_regretOf 38 = .ok (.ifCond .eq 7, 3) := by decide +kernel
theorem dX4_regretOf_41 : decode cX4_regretOf 41 = .ok (.iconst 0, 1) := by decide +kernel
theorem dX4_regretOf_42 : decode cX4_regretOf 42 = .ok (.goto 22, 3) := by decide +kernel
theorem dX4_regretOf_45 : decode cX4_regretOf 45 = .ok (.aload_n 0, 1) := by decide +kernel
theorem dX4_regretOf_46 : decode cX4_regretOf 46 = .ok (.aload_n 0, 1) := by decide +kernel
theorem dX4_regretOf_47 : decode cX4_regretOf 47 = .ok (.iload_n 1, 1) := by decide +kernel
theorem dX4_regretOf_48 : decode cX4_regretOf 48 = .ok (.iload_n 3, 1) := by decide +kernel
theorem dX4_regretOf_49 : decode cX4_regretOf 49 = .ok (.invokevirtual 112, 3) := by decide +kernel
theorem dX4_regretOf_52 : decode cX4_regretOf 52 = .ok (.iconst (-1), 1) := by decide +kernel
theorem dX4_regretOf_53 : decode cX4_regretOf 53 = .ok (.iload_n 3, 1) := by decide +kernel
theorem dX4_regretOf_54 : decode cX4_regretOf 54 = .ok (.invokevirtual 89, 3) := by decide +kernel
theorem dX4_regretOf_57 : decode cX4_regretOf 57 = .ok (.aload_n 0, 1) := by decide +kernel
theorem dX4_regretOf_58 : decode cX4_regretOf 58 = .ok (.getfield 51, 3) := by decide +kernel
theorem dX4_regretOf_61 : decode cX4_regretOf 61 = .ok (.iload_n 3, 1) := by decide +kernel
theorem dX4_regretOf_62 : decode cX4_regretOf 62 = .ok (.iaload, 1) := by decide +kernel
theorem dX4_regretOf_63 : decode cX4_regretOf 63 = .ok (.isub, 1) := by decide +kernel
theorem dX4_regretOf_64 : decode cX4_regretOf 64 = .ok (.istore 4, 2) := by decide +kernel
theorem dX4_regretOf_66 : decode cX4_regretOf 66 = .ok (.iload 4, 2) := by decide +kernel
theorem dX4_regretOf_68 : decode cX4_regretOf 68 = .ok (.iload_n 2, 1) := by decide +kernel
theorem dX4_regretOf_69 : decode cX4_regretOf 69 = .ok (.if_icmp .le 8, 3) := by decide +kernel
theorem dX4_regretOf_72 : decode cX4_regretOf 72 = .ok (.iload 4, 2) := by decide +kernel
theorem dX4_regretOf_74 : decode cX4_regretOf 74 = .ok (.goto 4, 3) := by decide +kernel
theorem dX4_regretOf_77 : decode cX4_regretOf 77 = .ok (.iload_n 2, 1) := by decide +kernel
theorem dX4_regretOf_78 : decode cX4_regretOf 78 = .ok (.istore_n 2, 1) := by decide +kernel
theorem dX4_regretOf_79 : decode cX4_regretOf 79 = .ok (.iinc 3 1, 3) := by decide +kernel
theorem dX4_regretOf_82 : decode cX4_regretOf 82 = .ok (.goto (-58), 3) := by decide +kernel
theorem dX4_regretOf_85 : decode cX4_regretOf 85 = .ok (.iload_n 2, 1) := by decide +kernel
theorem dX4_regretOf_86 : decode cX4_regretOf 86 = .ok (.ireturn, 1) := by decide +kernel
set_option maxRecDepth 20000 in
theorem ggX4_regret_X4_isFirst : GoodIn wsX4_regret wsX4_isFirst := goodIn_r _ [6, 7, 8, 9, 5, 10, 61, 62, 63, 64, 65, 66, 67, 68, 69, 70, 71, 72, 73, 74, 75, 76, 77, 78, 79, 80] (by decide +kernel) (by decide +kernel)
set_option maxRecDepth 20000 in
theorem gX4_regret_X4_isFirst : GoodIn wsX4_regret (wsV RX4 109 RX4 yX4_isFirst wsX4_isFirst) := goodIn_app (goodIn_of _ (by decide +kernel)) ggX4_regret_X4_isFirst
set_option maxRecDepth 20000 in
theorem ggX4_regret_X4_findBests : GoodIn wsX4_regret wsX4_findBests := goodIn_r _ [14, 15, 16, 17, 18, 19, 5, 20, 21, 7, 22, 23, 24, 25, 26, 27, 28, 29, 30, 31, 32, 33, 34, 35, 36, 37, 38, 39, 40, 41, 42, 43, 44, 45, 46, 61, 62, 63, 64, 65, 66, 67, 68, 69, 70, 71, 72, 73, 74, 75, 76, 77, 78, 79, 80] (by decide +kernel) (by decide +kernel)
set_option maxRecDepth 20000 in
theorem gX4_regret_X4_findBests : GoodIn wsX4_regret (wsV RX4 127 RX4 yX4_findBests wsX4_findBests) := goodIn_app (goodIn_of _ (by decide +kernel)) ggX4_regret_X4_findBests
set_option maxRecDepth 20000 in
theorem ggX4_regret_X4_regretOf : GoodIn wsX4_regret wsX4_regretOf := goodIn_r _ [50, 21, 15, 51, 16, 52, 53, 54, 5, 55, 56, 57, 58, 59, 60, 22, 23, 24, 25, 26, 7, 27, 28, 29, 30, 31, 32, 33, 34, 35, 36, 37, 38, 39, 40, 41, 42, 43, 44, 45, 46, 61, 62, 63, 64, 65, 66, 67, 68, 69, 70, 71, 72, 73, 74, 75, 76, 77, 78, 79, 80] (by decide +kernel) (by decide +kernel)
set_option maxRecDepth 20000 in
theorem gX4_regret_X4_regretOf : GoodIn wsX4_regret (wsV RX4 130 RX4 yX4_regretOf wsX4_regretOf) := goodIn_app (goodIn_of _ (by decide +kernel)) ggX4_regret_X4_regretOf
theorem dX4_regret_0 : decode cX4_regret 0 = .ok (.aload_n 0, 1) := by decide +kernel
theorem dX4_regret_1 : decode cX4_regret 1 = .ok (.iload_n 1, 1) := by decide +kernel
theorem dX4_regret_2 : decode cX4_regret 2 = .ok (.invokevirtual 109, 3) := by decide +kernel
theorem dX4_regret_5 : decode cX4_regret 5 = .ok (.ifCond .ne 6, 3) := by decide +kernel
theorem dX4_regret_8 : decode cX4_regret 8 = .ok (.ldc 58, 2) := by decide +kernel
theorem dX4_regret_10 : decode cX4_regret 10 = .ok (.ireturn, 1) := by decide +kernel
theorem dX4_regret_11 : decode cX4_regret 11 = .ok (.aload_n 0, 1) := by decide +kernel
theorem dX4_regret_12 : decode cX4_regret 12 = .ok (.invokevirtual 127, 3) := by decide +kernel
theorem dX4_regret_15 : decode cX4_regret 15 = .ok (.aload_n 0, 1) := by decide +kernel
theorem dX4_regret_16 : decode cX4_regret 16 = .ok (.iload_n 1, 1) := by decide +kernel
