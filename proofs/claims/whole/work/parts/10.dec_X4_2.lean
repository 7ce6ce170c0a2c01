theorem dX4_regret_17 : decode cX4_regret 17 = .ok (.invokevirtual 130, 3) := by decide +kernel
theorem dX4_regret_20 : decode cX4_regret 20 = .ok (.ireturn, 1) := by decide +kernel
set_option maxRecDepth 20000 in
theorem ggX4_calmest_X4_findBests : GoodIn wsX4_calmest wsX4_findBests := goodIn_r _ [7, 8, 9, 10, 11, 12, 6, 13, 1, 2, 14, 15, 16, 17, 18, 19, 20, 21, 22, 23, 24, 25, 26, 27, 28, 29, 30, 31, 32, 33, 34, 35, 36, 37, 38, 53, 54, 55, 56, 57, 58, 59, 60, 61, 62, 63, 64, 65, 66, 67, 68, 69, 70, 71, 72] (by decide +kernel) (by decide +kernel)
set_option maxRecDepth 20000 in
theorem gX4_calmest_X4_findBests : GoodIn wsX4_calmest (wsV RX4 127 RX4 yX4_findBests wsX4_findBests) := goodIn_app (goodIn_of _ (by decide +kernel)) ggX4_calmest_X4_findBests
set_option maxRecDepth 20000 in
theorem ggX4_calmest_X4_regretOf : GoodIn wsX4_calmest wsX4_regretOf := goodIn_r _ [42, 1, 8, 43, 9, 44, 45, 46, 6, 47, 48, 49, 50, 51, 52, 14, 15, 16, 17, 18, 2, 19, 20, 21, 22, 23, 24, 25, 26, 27, 28, 29, 30, 31, 32, 33, 34, 35, 36, 37, 38, 53, 54, 55, 56, 57, 58, 59, 60, 61, 62, 63, 64, 65, 66, 67, 68, 69, 70, 71, 72] (by decide +kernel) (by decide +kernel)
set_option maxRecDepth 20000 in
theorem gX4_calmest_X4_regretOf : GoodIn wsX4_calmest (wsV RX4 130 RX4 yX4_regretOf wsX4_regretOf) := goodIn_app (goodIn_of _ (by decide +kernel)) ggX4_calmest_X4_regretOf
theorem dX4_calmest_0 : decode cX4_calmest 0 = .ok (.aload_n 0, 1) := by decide +kernel
theorem dX4_calmest_1 : decode cX4_calmest 1 = .ok (.invokevirtual 127, 3) := by decide +kernel
theorem dX4_calmest_4 : decode cX4_calmest 4 = .ok (.ldc 100, 2) := by decide +kernel
theorem dX4_calmest_6 : decode cX4_calmest 6 = .ok (.istore_n 1, 1) := by decide +kernel
theorem dX4_calmest_7 : decode cX4_calmest 7 = .ok (.iconst 0, 1) := by decide +kernel
theorem dX4_calmest_8 : decode cX4_calmest 8 = .ok (.istore_n 2, 1) := by decide +kernel
theorem dX4_calmest_9 : decode cX4_calmest 9 = .ok (.iconst 0, 1) := by decide +kernel
theorem dX4_calmest_10 : decode cX4_calmest 10 = .ok (.istore_n 3, 1) := by decide +kernel
theorem dX4_calmest_11 : decode cX4_calmest 11 = .ok (.iload_n 3, 1) := by decide +kernel
theorem dX4_calmest_12 : decode cX4_calmest 12 = .ok (.iconst 1, 1) := by decide +kernel
theorem dX4_calmest_13 : decode cX4_calmest 13 = .ok (.aload_n 0, 1) := by decide +kernel
theorem dX4_calmest_14 : decode cX4_calmest 14 = .ok (.getfield 7, 3) := by decide +kernel
theorem dX4_calmest_17 : decode cX4_calmest 17 = .ok (.ishl, 1) := by decide +kernel
theorem dX4_calmest_18 : decode cX4_calmest 18 = .ok (.if_icmp .ge 65, 3) := by decide +kernel
theorem dX4_calmest_21 : decode cX4_calmest 21 = .ok (.aload_n 0, 1) := by decide +kernel
theorem dX4_calmest_22 : decode cX4_calmest 22 = .ok (.iload_n 3, 1) := by decide +kernel
theorem dX4_calmest_23 : decode cX4_calmest 23 = .ok (.invokevirtual 130, 3) := by decide +kernel
theorem dX4_calmest_26 : decode cX4_calmest 26 = .ok (.istore 4, 2) := by decide +kernel
theorem dX4_calmest_28 : decode cX4_calmest 28 = .ok (.iload 4, 2) := by decide +kernel
theorem dX4_calmest_30 : decode cX4_calmest 30 = .ok (.ldc 100, 2) := by decide +kernel
theorem dX4_calmest_32 : decode cX4_calmest 32 = .ok (.if_icmp .eq 19, 3) := by decide +kernel
theorem dX4_calmest_35 : decode cX4_calmest 35 = .ok (.iload_n 1, 1) := by decide +kernel
theorem dX4_calmest_36 : decode cX4_calmest 36 = .ok (.ldc 100, 2) := by decide +kernel
theorem dX4_calmest_38 : decode cX4_calmest 38 = .ok (.if_icmp .eq 9, 3) := by decide +kernel
theorem dX4_calmest_41 : decode cX4_calmest 41 = .ok (.iload 4, 2) := by decide +kernel
theorem dX4_calmest_43 : decode cX4_calmest 43 = .ok (.iload_n 2, 1) := by decide +kernel
theorem dX4_calmest_44 : decode cX4_calmest 44 = .ok (.if_icmp .ge 7, 3) := by decide +kernel
theorem dX4_calmest_47 : decode cX4_calmest 47 = .ok (.iconst 1, 1) := by decide +kernel
theorem dX4_calmest_48 : decode cX4_calmest 48 = .ok (.goto 4, 3) := by decide +kernel
theorem dX4_calmest_51 : decode cX4_calmest 51 = .ok (.iconst 0, 1) := by decide +kernel
theorem dX4_calmest_52 : decode cX4_calmest 52 = .ok (.istore 5, 2) := by decide +kernel
theorem dX4_calmest_54 : decode cX4_calmest 54 = .ok (.iload 5, 2) := by decide +kernel
theorem dX4_calmest_56 : decode cX4_calmest 56 = .ok (.ifCond .eq 7, 3) := by decide +kernel
theorem dX4_calmest_59 : decode cX4_calmest 59 = .ok (.iload_n 3, 1) := by decide +kernel
theorem dX4_calmest_60 : decode cX4_calmest 60 = .ok (.goto 4, 3) := by decide +kernel
theorem dX4_calmest_63 : decode cX4_calmest 63 = .ok (.iload_n 1, 1) := by decide +kernel
theorem dX4_calmest_64 : decode cX4_calmest 64 = .ok (.istore_n 1, 1) := by decide +kernel
theorem dX4_calmest_65 : decode cX4_calmest 65 = .ok (.iload 5, 2) := by decide +kernel
theorem dX4_calmest_67 : decode cX4_calmest 67 = .ok (.ifCond .eq 8, 3) := by decide +kernel
theorem dX4_calmest_70 : decode cX4_calmest 70 = .ok (.iload 4, 2) := by decide +kernel
theorem dX4_calmest_72 : decode cX4_calmest 72 = .ok (.goto 4, 3) := by decide +kernel
theorem dX4_calmest_75 : decode cX4_calmest 75 = .ok (.iload_n 2, 1) := by decide +kernel
theorem dX4_calmest_76 : decode cX4_calmest 76 = .ok (.istore_n 2, 1) := by decide +kernel
theorem dX4_calmest_77 : decode cX4_calmest 77 = .ok (.iinc 3 1, 3) := by decide +kernel
theorem dX4_calmest_80 : decode cX4_calmest 80 = .ok (.goto (-69), 3) := by decide +kernel
theorem dX4_calmest_83 : decode cX4_calmest 83 = .ok (.iload_n 1, 1) := by decide +kernel
theorem dX4_calmest_84 : decode cX4_calmest 84 = .ok (.ireturn, 1) := by decide +kernel
set_option maxRecDepth 20000 in
theorem ggX4_waiting_X4_in : GoodIn wsX4_waiting wsX4_in := goodIn_r _ [10] (by decide +kernel) (by decide +kernel)
set_option maxRecDepth 20000 in
theorem gX4_waiting_X4_in : GoodIn wsX4_waiting (va_wsS RX4 54 yX4_in wsX4_in) := goodIn_app (goodIn_of _ (by decide +kernel)) ggX4_waiting_X4_in
set_option maxRecDepth 20000 in
theorem ggX4_waiting_X4_twoStep : GoodIn wsX4_waiting wsX4_twoStep := goodIn_r _ [14, 2, 15, 16, 17, 18, 9, 19, 3, 4, 20, 21, 22, 23, 5, 24, 25, 26, 27, 28, 29, 30, 31, 32, 33, 34, 35, 36, 37, 38, 39, 40, 41, 42, 43, 44, 45, 46, 47, 48, 64, 65, 66, 67, 68, 69, 70, 71, 72, 73, 74, 75, 76, 77, 78, 79, 80, 81, 82, 83] (by decide +kernel) (by decide +kernel)
set_option maxRecDepth 20000 in
theorem gX4_waiting_X4_twoStep : GoodIn wsX4_waiting (wsV RX4 133 RX4 yX4_twoStep wsX4_twoStep) := goodIn_app (goodIn_of _ (by decide +kernel)) ggX4_waiting_X4_twoStep
set_option maxRecDepth 20000 in
theorem ggX4_waiting_X4_findBests : GoodIn wsX4_waiting wsX4_findBests := goodIn_r _ [52, 3, 6, 53, 54, 55, 9, 56, 2, 15, 24, 25, 26, 27, 28, 29, 30, 31, 32, 33, 34, 35, 36, 37, 38, 39, 40, 41, 42, 43, 44, 45, 46, 47, 48, 64, 65, 66, 67, 68, 69, 70, 71, 72, 73, 74, 75, 76, 77, 78, 79, 80, 81, 82, 83] (by decide +kernel) (by decide +kernel)
set_option maxRecDepth 20000 in
theorem gX4_waiting_X4_findBests : GoodIn wsX4_waiting (wsV RX4 127 RX4 yX4_findBests wsX4_findBests) := goodIn_app (goodIn_of _ (by decide +kernel)) ggX4_waiting_X4_findBests
set_option maxRecDepth 20000 in
theorem ggX4_waiting_X4_total : GoodIn wsX4_waiting wsX4_total := goodIn_r _ [23, 3, 4, 2, 5, 24, 25, 26, 9, 27, 28, 15, 29, 30, 31, 32, 33, 34, 35, 36, 37, 38, 39, 40, 41, 42, 43, 44, 45, 46, 47, 48, 64, 65, 66, 67, 68, 69, 70, 71, 72, 73, 74, 75, 76, 77, 78, 79, 80, 81, 82, 83] (by decide +kernel) (by decide +kernel)
set_option maxRecDepth 20000 in
theorem gX4_waiting_X4_total : GoodIn wsX4_waiting (wsV RX4 115 RX4 yX4_total wsX4_total) := goodIn_app (goodIn_of _ (by decide +kernel)) ggX4_waiting_X4_total
set_option maxRecDepth 20000 in
theorem ggX4_waiting_X4_allOdds : GoodIn wsX4_waiting wsX4_allOdds := goodIn_r _ [60, 3, 4, 5, 64, 65, 66, 67, 68, 69, 70, 71, 72, 73, 74, 75, 76, 77, 78, 79, 80, 81, 82, 83] (by decide +kernel) (by decide +kernel)
set_option maxRecDepth 20000 in
theorem gX4_waiting_X4_allOdds : GoodIn wsX4_waiting (wsV RX4 118 RX4 yX4_allOdds wsX4_allOdds) := goodIn_app (goodIn_of _ (by decide +kernel)) ggX4_waiting_X4_allOdds
set_option maxRecDepth 20000 in
theorem ggX4_waiting_X4_lowest : GoodIn wsX4_waiting wsX4_lowest := goodIn_r _ [63] (by decide +kernel) (by decide +kernel)
set_option maxRecDepth 20000 in
theorem gX4_waiting_X4_lowest : GoodIn wsX4_waiting (va_wsS RX4 121 yX4_lowest wsX4_lowest) := goodIn_app (goodIn_of _ (by decide +kernel)) ggX4_waiting_X4_lowest
theorem dX4_waiting_0 : decode cX4_waiting 0 = .ok (.iload_n 1, 1) := by decide +kernel
theorem dX4_waiting_1 : decode cX4_waiting 1 = .ok (.iconst 0, 1) := by decide +kernel
theorem dX4_waiting_2 : decode cX4_waiting 2 = .ok (.iconst 1, 1) := by decide +kernel
theorem dX4_waiting_3 : decode cX4_waiting 3 = .ok (.invokestatic 54, 3) := by decide +kernel
theorem dX4_waiting_6 : decode cX4_waiting 6 = .ok (.ifCond .ne 6, 3) := by decide +kernel
theorem dX4_waiting_9 : decode cX4_waiting 9 = .ok (.ldc 58, 2) := by decide +kernel
theorem dX4_waiting_11 : decode cX4_waiting 11 = .ok (.ireturn, 1) := by decide +kernel
theorem dX4_waiting_12 : decode cX4_waiting 12 = .ok (.aload_n 0, 1) := by decide +kernel
theorem dX4_waiting_13 : decode cX4_waiting 13 = .ok (.invokevirtual 133, 3) := by decide +kernel
theorem dX4_waiting_16 : decode cX4_waiting 16 = .ok (.istore_n 2, 1) := by decide +kernel
theorem dX4_waiting_17 : decode cX4_waiting 17 = .ok (.iload_n 2, 1) := by decide +kernel
theorem dX4_waiting_18 : decode cX4_waiting 18 = .ok (.ldc 100, 2) := by decide +kernel
theorem dX4_waiting_20 : decode cX4_waiting 20 = .ok (.if_icmp .ne 6, 3) := by decide +kernel
theorem dX4_waiting_23 : decode cX4_waiting 23 = .ok (.ldc 100, 2) := by decide +kernel
theorem dX4_waiting_25 : decode cX4_waiting 25 = .ok (.ireturn, 1) := by decide +kernel
theorem dX4_waiting_26 : decode cX4_waiting 26 = .ok (.aload_n 0, 1) := by decide +kernel
theorem dX4_waiting_27 : decode cX4_waiting 27 = .ok (.invokevirtual 127, 3) := by decide +kernel
theorem dX4_waiting_30 : decode cX4_waiting 30 = .ok (.aload_n 0, 1) := by decide +kernel
theorem dX4_waiting_31 : decode cX4_waiting 31 = .ok (.iload_n 2, 1) := by decide +kernel
theorem dX4_waiting_32 : decode cX4_waiting 32 = .ok (.invokevirtual 115, 3) := by decide +kernel
theorem dX4_waiting_35 : decode cX4_waiting 35 = .ok (.istore_n 3, 1) := by decide +kernel
theorem dX4_waiting_36 : decode cX4_waiting 36 = .ok (.iconst 0, 1) := by decide +kernel
theorem dX4_waiting_37 : decode cX4_waiting 37 = .ok (.istore 4, 2) := by decide +kernel
theorem dX4_waiting_39 : decode cX4_waiting 39 = .ok (.iload 4, 2) := by decide +kernel
theorem dX4_waiting_41 : decode cX4_waiting 41 = .ok (.aload_n 0, 1) := by decide +kernel
theorem dX4_waiting_42 : decode cX4_waiting 42 = .ok (.getfield 74, 3) := by decide +kernel
theorem dX4_waiting_45 : decode cX4_waiting 45 = .ok (.if_icmp .ge 41, 3) := by decide +kernel
theorem dX4_waiting_48 : decode cX4_waiting 48 = .ok (.iload_n 3, 1) := by decide +kernel
theorem dX4_waiting_49 : decode cX4_waiting 49 = .ok (.aload_n 0, 1) := by decide +kernel
theorem dX4_waiting_50 : decode cX4_waiting 50 = .ok (.getfield 38, 3) := by decide +kernel
theorem dX4_waiting_53 : decode cX4_waiting 53 = .ok (.iload 4, 2) := by decide +kernel
theorem dX4_waiting_55 : decode cX4_waiting 55 = .ok (.baload, 1) := by decide +kernel
theorem dX4_waiting_56 : decode cX4_waiting 56 = .ok (.ifCond .eq 7, 3) := by decide +kernel
theorem dX4_waiting_59 : decode cX4_waiting 59 = .ok (.iconst 0, 1) := by decide +kernel
theorem dX4_waiting_60 : decode cX4_waiting 60 = .ok (.goto 18, 3) := by decide +kernel
theorem dX4_waiting_63 : decode cX4_waiting 63 = .ok (.aload_n 0, 1) := by decide +kernel
theorem dX4_waiting_64 : decode cX4_waiting 64 = .ok (.getfield 35, 3) := by decide +kernel
theorem dX4_waiting_67 : decode cX4_waiting 67 = .ok (.iload 4, 2) := by decide +kernel
theorem dX4_waiting_69 : decode cX4_waiting 69 = .ok (.iaload, 1) := by decide +kernel
theorem dX4_waiting_70 : decode cX4_waiting 70 = .ok (.aload_n 0, 1) := by decide +kernel
theorem dX4_waiting_71 : decode cX4_waiting 71 = .ok (.getfield 51, 3) := by decide +kernel
theorem dX4_waiting_74 : decode cX4_waiting 74 = .ok (.iload 4, 2) := by decide +kernel
theorem dX4_waiting_76 : decode cX4_waiting 76 = .ok (.iaload, 1) := by decide +kernel
theorem dX4_waiting_77 : decode cX4_waiting 77 = .ok (.imul, 1) := by decide +kernel
theorem dX4_waiting_78 : decode cX4_waiting 78 = .ok (.isub, 1) := by decide +kernel
theorem dX4_waiting_79 : decode cX4_waiting 79 = .ok (.istore_n 3, 1) := by decide +kernel
theorem dX4_waiting_80 : decode cX4_waiting 80 = .ok (.iinc 4 1, 3) := by decide +kernel
theorem dX4_waiting_83 : decode cX4_waiting 83 = .ok (.goto (-44), 3) := by decide +kernel
theorem dX4_waiting_86 : decode cX4_waiting 86 = .ok (.iload_n 3, 1) := by decide +kernel
theorem dX4_waiting_87 : decode cX4_waiting 87 = .ok (.aload_n 0, 1) := by decide +kernel
theorem dX4_waiting_88 : decode cX4_waiting 88 = .ok (.invokevirtual 118, 3) := by decide +kernel
theorem dX4_waiting_91 : decode cX4_waiting 91 = .ok (.iload_n 1, 1) := by decide +kernel
theorem dX4_waiting_92 : decode cX4_waiting 92 = .ok (.invokestatic 121, 3) := by decide +kernel
theorem dX4_waiting_95 : decode cX4_waiting 95 = .ok (.ireturn, 1) := by decide +kernel
set_option maxRecDepth 20000 in
theorem ggX4_chance_X4_isPlan : GoodIn wsX4_chance wsX4_isPlan := goodIn_r _ [10, 11, 12, 13, 14, 9, 15, 47, 48, 49, 50, 51, 52, 53, 54, 55, 56, 57, 58, 59, 60, 61, 62, 63, 64, 65, 66] (by decide +kernel) (by decide +kernel)
set_option maxRecDepth 20000 in
theorem gX4_chance_X4_isPlan : GoodIn wsX4_chance (wsV RX4 85 RX4 yX4_isPlan wsX4_isPlan) := goodIn_app (goodIn_of _ (by decide +kernel)) ggX4_chance_X4_isPlan
set_option maxRecDepth 20000 in
theorem ggX4_chance_X4_in : GoodIn wsX4_chance wsX4_in := goodIn_r _ [15] (by decide +kernel) (by decide +kernel)
set_option maxRecDepth 20000 in
theorem gX4_chance_X4_in : GoodIn wsX4_chance (va_wsS RX4 54 yX4_in wsX4_in) := goodIn_app (goodIn_of _ (by decide +kernel)) ggX4_chance_X4_in
set_option maxRecDepth 20000 in
theorem ggX4_chance_X4_counted : GoodIn wsX4_chance wsX4_counted := goodIn_r _ [19, 3, 4, 47, 48, 49, 50, 51, 52, 53, 54, 55, 56, 57, 58, 59, 60, 61, 62, 63, 64, 65, 66] (by decide +kernel) (by decide +kernel)
set_option maxRecDepth 20000 in
theorem gX4_chance_X4_counted : GoodIn wsX4_chance (wsV RX4 78 RX4 yX4_counted wsX4_counted) := goodIn_app (goodIn_of _ (by decide +kernel)) ggX4_chance_X4_counted
set_option maxRecDepth 20000 in
theorem ggX4_chance_X4_holds : GoodIn wsX4_chance wsX4_holds := goodIn_r _ [23, 24, 25, 26, 27, 9, 28, 29, 30, 31, 32, 33, 34, 35, 36, 37, 38, 39, 47, 48, 49, 50, 51, 52, 53, 54, 55, 56, 57, 58, 59, 60, 61, 62, 63, 64, 65, 66] (by decide +kernel) (by decide +kernel)
set_option maxRecDepth 20000 in
theorem gX4_chance_X4_holds : GoodIn wsX4_chance (wsV RX4 105 RX4 yX4_holds wsX4_holds) := goodIn_app (goodIn_of _ (by decide +kernel)) ggX4_chance_X4_holds
set_option maxRecDepth 20000 in
theorem ggX4_chance_X4_allOdds : GoodIn wsX4_chance wsX4_allOdds := goodIn_r _ [43, 3, 4, 5, 47, 48, 49, 50, 51, 52, 53, 54, 55, 56, 57, 58, 59, 60, 61, 62, 63, 64, 65, 66] (by decide +kernel) (by decide +kernel)
set_option maxRecDepth 20000 in
theorem gX4_chance_X4_allOdds : GoodIn wsX4_chance (wsV RX4 118 RX4 yX4_allOdds wsX4_allOdds) := goodIn_app (goodIn_of _ (by decide +kernel)) ggX4_chance_X4_allOdds
set_option maxRecDepth 20000 in
theorem ggX4_chance_X4_lowest : GoodIn wsX4_chance wsX4_lowest := goodIn_r _ [46] (by decide +kernel) (by decide +kernel)
set_option maxRecDepth 20000 in
theorem gX4_chance_X4_lowest : GoodIn wsX4_chance (va_wsS RX4 121 yX4_lowest wsX4_lowest) := goodIn_app (goodIn_of _ (by decide +kernel)) ggX4_chance_X4_lowest
theorem dX4_chance_0 : decode cX4_chance 0 = .ok (.aload_n 0, 1) := by decide +kernel
theorem dX4_chance_1 : decode cX4_chance 1 = .ok (.iload_n 1, 1) := by decide +kernel
theorem dX4_chance_2 : decode cX4_chance 2 = .ok (.invokevirtual 85, 3) := by decide +kernel
theorem dX4_chance_5 : decode cX4_chance 5 = .ok (.ifCond .eq 12, 3) := by decide +kernel
theorem dX4_chance_8 : decode cX4_chance 8 = .ok (.iload_n 2, 1) := by decide +kernel
theorem dX4_chance_9 : decode cX4_chance 9 = .ok (.iconst 0, 1) := by decide +kernel
theorem dX4_chance_10 : decode cX4_chance 10 = .ok (.iconst 1, 1) := by decide +kernel
theorem dX4_chance_11 : decode cX4_chance 11 = .ok (.invokestatic 54, 3) := by decide +kernel
theorem dX4_chance_14 : decode cX4_chance 14 = .ok (.ifCond .ne 6, 3) := by decide +kernel
theorem dX4_chance_17 : decode cX4_chance 17 = .ok (.ldc 58, 2) := by decide +kernel
theorem dX4_chance_19 : decode cX4_chance 19 = .ok (.ireturn, 1) := by decide +kernel
theorem dX4_chance_20 : decode cX4_chance 20 = .ok (.aload_n 0, 1) := by decide +kernel
theorem dX4_chance_21 : decode cX4_chance 21 = .ok (.invokevirtual 78, 3) := by decide +kernel
theorem dX4_chance_24 : decode cX4_chance 24 = .ok (.ifCond .ne 6, 3) := by decide +kernel
theorem dX4_chance_27 : decode cX4_chance 27 = .ok (.ldc 100, 2) := by decide +kernel
theorem dX4_chance_29 : decode cX4_chance 29 = .ok (.ireturn, 1) := by decide +kernel
theorem dX4_chance_30 : decode cX4_chance 30 = .ok (.iconst 0, 1) := by decide +kernel
theorem dX4_chance_31 : decode cX4_chance 31 = .ok (.istore_n 3, 1) := by decide +kernel
theorem dX4_chance_32 : decode cX4_chance 32 = .ok (.iconst 0, 1) := by decide +kernel
theorem dX4_chance_33 : decode cX4_chance 33 = .ok (.istore 4, 2) := by decide +kernel
theorem dX4_chance_35 : decode cX4_chance 35 = .ok (.iload 4, 2) := by decide +kernel
theorem dX4_chance_37 : decode cX4_chance 37 = .ok (.aload_n 0, 1) := by decide +kernel
theorem dX4_chance_38 : decode cX4_chance 38 = .ok (.getfield 74, 3) := by decide +kernel
theorem dX4_chance_41 : decode cX4_chance 41 = .ok (.if_icmp .ge 43, 3) := by decide +kernel
theorem dX4_chance_44 : decode cX4_chance 44 = .ok (.iload_n 3, 1) := by decide +kernel
theorem dX4_chance_45 : decode cX4_chance 45 = .ok (.aload_n 0, 1) := by decide +kernel
theorem dX4_chance_46 : decode cX4_chance 46 = .ok (.getfield 38, 3) := by decide +kernel
theorem dX4_chance_49 : decode cX4_chance 49 = .ok (.iload 4, 2) := by decide +kernel
theorem dX4_chance_51 : decode cX4_chance 51 = .ok (.baload, 1) := by decide +kernel
theorem dX4_chance_52 : decode cX4_chance 52 = .ok (.ifCond .ne 23, 3) := by decide +kernel
theorem dX4_chance_55 : decode cX4_chance 55 = .ok (.aload_n 0, 1) := by decide +kernel
theorem dX4_chance_56 : decode cX4_chance 56 = .ok (.iload_n 1, 1) := by decide +kernel
theorem dX4_chance_57 : decode cX4_chance 57 = .ok (.iload 4, 2) := by decide +kernel
theorem dX4_chance_59 : decode cX4_chance 59 = .ok (.invokevirtual 105, 3) := by decide +kernel
theorem dX4_chance_62 : decode cX4_chance 62 = .ok (.ifCond .eq 13, 3) := by decide +kernel
theorem dX4_chance_65 : decode cX4_chance 65 = .ok (.aload_n 0, 1) := by decide +kernel
theorem dX4_chance_66 : decode cX4_chance 66 = .ok (.getfield 35, 3) := by decide +kernel
theorem dX4_chance_69 : decode cX4_chance 69 = .ok (.iload 4, 2) := by decide +kernel
theorem dX4_chance_71 : decode cX4_chance 71 = .ok (.iaload, 1) := by decide +kernel
theorem dX4_chance_72 : decode cX4_chance 72 = .ok (.goto 4, 3) := by decide +kernel
theorem dX4_chance_75 : decode cX4_chance 75 = .ok (.iconst 0, 1) := by decide +kernel
theorem dX4_chance_76 : decode cX4_chance 76 = .ok (.iadd, 1) := by decide +kernel
theorem dX4_chance_77 : decode cX4_chance 77 = .ok (.istore_n 3, 1) := by decide +kernel
theorem dX4_chance_78 : decode cX4_chance 78 = .ok (.iinc 4 1, 3) := by decide +kernel
theorem dX4_chance_81 : decode cX4_chance 81 = .ok (.goto (-46), 3) := by decide +kernel
theorem dX4_chance_84 : decode cX4_chance 84 = .ok (.iload_n 3, 1) := by decide +kernel
theorem dX4_chance_85 : decode cX4_chance 85 = .ok (.aload_n 0, 1) := by decide +kernel
theorem dX4_chance_86 : decode cX4_chance 86 = .ok (.invokevirtual 118, 3) := by decide +kernel
theorem dX4_chance_89 : decode cX4_chance 89 = .ok (.iload_n 2, 1) := by decide +kernel
theorem dX4_chance_90 : decode cX4_chance 90 = .ok (.invokestatic 121, 3) := by decide +kernel
theorem dX4_chance_93 : decode cX4_chance 93 = .ok (.ireturn, 1) := by decide +kernel
