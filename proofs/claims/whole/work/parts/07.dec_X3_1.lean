theorem dX3_chance_19 : decode cX3_chance 19 = .ok (.getfield 26, 3) := by decide +kernel
theorem dX3_chance_22 : decode cX3_chance 22 = .ok (.invokevirtual 151, 3) := by decide +kernel
theorem dX3_chance_25 : decode cX3_chance 25 = .ok (.istore_n 3, 1) := by decide +kernel
theorem dX3_chance_26 : decode cX3_chance 26 = .ok (.iload_n 3, 1) := by decide +kernel
theorem dX3_chance_27 : decode cX3_chance 27 = .ok (.ifCond .ne 6, 3) := by decide +kernel
theorem dX3_chance_30 : decode cX3_chance 30 = .ok (.ldc 132, 2) := by decide +kernel
theorem dX3_chance_32 : decode cX3_chance 32 = .ok (.ireturn, 1) := by decide +kernel
theorem dX3_chance_33 : decode cX3_chance 33 = .ok (.iconst 0, 1) := by decide +kernel
theorem dX3_chance_34 : decode cX3_chance 34 = .ok (.istore 4, 2) := by decide +kernel
theorem dX3_chance_36 : decode cX3_chance 36 = .ok (.iconst 0, 1) := by decide +kernel
theorem dX3_chance_37 : decode cX3_chance 37 = .ok (.istore 5, 2) := by decide +kernel
theorem dX3_chance_39 : decode cX3_chance 39 = .ok (.iload 5, 2) := by decide +kernel
theorem dX3_chance_41 : decode cX3_chance 41 = .ok (.aload_n 0, 1) := by decide +kernel
theorem dX3_chance_42 : decode cX3_chance 42 = .ok (.getfield 26, 3) := by decide +kernel
theorem dX3_chance_45 : decode cX3_chance 45 = .ok (.getfield 87, 3) := by decide +kernel
theorem dX3_chance_48 : decode cX3_chance 48 = .ok (.if_icmp .ge 47, 3) := by decide +kernel
theorem dX3_chance_51 : decode cX3_chance 51 = .ok (.aload_n 0, 1) := by decide +kernel
theorem dX3_chance_52 : decode cX3_chance 52 = .ok (.getfield 26, 3) := by decide +kernel
theorem dX3_chance_55 : decode cX3_chance 55 = .ok (.getfield 169, 3) := by decide +kernel
theorem dX3_chance_58 : decode cX3_chance 58 = .ok (.iload 5, 2) := by decide +kernel
theorem dX3_chance_60 : decode cX3_chance 60 = .ok (.baload, 1) := by decide +kernel
theorem dX3_chance_61 : decode cX3_chance 61 = .ok (.ifCond .ne 28, 3) := by decide +kernel
theorem dX3_chance_64 : decode cX3_chance 64 = .ok (.aload_n 0, 1) := by decide +kernel
theorem dX3_chance_65 : decode cX3_chance 65 = .ok (.iload_n 1, 1) := by decide +kernel
theorem dX3_chance_66 : decode cX3_chance 66 = .ok (.iload 5, 2) := by decide +kernel
theorem dX3_chance_68 : decode cX3_chance 68 = .ok (.invokevirtual 176, 3) := by decide +kernel
theorem dX3_chance_71 : decode cX3_chance 71 = .ok (.ifCond .eq 18, 3) := by decide +kernel
theorem dX3_chance_74 : decode cX3_chance 74 = .ok (.iload 4, 2) := by decide +kernel
theorem dX3_chance_76 : decode cX3_chance 76 = .ok (.aload_n 0, 1) := by decide +kernel
theorem dX3_chance_77 : decode cX3_chance 77 = .ok (.getfield 26, 3) := by decide +kernel
theorem dX3_chance_80 : decode cX3_chance 80 = .ok (.getfield 173, 3) := by decide +kernel
theorem dX3_chance_83 : decode cX3_chance 83 = .ok (.iload 5, 2) := by decide +kernel
theorem dX3_chance_85 : decode cX3_chance 85 = .ok (.iaload, 1) := by decide +kernel
theorem dX3_chance_86 : decode cX3_chance 86 = .ok (.iadd, 1) := by decide +kernel
theorem dX3_chance_87 : decode cX3_chance 87 = .ok (.istore 4, 2) := by decide +kernel
theorem dX3_chance_89 : decode cX3_chance 89 = .ok (.iinc 5 1, 3) := by decide +kernel
theorem dX3_chance_92 : decode cX3_chance 92 = .ok (.goto (-53), 3) := by decide +kernel
theorem dX3_chance_95 : decode cX3_chance 95 = .ok (.iload 4, 2) := by decide +kernel
theorem dX3_chance_97 : decode cX3_chance 97 = .ok (.iload_n 3, 1) := by decide +kernel
theorem dX3_chance_98 : decode cX3_chance 98 = .ok (.iload_n 2, 1) := by decide +kernel
theorem dX3_chance_99 : decode cX3_chance 99 = .ok (.invokestatic 154, 3) := by decide +kernel
theorem dX3_chance_102 : decode cX3_chance 102 = .ok (.ireturn, 1) := by decide +kernel
theorem dX3_startAnew_0 : decode cX3_startAnew 0 = .ok (.aload_n 0, 1) := by decide +kernel
theorem dX3_startAnew_1 : decode cX3_startAnew 1 = .ok (.getfield 10, 3) := by decide +kernel
theorem dX3_startAnew_4 : decode cX3_startAnew 4 = .ok (.iconst 0, 1) := by decide +kernel
theorem dX3_startAnew_5 : decode cX3_startAnew 5 = .ok (.putfield 59, 3) := by decide +kernel
theorem dX3_startAnew_8 : decode cX3_startAnew 8 = .ok (.aload_n 0, 1) := by decide +kernel
theorem dX3_startAnew_9 : decode cX3_startAnew 9 = .ok (.getfield 19, 3) := by decide +kernel
theorem dX3_startAnew_12 : decode cX3_startAnew 12 = .ok (.iconst 0, 1) := by decide +kernel
theorem dX3_startAnew_13 : decode cX3_startAnew 13 = .ok (.putfield 55, 3) := by decide +kernel
theorem dX3_startAnew_16 : decode cX3_startAnew 16 = .ok (.aload_n 0, 1) := by decide +kernel
theorem dX3_startAnew_17 : decode cX3_startAnew 17 = .ok (.getfield 26, 3) := by decide +kernel
theorem dX3_startAnew_20 : decode cX3_startAnew 20 = .ok (.iconst 0, 1) := by decide +kernel
theorem dX3_startAnew_21 : decode cX3_startAnew 21 = .ok (.putfield 87, 3) := by decide +kernel
theorem dX3_startAnew_24 : decode cX3_startAnew 24 = .ok (.aload_n 0, 1) := by decide +kernel
theorem dX3_startAnew_25 : decode cX3_startAnew 25 = .ok (.iconst 0, 1) := by decide +kernel
theorem dX3_startAnew_26 : decode cX3_startAnew 26 = .ok (.putfield 71, 3) := by decide +kernel
theorem dX3_startAnew_29 : decode cX3_startAnew 29 = .ok (.aload_n 0, 1) := by decide +kernel
theorem dX3_startAnew_30 : decode cX3_startAnew 30 = .ok (.iload_n 1, 1) := by decide +kernel
theorem dX3_startAnew_31 : decode cX3_startAnew 31 = .ok (.putfield 78, 3) := by decide +kernel
theorem dX3_startAnew_34 : decode cX3_startAnew 34 = .ok (.aload_n 0, 1) := by decide +kernel
theorem dX3_startAnew_35 : decode cX3_startAnew 35 = .ok (.iload_n 2, 1) := by decide +kernel
theorem dX3_startAnew_36 : decode cX3_startAnew 36 = .ok (.putfield 81, 3) := by decide +kernel
theorem dX3_startAnew_39 : decode cX3_startAnew 39 = .ok (.aload_n 0, 1) := by decide +kernel
theorem dX3_startAnew_40 : decode cX3_startAnew 40 = .ok (.iconst 0, 1) := by decide +kernel
theorem dX3_startAnew_41 : decode cX3_startAnew 41 = .ok (.putfield 68, 3) := by decide +kernel
theorem dX3_startAnew_44 : decode cX3_startAnew 44 = .ok (.return_, 1) := by decide +kernel
theorem dX3_planCount_0 : decode cX3_planCount 0 = .ok (.iconst 1, 1) := by decide +kernel
theorem dX3_planCount_1 : decode cX3_planCount 1 = .ok (.aload_n 0, 1) := by decide +kernel
theorem dX3_planCount_2 : decode cX3_planCount 2 = .ok (.getfield 78, 3) := by decide +kernel
theorem dX3_planCount_5 : decode cX3_planCount 5 = .ok (.aload_n 0, 1) := by decide +kernel
theorem dX3_planCount_6 : decode cX3_planCount 6 = .ok (.getfield 81, 3) := by decide +kernel
theorem dX3_planCount_9 : decode cX3_planCount 9 = .ok (.iadd, 1) := by decide +kernel
theorem dX3_planCount_10 : decode cX3_planCount 10 = .ok (.ishl, 1) := by decide +kernel
theorem dX3_planCount_11 : decode cX3_planCount 11 = .ok (.ireturn, 1) := by decide +kernel
theorem dX3_firstPartCount_0 : decode cX3_firstPartCount 0 = .ok (.iconst 1, 1) := by decide +kernel
theorem dX3_firstPartCount_1 : decode cX3_firstPartCount 1 = .ok (.aload_n 0, 1) := by decide +kernel
theorem dX3_firstPartCount_2 : decode cX3_firstPartCount 2 = .ok (.getfield 78, 3) := by decide +kernel
theorem dX3_firstPartCount_5 : decode cX3_firstPartCount 5 = .ok (.ishl, 1) := by decide +kernel
theorem dX3_firstPartCount_6 : decode cX3_firstPartCount 6 = .ok (.ireturn, 1) := by decide +kernel
set_option maxRecDepth 20000 in
theorem ggX3_isPlan_X3_planCount : GoodIn wsX3_isPlan wsX3_planCount := goodIn_r _ [5, 6, 7, 11, 12, 13, 14, 15, 16, 17, 18, 19, 20, 21, 22] (by decide +kernel) (by decide +kernel)
set_option maxRecDepth 20000 in
theorem gX3_isPlan_X3_planCount : GoodIn wsX3_isPlan (wsV RX3 133 RX3 yX3_planCount wsX3_planCount) := goodIn_app (goodIn_of _ (by decide +kernel)) ggX3_isPlan_X3_planCount
set_option maxRecDepth 20000 in
theorem ggX3_isPlan_X3_isWithin : GoodIn wsX3_isPlan wsX3_isWithin := goodIn_r _ [10] (by decide +kernel) (by decide +kernel)
set_option maxRecDepth 20000 in
theorem gX3_isPlan_X3_isWithin : GoodIn wsX3_isPlan (va_wsS RX3 50 yX3_isWithin wsX3_isWithin) := goodIn_app (goodIn_of _ (by decide +kernel)) ggX3_isPlan_X3_isWithin
theorem dX3_isPlan_0 : decode cX3_isPlan 0 = .ok (.iload_n 1, 1) := by decide +kernel
theorem dX3_isPlan_1 : decode cX3_isPlan 1 = .ok (.iconst 0, 1) := by decide +kernel
theorem dX3_isPlan_2 : decode cX3_isPlan 2 = .ok (.aload_n 0, 1) := by decide +kernel
theorem dX3_isPlan_3 : decode cX3_isPlan 3 = .ok (.invokevirtual 133, 3) := by decide +kernel
theorem dX3_isPlan_6 : decode cX3_isPlan 6 = .ok (.iconst 1, 1) := by decide +kernel
theorem dX3_isPlan_7 : decode cX3_isPlan 7 = .ok (.isub, 1) := by decide +kernel
theorem dX3_isPlan_8 : decode cX3_isPlan 8 = .ok (.invokestatic 50, 3) := by decide +kernel
theorem dX3_isPlan_11 : decode cX3_isPlan 11 = .ok (.ireturn, 1) := by decide +kernel
set_option maxRecDepth 20000 in
theorem ggX3_isFirstPart_X3_firstPartCount : GoodIn wsX3_isFirstPart wsX3_firstPartCount := goodIn_r _ [5, 6, 10, 11, 12, 13, 14, 15, 16, 17, 18, 19, 20, 21] (by decide +kernel) (by decide +kernel)
set_option maxRecDepth 20000 in
theorem gX3_isFirstPart_X3_firstPartCount : GoodIn wsX3_isFirstPart (wsV RX3 166 RX3 yX3_firstPartCount wsX3_firstPartCount) := goodIn_app (goodIn_of _ (by decide +kernel)) ggX3_isFirstPart_X3_firstPartCount
set_option maxRecDepth 20000 in
theorem ggX3_isFirstPart_X3_isWithin : GoodIn wsX3_isFirstPart wsX3_isWithin := goodIn_r _ [9] (by decide +kernel) (by decide +kernel)
set_option maxRecDepth 20000 in
theorem gX3_isFirstPart_X3_isWithin : GoodIn wsX3_isFirstPart (va_wsS RX3 50 yX3_isWithin wsX3_isWithin) := goodIn_app (goodIn_of _ (by decide +kernel)) ggX3_isFirstPart_X3_isWithin
theorem dX3_isFirstPart_0 : decode cX3_isFirstPart 0 = .ok (.iload_n 1, 1) := by decide +kernel
theorem dX3_isFirstPart_1 : decode cX3_isFirstPart 1 = .ok (.iconst 0, 1) := by decide +kernel
theorem dX3_isFirstPart_2 : decode cX3_isFirstPart 2 = .ok (.aload_n 0, 1) := by decide +kernel
theorem dX3_isFirstPart_3 : decode cX3_isFirstPart 3 = .ok (.invokevirtual 166, 3) := by decide +kernel
theorem dX3_isFirstPart_6 : decode cX3_isFirstPart 6 = .ok (.iconst 1, 1) := by decide +kernel
theorem dX3_isFirstPart_7 : decode cX3_isFirstPart 7 = .ok (.isub, 1) := by decide +kernel
theorem dX3_isFirstPart_8 : decode cX3_isFirstPart 8 = .ok (.invokestatic 50, 3) := by decide +kernel
theorem dX3_isFirstPart_11 : decode cX3_isFirstPart 11 = .ok (.ireturn, 1) := by decide +kernel
set_option maxRecDepth 20000 in
theorem ggX3_isRowOrCost_X3_isWithin : GoodIn wsX3_isRowOrCost wsX3_isWithin := goodIn_r _ [5] (by decide +kernel) (by decide +kernel)
set_option maxRecDepth 20000 in
theorem gX3_isRowOrCost_X3_isWithin : GoodIn wsX3_isRowOrCost (va_wsS RX3 50 yX3_isWithin wsX3_isWithin) := goodIn_app (goodIn_of _ (by decide +kernel)) ggX3_isRowOrCost_X3_isWithin
theorem dX3_isRowOrCost_0 : decode cX3_isRowOrCost 0 = .ok (.iload_n 1, 1) := by decide +kernel
theorem dX3_isRowOrCost_1 : decode cX3_isRowOrCost 1 = .ok (.iconst (-1), 1) := by decide +kernel
theorem dX3_isRowOrCost_2 : decode cX3_isRowOrCost 2 = .ok (.aload_n 0, 1) := by decide +kernel
theorem dX3_isRowOrCost_3 : decode cX3_isRowOrCost 3 = .ok (.getfield 71, 3) := by decide +kernel
theorem dX3_isRowOrCost_6 : decode cX3_isRowOrCost 6 = .ok (.iconst 1, 1) := by decide +kernel
theorem dX3_isRowOrCost_7 : decode cX3_isRowOrCost 7 = .ok (.isub, 1) := by decide +kernel
theorem dX3_isRowOrCost_8 : decode cX3_isRowOrCost 8 = .ok (.invokestatic 50, 3) := by decide +kernel
theorem dX3_isRowOrCost_11 : decode cX3_isRowOrCost 11 = .ok (.ireturn, 1) := by decide +kernel
set_option maxRecDepth 20000 in
theorem ggX3_isName_X3_isWithin : GoodIn wsX3_isName wsX3_isWithin := goodIn_r _ [6] (by decide +kernel) (by decide +kernel)
set_option maxRecDepth 20000 in
theorem gX3_isName_X3_isWithin : GoodIn wsX3_isName (va_wsS RX3 50 yX3_isWithin wsX3_isWithin) := goodIn_app (goodIn_of _ (by decide +kernel)) ggX3_isName_X3_isWithin
theorem dX3_isName_0 : decode cX3_isName 0 = .ok (.iload_n 1, 1) := by decide +kernel
theorem dX3_isName_1 : decode cX3_isName 1 = .ok (.iconst 0, 1) := by decide +kernel
theorem dX3_isName_2 : decode cX3_isName 2 = .ok (.aload_n 0, 1) := by decide +kernel
theorem dX3_isName_3 : decode cX3_isName 3 = .ok (.getfield 10, 3) := by decide +kernel
theorem dX3_isName_6 : decode cX3_isName 6 = .ok (.getfield 59, 3) := by decide +kernel
theorem dX3_isName_9 : decode cX3_isName 9 = .ok (.iconst 1, 1) := by decide +kernel
theorem dX3_isName_10 : decode cX3_isName 10 = .ok (.isub, 1) := by decide +kernel
theorem dX3_isName_11 : decode cX3_isName 11 = .ok (.invokestatic 50, 3) := by decide +kernel
theorem dX3_isName_14 : decode cX3_isName 14 = .ok (.ireturn, 1) := by decide +kernel
set_option maxRecDepth 20000 in
theorem ggX3_isListed_X3_isWithin : GoodIn wsX3_isListed wsX3_isWithin := goodIn_r _ [6] (by decide +kernel) (by decide +kernel)
set_option maxRecDepth 20000 in
theorem gX3_isListed_X3_isWithin : GoodIn wsX3_isListed (va_wsS RX3 50 yX3_isWithin wsX3_isWithin) := goodIn_app (goodIn_of _ (by decide +kernel)) ggX3_isListed_X3_isWithin
theorem dX3_isListed_0 : decode cX3_isListed 0 = .ok (.iload_n 1, 1) := by decide +kernel
theorem dX3_isListed_1 : decode cX3_isListed 1 = .ok (.iconst 0, 1) := by decide +kernel
theorem dX3_isListed_2 : decode cX3_isListed 2 = .ok (.aload_n 0, 1) := by decide +kernel
theorem dX3_isListed_3 : decode cX3_isListed 3 = .ok (.getfield 26, 3) := by decide +kernel
theorem dX3_isListed_6 : decode cX3_isListed 6 = .ok (.getfield 87, 3) := by decide +kernel
theorem dX3_isListed_9 : decode cX3_isListed 9 = .ok (.iconst 1, 1) := by decide +kernel
theorem dX3_isListed_10 : decode cX3_isListed 10 = .ok (.isub, 1) := by decide +kernel
theorem dX3_isListed_11 : decode cX3_isListed 11 = .ok (.invokestatic 50, 3) := by decide +kernel
theorem dX3_isListed_14 : decode cX3_isListed 14 = .ok (.ireturn, 1) := by decide +kernel
set_option maxRecDepth 20000 in
theorem ggX3_isPart_X3_isWithin : GoodIn wsX3_isPart wsX3_isWithin := goodIn_r _ [4] (by decide +kernel) (by decide +kernel)
set_option maxRecDepth 20000 in
theorem gX3_isPart_X3_isWithin : GoodIn wsX3_isPart (va_wsS RX3 50 yX3_isWithin wsX3_isWithin) := goodIn_app (goodIn_of _ (by decide +kernel)) ggX3_isPart_X3_isWithin
theorem dX3_isPart_0 : decode cX3_isPart 0 = .ok (.iload_n 0, 1) := by decide +kernel
theorem dX3_isPart_1 : decode cX3_isPart 1 = .ok (.iconst 0, 1) := by decide +kernel
theorem dX3_isPart_2 : decode cX3_isPart 2 = .ok (.iconst 1, 1) := by decide +kernel
theorem dX3_isPart_3 : decode cX3_isPart 3 = .ok (.invokestatic 50, 3) := by decide +kernel
theorem dX3_isPart_6 : decode cX3_isPart 6 = .ok (.ireturn, 1) := by decide +kernel
theorem dX3_isWithin_0 : decode cX3_isWithin 0 = .ok (.iload_n 1, 1) := by decide +kernel
theorem dX3_isWithin_1 : decode cX3_isWithin 1 = .ok (.iload_n 0, 1) := by decide +kernel
theorem dX3_isWithin_2 : decode cX3_isWithin 2 = .ok (.if_icmp .gt 12, 3) := by decide +kernel
theorem dX3_isWithin_5 : decode cX3_isWithin 5 = .ok (.iload_n 0, 1) := by decide +kernel
theorem dX3_isWithin_6 : decode cX3_isWithin 6 = .ok (.iload_n 2, 1) := by decide +kernel
theorem dX3_isWithin_7 : decode cX3_isWithin 7 = .ok (.if_icmp .gt 7, 3) := by decide +kernel
theorem dX3_isWithin_10 : decode cX3_isWithin 10 = .ok (.iconst 1, 1) := by decide +kernel
theorem dX3_isWithin_11 : decode cX3_isWithin 11 = .ok (.goto 4, 3) := by decide +kernel
theorem dX3_isWithin_14 : decode cX3_isWithin 14 = .ok (.iconst 0, 1) := by decide +kernel
theorem dX3_isWithin_15 : decode cX3_isWithin 15 = .ok (.ireturn, 1) := by decide +kernel
theorem dX3_slotOf_0 : decode cX3_slotOf 0 = .ok (.iload_n 0, 1) := by decide +kernel
theorem dX3_slotOf_1 : decode cX3_slotOf 1 = .ok (.iconst (-1), 1) := by decide +kernel
theorem dX3_slotOf_2 : decode cX3_slotOf 2 = .ok (.isub, 1) := by decide +kernel
theorem dX3_slotOf_3 : decode cX3_slotOf 3 = .ok (.ireturn, 1) := by decide +kernel
set_option maxRecDepth 20000 in
theorem ggX3_findWorst_X2_weigh : GoodIn wsX3_findWorst wsX2_weigh := goodIn_r _ [14, 15, 16, 17, 18, 19, 20, 21, 13, 22, 23, 51, 52, 53, 54, 55] (by decide +kernel) (by decide +kernel)
set_option maxRecDepth 20000 in
theorem gX3_findWorst_X2_weigh : GoodIn wsX3_findWorst (wsV RX3 180 RX2 yX2_weigh wsX2_weigh) := goodIn_app (goodIn_of _ (by decide +kernel)) ggX3_findWorst_X2_weigh
set_option maxRecDepth 20000 in
theorem ggX3_findWorst_X3_worstOf : GoodIn wsX3_findWorst wsX3_worstOf := goodIn_r _ [28, 2, 3, 29, 30, 35, 36, 37, 38, 39, 40, 41, 42, 43, 44, 45, 46, 47, 48, 49, 50] (by decide +kernel) (by decide +kernel)
set_option maxRecDepth 20000 in
theorem gX3_findWorst_X3_worstOf : GoodIn wsX3_findWorst (wsV RX3 184 RX3 yX3_worstOf wsX3_worstOf) := goodIn_app (goodIn_of _ (by decide +kernel)) ggX3_findWorst_X3_worstOf
set_option maxRecDepth 20000 in
theorem ggX3_findWorst_X3_greatestGain : GoodIn wsX3_findWorst wsX3_greatestGain := goodIn_r _ [34, 9, 3, 4, 6, 35, 36, 37, 38, 39, 40, 41, 42, 43, 44, 45, 46, 47, 48, 49, 50] (by decide +kernel) (by decide +kernel)
set_option maxRecDepth 20000 in
theorem gX3_findWorst_X3_greatestGain : GoodIn wsX3_findWorst (wsV RX3 187 RX3 yX3_greatestGain wsX3_greatestGain) := goodIn_app (goodIn_of _ (by decide +kernel)) ggX3_findWorst_X3_greatestGain
theorem dX3_findWorst_0 : decode cX3_findWorst 0 = .ok (.aload_n 0, 1) := by decide +kernel
theorem dX3_findWorst_1 : decode cX3_findWorst 1 = .ok (.getfield 19, 3) := by decide +kernel
theorem dX3_findWorst_4 : decode cX3_findWorst 4 = .ok (.iload_n 1, 1) := by decide +kernel
theorem dX3_findWorst_5 : decode cX3_findWorst 5 = .ok (.iload_n 2, 1) := by decide +kernel
theorem dX3_findWorst_6 : decode cX3_findWorst 6 = .ok (.aload_n 0, 1) := by decide +kernel
theorem dX3_findWorst_7 : decode cX3_findWorst 7 = .ok (.getfield 37, 3) := by decide +kernel
theorem dX3_findWorst_10 : decode cX3_findWorst 10 = .ok (.invokevirtual 180, 3) := by decide +kernel
theorem dX3_findWorst_13 : decode cX3_findWorst 13 = .ok (.istore_n 3, 1) := by decide +kernel
theorem dX3_findWorst_14 : decode cX3_findWorst 14 = .ok (.iconst 0, 1) := by decide +kernel
theorem dX3_findWorst_15 : decode cX3_findWorst 15 = .ok (.istore 4, 2) := by decide +kernel
theorem dX3_findWorst_17 : decode cX3_findWorst 17 = .ok (.iload 4, 2) := by decide +kernel
theorem dX3_findWorst_19 : decode cX3_findWorst 19 = .ok (.aload_n 0, 1) := by decide +kernel
theorem dX3_findWorst_20 : decode cX3_findWorst 20 = .ok (.getfield 10, 3) := by decide +kernel
theorem dX3_findWorst_23 : decode cX3_findWorst 23 = .ok (.getfield 59, 3) := by decide +kernel
theorem dX3_findWorst_26 : decode cX3_findWorst 26 = .ok (.if_icmp .ge 79, 3) := by decide +kernel
theorem dX3_findWorst_29 : decode cX3_findWorst 29 = .ok (.iload_n 3, 1) := by decide +kernel
theorem dX3_findWorst_30 : decode cX3_findWorst 30 = .ok (.aload_n 0, 1) := by decide +kernel
theorem dX3_findWorst_31 : decode cX3_findWorst 31 = .ok (.getfield 37, 3) := by decide +kernel
theorem dX3_findWorst_34 : decode cX3_findWorst 34 = .ok (.iload 4, 2) := by decide +kernel
theorem dX3_findWorst_36 : decode cX3_findWorst 36 = .ok (.iaload, 1) := by decide +kernel
theorem dX3_findWorst_37 : decode cX3_findWorst 37 = .ok (.aload_n 0, 1) := by decide +kernel
theorem dX3_findWorst_38 : decode cX3_findWorst 38 = .ok (.getfield 10, 3) := by decide +kernel
theorem dX3_findWorst_41 : decode cX3_findWorst 41 = .ok (.getfield 114, 3) := by decide +kernel
theorem dX3_findWorst_44 : decode cX3_findWorst 44 = .ok (.iload 4, 2) := by decide +kernel
theorem dX3_findWorst_46 : decode cX3_findWorst 46 = .ok (.iaload, 1) := by decide +kernel
theorem dX3_findWorst_47 : decode cX3_findWorst 47 = .ok (.imul, 1) := by decide +kernel
theorem dX3_findWorst_48 : decode cX3_findWorst 48 = .ok (.iadd, 1) := by decide +kernel
theorem dX3_findWorst_49 : decode cX3_findWorst 49 = .ok (.istore_n 3, 1) := by decide +kernel
theorem dX3_findWorst_50 : decode cX3_findWorst 50 = .ok (.aload_n 0, 1) := by decide +kernel
theorem dX3_findWorst_51 : decode cX3_findWorst 51 = .ok (.getfield 40, 3) := by decide +kernel
theorem dX3_findWorst_54 : decode cX3_findWorst 54 = .ok (.iload 4, 2) := by decide +kernel
theorem dX3_findWorst_56 : decode cX3_findWorst 56 = .ok (.aload_n 0, 1) := by decide +kernel
theorem dX3_findWorst_57 : decode cX3_findWorst 57 = .ok (.getfield 37, 3) := by decide +kernel
theorem dX3_findWorst_60 : decode cX3_findWorst 60 = .ok (.iload 4, 2) := by decide +kernel
theorem dX3_findWorst_62 : decode cX3_findWorst 62 = .ok (.iaload, 1) := by decide +kernel
theorem dX3_findWorst_63 : decode cX3_findWorst 63 = .ok (.aload_n 0, 1) := by decide +kernel
theorem dX3_findWorst_64 : decode cX3_findWorst 64 = .ok (.iload 4, 2) := by decide +kernel
theorem dX3_findWorst_66 : decode cX3_findWorst 66 = .ok (.invokevirtual 184, 3) := by decide +kernel
theorem dX3_findWorst_69 : decode cX3_findWorst 69 = .ok (.aload_n 0, 1) := by decide +kernel
theorem dX3_findWorst_70 : decode cX3_findWorst 70 = .ok (.getfield 10, 3) := by decide +kernel
theorem dX3_findWorst_73 : decode cX3_findWorst 73 = .ok (.getfield 114, 3) := by decide +kernel
theorem dX3_findWorst_76 : decode cX3_findWorst 76 = .ok (.iload 4, 2) := by decide +kernel
theorem dX3_findWorst_78 : decode cX3_findWorst 78 = .ok (.iaload, 1) := by decide +kernel
theorem dX3_findWorst_79 : decode cX3_findWorst 79 = .ok (.isub, 1) := by decide +kernel
theorem dX3_findWorst_80 : decode cX3_findWorst 80 = .ok (.imul, 1) := by decide +kernel
theorem dX3_findWorst_81 : decode cX3_findWorst 81 = .ok (.iastore, 1) := by decide +kernel
theorem dX3_findWorst_82 : decode cX3_findWorst 82 = .ok (.aload_n 0, 1) := by decide +kernel
theorem dX3_findWorst_83 : decode cX3_findWorst 83 = .ok (.getfield 43, 3) := by decide +kernel
theorem dX3_findWorst_86 : decode cX3_findWorst 86 = .ok (.iload 4, 2) := by decide +kernel
theorem dX3_findWorst_88 : decode cX3_findWorst 88 = .ok (.aload_n 0, 1) := by decide +kernel
theorem dX3_findWorst_89 : decode cX3_findWorst 89 = .ok (.getfield 10, 3) := by decide +kernel
theorem dX3_findWorst_92 : decode cX3_findWorst 92 = .ok (.getfield 114, 3) := by decide +kernel
theorem dX3_findWorst_95 : decode cX3_findWorst 95 = .ok (.iload 4, 2) := by decide +kernel
theorem dX3_findWorst_97 : decode cX3_findWorst 97 = .ok (.iaload, 1) := by decide +kernel
theorem dX3_findWorst_98 : decode cX3_findWorst 98 = .ok (.iastore, 1) := by decide +kernel
theorem dX3_findWorst_99 : decode cX3_findWorst 99 = .ok (.iinc 4 1, 3) := by decide +kernel
theorem dX3_findWorst_102 : decode cX3_findWorst 102 = .ok (.goto (-85), 3) := by decide +kernel
theorem dX3_findWorst_105 : decode cX3_findWorst 105 = .ok (.iconst 0, 1) := by decide +kernel
theorem dX3_findWorst_106 : decode cX3_findWorst 106 = .ok (.istore 4, 2) := by decide +kernel
theorem dX3_findWorst_108 : decode cX3_findWorst 108 = .ok (.iload 4, 2) := by decide +kernel
theorem dX3_findWorst_110 : decode cX3_findWorst 110 = .ok (.aload_n 0, 1) := by decide +kernel
theorem dX3_findWorst_111 : decode cX3_findWorst 111 = .ok (.getfield 68, 3) := by decide +kernel
theorem dX3_findWorst_114 : decode cX3_findWorst 114 = .ok (.if_icmp .ge 56, 3) := by decide +kernel
theorem dX3_findWorst_117 : decode cX3_findWorst 117 = .ok (.aload_n 0, 1) := by decide +kernel
theorem dX3_findWorst_118 : decode cX3_findWorst 118 = .ok (.invokevirtual 187, 3) := by decide +kernel
theorem dX3_findWorst_121 : decode cX3_findWorst 121 = .ok (.istore 5, 2) := by decide +kernel
theorem dX3_findWorst_123 : decode cX3_findWorst 123 = .ok (.iload 5, 2) := by decide +kernel
theorem dX3_findWorst_125 : decode cX3_findWorst 125 = .ok (.ldc 132, 2) := by decide +kernel
theorem dX3_findWorst_127 : decode cX3_findWorst 127 = .ok (.if_icmp .ne 6, 3) := by decide +kernel
theorem dX3_findWorst_130 : decode cX3_findWorst 130 = .ok (.goto 40, 3) := by decide +kernel
theorem dX3_findWorst_133 : decode cX3_findWorst 133 = .ok (.iload_n 3, 1) := by decide +kernel
theorem dX3_findWorst_134 : decode cX3_findWorst 134 = .ok (.aload_n 0, 1) := by decide +kernel
theorem dX3_findWorst_135 : decode cX3_findWorst 135 = .ok (.getfield 40, 3) := by decide +kernel
theorem dX3_findWorst_138 : decode cX3_findWorst 138 = .ok (.iload 5, 2) := by decide +kernel
theorem dX3_findWorst_140 : decode cX3_findWorst 140 = .ok (.iaload, 1) := by decide +kernel
theorem dX3_findWorst_141 : decode cX3_findWorst 141 = .ok (.iadd, 1) := by decide +kernel
theorem dX3_findWorst_142 : decode cX3_findWorst 142 = .ok (.istore_n 3, 1) := by decide +kernel
theorem dX3_findWorst_143 : decode cX3_findWorst 143 = .ok (.aload_n 0, 1) := by decide +kernel
theorem dX3_findWorst_144 : decode cX3_findWorst 144 = .ok (.getfield 40, 3) := by decide +kernel
theorem dX3_findWorst_147 : decode cX3_findWorst 147 = .ok (.iload 5, 2) := by decide +kernel
theorem dX3_findWorst_149 : decode cX3_findWorst 149 = .ok (.iconst 0, 1) := by decide +kernel
theorem dX3_findWorst_150 : decode cX3_findWorst 150 = .ok (.iastore, 1) := by decide +kernel
theorem dX3_findWorst_151 : decode cX3_findWorst 151 = .ok (.aload_n 0, 1) := by decide +kernel
theorem dX3_findWorst_152 : decode cX3_findWorst 152 = .ok (.getfield 43, 3) := by decide +kernel
theorem dX3_findWorst_155 : decode cX3_findWorst 155 = .ok (.iload 5, 2) := by decide +kernel
theorem dX3_findWorst_157 : decode cX3_findWorst 157 = .ok (.aload_n 0, 1) := by decide +kernel
theorem dX3_findWorst_158 : decode cX3_findWorst 158 = .ok (.iload 5, 2) := by decide +kernel
theorem dX3_findWorst_160 : decode cX3_findWorst 160 = .ok (.invokevirtual 184, 3) := by decide +kernel
theorem dX3_findWorst_163 : decode cX3_findWorst 163 = .ok (.iastore, 1) := by decide +kernel
theorem dX3_findWorst_164 : decode cX3_findWorst 164 = .ok (.iinc 4 1, 3) := by decide +kernel
theorem dX3_findWorst_167 : decode cX3_findWorst 167 = .ok (.goto (-59), 3) := by decide +kernel
theorem dX3_findWorst_170 : decode cX3_findWorst 170 = .ok (.iload_n 3, 1) := by decide +kernel
theorem dX3_findWorst_171 : decode cX3_findWorst 171 = .ok (.ireturn, 1) := by decide +kernel
theorem dX3_worstOf_0 : decode cX3_worstOf 0 = .ok (.aload_n 0, 1) := by decide +kernel
theorem dX3_worstOf_1 : decode cX3_worstOf 1 = .ok (.getfield 37, 3) := by decide +kernel
theorem dX3_worstOf_4 : decode cX3_worstOf 4 = .ok (.iload_n 1, 1) := by decide +kernel
theorem dX3_worstOf_5 : decode cX3_worstOf 5 = .ok (.iaload, 1) := by decide +kernel
theorem dX3_worstOf_6 : decode cX3_worstOf 6 = .ok (.ifCond .le 15, 3) := by decide +kernel
theorem dX3_worstOf_9 : decode cX3_worstOf 9 = .ok (.aload_n 0, 1) := by decide +kernel
theorem dX3_worstOf_10 : decode cX3_worstOf 10 = .ok (.getfield 10, 3) := by decide +kernel
theorem dX3_worstOf_13 : decode cX3_worstOf 13 = .ok (.getfield 100, 3) := by decide +kernel
theorem dX3_worstOf_16 : decode cX3_worstOf 16 = .ok (.iload_n 1, 1) := by decide +kernel
theorem dX3_worstOf_17 : decode cX3_worstOf 17 = .ok (.iaload, 1) := by decide +kernel
theorem dX3_worstOf_18 : decode cX3_worstOf 18 = .ok (.goto 12, 3) := by decide +kernel
theorem dX3_worstOf_21 : decode cX3_worstOf 21 = .ok (.aload_n 0, 1) := by decide +kernel
theorem dX3_worstOf_22 : decode cX3_worstOf 22 = .ok (.getfield 10, 3) := by decide +kernel
theorem dX3_worstOf_25 : decode cX3_worstOf 25 = .ok (.getfield 97, 3) := by decide +kernel
theorem dX3_worstOf_28 : decode cX3_worstOf 28 = .ok (.iload_n 1, 1) := by decide +kernel
theorem dX3_worstOf_29 : decode cX3_worstOf 29 = .ok (.iaload, 1) := by decide +kernel
theorem dX3_worstOf_30 : decode cX3_worstOf 30 = .ok (.ireturn, 1) := by decide +kernel
theorem dX3_greatestGain_0 : decode cX3_greatestGain 0 = .ok (.ldc 132, 2) := by decide +kernel
theorem dX3_greatestGain_2 : decode cX3_greatestGain 2 = .ok (.istore_n 1, 1) := by decide +kernel
theorem dX3_greatestGain_3 : decode cX3_greatestGain 3 = .ok (.iconst 0, 1) := by decide +kernel
theorem dX3_greatestGain_4 : decode cX3_greatestGain 4 = .ok (.istore_n 2, 1) := by decide +kernel
theorem dX3_greatestGain_5 : decode cX3_greatestGain 5 = .ok (.iconst 0, 1) := by decide +kernel
theorem dX3_greatestGain_6 : decode cX3_greatestGain 6 = .ok (.istore_n 3, 1) := by decide +kernel
theorem dX3_greatestGain_7 : decode cX3_greatestGain 7 = .ok (.iload_n 3, 1) := by decide +kernel
theorem dX3_greatestGain_8 : decode cX3_greatestGain 8 = .ok (.aload_n 0, 1) := by decide +kernel
theorem dX3_greatestGain_9 : decode cX3_greatestGain 9 = .ok (.getfield 10, 3) := by decide +kernel
theorem dX3_greatestGain_12 : decode cX3_greatestGain 12 = .ok (.getfield 59, 3) := by decide +kernel
theorem dX3_greatestGain_15 : decode cX3_greatestGain 15 = .ok (.if_icmp .ge 28, 3) := by decide +kernel
theorem dX3_greatestGain_18 : decode cX3_greatestGain 18 = .ok (.aload_n 0, 1) := by decide +kernel
theorem dX3_greatestGain_19 : decode cX3_greatestGain 19 = .ok (.getfield 40, 3) := by decide +kernel
theorem dX3_greatestGain_22 : decode cX3_greatestGain 22 = .ok (.iload_n 3, 1) := by decide +kernel
theorem dX3_greatestGain_23 : decode cX3_greatestGain 23 = .ok (.iaload, 1) := by decide +kernel
theorem dX3_greatestGain_24 : decode cX3_greatestGain 24 = .ok (.iload_n 2, 1) := by decide +kernel
theorem dX3_greatestGain_25 : decode cX3_greatestGain 25 = .ok (.if_icmp .le 12, 3) := by decide +kernel
theorem dX3_greatestGain_28 : decode cX3_greatestGain 28 = .ok (.iload_n 3, 1) := by decide +kernel
theorem dX3_greatestGain_29 : decode cX3_greatestGain 29 = .ok (.istore_n 1, 1) := by decide +kernel
theorem dX3_greatestGain_30 : decode cX3_greatestGain 30 = .ok (.aload_n 0, 1) := by decide +kernel
theorem dX3_greatestGain_31 : decode cX3_greatestGain 31 = .ok (.getfield 40, 3) := by decide +kernel
theorem dX3_greatestGain_34 : decode cX3_greatestGain 34 = .ok (.iload_n 3, 1) := by decide +kernel
theorem dX3_greatestGain_35 : decode cX3_greatestGain 35 = .ok (.iaload, 1) := by decide +kernel
theorem dX3_greatestGain_36 : decode cX3_greatestGain 36 = .ok (.istore_n 2, 1) := by decide +kernel
theorem dX3_greatestGain_37 : decode cX3_greatestGain 37 = .ok (.iinc 3 1, 3) := by decide +kernel
theorem dX3_greatestGain_40 : decode cX3_greatestGain 40 = .ok (.goto (-33), 3) := by decide +kernel
theorem dX3_greatestGain_43 : decode cX3_greatestGain 43 = .ok (.iload_n 1, 1) := by decide +kernel
theorem dX3_greatestGain_44 : decode cX3_greatestGain 44 = .ok (.ireturn, 1) := by decide +kernel
set_option maxRecDepth 20000 in
theorem ggX3_firstBroken_X3_findWorst : GoodIn wsX3_firstBroken wsX3_findWorst := goodIn_r _ [7, 8, 9, 10, 11, 12, 13, 14, 15, 2, 16, 17, 18, 19, 20, 21, 22, 23, 24, 25, 26, 27, 28, 29, 30, 31, 32, 6, 33, 34, 35, 36, 37, 38, 39, 40, 41, 42, 43, 44, 45, 46, 47, 48, 49, 50, 51, 52, 53, 54, 55, 56, 57, 58, 59, 60] (by decide +kernel) (by decide +kernel)
set_option maxRecDepth 20000 in
theorem gX3_firstBroken_X3_findWorst : GoodIn wsX3_firstBroken (wsV RX3 125 RX3 yX3_findWorst wsX3_findWorst) := goodIn_app (goodIn_of _ (by decide +kernel)) ggX3_firstBroken_X3_findWorst
theorem dX3_firstBroken_0 : decode cX3_firstBroken 0 = .ok (.iconst 0, 1) := by decide +kernel
theorem dX3_firstBroken_1 : decode cX3_firstBroken 1 = .ok (.istore_n 2, 1) := by decide +kernel
theorem dX3_firstBroken_2 : decode cX3_firstBroken 2 = .ok (.iload_n 2, 1) := by decide +kernel
theorem dX3_firstBroken_3 : decode cX3_firstBroken 3 = .ok (.aload_n 0, 1) := by decide +kernel
theorem dX3_firstBroken_4 : decode cX3_firstBroken 4 = .ok (.getfield 71, 3) := by decide +kernel
theorem dX3_firstBroken_7 : decode cX3_firstBroken 7 = .ok (.if_icmp .ge 20, 3) := by decide +kernel
theorem dX3_firstBroken_10 : decode cX3_firstBroken 10 = .ok (.aload_n 0, 1) := by decide +kernel
theorem dX3_firstBroken_11 : decode cX3_firstBroken 11 = .ok (.iload_n 1, 1) := by decide +kernel
theorem dX3_firstBroken_12 : decode cX3_firstBroken 12 = .ok (.iload_n 2, 1) := by decide +kernel
theorem dX3_firstBroken_13 : decode cX3_firstBroken 13 = .ok (.invokevirtual 125, 3) := by decide +kernel
theorem dX3_firstBroken_16 : decode cX3_firstBroken 16 = .ok (.ifCond .le 5, 3) := by decide +kernel
theorem dX3_firstBroken_19 : decode cX3_firstBroken 19 = .ok (.iload_n 2, 1) := by decide +kernel
theorem dX3_firstBroken_20 : decode cX3_firstBroken 20 = .ok (.ireturn, 1) := by decide +kernel
theorem dX3_firstBroken_21 : decode cX3_firstBroken 21 = .ok (.iinc 2 1, 3) := by decide +kernel
theorem dX3_firstBroken_24 : decode cX3_firstBroken 24 = .ok (.goto (-22), 3) := by decide +kernel
theorem dX3_firstBroken_27 : decode cX3_firstBroken 27 = .ok (.ldc 132, 2) := by decide +kernel
theorem dX3_firstBroken_29 : decode cX3_firstBroken 29 = .ok (.ireturn, 1) := by decide +kernel
set_option maxRecDepth 20000 in
theorem ggX3_allHold_X2_sumUp : GoodIn wsX3_allHold wsX2_sumUp := goodIn_r _ [10, 11, 12, 13, 14, 15, 16, 17, 9, 18, 19, 20, 21, 22, 40, 41, 42, 43, 44] (by decide +kernel) (by decide +kernel)
set_option maxRecDepth 20000 in
theorem gX3_allHold_X2_sumUp : GoodIn wsX3_allHold (wsV RX3 117 RX2 yX2_sumUp wsX2_sumUp) := goodIn_app (goodIn_of _ (by decide +kernel)) ggX3_allHold_X2_sumUp
set_option maxRecDepth 20000 in
theorem ggX3_allHold_X3_slotOf : GoodIn wsX3_allHold wsX3_slotOf := goodIn_r _ [22] (by decide +kernel) (by decide +kernel)
set_option maxRecDepth 20000 in
theorem gX3_allHold_X3_slotOf : GoodIn wsX3_allHold (va_wsS RX3 121 yX3_slotOf wsX3_slotOf) := goodIn_app (goodIn_of _ (by decide +kernel)) ggX3_allHold_X3_slotOf
theorem dX3_allHold_0 : decode cX3_allHold 0 = .ok (.aload_n 0, 1) := by decide +kernel
theorem dX3_allHold_1 : decode cX3_allHold 1 = .ok (.getfield 19, 3) := by decide +kernel
theorem dX3_allHold_4 : decode cX3_allHold 4 = .ok (.iload_n 1, 1) := by decide +kernel
theorem dX3_allHold_5 : decode cX3_allHold 5 = .ok (.aload_n 0, 1) := by decide +kernel
theorem dX3_allHold_6 : decode cX3_allHold 6 = .ok (.getfield 26, 3) := by decide +kernel
theorem dX3_allHold_9 : decode cX3_allHold 9 = .ok (.getfield 103, 3) := by decide +kernel
theorem dX3_allHold_12 : decode cX3_allHold 12 = .ok (.iload_n 2, 1) := by decide +kernel
theorem dX3_allHold_13 : decode cX3_allHold 13 = .ok (.aaload, 1) := by decide +kernel
theorem dX3_allHold_14 : decode cX3_allHold 14 = .ok (.aload_n 0, 1) := by decide +kernel
theorem dX3_allHold_15 : decode cX3_allHold 15 = .ok (.getfield 30, 3) := by decide +kernel
theorem dX3_allHold_18 : decode cX3_allHold 18 = .ok (.invokevirtual 117, 3) := by decide +kernel
theorem dX3_allHold_21 : decode cX3_allHold 21 = .ok (.iconst 0, 1) := by decide +kernel
theorem dX3_allHold_22 : decode cX3_allHold 22 = .ok (.istore_n 3, 1) := by decide +kernel
theorem dX3_allHold_23 : decode cX3_allHold 23 = .ok (.iload_n 3, 1) := by decide +kernel
theorem dX3_allHold_24 : decode cX3_allHold 24 = .ok (.aload_n 0, 1) := by decide +kernel
theorem dX3_allHold_25 : decode cX3_allHold 25 = .ok (.getfield 71, 3) := by decide +kernel
theorem dX3_allHold_28 : decode cX3_allHold 28 = .ok (.if_icmp .ge 23, 3) := by decide +kernel
theorem dX3_allHold_31 : decode cX3_allHold 31 = .ok (.aload_n 0, 1) := by decide +kernel
theorem dX3_allHold_32 : decode cX3_allHold 32 = .ok (.getfield 30, 3) := by decide +kernel
theorem dX3_allHold_35 : decode cX3_allHold 35 = .ok (.iload_n 3, 1) := by decide +kernel
theorem dX3_allHold_36 : decode cX3_allHold 36 = .ok (.invokestatic 121, 3) := by decide +kernel
theorem dX3_allHold_39 : decode cX3_allHold 39 = .ok (.iaload, 1) := by decide +kernel
theorem dX3_allHold_40 : decode cX3_allHold 40 = .ok (.ifCond .le 5, 3) := by decide +kernel
theorem dX3_allHold_43 : decode cX3_allHold 43 = .ok (.iconst 0, 1) := by decide +kernel
theorem dX3_allHold_44 : decode cX3_allHold 44 = .ok (.ireturn, 1) := by decide +kernel
theorem dX3_allHold_45 : decode cX3_allHold 45 = .ok (.iinc 3 1, 3) := by decide +kernel
theorem dX3_allHold_48 : decode cX3_allHold 48 = .ok (.goto (-25), 3) := by decide +kernel
theorem dX3_allHold_51 : decode cX3_allHold 51 = .ok (.iconst 1, 1) := by decide +kernel
theorem dX3_allHold_52 : decode cX3_allHold 52 = .ok (.ireturn, 1) := by decide +kernel
set_option maxRecDepth 20000 in
theorem ggX3_costOf_X2_sumUp : GoodIn wsX3_costOf wsX2_sumUp := goodIn_r _ [9, 10, 11, 12, 13, 14, 15, 16, 8, 17, 18, 19, 20, 21, 39, 40, 41, 42, 43] (by decide +kernel) (by decide +kernel)
set_option maxRecDepth 20000 in
theorem gX3_costOf_X2_sumUp : GoodIn wsX3_costOf (wsV RX3 117 RX2 yX2_sumUp wsX2_sumUp) := goodIn_app (goodIn_of _ (by decide +kernel)) ggX3_costOf_X2_sumUp
set_option maxRecDepth 20000 in
theorem ggX3_costOf_X3_slotOf : GoodIn wsX3_costOf wsX3_slotOf := goodIn_r _ [21] (by decide +kernel) (by decide +kernel)
set_option maxRecDepth 20000 in
theorem gX3_costOf_X3_slotOf : GoodIn wsX3_costOf (va_wsS RX3 121 yX3_slotOf wsX3_slotOf) := goodIn_app (goodIn_of _ (by decide +kernel)) ggX3_costOf_X3_slotOf
theorem dX3_costOf_0 : decode cX3_costOf 0 = .ok (.aload_n 0, 1) := by decide +kernel
theorem dX3_costOf_1 : decode cX3_costOf 1 = .ok (.getfield 19, 3) := by decide +kernel
theorem dX3_costOf_4 : decode cX3_costOf 4 = .ok (.iload_n 1, 1) := by decide +kernel
theorem dX3_costOf_5 : decode cX3_costOf 5 = .ok (.aload_n 0, 1) := by decide +kernel
theorem dX3_costOf_6 : decode cX3_costOf 6 = .ok (.getfield 26, 3) := by decide +kernel
theorem dX3_costOf_9 : decode cX3_costOf 9 = .ok (.getfield 103, 3) := by decide +kernel
theorem dX3_costOf_12 : decode cX3_costOf 12 = .ok (.iload_n 2, 1) := by decide +kernel
theorem dX3_costOf_13 : decode cX3_costOf 13 = .ok (.aaload, 1) := by decide +kernel
theorem dX3_costOf_14 : decode cX3_costOf 14 = .ok (.aload_n 0, 1) := by decide +kernel
theorem dX3_costOf_15 : decode cX3_costOf 15 = .ok (.getfield 30, 3) := by decide +kernel
theorem dX3_costOf_18 : decode cX3_costOf 18 = .ok (.invokevirtual 117, 3) := by decide +kernel
theorem dX3_costOf_21 : decode cX3_costOf 21 = .ok (.aload_n 0, 1) := by decide +kernel
theorem dX3_costOf_22 : decode cX3_costOf 22 = .ok (.getfield 30, 3) := by decide +kernel
theorem dX3_costOf_25 : decode cX3_costOf 25 = .ok (.iconst (-1), 1) := by decide +kernel
theorem dX3_costOf_26 : decode cX3_costOf 26 = .ok (.invokestatic 121, 3) := by decide +kernel
theorem dX3_costOf_29 : decode cX3_costOf 29 = .ok (.iaload, 1) := by decide +kernel
theorem dX3_costOf_30 : decode cX3_costOf 30 = .ok (.ireturn, 1) := by decide +kernel
set_option maxRecDepth 20000 in
theorem ggX3_findAnswer_X3_allHold : GoodIn wsX3_findAnswer wsX3_allHold := goodIn_r _ [9, 10, 11, 12, 4, 13, 14, 15, 16, 17, 18, 19, 20, 21, 22, 23, 24, 25, 26, 27, 28, 8, 29, 30, 31, 32, 33, 34, 35, 36, 37, 38, 39, 40, 41, 42, 43, 44, 45, 46, 47, 48, 49, 50, 51] (by decide +kernel) (by decide +kernel)
set_option maxRecDepth 20000 in
theorem gX3_findAnswer_X3_allHold : GoodIn wsX3_findAnswer (wsV RX3 176 RX3 yX3_allHold wsX3_allHold) := goodIn_app (goodIn_of _ (by decide +kernel)) ggX3_findAnswer_X3_allHold
set_option maxRecDepth 20000 in
theorem ggX3_findAnswer_X3_slotOf : GoodIn wsX3_findAnswer wsX3_slotOf := goodIn_r _ [29] (by decide +kernel) (by decide +kernel)
set_option maxRecDepth 20000 in
theorem gX3_findAnswer_X3_slotOf : GoodIn wsX3_findAnswer (va_wsS RX3 121 yX3_slotOf wsX3_slotOf) := goodIn_app (goodIn_of _ (by decide +kernel)) ggX3_findAnswer_X3_slotOf
theorem dX3_findAnswer_0 : decode cX3_findAnswer 0 = .ok (.ldc 132, 2) := by decide +kernel
theorem dX3_findAnswer_2 : decode cX3_findAnswer 2 = .ok (.istore_n 3, 1) := by decide +kernel
theorem dX3_findAnswer_3 : decode cX3_findAnswer 3 = .ok (.iconst 0, 1) := by decide +kernel
theorem dX3_findAnswer_4 : decode cX3_findAnswer 4 = .ok (.istore 4, 2) := by decide +kernel
theorem dX3_findAnswer_6 : decode cX3_findAnswer 6 = .ok (.iconst 0, 1) := by decide +kernel
theorem dX3_findAnswer_7 : decode cX3_findAnswer 7 = .ok (.istore 5, 2) := by decide +kernel
theorem dX3_findAnswer_9 : decode cX3_findAnswer 9 = .ok (.iload 5, 2) := by decide +kernel
theorem dX3_findAnswer_11 : decode cX3_findAnswer 11 = .ok (.iconst 1, 1) := by decide +kernel
theorem dX3_findAnswer_12 : decode cX3_findAnswer 12 = .ok (.aload_n 0, 1) := by decide +kernel
theorem dX3_findAnswer_13 : decode cX3_findAnswer 13 = .ok (.getfield 81, 3) := by decide +kernel
theorem dX3_findAnswer_16 : decode cX3_findAnswer 16 = .ok (.ishl, 1) := by decide +kernel
theorem dX3_findAnswer_17 : decode cX3_findAnswer 17 = .ok (.if_icmp .ge 64, 3) := by decide +kernel
theorem dX3_findAnswer_20 : decode cX3_findAnswer 20 = .ok (.iload_n 1, 1) := by decide +kernel
theorem dX3_findAnswer_21 : decode cX3_findAnswer 21 = .ok (.iload 5, 2) := by decide +kernel
theorem dX3_findAnswer_23 : decode cX3_findAnswer 23 = .ok (.aload_n 0, 1) := by decide +kernel
theorem dX3_findAnswer_24 : decode cX3_findAnswer 24 = .ok (.getfield 78, 3) := by decide +kernel
theorem dX3_findAnswer_27 : decode cX3_findAnswer 27 = .ok (.ishl, 1) := by decide +kernel
theorem dX3_findAnswer_28 : decode cX3_findAnswer 28 = .ok (.ior, 1) := by decide +kernel
theorem dX3_findAnswer_29 : decode cX3_findAnswer 29 = .ok (.istore 6, 2) := by decide +kernel
theorem dX3_findAnswer_31 : decode cX3_findAnswer 31 = .ok (.aload_n 0, 1) := by decide +kernel
theorem dX3_findAnswer_32 : decode cX3_findAnswer 32 = .ok (.iload 6, 2) := by decide +kernel
theorem dX3_findAnswer_34 : decode cX3_findAnswer 34 = .ok (.iload_n 2, 1) := by decide +kernel
theorem dX3_findAnswer_35 : decode cX3_findAnswer 35 = .ok (.invokevirtual 176, 3) := by decide +kernel
theorem dX3_findAnswer_38 : decode cX3_findAnswer 38 = .ok (.ifCond .ne 6, 3) := by decide +kernel
theorem dX3_findAnswer_41 : decode cX3_findAnswer 41 = .ok (.goto 34, 3) := by decide +kernel
theorem dX3_findAnswer_44 : decode cX3_findAnswer 44 = .ok (.aload_n 0, 1) := by decide +kernel
theorem dX3_findAnswer_45 : decode cX3_findAnswer 45 = .ok (.getfield 30, 3) := by decide +kernel
theorem dX3_findAnswer_48 : decode cX3_findAnswer 48 = .ok (.iconst (-1), 1) := by decide +kernel
theorem dX3_findAnswer_49 : decode cX3_findAnswer 49 = .ok (.invokestatic 121, 3) := by decide +kernel
theorem dX3_findAnswer_52 : decode cX3_findAnswer 52 = .ok (.iaload, 1) := by decide +kernel
theorem dX3_findAnswer_53 : decode cX3_findAnswer 53 = .ok (.istore 7, 2) := by decide +kernel
theorem dX3_findAnswer_55 : decode cX3_findAnswer 55 = .ok (.iload_n 3, 1) := by decide +kernel
theorem dX3_findAnswer_56 : decode cX3_findAnswer 56 = .ok (.ldc 132, 2) := by decide +kernel
theorem dX3_findAnswer_58 : decode cX3_findAnswer 58 = .ok (.if_icmp .eq 10, 3) := by decide +kernel
theorem dX3_findAnswer_61 : decode cX3_findAnswer 61 = .ok (.iload 7, 2) := by decide +kernel
theorem dX3_findAnswer_63 : decode cX3_findAnswer 63 = .ok (.iload 4, 2) := by decide +kernel
theorem dX3_findAnswer_65 : decode cX3_findAnswer 65 = .ok (.if_icmp .ge 10, 3) := by decide +kernel
theorem dX3_findAnswer_68 : decode cX3_findAnswer 68 = .ok (.iload 6, 2) := by decide +kernel
theorem dX3_findAnswer_70 : decode cX3_findAnswer 70 = .ok (.istore_n 3, 1) := by decide +kernel
theorem dX3_findAnswer_71 : decode cX3_findAnswer 71 = .ok (.iload 7, 2) := by decide +kernel
theorem dX3_findAnswer_73 : decode cX3_findAnswer 73 = .ok (.istore 4, 2) := by decide +kernel
theorem dX3_findAnswer_75 : decode cX3_findAnswer 75 = .ok (.iinc 5 1, 3) := by decide +kernel
theorem dX3_findAnswer_78 : decode cX3_findAnswer 78 = .ok (.goto (-69), 3) := by decide +kernel
theorem dX3_findAnswer_81 : decode cX3_findAnswer 81 = .ok (.iload_n 3, 1) := by decide +kernel
theorem dX3_findAnswer_82 : decode cX3_findAnswer 82 = .ok (.ireturn, 1) := by decide +kernel
set_option maxRecDepth 20000 in
theorem ggX3_costByOdds_X0_countedOdds : GoodIn wsX3_costByOdds wsX0_countedOdds := goodIn_r _ [10, 11, 12, 13, 62, 63, 64, 65] (by decide +kernel) (by decide +kernel)
set_option maxRecDepth 20000 in
theorem gX3_costByOdds_X0_countedOdds : GoodIn wsX3_costByOdds (wsV RX3 151 RX0 yX0_countedOdds wsX0_countedOdds) := goodIn_app (goodIn_of _ (by decide +kernel)) ggX3_costByOdds_X0_countedOdds
set_option maxRecDepth 20000 in
theorem ggX3_costByOdds_X3_findAnswer : GoodIn wsX3_costByOdds wsX3_findAnswer := goodIn_r _ [18, 2, 19, 20, 21, 22, 23, 24, 17, 25, 26, 1, 27, 28, 29, 30, 31, 32, 33, 34, 35, 36, 37, 38, 39, 40, 41, 42, 43, 44, 45, 50, 51, 52, 53, 54, 55, 56, 57, 58, 59, 60, 61, 62, 63, 64, 65, 66, 67, 68, 69, 70] (by decide +kernel) (by decide +kernel)
set_option maxRecDepth 20000 in
theorem gX3_costByOdds_X3_findAnswer : GoodIn wsX3_costByOdds (wsV RX3 139 RX3 yX3_findAnswer wsX3_findAnswer) := goodIn_app (goodIn_of _ (by decide +kernel)) ggX3_costByOdds_X3_findAnswer
set_option maxRecDepth 20000 in
theorem ggX3_costByOdds_X3_costOf : GoodIn wsX3_costByOdds wsX3_costOf := goodIn_r _ [49, 26, 1, 27, 21, 29, 30, 31, 32, 33, 34, 35, 36, 37, 38, 39, 40, 41, 42, 43, 17, 44, 45, 50, 51, 52, 53, 54, 55, 56, 57, 58, 59, 60, 61, 62, 63, 64, 65, 66, 67, 68, 69, 70] (by decide +kernel) (by decide +kernel)
set_option maxRecDepth 20000 in
theorem gX3_costByOdds_X3_costOf : GoodIn wsX3_costByOdds (wsV RX3 190 RX3 yX3_costOf wsX3_costOf) := goodIn_app (goodIn_of _ (by decide +kernel)) ggX3_costByOdds_X3_costOf
theorem dX3_costByOdds_0 : decode cX3_costByOdds 0 = .ok (.aload_n 0, 1) := by decide +kernel
theorem dX3_costByOdds_1 : decode cX3_costByOdds 1 = .ok (.getfield 26, 3) := by decide +kernel
theorem dX3_costByOdds_4 : decode cX3_costByOdds 4 = .ok (.invokevirtual 151, 3) := by decide +kernel
theorem dX3_costByOdds_7 : decode cX3_costByOdds 7 = .ok (.ifCond .ne 6, 3) := by decide +kernel
theorem dX3_costByOdds_10 : decode cX3_costByOdds 10 = .ok (.ldc 132, 2) := by decide +kernel
theorem dX3_costByOdds_12 : decode cX3_costByOdds 12 = .ok (.ireturn, 1) := by decide +kernel
theorem dX3_costByOdds_13 : decode cX3_costByOdds 13 = .ok (.iconst 0, 1) := by decide +kernel
theorem dX3_costByOdds_14 : decode cX3_costByOdds 14 = .ok (.istore_n 2, 1) := by decide +kernel
theorem dX3_costByOdds_15 : decode cX3_costByOdds 15 = .ok (.iconst 0, 1) := by decide +kernel
theorem dX3_costByOdds_16 : decode cX3_costByOdds 16 = .ok (.istore_n 3, 1) := by decide +kernel
theorem dX3_costByOdds_17 : decode cX3_costByOdds 17 = .ok (.iload_n 3, 1) := by decide +kernel
theorem dX3_costByOdds_18 : decode cX3_costByOdds 18 = .ok (.aload_n 0, 1) := by decide +kernel
theorem dX3_costByOdds_19 : decode cX3_costByOdds 19 = .ok (.getfield 26, 3) := by decide +kernel
theorem dX3_costByOdds_22 : decode cX3_costByOdds 22 = .ok (.getfield 87, 3) := by decide +kernel
theorem dX3_costByOdds_25 : decode cX3_costByOdds 25 = .ok (.if_icmp .ge 62, 3) := by decide +kernel
theorem dX3_costByOdds_28 : decode cX3_costByOdds 28 = .ok (.aload_n 0, 1) := by decide +kernel
theorem dX3_costByOdds_29 : decode cX3_costByOdds 29 = .ok (.getfield 26, 3) := by decide +kernel
theorem dX3_costByOdds_32 : decode cX3_costByOdds 32 = .ok (.getfield 169, 3) := by decide +kernel
theorem dX3_costByOdds_35 : decode cX3_costByOdds 35 = .ok (.iload_n 3, 1) := by decide +kernel
theorem dX3_costByOdds_36 : decode cX3_costByOdds 36 = .ok (.baload, 1) := by decide +kernel
theorem dX3_costByOdds_37 : decode cX3_costByOdds 37 = .ok (.ifCond .eq 6, 3) := by decide +kernel
theorem dX3_costByOdds_40 : decode cX3_costByOdds 40 = .ok (.goto 41, 3) := by decide +kernel
theorem dX3_costByOdds_43 : decode cX3_costByOdds 43 = .ok (.aload_n 0, 1) := by decide +kernel
theorem dX3_costByOdds_44 : decode cX3_costByOdds 44 = .ok (.iload_n 1, 1) := by decide +kernel
theorem dX3_costByOdds_45 : decode cX3_costByOdds 45 = .ok (.iload_n 3, 1) := by decide +kernel
theorem dX3_costByOdds_46 : decode cX3_costByOdds 46 = .ok (.invokevirtual 139, 3) := by decide +kernel
theorem dX3_costByOdds_49 : decode cX3_costByOdds 49 = .ok (.istore 4, 2) := by decide +kernel
theorem dX3_costByOdds_51 : decode cX3_costByOdds 51 = .ok (.iload 4, 2) := by decide +kernel
theorem dX3_costByOdds_53 : decode cX3_costByOdds 53 = .ok (.ldc 132, 2) := by decide +kernel
theorem dX3_costByOdds_55 : decode cX3_costByOdds 55 = .ok (.if_icmp .ne 6, 3) := by decide +kernel
theorem dX3_costByOdds_58 : decode cX3_costByOdds 58 = .ok (.ldc 132, 2) := by decide +kernel
theorem dX3_costByOdds_60 : decode cX3_costByOdds 60 = .ok (.ireturn, 1) := by decide +kernel
theorem dX3_costByOdds_61 : decode cX3_costByOdds 61 = .ok (.iload_n 2, 1) := by decide +kernel
theorem dX3_costByOdds_62 : decode cX3_costByOdds 62 = .ok (.aload_n 0, 1) := by decide +kernel
theorem dX3_costByOdds_63 : decode cX3_costByOdds 63 = .ok (.getfield 26, 3) := by decide +kernel
theorem dX3_costByOdds_66 : decode cX3_costByOdds 66 = .ok (.getfield 173, 3) := by decide +kernel
theorem dX3_costByOdds_69 : decode cX3_costByOdds 69 = .ok (.iload_n 3, 1) := by decide +kernel
theorem dX3_costByOdds_70 : decode cX3_costByOdds 70 = .ok (.iaload, 1) := by decide +kernel
theorem dX3_costByOdds_71 : decode cX3_costByOdds 71 = .ok (.aload_n 0, 1) := by decide +kernel
theorem dX3_costByOdds_72 : decode cX3_costByOdds 72 = .ok (.iload 4, 2) := by decide +kernel
theorem dX3_costByOdds_74 : decode cX3_costByOdds 74 = .ok (.iload_n 3, 1) := by decide +kernel
theorem dX3_costByOdds_75 : decode cX3_costByOdds 75 = .ok (.invokevirtual 190, 3) := by decide +kernel
theorem dX3_costByOdds_78 : decode cX3_costByOdds 78 = .ok (.imul, 1) := by decide +kernel
theorem dX3_costByOdds_79 : decode cX3_costByOdds 79 = .ok (.iadd, 1) := by decide +kernel
theorem dX3_costByOdds_80 : decode cX3_costByOdds 80 = .ok (.istore_n 2, 1) := by decide +kernel
theorem dX3_costByOdds_81 : decode cX3_costByOdds 81 = .ok (.iinc 3 1, 3) := by decide +kernel
theorem dX3_costByOdds_84 : decode cX3_costByOdds 84 = .ok (.goto (-67), 3) := by decide +kernel
theorem dX3_costByOdds_87 : decode cX3_costByOdds 87 = .ok (.iload_n 2, 1) := by decide +kernel
theorem dX3_costByOdds_88 : decode cX3_costByOdds 88 = .ok (.ireturn, 1) := by decide +kernel
set_option maxRecDepth 20000 in
theorem ggX3_findTwoStep_X3_firstPartCount : GoodIn wsX3_findTwoStep wsX3_firstPartCount := goodIn_r _ [6, 7, 58, 59, 60, 61, 62, 63, 64, 65, 66, 67, 68, 69] (by decide +kernel) (by decide +kernel)
set_option maxRecDepth 20000 in
theorem gX3_findTwoStep_X3_firstPartCount : GoodIn wsX3_findTwoStep (wsV RX3 166 RX3 yX3_firstPartCount wsX3_firstPartCount) := goodIn_app (goodIn_of _ (by decide +kernel)) ggX3_findTwoStep_X3_firstPartCount
set_option maxRecDepth 20000 in
theorem ggX3_findTwoStep_X3_costByOdds : GoodIn wsX3_findTwoStep wsX3_costByOdds := goodIn_r _ [11, 12, 1, 13, 14, 15, 16, 17, 18, 19, 20, 21, 22, 23, 24, 25, 26, 5, 27, 28, 7, 29, 30, 31, 32, 33, 34, 35, 36, 37, 38, 39, 40, 41, 42, 43, 44, 45, 46, 47, 48, 49, 50, 51, 52, 53, 54, 55, 56, 57, 58, 59, 60, 61, 62, 63, 64, 65, 66, 67, 68, 69, 70, 71, 72, 73, 74, 75, 76, 77, 78] (by decide +kernel) (by decide +kernel)
set_option maxRecDepth 20000 in
theorem gX3_findTwoStep_X3_costByOdds : GoodIn wsX3_findTwoStep (wsV RX3 148 RX3 yX3_costByOdds wsX3_costByOdds) := goodIn_app (goodIn_of _ (by decide +kernel)) ggX3_findTwoStep_X3_costByOdds
theorem dX3_findTwoStep_0 : decode cX3_findTwoStep 0 = .ok (.ldc 132, 2) := by decide +kernel
theorem dX3_findTwoStep_2 : decode cX3_findTwoStep 2 = .ok (.istore_n 1, 1) := by decide +kernel
theorem dX3_findTwoStep_3 : decode cX3_findTwoStep 3 = .ok (.iconst 0, 1) := by decide +kernel
theorem dX3_findTwoStep_4 : decode cX3_findTwoStep 4 = .ok (.istore_n 2, 1) := by decide +kernel
theorem dX3_findTwoStep_5 : decode cX3_findTwoStep 5 = .ok (.iconst 0, 1) := by decide +kernel
theorem dX3_findTwoStep_6 : decode cX3_findTwoStep 6 = .ok (.istore_n 3, 1) := by decide +kernel
theorem dX3_findTwoStep_7 : decode cX3_findTwoStep 7 = .ok (.iload_n 3, 1) := by decide +kernel
theorem dX3_findTwoStep_8 : decode cX3_findTwoStep 8 = .ok (.aload_n 0, 1) := by decide +kernel
theorem dX3_findTwoStep_9 : decode cX3_findTwoStep 9 = .ok (.invokevirtual 166, 3) := by decide +kernel
theorem dX3_findTwoStep_12 : decode cX3_findTwoStep 12 = .ok (.if_icmp .ge 40, 3) := by decide +kernel
theorem dX3_findTwoStep_15 : decode cX3_findTwoStep 15 = .ok (.aload_n 0, 1) := by decide +kernel
theorem dX3_findTwoStep_16 : decode cX3_findTwoStep 16 = .ok (.iload_n 3, 1) := by decide +kernel
theorem dX3_findTwoStep_17 : decode cX3_findTwoStep 17 = .ok (.invokevirtual 148, 3) := by decide +kernel
theorem dX3_findTwoStep_20 : decode cX3_findTwoStep 20 = .ok (.istore 4, 2) := by decide +kernel
theorem dX3_findTwoStep_22 : decode cX3_findTwoStep 22 = .ok (.iload 4, 2) := by decide +kernel
theorem dX3_findTwoStep_24 : decode cX3_findTwoStep 24 = .ok (.ldc 132, 2) := by decide +kernel
theorem dX3_findTwoStep_26 : decode cX3_findTwoStep 26 = .ok (.if_icmp .eq 20, 3) := by decide +kernel
theorem dX3_findTwoStep_29 : decode cX3_findTwoStep 29 = .ok (.iload_n 1, 1) := by decide +kernel
theorem dX3_findTwoStep_30 : decode cX3_findTwoStep 30 = .ok (.ldc 132, 2) := by decide +kernel
theorem dX3_findTwoStep_32 : decode cX3_findTwoStep 32 = .ok (.if_icmp .eq 9, 3) := by decide +kernel
theorem dX3_findTwoStep_35 : decode cX3_findTwoStep 35 = .ok (.iload 4, 2) := by decide +kernel
theorem dX3_findTwoStep_37 : decode cX3_findTwoStep 37 = .ok (.iload_n 2, 1) := by decide +kernel
theorem dX3_findTwoStep_38 : decode cX3_findTwoStep 38 = .ok (.if_icmp .ge 8, 3) := by decide +kernel
theorem dX3_findTwoStep_41 : decode cX3_findTwoStep 41 = .ok (.iload_n 3, 1) := by decide +kernel
theorem dX3_findTwoStep_42 : decode cX3_findTwoStep 42 = .ok (.istore_n 1, 1) := by decide +kernel
theorem dX3_findTwoStep_43 : decode cX3_findTwoStep 43 = .ok (.iload 4, 2) := by decide +kernel
theorem dX3_findTwoStep_45 : decode cX3_findTwoStep 45 = .ok (.istore_n 2, 1) := by decide +kernel
theorem dX3_findTwoStep_46 : decode cX3_findTwoStep 46 = .ok (.iinc 3 1, 3) := by decide +kernel
theorem dX3_findTwoStep_49 : decode cX3_findTwoStep 49 = .ok (.goto (-42), 3) := by decide +kernel
theorem dX3_findTwoStep_52 : decode cX3_findTwoStep 52 = .ok (.iload_n 1, 1) := by decide +kernel
theorem dX3_findTwoStep_53 : decode cX3_findTwoStep 53 = .ok (.ireturn, 1) := by decide +kernel
set_option maxRecDepth 20000 in
theorem ggX3_leastCost_X3_planCount : GoodIn wsX3_leastCost wsX3_planCount := goodIn_r _ [7, 8, 9, 35, 36, 37, 38, 39, 40, 41, 42, 43, 44, 45, 46] (by decide +kernel) (by decide +kernel)
set_option maxRecDepth 20000 in
theorem gX3_leastCost_X3_planCount : GoodIn wsX3_leastCost (wsV RX3 133 RX3 yX3_planCount wsX3_planCount) := goodIn_app (goodIn_of _ (by decide +kernel)) ggX3_leastCost_X3_planCount
set_option maxRecDepth 20000 in
theorem ggX3_leastCost_X3_allHold : GoodIn wsX3_leastCost wsX3_allHold := goodIn_r _ [13, 14, 15, 16, 2, 17, 18, 19, 20, 21, 22, 23, 24, 25, 26, 27, 28, 29, 30, 31, 32, 6, 33, 34, 35, 36, 37, 38, 39, 40, 41, 42, 43, 44, 45, 46, 47, 48, 49, 50, 51, 52, 53, 54, 55] (by decide +kernel) (by decide +kernel)
set_option maxRecDepth 20000 in
theorem gX3_leastCost_X3_allHold : GoodIn wsX3_leastCost (wsV RX3 176 RX3 yX3_allHold wsX3_allHold) := goodIn_app (goodIn_of _ (by decide +kernel)) ggX3_leastCost_X3_allHold
set_option maxRecDepth 20000 in
theorem ggX3_leastCost_X3_slotOf : GoodIn wsX3_leastCost wsX3_slotOf := goodIn_r _ [33] (by decide +kernel) (by decide +kernel)
set_option maxRecDepth 20000 in
theorem gX3_leastCost_X3_slotOf : GoodIn wsX3_leastCost (va_wsS RX3 121 yX3_slotOf wsX3_slotOf) := goodIn_app (goodIn_of _ (by decide +kernel)) ggX3_leastCost_X3_slotOf
theorem dX3_leastCost_0 : decode cX3_leastCost 0 = .ok (.ldc 132, 2) := by decide +kernel
theorem dX3_leastCost_2 : decode cX3_leastCost 2 = .ok (.istore_n 2, 1) := by decide +kernel
theorem dX3_leastCost_3 : decode cX3_leastCost 3 = .ok (.iconst 0, 1) := by decide +kernel
theorem dX3_leastCost_4 : decode cX3_leastCost 4 = .ok (.istore_n 3, 1) := by decide +kernel
theorem dX3_leastCost_5 : decode cX3_leastCost 5 = .ok (.iload_n 3, 1) := by decide +kernel
theorem dX3_leastCost_6 : decode cX3_leastCost 6 = .ok (.aload_n 0, 1) := by decide +kernel
theorem dX3_leastCost_7 : decode cX3_leastCost 7 = .ok (.invokevirtual 133, 3) := by decide +kernel
theorem dX3_leastCost_10 : decode cX3_leastCost 10 = .ok (.if_icmp .ge 47, 3) := by decide +kernel
theorem dX3_leastCost_13 : decode cX3_leastCost 13 = .ok (.aload_n 0, 1) := by decide +kernel
theorem dX3_leastCost_14 : decode cX3_leastCost 14 = .ok (.iload_n 3, 1) := by decide +kernel
theorem dX3_leastCost_15 : decode cX3_leastCost 15 = .ok (.iload_n 1, 1) := by decide +kernel
theorem dX3_leastCost_16 : decode cX3_leastCost 16 = .ok (.invokevirtual 176, 3) := by decide +kernel
theorem dX3_leastCost_19 : decode cX3_leastCost 19 = .ok (.ifCond .ne 6, 3) := by decide +kernel
theorem dX3_leastCost_22 : decode cX3_leastCost 22 = .ok (.goto 29, 3) := by decide +kernel
theorem dX3_leastCost_25 : decode cX3_leastCost 25 = .ok (.aload_n 0, 1) := by decide +kernel
theorem dX3_leastCost_26 : decode cX3_leastCost 26 = .ok (.getfield 30, 3) := by decide +kernel
theorem dX3_leastCost_29 : decode cX3_leastCost 29 = .ok (.iconst (-1), 1) := by decide +kernel
theorem dX3_leastCost_30 : decode cX3_leastCost 30 = .ok (.invokestatic 121, 3) := by decide +kernel
theorem dX3_leastCost_33 : decode cX3_leastCost 33 = .ok (.iaload, 1) := by decide +kernel
theorem dX3_leastCost_34 : decode cX3_leastCost 34 = .ok (.istore 4, 2) := by decide +kernel
theorem dX3_leastCost_36 : decode cX3_leastCost 36 = .ok (.iload_n 2, 1) := by decide +kernel
theorem dX3_leastCost_37 : decode cX3_leastCost 37 = .ok (.ldc 132, 2) := by decide +kernel
theorem dX3_leastCost_39 : decode cX3_leastCost 39 = .ok (.if_icmp .eq 9, 3) := by decide +kernel
theorem dX3_leastCost_42 : decode cX3_leastCost 42 = .ok (.iload 4, 2) := by decide +kernel
theorem dX3_leastCost_44 : decode cX3_leastCost 44 = .ok (.iload_n 2, 1) := by decide +kernel
theorem dX3_leastCost_45 : decode cX3_leastCost 45 = .ok (.if_icmp .ge 6, 3) := by decide +kernel
theorem dX3_leastCost_48 : decode cX3_leastCost 48 = .ok (.iload 4, 2) := by decide +kernel
theorem dX3_leastCost_50 : decode cX3_leastCost 50 = .ok (.istore_n 2, 1) := by decide +kernel
theorem dX3_leastCost_51 : decode cX3_leastCost 51 = .ok (.iinc 3 1, 3) := by decide +kernel
theorem dX3_leastCost_54 : decode cX3_leastCost 54 = .ok (.goto (-49), 3) := by decide +kernel
theorem dX3_leastCost_57 : decode cX3_leastCost 57 = .ok (.iload_n 2, 1) := by decide +kernel
theorem dX3_leastCost_58 : decode cX3_leastCost 58 = .ok (.ireturn, 1) := by decide +kernel
set_option maxRecDepth 20000 in
theorem ggX3_fillBests_X3_leastCost : GoodIn wsX3_fillBests wsX3_leastCost := goodIn_r _ [9, 10, 11, 12, 13, 14, 8, 15, 16, 17, 18, 19, 20, 21, 22, 1, 23, 24, 25, 26, 27, 28, 29, 30, 31, 32, 33, 34, 35, 36, 37, 38, 39, 40, 41, 42, 43, 44, 45, 46, 47, 48, 49, 50, 51, 52, 53, 54, 55, 56, 57, 58, 59, 60, 61, 62] (by decide +kernel) (by decide +kernel)
set_option maxRecDepth 20000 in
theorem gX3_fillBests_X3_leastCost : GoodIn wsX3_fillBests (wsV RX3 157 RX3 yX3_leastCost wsX3_leastCost) := goodIn_app (goodIn_of _ (by decide +kernel)) ggX3_fillBests_X3_leastCost
theorem dX3_fillBests_0 : decode cX3_fillBests 0 = .ok (.iconst 0, 1) := by decide +kernel
theorem dX3_fillBests_1 : decode cX3_fillBests 1 = .ok (.istore_n 1, 1) := by decide +kernel
theorem dX3_fillBests_2 : decode cX3_fillBests 2 = .ok (.iload_n 1, 1) := by decide +kernel
theorem dX3_fillBests_3 : decode cX3_fillBests 3 = .ok (.aload_n 0, 1) := by decide +kernel
theorem dX3_fillBests_4 : decode cX3_fillBests 4 = .ok (.getfield 26, 3) := by decide +kernel
theorem dX3_fillBests_7 : decode cX3_fillBests 7 = .ok (.getfield 87, 3) := by decide +kernel
theorem dX3_fillBests_10 : decode cX3_fillBests 10 = .ok (.if_icmp .ge 32, 3) := by decide +kernel
theorem dX3_fillBests_13 : decode cX3_fillBests 13 = .ok (.aload_n 0, 1) := by decide +kernel
theorem dX3_fillBests_14 : decode cX3_fillBests 14 = .ok (.getfield 26, 3) := by decide +kernel
theorem dX3_fillBests_17 : decode cX3_fillBests 17 = .ok (.getfield 169, 3) := by decide +kernel
theorem dX3_fillBests_20 : decode cX3_fillBests 20 = .ok (.iload_n 1, 1) := by decide +kernel
theorem dX3_fillBests_21 : decode cX3_fillBests 21 = .ok (.baload, 1) := by decide +kernel
theorem dX3_fillBests_22 : decode cX3_fillBests 22 = .ok (.ifCond .ne 14, 3) := by decide +kernel
theorem dX3_fillBests_25 : decode cX3_fillBests 25 = .ok (.aload_n 0, 1) := by decide +kernel
theorem dX3_fillBests_26 : decode cX3_fillBests 26 = .ok (.getfield 34, 3) := by decide +kernel
theorem dX3_fillBests_29 : decode cX3_fillBests 29 = .ok (.iload_n 1, 1) := by decide +kernel
theorem dX3_fillBests_30 : decode cX3_fillBests 30 = .ok (.aload_n 0, 1) := by decide +kernel
theorem dX3_fillBests_31 : decode cX3_fillBests 31 = .ok (.iload_n 1, 1) := by decide +kernel
theorem dX3_fillBests_32 : decode cX3_fillBests 32 = .ok (.invokevirtual 157, 3) := by decide +kernel
theorem dX3_fillBests_35 : decode cX3_fillBests 35 = .ok (.iastore, 1) := by decide +kernel
theorem dX3_fillBests_36 : decode cX3_fillBests 36 = .ok (.iinc 1 1, 3) := by decide +kernel
theorem dX3_fillBests_39 : decode cX3_fillBests 39 = .ok (.goto (-37), 3) := by decide +kernel
theorem dX3_fillBests_42 : decode cX3_fillBests 42 = .ok (.return_, 1) := by decide +kernel
set_option maxRecDepth 20000 in
theorem ggX3_greatestRegret_X0_countedOdds : GoodIn wsX3_greatestRegret wsX0_countedOdds := goodIn_r _ [14, 15, 16, 17, 66, 67, 68, 69] (by decide +kernel) (by decide +kernel)
set_option maxRecDepth 20000 in
theorem gX3_greatestRegret_X0_countedOdds : GoodIn wsX3_greatestRegret (wsV RX3 151 RX0 yX0_countedOdds wsX0_countedOdds) := goodIn_app (goodIn_of _ (by decide +kernel)) ggX3_greatestRegret_X0_countedOdds
set_option maxRecDepth 20000 in
theorem ggX3_greatestRegret_X3_findAnswer : GoodIn wsX3_greatestRegret wsX3_findAnswer := goodIn_r _ [22, 2, 23, 24, 25, 26, 27, 28, 21, 29, 30, 1, 31, 32, 33, 34, 35, 36, 37, 38, 39, 40, 41, 42, 43, 44, 45, 46, 47, 48, 49, 54, 55, 56, 57, 58, 59, 60, 61, 62, 63, 64, 65, 66, 67, 68, 69, 70, 71, 72, 73, 74] (by decide +kernel) (by decide +kernel)
set_option maxRecDepth 20000 in
theorem gX3_greatestRegret_X3_findAnswer : GoodIn wsX3_greatestRegret (wsV RX3 139 RX3 yX3_findAnswer wsX3_findAnswer) := goodIn_app (goodIn_of _ (by decide +kernel)) ggX3_greatestRegret_X3_findAnswer
set_option maxRecDepth 20000 in
theorem ggX3_greatestRegret_X3_costOf : GoodIn wsX3_greatestRegret wsX3_costOf := goodIn_r _ [53, 30, 1, 31, 25, 33, 34, 35, 36, 37, 38, 39, 40, 41, 42, 43, 44, 45, 46, 47, 21, 48, 49, 54, 55, 56, 57, 58, 59, 60, 61, 62, 63, 64, 65, 66, 67, 68, 69, 70, 71, 72, 73, 74] (by decide +kernel) (by decide +kernel)
set_option maxRecDepth 20000 in
theorem gX3_greatestRegret_X3_costOf : GoodIn wsX3_greatestRegret (wsV RX3 190 RX3 yX3_costOf wsX3_costOf) := goodIn_app (goodIn_of _ (by decide +kernel)) ggX3_greatestRegret_X3_costOf
theorem dX3_greatestRegret_0 : decode cX3_greatestRegret 0 = .ok (.aload_n 0, 1) := by decide +kernel
theorem dX3_greatestRegret_1 : decode cX3_greatestRegret 1 = .ok (.getfield 26, 3) := by decide +kernel
theorem dX3_greatestRegret_4 : decode cX3_greatestRegret 4 = .ok (.invokevirtual 151, 3) := by decide +kernel
theorem dX3_greatestRegret_7 : decode cX3_greatestRegret 7 = .ok (.ifCond .ne 6, 3) := by decide +kernel
theorem dX3_greatestRegret_10 : decode cX3_greatestRegret 10 = .ok (.ldc 132, 2) := by decide +kernel
theorem dX3_greatestRegret_12 : decode cX3_greatestRegret 12 = .ok (.ireturn, 1) := by decide +kernel
theorem dX3_greatestRegret_13 : decode cX3_greatestRegret 13 = .ok (.iconst 0, 1) := by decide +kernel
theorem dX3_greatestRegret_14 : decode cX3_greatestRegret 14 = .ok (.istore_n 2, 1) := by decide +kernel
theorem dX3_greatestRegret_15 : decode cX3_greatestRegret 15 = .ok (.iconst 0, 1) := by decide +kernel
theorem dX3_greatestRegret_16 : decode cX3_greatestRegret 16 = .ok (.istore_n 3, 1) := by decide +kernel
theorem dX3_greatestRegret_17 : decode cX3_greatestRegret 17 = .ok (.iload_n 3, 1) := by decide +kernel
theorem dX3_greatestRegret_18 : decode cX3_greatestRegret 18 = .ok (.aload_n 0, 1) := by decide +kernel
theorem dX3_greatestRegret_19 : decode cX3_greatestRegret 19 = .ok (.getfield 26, 3) := by decide +kernel
theorem dX3_greatestRegret_22 : decode cX3_greatestRegret 22 = .ok (.getfield 87, 3) := by decide +kernel
theorem dX3_greatestRegret_25 : decode cX3_greatestRegret 25 = .ok (.if_icmp .ge 61, 3) := by decide +kernel
theorem dX3_greatestRegret_28 : decode cX3_greatestRegret 28 = .ok (.aload_n 0, 1) := by decide +kernel
theorem dX3_greatestRegret_29 : decode cX3_greatestRegret 29 = .ok (.getfield 26, 3) := by decide +kernel
theorem dX3_greatestRegret_32 : decode cX3_greatestRegret 32 = .ok (.getfield 169, 3) := by decide +kernel
theorem dX3_greatestRegret_35 : decode cX3_greatestRegret 35 = .ok (.iload_n 3, 1) := by decide +kernel
theorem dX3_greatestRegret_36 : decode cX3_greatestRegret 36 = .ok (.baload, 1) := by decide +kernel
theorem dX3_greatestRegret_37 : decode cX3_greatestRegret 37 = .ok (.ifCond .eq 6, 3) := by decide +kernel
theorem dX3_greatestRegret_40 : decode cX3_greatestRegret 40 = .ok (.goto 40, 3) := by decide +kernel
theorem dX3_greatestRegret_43 : decode cX3_greatestRegret 43 = .ok (.aload_n 0, 1) := by decide +kernel
theorem dX3_greatestRegret_44 : decode cX3_greatestRegret 44 = .ok (.iload_n 1, 1) := by decide +kernel
theorem dX3_greatestRegret_45 : decode cX3_greatestRegret 45 = .ok (.iload_n 3, 1) := by decide +kernel
theorem dX3_greatestRegret_46 : decode cX3_greatestRegret 46 = .ok (.invokevirtual 139, 3) := by decide +kernel
theorem dX3_greatestRegret_49 : decode cX3_greatestRegret 49 = .ok (.istore 4, 2) := by decide +kernel
theorem dX3_greatestRegret_51 : decode cX3_greatestRegret 51 = .ok (.iload 4, 2) := by decide +kernel
theorem dX3_greatestRegret_53 : decode cX3_greatestRegret 53 = .ok (.ldc 132, 2) := by decide +kernel
theorem dX3_greatestRegret_55 : decode cX3_greatestRegret 55 = .ok (.if_icmp .ne 6, 3) := by decide +kernel
theorem dX3_greatestRegret_58 : decode cX3_greatestRegret 58 = .ok (.ldc 132, 2) := by decide +kernel
theorem dX3_greatestRegret_60 : decode cX3_greatestRegret 60 = .ok (.ireturn, 1) := by decide +kernel
theorem dX3_greatestRegret_61 : decode cX3_greatestRegret 61 = .ok (.iload_n 2, 1) := by decide +kernel
theorem dX3_greatestRegret_62 : decode cX3_greatestRegret 62 = .ok (.aload_n 0, 1) := by decide +kernel
theorem dX3_greatestRegret_63 : decode cX3_greatestRegret 63 = .ok (.iload 4, 2) := by decide +kernel
theorem dX3_greatestRegret_65 : decode cX3_greatestRegret 65 = .ok (.iload_n 3, 1) := by decide +kernel
theorem dX3_greatestRegret_66 : decode cX3_greatestRegret 66 = .ok (.invokevirtual 190, 3) := by decide +kernel
theorem dX3_greatestRegret_69 : decode cX3_greatestRegret 69 = .ok (.aload_n 0, 1) := by decide +kernel
theorem dX3_greatestRegret_70 : decode cX3_greatestRegret 70 = .ok (.getfield 34, 3) := by decide +kernel
theorem dX3_greatestRegret_73 : decode cX3_greatestRegret 73 = .ok (.iload_n 3, 1) := by decide +kernel
theorem dX3_greatestRegret_74 : decode cX3_greatestRegret 74 = .ok (.iaload, 1) := by decide +kernel
theorem dX3_greatestRegret_75 : decode cX3_greatestRegret 75 = .ok (.isub, 1) := by decide +kernel
theorem dX3_greatestRegret_76 : decode cX3_greatestRegret 76 = .ok (.invokestatic 193, 3) := by decide +kernel
theorem dX3_greatestRegret_79 : decode cX3_greatestRegret 79 = .ok (.istore_n 2, 1) := by decide +kernel
theorem dX3_greatestRegret_80 : decode cX3_greatestRegret 80 = .ok (.iinc 3 1, 3) := by decide +kernel
theorem dX3_greatestRegret_83 : decode cX3_greatestRegret 83 = .ok (.goto (-66), 3) := by decide +kernel
theorem dX3_greatestRegret_86 : decode cX3_greatestRegret 86 = .ok (.iload_n 2, 1) := by decide +kernel
theorem dX3_greatestRegret_87 : decode cX3_greatestRegret 87 = .ok (.ireturn, 1) := by decide +kernel
set_option maxRecDepth 20000 in
theorem ggX3_partOfFraction_X3_commonDivisor : GoodIn wsX3_partOfFraction wsX3_commonDivisor := goodIn_r _ [8] (by decide +kernel) (by decide +kernel)
set_option maxRecDepth 20000 in
theorem gX3_partOfFraction_X3_commonDivisor : GoodIn wsX3_partOfFraction (va_wsS RX3 201 yX3_commonDivisor wsX3_commonDivisor) := goodIn_app (goodIn_of _ (by decide +kernel)) ggX3_partOfFraction_X3_commonDivisor
theorem dX3_partOfFraction_0 : decode cX3_partOfFraction 0 = .ok (.iload_n 0, 1) := by decide +kernel
theorem dX3_partOfFraction_1 : decode cX3_partOfFraction 1 = .ok (.invokestatic 198, 3) := by decide +kernel
theorem dX3_partOfFraction_4 : decode cX3_partOfFraction 4 = .ok (.iload_n 1, 1) := by decide +kernel
theorem dX3_partOfFraction_5 : decode cX3_partOfFraction 5 = .ok (.invokestatic 201, 3) := by decide +kernel
theorem dX3_partOfFraction_8 : decode cX3_partOfFraction 8 = .ok (.istore_n 3, 1) := by decide +kernel
theorem dX3_partOfFraction_9 : decode cX3_partOfFraction 9 = .ok (.iload_n 2, 1) := by decide +kernel
theorem dX3_partOfFraction_10 : decode cX3_partOfFraction 10 = .ok (.ifCond .ne 7, 3) := by decide +kernel
theorem dX3_partOfFraction_13 : decode cX3_partOfFraction 13 = .ok (.iload_n 0, 1) := by decide +kernel
theorem dX3_partOfFraction_14 : decode cX3_partOfFraction 14 = .ok (.goto 4, 3) := by decide +kernel
theorem dX3_partOfFraction_17 : decode cX3_partOfFraction 17 = .ok (.iload_n 1, 1) := by decide +kernel
theorem dX3_partOfFraction_18 : decode cX3_partOfFraction 18 = .ok (.istore 4, 2) := by decide +kernel
theorem dX3_partOfFraction_20 : decode cX3_partOfFraction 20 = .ok (.iload_n 3, 1) := by decide +kernel
theorem dX3_partOfFraction_21 : decode cX3_partOfFraction 21 = .ok (.iconst 1, 1) := by decide +kernel
theorem dX3_partOfFraction_22 : decode cX3_partOfFraction 22 = .ok (.if_icmp .le 10, 3) := by decide +kernel
theorem dX3_partOfFraction_25 : decode cX3_partOfFraction 25 = .ok (.iload 4, 2) := by decide +kernel
theorem dX3_partOfFraction_27 : decode cX3_partOfFraction 27 = .ok (.iload_n 3, 1) := by decide +kernel
theorem dX3_partOfFraction_28 : decode cX3_partOfFraction 28 = .ok (.idiv, 1) := by decide +kernel
theorem dX3_partOfFraction_29 : decode cX3_partOfFraction 29 = .ok (.goto 5, 3) := by decide +kernel
theorem dX3_partOfFraction_32 : decode cX3_partOfFraction 32 = .ok (.iload 4, 2) := by decide +kernel
theorem dX3_partOfFraction_34 : decode cX3_partOfFraction 34 = .ok (.ireturn, 1) := by decide +kernel
theorem dX3_commonDivisor_0 : decode cX3_commonDivisor 0 = .ok (.iload_n 0, 1) := by decide +kernel
theorem dX3_commonDivisor_1 : decode cX3_commonDivisor 1 = .ok (.istore_n 2, 1) := by decide +kernel
theorem dX3_commonDivisor_2 : decode cX3_commonDivisor 2 = .ok (.iload_n 1, 1) := by decide +kernel
theorem dX3_commonDivisor_3 : decode cX3_commonDivisor 3 = .ok (.istore_n 3, 1) := by decide +kernel
theorem dX3_commonDivisor_4 : decode cX3_commonDivisor 4 = .ok (.iconst 0, 1) := by decide +kernel
theorem dX3_commonDivisor_5 : decode cX3_commonDivisor 5 = .ok (.istore 4, 2) := by decide +kernel
theorem dX3_commonDivisor_7 : decode cX3_commonDivisor 7 = .ok (.iload 4, 2) := by decide +kernel
theorem dX3_commonDivisor_9 : decode cX3_commonDivisor 9 = .ok (.bipush 100, 2) := by decide +kernel
theorem dX3_commonDivisor_11 : decode cX3_commonDivisor 11 = .ok (.if_icmp .ge 23, 3) := by decide +kernel
theorem dX3_commonDivisor_14 : decode cX3_commonDivisor 14 = .ok (.iload_n 3, 1) := by decide +kernel
theorem dX3_commonDivisor_15 : decode cX3_commonDivisor 15 = .ok (.ifCond .eq 19, 3) := by decide +kernel
theorem dX3_commonDivisor_18 : decode cX3_commonDivisor 18 = .ok (.iload_n 2, 1) := by decide +kernel
theorem dX3_commonDivisor_19 : decode cX3_commonDivisor 19 = .ok (.iload_n 3, 1) := by decide +kernel
theorem dX3_commonDivisor_20 : decode cX3_commonDivisor 20 = .ok (.irem, 1) := by decide +kernel
theorem dX3_commonDivisor_21 : decode cX3_commonDivisor 21 = .ok (.istore 5, 2) := by decide +kernel
theorem dX3_commonDivisor_23 : decode cX3_commonDivisor 23 = .ok (.iload_n 3, 1) := by decide +kernel
theorem dX3_commonDivisor_24 : decode cX3_commonDivisor 24 = .ok (.istore_n 2, 1) := by decide +kernel
theorem dX3_commonDivisor_25 : decode cX3_commonDivisor 25 = .ok (.iload 5, 2) := by decide +kernel
theorem dX3_commonDivisor_27 : decode cX3_commonDivisor 27 = .ok (.istore_n 3, 1) := by decide +kernel
theorem dX3_commonDivisor_28 : decode cX3_commonDivisor 28 = .ok (.iinc 4 1, 3) := by decide +kernel
theorem dX3_commonDivisor_31 : decode cX3_commonDivisor 31 = .ok (.goto (-24), 3) := by decide +kernel
theorem dX3_commonDivisor_34 : decode cX3_commonDivisor 34 = .ok (.iload_n 2, 1) := by decide +kernel
theorem dX3_commonDivisor_35 : decode cX3_commonDivisor 35 = .ok (.ireturn, 1) := by decide +kernel
