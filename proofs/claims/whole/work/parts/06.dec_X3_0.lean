set_option maxRecDepth 20000 in
theorem ggX3_init_X1_init : GoodIn wsX3_init wsX1_init := goodIn_r _ [23, 24, 2, 3, 16, 25, 26, 27, 55, 56, 57, 58] (by decide +kernel) (by decide +kernel)
set_option maxRecDepth 20000 in
theorem gX3_init_X1_init_n9 : GoodIn wsX3_init (wsX1_init) := ggX3_init_X1_init
set_option maxRecDepth 20000 in
theorem ggX3_init_X2_init : GoodIn wsX3_init wsX2_init := goodIn_r _ [29, 30, 2, 3, 16, 31, 32, 33, 34, 71, 72, 73, 74, 75] (by decide +kernel) (by decide +kernel)
set_option maxRecDepth 20000 in
theorem gX3_init_X2_init_n18 : GoodIn wsX3_init (wsX2_init) := ggX3_init_X2_init
set_option maxRecDepth 20000 in
theorem ggX3_init_X0_init : GoodIn wsX3_init wsX0_init := goodIn_r _ [36, 37, 2, 3, 16, 38, 39, 40, 41, 42, 76, 77, 78, 79] (by decide +kernel) (by decide +kernel)
set_option maxRecDepth 20000 in
theorem gX3_init_X0_init_n25 : GoodIn wsX3_init (wsX0_init) := ggX3_init_X0_init
set_option maxRecDepth 20000 in
theorem ggX3_init_X3_startAnew : GoodIn wsX3_init wsX3_startAnew := goodIn_r _ [47, 7, 48, 11, 49, 15, 50, 51, 52, 53, 54, 59, 60, 61, 62, 63, 64, 65, 66, 67, 68, 69, 70, 55, 56, 57, 58, 71, 72, 73, 74, 75, 76, 77, 78, 79] (by decide +kernel) (by decide +kernel)
set_option maxRecDepth 20000 in
theorem gX3_init_X3_startAnew : GoodIn wsX3_init (wsV RX3 46 RX3 yX3_startAnew wsX3_startAnew) := goodIn_app (goodIn_of _ (by decide +kernel)) ggX3_init_X3_startAnew
theorem dX3_init_0 : decode cX3_init 0 = .ok (.aload_n 0, 1) := by decide +kernel
theorem dX3_init_1 : decode cX3_init 1 = .ok (.invokespecial 1, 3) := by decide +kernel
theorem dX3_init_4 : decode cX3_init 4 = .ok (.aload_n 0, 1) := by decide +kernel
theorem dX3_init_5 : decode cX3_init 5 = .ok (.new 7, 3) := by decide +kernel
theorem dX3_init_8 : decode cX3_init 8 = .ok (.dup, 1) := by decide +kernel
theorem dX3_init_9 : decode cX3_init 9 = .ok (.invokespecial 9, 3) := by decide +kernel
theorem dX3_init_12 : decode cX3_init 12 = .ok (.putfield 10, 3) := by decide +kernel
theorem dX3_init_15 : decode cX3_init 15 = .ok (.aload_n 0, 1) := by decide +kernel
theorem dX3_init_16 : decode cX3_init 16 = .ok (.new 16, 3) := by decide +kernel
theorem dX3_init_19 : decode cX3_init 19 = .ok (.dup, 1) := by decide +kernel
theorem dX3_init_20 : decode cX3_init 20 = .ok (.invokespecial 18, 3) := by decide +kernel
theorem dX3_init_23 : decode cX3_init 23 = .ok (.putfield 19, 3) := by decide +kernel
theorem dX3_init_26 : decode cX3_init 26 = .ok (.aload_n 0, 1) := by decide +kernel
theorem dX3_init_27 : decode cX3_init 27 = .ok (.new 23, 3) := by decide +kernel
theorem dX3_init_30 : decode cX3_init 30 = .ok (.dup, 1) := by decide +kernel
theorem dX3_init_31 : decode cX3_init 31 = .ok (.invokespecial 25, 3) := by decide +kernel
theorem dX3_init_34 : decode cX3_init 34 = .ok (.putfield 26, 3) := by decide +kernel
theorem dX3_init_37 : decode cX3_init 37 = .ok (.aload_n 0, 1) := by decide +kernel
theorem dX3_init_38 : decode cX3_init 38 = .ok (.bipush 11, 2) := by decide +kernel
theorem dX3_init_40 : decode cX3_init 40 = .ok (.newarray .int, 2) := by decide +kernel
theorem dX3_init_42 : decode cX3_init 42 = .ok (.putfield 30, 3) := by decide +kernel
theorem dX3_init_45 : decode cX3_init 45 = .ok (.aload_n 0, 1) := by decide +kernel
theorem dX3_init_46 : decode cX3_init 46 = .ok (.bipush 8, 2) := by decide +kernel
theorem dX3_init_48 : decode cX3_init 48 = .ok (.newarray .int, 2) := by decide +kernel
theorem dX3_init_50 : decode cX3_init 50 = .ok (.putfield 34, 3) := by decide +kernel
theorem dX3_init_53 : decode cX3_init 53 = .ok (.aload_n 0, 1) := by decide +kernel
theorem dX3_init_54 : decode cX3_init 54 = .ok (.bipush 12, 2) := by decide +kernel
theorem dX3_init_56 : decode cX3_init 56 = .ok (.newarray .int, 2) := by decide +kernel
theorem dX3_init_58 : decode cX3_init 58 = .ok (.putfield 37, 3) := by decide +kernel
theorem dX3_init_61 : decode cX3_init 61 = .ok (.aload_n 0, 1) := by decide +kernel
theorem dX3_init_62 : decode cX3_init 62 = .ok (.bipush 12, 2) := by decide +kernel
theorem dX3_init_64 : decode cX3_init 64 = .ok (.newarray .int, 2) := by decide +kernel
theorem dX3_init_66 : decode cX3_init 66 = .ok (.putfield 40, 3) := by decide +kernel
theorem dX3_init_69 : decode cX3_init 69 = .ok (.aload_n 0, 1) := by decide +kernel
theorem dX3_init_70 : decode cX3_init 70 = .ok (.bipush 12, 2) := by decide +kernel
theorem dX3_init_72 : decode cX3_init 72 = .ok (.newarray .int, 2) := by decide +kernel
theorem dX3_init_74 : decode cX3_init 74 = .ok (.putfield 43, 3) := by decide +kernel
theorem dX3_init_77 : decode cX3_init 77 = .ok (.aload_n 0, 1) := by decide +kernel
theorem dX3_init_78 : decode cX3_init 78 = .ok (.iconst 1, 1) := by decide +kernel
theorem dX3_init_79 : decode cX3_init 79 = .ok (.iconst 0, 1) := by decide +kernel
theorem dX3_init_80 : decode cX3_init 80 = .ok (.invokevirtual 46, 3) := by decide +kernel
theorem dX3_init_83 : decode cX3_init 83 = .ok (.return_, 1) := by decide +kernel
set_option maxRecDepth 20000 in
theorem ggX3_begin_X3_isWithin : GoodIn wsX3_begin wsX3_isWithin := goodIn_r _ [7] (by decide +kernel) (by decide +kernel)
set_option maxRecDepth 20000 in
theorem gX3_begin_X3_isWithin : GoodIn wsX3_begin (va_wsS RX3 50 yX3_isWithin wsX3_isWithin) := goodIn_app (goodIn_of _ (by decide +kernel)) ggX3_begin_X3_isWithin
set_option maxRecDepth 20000 in
theorem ggX3_begin_X3_startAnew : GoodIn wsX3_begin wsX3_startAnew := goodIn_r _ [11, 12, 13, 2, 3, 14, 15, 16, 17, 18, 19, 20, 21, 22, 23, 24, 25, 26, 27, 28, 29, 30, 31, 37, 38, 39, 40, 32, 33, 34, 35, 36, 41, 42, 43, 44] (by decide +kernel) (by decide +kernel)
set_option maxRecDepth 20000 in
theorem gX3_begin_X3_startAnew : GoodIn wsX3_begin (wsV RX3 46 RX3 yX3_startAnew wsX3_startAnew) := goodIn_app (goodIn_of _ (by decide +kernel)) ggX3_begin_X3_startAnew
theorem dX3_begin_0 : decode cX3_begin 0 = .ok (.iload_n 1, 1) := by decide +kernel
theorem dX3_begin_1 : decode cX3_begin 1 = .ok (.iconst 1, 1) := by decide +kernel
theorem dX3_begin_2 : decode cX3_begin 2 = .ok (.bipush 6, 2) := by decide +kernel
theorem dX3_begin_4 : decode cX3_begin 4 = .ok (.invokestatic 50, 3) := by decide +kernel
theorem dX3_begin_7 : decode cX3_begin 7 = .ok (.ifCond .eq 12, 3) := by decide +kernel
theorem dX3_begin_10 : decode cX3_begin 10 = .ok (.iload_n 2, 1) := by decide +kernel
theorem dX3_begin_11 : decode cX3_begin 11 = .ok (.iconst 0, 1) := by decide +kernel
theorem dX3_begin_12 : decode cX3_begin 12 = .ok (.iconst 4, 1) := by decide +kernel
theorem dX3_begin_13 : decode cX3_begin 13 = .ok (.invokestatic 50, 3) := by decide +kernel
theorem dX3_begin_16 : decode cX3_begin 16 = .ok (.ifCond .ne 6, 3) := by decide +kernel
theorem dX3_begin_19 : decode cX3_begin 19 = .ok (.ldc 54, 2) := by decide +kernel
theorem dX3_begin_21 : decode cX3_begin 21 = .ok (.ireturn, 1) := by decide +kernel
theorem dX3_begin_22 : decode cX3_begin 22 = .ok (.aload_n 0, 1) := by decide +kernel
theorem dX3_begin_23 : decode cX3_begin 23 = .ok (.getfield 19, 3) := by decide +kernel
theorem dX3_begin_26 : decode cX3_begin 26 = .ok (.getfield 55, 3) := by decide +kernel
theorem dX3_begin_29 : decode cX3_begin 29 = .ok (.istore_n 3, 1) := by decide +kernel
theorem dX3_begin_30 : decode cX3_begin 30 = .ok (.aload_n 0, 1) := by decide +kernel
theorem dX3_begin_31 : decode cX3_begin 31 = .ok (.iload_n 1, 1) := by decide +kernel
theorem dX3_begin_32 : decode cX3_begin 32 = .ok (.iload_n 2, 1) := by decide +kernel
theorem dX3_begin_33 : decode cX3_begin 33 = .ok (.invokevirtual 46, 3) := by decide +kernel
theorem dX3_begin_36 : decode cX3_begin 36 = .ok (.iload_n 3, 1) := by decide +kernel
theorem dX3_begin_37 : decode cX3_begin 37 = .ok (.ireturn, 1) := by decide +kernel
set_option maxRecDepth 20000 in
theorem ggX3_name_X0_putInAll : GoodIn wsX3_name wsX0_putInAll := goodIn_r _ [10, 11, 12, 38, 39, 40, 41] (by decide +kernel) (by decide +kernel)
set_option maxRecDepth 20000 in
theorem gX3_name_X0_putInAll : GoodIn wsX3_name (wsV RX3 61 RX0 yX0_putInAll wsX0_putInAll) := goodIn_app (goodIn_of _ (by decide +kernel)) ggX3_name_X0_putInAll
set_option maxRecDepth 20000 in
theorem ggX3_name_X1_add : GoodIn wsX3_name wsX1_add := goodIn_r _ [17, 18, 19, 20, 21, 34, 35, 36, 37] (by decide +kernel) (by decide +kernel)
set_option maxRecDepth 20000 in
theorem gX3_name_X1_add : GoodIn wsX3_name (wsV RX3 64 RX1 yX1_add wsX1_add) := goodIn_app (goodIn_of _ (by decide +kernel)) ggX3_name_X1_add
theorem dX3_name_0 : decode cX3_name 0 = .ok (.iload_n 1, 1) := by decide +kernel
theorem dX3_name_1 : decode cX3_name 1 = .ok (.iload_n 2, 1) := by decide +kernel
theorem dX3_name_2 : decode cX3_name 2 = .ok (.if_icmp .gt 12, 3) := by decide +kernel
theorem dX3_name_5 : decode cX3_name 5 = .ok (.iload_n 2, 1) := by decide +kernel
theorem dX3_name_6 : decode cX3_name 6 = .ok (.iload_n 3, 1) := by decide +kernel
theorem dX3_name_7 : decode cX3_name 7 = .ok (.if_icmp .gt 7, 3) := by decide +kernel
theorem dX3_name_10 : decode cX3_name 10 = .ok (.iconst 1, 1) := by decide +kernel
theorem dX3_name_11 : decode cX3_name 11 = .ok (.goto 4, 3) := by decide +kernel
theorem dX3_name_14 : decode cX3_name 14 = .ok (.iconst 0, 1) := by decide +kernel
theorem dX3_name_15 : decode cX3_name 15 = .ok (.istore 4, 2) := by decide +kernel
theorem dX3_name_17 : decode cX3_name 17 = .ok (.iload 4, 2) := by decide +kernel
theorem dX3_name_19 : decode cX3_name 19 = .ok (.ifCond .eq 15, 3) := by decide +kernel
theorem dX3_name_22 : decode cX3_name 22 = .ok (.iload_n 1, 1) := by decide +kernel
theorem dX3_name_23 : decode cX3_name 23 = .ok (.bipush (-100), 2) := by decide +kernel
theorem dX3_name_25 : decode cX3_name 25 = .ok (.if_icmp .lt 9, 3) := by decide +kernel
theorem dX3_name_28 : decode cX3_name 28 = .ok (.iload_n 3, 1) := by decide +kernel
theorem dX3_name_29 : decode cX3_name 29 = .ok (.bipush 100, 2) := by decide +kernel
theorem dX3_name_31 : decode cX3_name 31 = .ok (.if_icmp .le 6, 3) := by decide +kernel
theorem dX3_name_34 : decode cX3_name 34 = .ok (.ldc 54, 2) := by decide +kernel
theorem dX3_name_36 : decode cX3_name 36 = .ok (.ireturn, 1) := by decide +kernel
theorem dX3_name_37 : decode cX3_name 37 = .ok (.aload_n 0, 1) := by decide +kernel
theorem dX3_name_38 : decode cX3_name 38 = .ok (.getfield 10, 3) := by decide +kernel
theorem dX3_name_41 : decode cX3_name 41 = .ok (.getfield 59, 3) := by decide +kernel
theorem dX3_name_44 : decode cX3_name 44 = .ok (.bipush 12, 2) := by decide +kernel
theorem dX3_name_46 : decode cX3_name 46 = .ok (.if_icmp .lt 6, 3) := by decide +kernel
theorem dX3_name_49 : decode cX3_name 49 = .ok (.ldc 60, 2) := by decide +kernel
theorem dX3_name_51 : decode cX3_name 51 = .ok (.ireturn, 1) := by decide +kernel
theorem dX3_name_52 : decode cX3_name 52 = .ok (.aload_n 0, 1) := by decide +kernel
theorem dX3_name_53 : decode cX3_name 53 = .ok (.getfield 26, 3) := by decide +kernel
theorem dX3_name_56 : decode cX3_name 56 = .ok (.aload_n 0, 1) := by decide +kernel
theorem dX3_name_57 : decode cX3_name 57 = .ok (.getfield 10, 3) := by decide +kernel
theorem dX3_name_60 : decode cX3_name 60 = .ok (.getfield 59, 3) := by decide +kernel
theorem dX3_name_63 : decode cX3_name 63 = .ok (.iload_n 2, 1) := by decide +kernel
theorem dX3_name_64 : decode cX3_name 64 = .ok (.invokevirtual 61, 3) := by decide +kernel
theorem dX3_name_67 : decode cX3_name 67 = .ok (.aload_n 0, 1) := by decide +kernel
theorem dX3_name_68 : decode cX3_name 68 = .ok (.getfield 10, 3) := by decide +kernel
theorem dX3_name_71 : decode cX3_name 71 = .ok (.iload_n 1, 1) := by decide +kernel
theorem dX3_name_72 : decode cX3_name 72 = .ok (.iload_n 2, 1) := by decide +kernel
theorem dX3_name_73 : decode cX3_name 73 = .ok (.iload_n 3, 1) := by decide +kernel
theorem dX3_name_74 : decode cX3_name 74 = .ok (.invokevirtual 64, 3) := by decide +kernel
theorem dX3_name_77 : decode cX3_name 77 = .ok (.ireturn, 1) := by decide +kernel
set_option maxRecDepth 20000 in
theorem ggX3_budget_X3_isWithin : GoodIn wsX3_budget wsX3_isWithin := goodIn_r _ [6] (by decide +kernel) (by decide +kernel)
set_option maxRecDepth 20000 in
theorem gX3_budget_X3_isWithin : GoodIn wsX3_budget (va_wsS RX3 50 yX3_isWithin wsX3_isWithin) := goodIn_app (goodIn_of _ (by decide +kernel)) ggX3_budget_X3_isWithin
theorem dX3_budget_0 : decode cX3_budget 0 = .ok (.iload_n 1, 1) := by decide +kernel
theorem dX3_budget_1 : decode cX3_budget 1 = .ok (.iconst 0, 1) := by decide +kernel
theorem dX3_budget_2 : decode cX3_budget 2 = .ok (.bipush 12, 2) := by decide +kernel
theorem dX3_budget_4 : decode cX3_budget 4 = .ok (.invokestatic 50, 3) := by decide +kernel
theorem dX3_budget_7 : decode cX3_budget 7 = .ok (.ifCond .ne 6, 3) := by decide +kernel
theorem dX3_budget_10 : decode cX3_budget 10 = .ok (.ldc 54, 2) := by decide +kernel
theorem dX3_budget_12 : decode cX3_budget 12 = .ok (.ireturn, 1) := by decide +kernel
theorem dX3_budget_13 : decode cX3_budget 13 = .ok (.aload_n 0, 1) := by decide +kernel
theorem dX3_budget_14 : decode cX3_budget 14 = .ok (.getfield 68, 3) := by decide +kernel
theorem dX3_budget_17 : decode cX3_budget 17 = .ok (.istore_n 2, 1) := by decide +kernel
theorem dX3_budget_18 : decode cX3_budget 18 = .ok (.aload_n 0, 1) := by decide +kernel
theorem dX3_budget_19 : decode cX3_budget 19 = .ok (.iload_n 1, 1) := by decide +kernel
theorem dX3_budget_20 : decode cX3_budget 20 = .ok (.putfield 68, 3) := by decide +kernel
theorem dX3_budget_23 : decode cX3_budget 23 = .ok (.iload_n 2, 1) := by decide +kernel
theorem dX3_budget_24 : decode cX3_budget 24 = .ok (.ireturn, 1) := by decide +kernel
theorem dX3_row_0 : decode cX3_row 0 = .ok (.aload_n 0, 1) := by decide +kernel
theorem dX3_row_1 : decode cX3_row 1 = .ok (.getfield 71, 3) := by decide +kernel
theorem dX3_row_4 : decode cX3_row 4 = .ok (.bipush 10, 2) := by decide +kernel
theorem dX3_row_6 : decode cX3_row 6 = .ok (.if_icmp .lt 6, 3) := by decide +kernel
theorem dX3_row_9 : decode cX3_row 9 = .ok (.ldc 60, 2) := by decide +kernel
theorem dX3_row_11 : decode cX3_row 11 = .ok (.ireturn, 1) := by decide +kernel
theorem dX3_row_12 : decode cX3_row 12 = .ok (.aload_n 0, 1) := by decide +kernel
theorem dX3_row_13 : decode cX3_row 13 = .ok (.dup, 1) := by decide +kernel
theorem dX3_row_14 : decode cX3_row 14 = .ok (.getfield 71, 3) := by decide +kernel
theorem dX3_row_17 : decode cX3_row 17 = .ok (.iconst 1, 1) := by decide +kernel
theorem dX3_row_18 : decode cX3_row 18 = .ok (.iadd, 1) := by decide +kernel
theorem dX3_row_19 : decode cX3_row 19 = .ok (.putfield 71, 3) := by decide +kernel
theorem dX3_row_22 : decode cX3_row 22 = .ok (.aload_n 0, 1) := by decide +kernel
theorem dX3_row_23 : decode cX3_row 23 = .ok (.getfield 71, 3) := by decide +kernel
theorem dX3_row_26 : decode cX3_row 26 = .ok (.iconst 1, 1) := by decide +kernel
theorem dX3_row_27 : decode cX3_row 27 = .ok (.isub, 1) := by decide +kernel
theorem dX3_row_28 : decode cX3_row 28 = .ok (.ireturn, 1) := by decide +kernel
set_option maxRecDepth 20000 in
theorem ggX3_term_X3_isRowOrCost : GoodIn wsX3_term wsX3_isRowOrCost := goodIn_r _ [13, 14, 15, 16, 12, 17, 28, 29, 30, 31, 32, 33, 34, 35, 36, 37, 38, 39] (by decide +kernel) (by decide +kernel)
set_option maxRecDepth 20000 in
theorem gX3_term_X3_isRowOrCost : GoodIn wsX3_term (wsV RX3 74 RX3 yX3_isRowOrCost wsX3_isRowOrCost) := goodIn_app (goodIn_of _ (by decide +kernel)) ggX3_term_X3_isRowOrCost
set_option maxRecDepth 20000 in
theorem ggX3_term_X3_isWithin : GoodIn wsX3_term wsX3_isWithin := goodIn_r _ [17] (by decide +kernel) (by decide +kernel)
set_option maxRecDepth 20000 in
theorem gX3_term_X3_isWithin : GoodIn wsX3_term (va_wsS RX3 50 yX3_isWithin wsX3_isWithin) := goodIn_app (goodIn_of _ (by decide +kernel)) ggX3_term_X3_isWithin
set_option maxRecDepth 20000 in
theorem ggX3_term_X2_add : GoodIn wsX3_term wsX2_add := goodIn_r _ [22, 23, 24, 25, 26, 27, 44, 45, 46, 47, 48] (by decide +kernel) (by decide +kernel)
set_option maxRecDepth 20000 in
theorem gX3_term_X2_add : GoodIn wsX3_term (wsV RX3 84 RX2 yX2_add wsX2_add) := goodIn_app (goodIn_of _ (by decide +kernel)) ggX3_term_X2_add
theorem dX3_term_0 : decode cX3_term 0 = .ok (.aload_n 0, 1) := by decide +kernel
theorem dX3_term_1 : decode cX3_term 1 = .ok (.iload_n 1, 1) := by decide +kernel
theorem dX3_term_2 : decode cX3_term 2 = .ok (.invokevirtual 74, 3) := by decide +kernel
theorem dX3_term_5 : decode cX3_term 5 = .ok (.ifCond .ne 6, 3) := by decide +kernel
theorem dX3_term_8 : decode cX3_term 8 = .ok (.ldc 54, 2) := by decide +kernel
theorem dX3_term_10 : decode cX3_term 10 = .ok (.ireturn, 1) := by decide +kernel
theorem dX3_term_11 : decode cX3_term 11 = .ok (.iload_n 2, 1) := by decide +kernel
theorem dX3_term_12 : decode cX3_term 12 = .ok (.iconst (-1), 1) := by decide +kernel
theorem dX3_term_13 : decode cX3_term 13 = .ok (.aload_n 0, 1) := by decide +kernel
theorem dX3_term_14 : decode cX3_term 14 = .ok (.getfield 78, 3) := by decide +kernel
theorem dX3_term_17 : decode cX3_term 17 = .ok (.aload_n 0, 1) := by decide +kernel
theorem dX3_term_18 : decode cX3_term 18 = .ok (.getfield 81, 3) := by decide +kernel
theorem dX3_term_21 : decode cX3_term 21 = .ok (.iadd, 1) := by decide +kernel
theorem dX3_term_22 : decode cX3_term 22 = .ok (.iconst 1, 1) := by decide +kernel
theorem dX3_term_23 : decode cX3_term 23 = .ok (.isub, 1) := by decide +kernel
theorem dX3_term_24 : decode cX3_term 24 = .ok (.invokestatic 50, 3) := by decide +kernel
theorem dX3_term_27 : decode cX3_term 27 = .ok (.ifCond .ne 6, 3) := by decide +kernel
theorem dX3_term_30 : decode cX3_term 30 = .ok (.ldc 54, 2) := by decide +kernel
theorem dX3_term_32 : decode cX3_term 32 = .ok (.ireturn, 1) := by decide +kernel
theorem dX3_term_33 : decode cX3_term 33 = .ok (.iload_n 3, 1) := by decide +kernel
theorem dX3_term_34 : decode cX3_term 34 = .ok (.iconst (-1), 1) := by decide +kernel
theorem dX3_term_35 : decode cX3_term 35 = .ok (.aload_n 0, 1) := by decide +kernel
theorem dX3_term_36 : decode cX3_term 36 = .ok (.getfield 10, 3) := by decide +kernel
theorem dX3_term_39 : decode cX3_term 39 = .ok (.getfield 59, 3) := by decide +kernel
theorem dX3_term_42 : decode cX3_term 42 = .ok (.iconst 1, 1) := by decide +kernel
theorem dX3_term_43 : decode cX3_term 43 = .ok (.isub, 1) := by decide +kernel
theorem dX3_term_44 : decode cX3_term 44 = .ok (.invokestatic 50, 3) := by decide +kernel
theorem dX3_term_47 : decode cX3_term 47 = .ok (.ifCond .ne 6, 3) := by decide +kernel
theorem dX3_term_50 : decode cX3_term 50 = .ok (.ldc 54, 2) := by decide +kernel
theorem dX3_term_52 : decode cX3_term 52 = .ok (.ireturn, 1) := by decide +kernel
theorem dX3_term_53 : decode cX3_term 53 = .ok (.iload 4, 2) := by decide +kernel
theorem dX3_term_55 : decode cX3_term 55 = .ok (.bipush (-20), 2) := by decide +kernel
theorem dX3_term_57 : decode cX3_term 57 = .ok (.bipush 20, 2) := by decide +kernel
theorem dX3_term_59 : decode cX3_term 59 = .ok (.invokestatic 50, 3) := by decide +kernel
theorem dX3_term_62 : decode cX3_term 62 = .ok (.ifCond .ne 6, 3) := by decide +kernel
theorem dX3_term_65 : decode cX3_term 65 = .ok (.ldc 54, 2) := by decide +kernel
theorem dX3_term_67 : decode cX3_term 67 = .ok (.ireturn, 1) := by decide +kernel
theorem dX3_term_68 : decode cX3_term 68 = .ok (.aload_n 0, 1) := by decide +kernel
theorem dX3_term_69 : decode cX3_term 69 = .ok (.getfield 19, 3) := by decide +kernel
theorem dX3_term_72 : decode cX3_term 72 = .ok (.getfield 55, 3) := by decide +kernel
theorem dX3_term_75 : decode cX3_term 75 = .ok (.bipush 40, 2) := by decide +kernel
theorem dX3_term_77 : decode cX3_term 77 = .ok (.if_icmp .lt 6, 3) := by decide +kernel
theorem dX3_term_80 : decode cX3_term 80 = .ok (.ldc 60, 2) := by decide +kernel
theorem dX3_term_82 : decode cX3_term 82 = .ok (.ireturn, 1) := by decide +kernel
theorem dX3_term_83 : decode cX3_term 83 = .ok (.aload_n 0, 1) := by decide +kernel
theorem dX3_term_84 : decode cX3_term 84 = .ok (.getfield 19, 3) := by decide +kernel
theorem dX3_term_87 : decode cX3_term 87 = .ok (.iload_n 1, 1) := by decide +kernel
theorem dX3_term_88 : decode cX3_term 88 = .ok (.iload_n 2, 1) := by decide +kernel
theorem dX3_term_89 : decode cX3_term 89 = .ok (.iload_n 3, 1) := by decide +kernel
theorem dX3_term_90 : decode cX3_term 90 = .ok (.iload 4, 2) := by decide +kernel
theorem dX3_term_92 : decode cX3_term 92 = .ok (.invokevirtual 84, 3) := by decide +kernel
theorem dX3_term_95 : decode cX3_term 95 = .ok (.ireturn, 1) := by decide +kernel
set_option maxRecDepth 20000 in
theorem ggX3_future_X3_isWithin : GoodIn wsX3_future wsX3_isWithin := goodIn_r _ [9] (by decide +kernel) (by decide +kernel)
set_option maxRecDepth 20000 in
theorem gX3_future_X3_isWithin : GoodIn wsX3_future (va_wsS RX3 50 yX3_isWithin wsX3_isWithin) := goodIn_app (goodIn_of _ (by decide +kernel)) ggX3_future_X3_isWithin
set_option maxRecDepth 20000 in
theorem ggX3_future_X0_add : GoodIn wsX3_future wsX0_add := goodIn_r _ [14, 15, 16, 17, 18, 19, 20, 33, 34, 35, 36, 37, 38, 39, 40] (by decide +kernel) (by decide +kernel)
set_option maxRecDepth 20000 in
theorem gX3_future_X0_add : GoodIn wsX3_future (wsV RX3 88 RX0 yX0_add wsX0_add) := goodIn_app (goodIn_of _ (by decide +kernel)) ggX3_future_X0_add
theorem dX3_future_0 : decode cX3_future 0 = .ok (.iload_n 1, 1) := by decide +kernel
theorem dX3_future_1 : decode cX3_future 1 = .ok (.iconst 1, 1) := by decide +kernel
theorem dX3_future_2 : decode cX3_future 2 = .ok (.bipush 100, 2) := by decide +kernel
theorem dX3_future_4 : decode cX3_future 4 = .ok (.invokestatic 50, 3) := by decide +kernel
theorem dX3_future_7 : decode cX3_future 7 = .ok (.ifCond .ne 6, 3) := by decide +kernel
theorem dX3_future_10 : decode cX3_future 10 = .ok (.ldc 54, 2) := by decide +kernel
theorem dX3_future_12 : decode cX3_future 12 = .ok (.ireturn, 1) := by decide +kernel
theorem dX3_future_13 : decode cX3_future 13 = .ok (.aload_n 0, 1) := by decide +kernel
theorem dX3_future_14 : decode cX3_future 14 = .ok (.getfield 26, 3) := by decide +kernel
theorem dX3_future_17 : decode cX3_future 17 = .ok (.getfield 87, 3) := by decide +kernel
theorem dX3_future_20 : decode cX3_future 20 = .ok (.bipush 8, 2) := by decide +kernel
theorem dX3_future_22 : decode cX3_future 22 = .ok (.if_icmp .lt 6, 3) := by decide +kernel
theorem dX3_future_25 : decode cX3_future 25 = .ok (.ldc 60, 2) := by decide +kernel
theorem dX3_future_27 : decode cX3_future 27 = .ok (.ireturn, 1) := by decide +kernel
theorem dX3_future_28 : decode cX3_future 28 = .ok (.aload_n 0, 1) := by decide +kernel
theorem dX3_future_29 : decode cX3_future 29 = .ok (.getfield 26, 3) := by decide +kernel
theorem dX3_future_32 : decode cX3_future 32 = .ok (.iload_n 1, 1) := by decide +kernel
theorem dX3_future_33 : decode cX3_future 33 = .ok (.iload_n 2, 1) := by decide +kernel
theorem dX3_future_34 : decode cX3_future 34 = .ok (.aload_n 0, 1) := by decide +kernel
theorem dX3_future_35 : decode cX3_future 35 = .ok (.getfield 10, 3) := by decide +kernel
theorem dX3_future_38 : decode cX3_future 38 = .ok (.invokevirtual 88, 3) := by decide +kernel
theorem dX3_future_41 : decode cX3_future 41 = .ok (.ireturn, 1) := by decide +kernel
set_option maxRecDepth 20000 in
theorem ggX3_set_X3_isListed : GoodIn wsX3_set wsX3_isListed := goodIn_r _ [11, 5, 12, 13, 14, 10, 15, 21, 22, 23, 24, 25, 26, 27, 28, 29, 30, 31, 32, 37, 38, 39, 40] (by decide +kernel) (by decide +kernel)
set_option maxRecDepth 20000 in
theorem gX3_set_X3_isListed : GoodIn wsX3_set (wsV RX3 91 RX3 yX3_isListed wsX3_isListed) := goodIn_app (goodIn_of _ (by decide +kernel)) ggX3_set_X3_isListed
set_option maxRecDepth 20000 in
theorem ggX3_set_X3_isName : GoodIn wsX3_set wsX3_isName := goodIn_r _ [19, 2, 20, 13, 14, 10, 15, 21, 22, 23, 24, 25, 26, 27, 28, 29, 30, 31, 32, 33, 34, 35, 36] (by decide +kernel) (by decide +kernel)
set_option maxRecDepth 20000 in
theorem gX3_set_X3_isName : GoodIn wsX3_set (wsV RX3 94 RX3 yX3_isName wsX3_isName) := goodIn_app (goodIn_of _ (by decide +kernel)) ggX3_set_X3_isName
set_option maxRecDepth 20000 in
theorem ggX3_set_X3_isWithin : GoodIn wsX3_set wsX3_isWithin := goodIn_r _ [15] (by decide +kernel) (by decide +kernel)
set_option maxRecDepth 20000 in
theorem gX3_set_X3_isWithin : GoodIn wsX3_set (va_wsS RX3 50 yX3_isWithin wsX3_isWithin) := goodIn_app (goodIn_of _ (by decide +kernel)) ggX3_set_X3_isWithin
theorem dX3_set_0 : decode cX3_set 0 = .ok (.aload_n 0, 1) := by decide +kernel
theorem dX3_set_1 : decode cX3_set 1 = .ok (.iload_n 1, 1) := by decide +kernel
theorem dX3_set_2 : decode cX3_set 2 = .ok (.invokevirtual 91, 3) := by decide +kernel
theorem dX3_set_5 : decode cX3_set 5 = .ok (.ifCond .eq 11, 3) := by decide +kernel
theorem dX3_set_8 : decode cX3_set 8 = .ok (.aload_n 0, 1) := by decide +kernel
theorem dX3_set_9 : decode cX3_set 9 = .ok (.iload_n 2, 1) := by decide +kernel
theorem dX3_set_10 : decode cX3_set 10 = .ok (.invokevirtual 94, 3) := by decide +kernel
theorem dX3_set_13 : decode cX3_set 13 = .ok (.ifCond .ne 6, 3) := by decide +kernel
theorem dX3_set_16 : decode cX3_set 16 = .ok (.ldc 54, 2) := by decide +kernel
theorem dX3_set_18 : decode cX3_set 18 = .ok (.ireturn, 1) := by decide +kernel
theorem dX3_set_19 : decode cX3_set 19 = .ok (.iload_n 3, 1) := by decide +kernel
theorem dX3_set_20 : decode cX3_set 20 = .ok (.aload_n 0, 1) := by decide +kernel
theorem dX3_set_21 : decode cX3_set 21 = .ok (.getfield 10, 3) := by decide +kernel
theorem dX3_set_24 : decode cX3_set 24 = .ok (.getfield 97, 3) := by decide +kernel
theorem dX3_set_27 : decode cX3_set 27 = .ok (.iload_n 2, 1) := by decide +kernel
theorem dX3_set_28 : decode cX3_set 28 = .ok (.iaload, 1) := by decide +kernel
theorem dX3_set_29 : decode cX3_set 29 = .ok (.aload_n 0, 1) := by decide +kernel
theorem dX3_set_30 : decode cX3_set 30 = .ok (.getfield 10, 3) := by decide +kernel
theorem dX3_set_33 : decode cX3_set 33 = .ok (.getfield 100, 3) := by decide +kernel
theorem dX3_set_36 : decode cX3_set 36 = .ok (.iload_n 2, 1) := by decide +kernel
theorem dX3_set_37 : decode cX3_set 37 = .ok (.iaload, 1) := by decide +kernel
theorem dX3_set_38 : decode cX3_set 38 = .ok (.invokestatic 50, 3) := by decide +kernel
theorem dX3_set_41 : decode cX3_set 41 = .ok (.ifCond .ne 6, 3) := by decide +kernel
theorem dX3_set_44 : decode cX3_set 44 = .ok (.ldc 54, 2) := by decide +kernel
theorem dX3_set_46 : decode cX3_set 46 = .ok (.ireturn, 1) := by decide +kernel
theorem dX3_set_47 : decode cX3_set 47 = .ok (.aload_n 0, 1) := by decide +kernel
theorem dX3_set_48 : decode cX3_set 48 = .ok (.getfield 26, 3) := by decide +kernel
theorem dX3_set_51 : decode cX3_set 51 = .ok (.getfield 103, 3) := by decide +kernel
theorem dX3_set_54 : decode cX3_set 54 = .ok (.iload_n 1, 1) := by decide +kernel
theorem dX3_set_55 : decode cX3_set 55 = .ok (.aaload, 1) := by decide +kernel
theorem dX3_set_56 : decode cX3_set 56 = .ok (.iload_n 2, 1) := by decide +kernel
theorem dX3_set_57 : decode cX3_set 57 = .ok (.iaload, 1) := by decide +kernel
theorem dX3_set_58 : decode cX3_set 58 = .ok (.istore 4, 2) := by decide +kernel
theorem dX3_set_60 : decode cX3_set 60 = .ok (.aload_n 0, 1) := by decide +kernel
theorem dX3_set_61 : decode cX3_set 61 = .ok (.getfield 26, 3) := by decide +kernel
theorem dX3_set_64 : decode cX3_set 64 = .ok (.getfield 103, 3) := by decide +kernel
theorem dX3_set_67 : decode cX3_set 67 = .ok (.iload_n 1, 1) := by decide +kernel
theorem dX3_set_68 : decode cX3_set 68 = .ok (.aaload, 1) := by decide +kernel
theorem dX3_set_69 : decode cX3_set 69 = .ok (.iload_n 2, 1) := by decide +kernel
theorem dX3_set_70 : decode cX3_set 70 = .ok (.iload_n 3, 1) := by decide +kernel
theorem dX3_set_71 : decode cX3_set 71 = .ok (.iastore, 1) := by decide +kernel
theorem dX3_set_72 : decode cX3_set 72 = .ok (.iload 4, 2) := by decide +kernel
theorem dX3_set_74 : decode cX3_set 74 = .ok (.ireturn, 1) := by decide +kernel
set_option maxRecDepth 20000 in
theorem ggX3_told_X0_countCounted : GoodIn wsX3_told wsX0_countCounted := goodIn_r _ [16, 17, 18, 40, 41, 42, 43] (by decide +kernel) (by decide +kernel)
set_option maxRecDepth 20000 in
theorem gX3_told_X0_countCounted : GoodIn wsX3_told (wsV RX3 107 RX0 yX0_countCounted wsX0_countCounted) := goodIn_app (goodIn_of _ (by decide +kernel)) ggX3_told_X0_countCounted
theorem dX3_told_0 : decode cX3_told 0 = .ok (.iload_n 1, 1) := by decide +kernel
theorem dX3_told_1 : decode cX3_told 1 = .ok (.tableswitch 99 0 7 #[47, 55, 60, 68, 76, 84, 89, 94], 47) := by decide +kernel
theorem dX3_told_48 : decode cX3_told 48 = .ok (.aload_n 0, 1) := by decide +kernel
theorem dX3_told_49 : decode cX3_told 49 = .ok (.getfield 10, 3) := by decide +kernel
theorem dX3_told_52 : decode cX3_told 52 = .ok (.getfield 59, 3) := by decide +kernel
theorem dX3_told_55 : decode cX3_told 55 = .ok (.ireturn, 1) := by decide +kernel
theorem dX3_told_56 : decode cX3_told 56 = .ok (.aload_n 0, 1) := by decide +kernel
theorem dX3_told_57 : decode cX3_told 57 = .ok (.getfield 71, 3) := by decide +kernel
theorem dX3_told_60 : decode cX3_told 60 = .ok (.ireturn, 1) := by decide +kernel
theorem dX3_told_61 : decode cX3_told 61 = .ok (.aload_n 0, 1) := by decide +kernel
theorem dX3_told_62 : decode cX3_told 62 = .ok (.getfield 19, 3) := by decide +kernel
theorem dX3_told_65 : decode cX3_told 65 = .ok (.getfield 55, 3) := by decide +kernel
theorem dX3_told_68 : decode cX3_told 68 = .ok (.ireturn, 1) := by decide +kernel
theorem dX3_told_69 : decode cX3_told 69 = .ok (.aload_n 0, 1) := by decide +kernel
theorem dX3_told_70 : decode cX3_told 70 = .ok (.getfield 26, 3) := by decide +kernel
theorem dX3_told_73 : decode cX3_told 73 = .ok (.getfield 87, 3) := by decide +kernel
theorem dX3_told_76 : decode cX3_told 76 = .ok (.ireturn, 1) := by decide +kernel
theorem dX3_told_77 : decode cX3_told 77 = .ok (.aload_n 0, 1) := by decide +kernel
theorem dX3_told_78 : decode cX3_told 78 = .ok (.getfield 26, 3) := by decide +kernel
theorem dX3_told_81 : decode cX3_told 81 = .ok (.invokevirtual 107, 3) := by decide +kernel
theorem dX3_told_84 : decode cX3_told 84 = .ok (.ireturn, 1) := by decide +kernel
theorem dX3_told_85 : decode cX3_told 85 = .ok (.aload_n 0, 1) := by decide +kernel
theorem dX3_told_86 : decode cX3_told 86 = .ok (.getfield 78, 3) := by decide +kernel
theorem dX3_told_89 : decode cX3_told 89 = .ok (.ireturn, 1) := by decide +kernel
theorem dX3_told_90 : decode cX3_told 90 = .ok (.aload_n 0, 1) := by decide +kernel
theorem dX3_told_91 : decode cX3_told 91 = .ok (.getfield 81, 3) := by decide +kernel
theorem dX3_told_94 : decode cX3_told 94 = .ok (.ireturn, 1) := by decide +kernel
theorem dX3_told_95 : decode cX3_told 95 = .ok (.aload_n 0, 1) := by decide +kernel
theorem dX3_told_96 : decode cX3_told 96 = .ok (.getfield 68, 3) := by decide +kernel
theorem dX3_told_99 : decode cX3_told 99 = .ok (.ireturn, 1) := by decide +kernel
theorem dX3_told_100 : decode cX3_told 100 = .ok (.ldc 54, 2) := by decide +kernel
theorem dX3_told_102 : decode cX3_told 102 = .ok (.ireturn, 1) := by decide +kernel
set_option maxRecDepth 20000 in
theorem ggX3_comes_X3_isPlan : GoodIn wsX3_comes wsX3_isPlan := goodIn_r _ [12, 13, 14, 15, 11, 16, 17, 18, 19, 20, 21, 49, 50, 51, 52, 53, 54, 55, 56, 57, 58, 59, 60] (by decide +kernel) (by decide +kernel)
set_option maxRecDepth 20000 in
theorem gX3_comes_X3_isPlan : GoodIn wsX3_comes (wsV RX3 111 RX3 yX3_isPlan wsX3_isPlan) := goodIn_app (goodIn_of _ (by decide +kernel)) ggX3_comes_X3_isPlan
set_option maxRecDepth 20000 in
theorem ggX3_comes_X3_isRowOrCost : GoodIn wsX3_comes wsX3_isRowOrCost := goodIn_r _ [25, 26, 19, 20, 11, 21, 49, 50, 51, 52, 53, 54, 55, 56, 57, 58, 59, 60] (by decide +kernel) (by decide +kernel)
set_option maxRecDepth 20000 in
theorem gX3_comes_X3_isRowOrCost : GoodIn wsX3_comes (wsV RX3 74 RX3 yX3_isRowOrCost wsX3_isRowOrCost) := goodIn_app (goodIn_of _ (by decide +kernel)) ggX3_comes_X3_isRowOrCost
set_option maxRecDepth 20000 in
theorem ggX3_comes_X3_isListed : GoodIn wsX3_comes wsX3_isListed := goodIn_r _ [30, 5, 31, 19, 20, 11, 21, 49, 50, 51, 52, 53, 54, 55, 56, 57, 58, 59, 60, 65, 66, 67, 68] (by decide +kernel) (by decide +kernel)
set_option maxRecDepth 20000 in
theorem gX3_comes_X3_isListed : GoodIn wsX3_comes (wsV RX3 91 RX3 yX3_isListed wsX3_isListed) := goodIn_app (goodIn_of _ (by decide +kernel)) ggX3_comes_X3_isListed
set_option maxRecDepth 20000 in
theorem ggX3_comes_X2_sumUp : GoodIn wsX3_comes wsX2_sumUp := goodIn_r _ [36, 37, 38, 39, 40, 41, 42, 43, 35, 44, 45, 46, 11, 47, 69, 70, 71, 72, 73] (by decide +kernel) (by decide +kernel)
set_option maxRecDepth 20000 in
theorem gX3_comes_X2_sumUp : GoodIn wsX3_comes (wsV RX3 117 RX2 yX2_sumUp wsX2_sumUp) := goodIn_app (goodIn_of _ (by decide +kernel)) ggX3_comes_X2_sumUp
set_option maxRecDepth 20000 in
theorem ggX3_comes_X3_slotOf : GoodIn wsX3_comes wsX3_slotOf := goodIn_r _ [47] (by decide +kernel) (by decide +kernel)
set_option maxRecDepth 20000 in
theorem gX3_comes_X3_slotOf : GoodIn wsX3_comes (va_wsS RX3 121 yX3_slotOf wsX3_slotOf) := goodIn_app (goodIn_of _ (by decide +kernel)) ggX3_comes_X3_slotOf
theorem dX3_comes_0 : decode cX3_comes 0 = .ok (.aload_n 0, 1) := by decide +kernel
theorem dX3_comes_1 : decode cX3_comes 1 = .ok (.iload_n 1, 1) := by decide +kernel
theorem dX3_comes_2 : decode cX3_comes 2 = .ok (.invokevirtual 111, 3) := by decide +kernel
theorem dX3_comes_5 : decode cX3_comes 5 = .ok (.ifCond .eq 11, 3) := by decide +kernel
theorem dX3_comes_8 : decode cX3_comes 8 = .ok (.aload_n 0, 1) := by decide +kernel
theorem dX3_comes_9 : decode cX3_comes 9 = .ok (.iload_n 2, 1) := by decide +kernel
theorem dX3_comes_10 : decode cX3_comes 10 = .ok (.invokevirtual 74, 3) := by decide +kernel
theorem dX3_comes_13 : decode cX3_comes 13 = .ok (.ifCond .ne 6, 3) := by decide +kernel
theorem dX3_comes_16 : decode cX3_comes 16 = .ok (.ldc 54, 2) := by decide +kernel
theorem dX3_comes_18 : decode cX3_comes 18 = .ok (.ireturn, 1) := by decide +kernel
theorem dX3_comes_19 : decode cX3_comes 19 = .ok (.iload_n 3, 1) := by decide +kernel
theorem dX3_comes_20 : decode cX3_comes 20 = .ok (.iconst (-1), 1) := by decide +kernel
theorem dX3_comes_21 : decode cX3_comes 21 = .ok (.if_icmp .eq 14, 3) := by decide +kernel
theorem dX3_comes_24 : decode cX3_comes 24 = .ok (.aload_n 0, 1) := by decide +kernel
theorem dX3_comes_25 : decode cX3_comes 25 = .ok (.iload_n 3, 1) := by decide +kernel
theorem dX3_comes_26 : decode cX3_comes 26 = .ok (.invokevirtual 91, 3) := by decide +kernel
theorem dX3_comes_29 : decode cX3_comes 29 = .ok (.ifCond .ne 6, 3) := by decide +kernel
theorem dX3_comes_32 : decode cX3_comes 32 = .ok (.ldc 54, 2) := by decide +kernel
theorem dX3_comes_34 : decode cX3_comes 34 = .ok (.ireturn, 1) := by decide +kernel
theorem dX3_comes_35 : decode cX3_comes 35 = .ok (.aload_n 0, 1) := by decide +kernel
theorem dX3_comes_36 : decode cX3_comes 36 = .ok (.getfield 19, 3) := by decide +kernel
theorem dX3_comes_39 : decode cX3_comes 39 = .ok (.iload_n 1, 1) := by decide +kernel
theorem dX3_comes_40 : decode cX3_comes 40 = .ok (.iload_n 3, 1) := by decide +kernel
theorem dX3_comes_41 : decode cX3_comes 41 = .ok (.iconst (-1), 1) := by decide +kernel
theorem dX3_comes_42 : decode cX3_comes 42 = .ok (.if_icmp .ne 13, 3) := by decide +kernel
theorem dX3_comes_45 : decode cX3_comes 45 = .ok (.aload_n 0, 1) := by decide +kernel
theorem dX3_comes_46 : decode cX3_comes 46 = .ok (.getfield 10, 3) := by decide +kernel
theorem dX3_comes_49 : decode cX3_comes 49 = .ok (.getfield 114, 3) := by decide +kernel
theorem dX3_comes_52 : decode cX3_comes 52 = .ok (.goto 12, 3) := by decide +kernel
theorem dX3_comes_55 : decode cX3_comes 55 = .ok (.aload_n 0, 1) := by decide +kernel
theorem dX3_comes_56 : decode cX3_comes 56 = .ok (.getfield 26, 3) := by decide +kernel
theorem dX3_comes_59 : decode cX3_comes 59 = .ok (.getfield 103, 3) := by decide +kernel
theorem dX3_comes_62 : decode cX3_comes 62 = .ok (.iload_n 3, 1) := by decide +kernel
theorem dX3_comes_63 : decode cX3_comes 63 = .ok (.aaload, 1) := by decide +kernel
theorem dX3_comes_64 : decode cX3_comes 64 = .ok (.aload_n 0, 1) := by decide +kernel
theorem dX3_comes_65 : decode cX3_comes 65 = .ok (.getfield 30, 3) := by decide +kernel
theorem dX3_comes_68 : decode cX3_comes 68 = .ok (.invokevirtual 117, 3) := by decide +kernel
theorem dX3_comes_71 : decode cX3_comes 71 = .ok (.aload_n 0, 1) := by decide +kernel
theorem dX3_comes_72 : decode cX3_comes 72 = .ok (.getfield 30, 3) := by decide +kernel
theorem dX3_comes_75 : decode cX3_comes 75 = .ok (.iload_n 2, 1) := by decide +kernel
theorem dX3_comes_76 : decode cX3_comes 76 = .ok (.invokestatic 121, 3) := by decide +kernel
theorem dX3_comes_79 : decode cX3_comes 79 = .ok (.iaload, 1) := by decide +kernel
theorem dX3_comes_80 : decode cX3_comes 80 = .ok (.ireturn, 1) := by decide +kernel
set_option maxRecDepth 20000 in
theorem ggX3_worst_X3_isPlan : GoodIn wsX3_worst wsX3_isPlan := goodIn_r _ [6, 7, 8, 9, 5, 10, 11, 12, 13, 14, 15, 58, 59, 60, 61, 62, 63, 64, 65, 66, 67, 68, 69] (by decide +kernel) (by decide +kernel)
set_option maxRecDepth 20000 in
theorem gX3_worst_X3_isPlan : GoodIn wsX3_worst (wsV RX3 111 RX3 yX3_isPlan wsX3_isPlan) := goodIn_app (goodIn_of _ (by decide +kernel)) ggX3_worst_X3_isPlan
set_option maxRecDepth 20000 in
theorem ggX3_worst_X3_isRowOrCost : GoodIn wsX3_worst wsX3_isRowOrCost := goodIn_r _ [19, 20, 13, 14, 5, 15, 58, 59, 60, 61, 62, 63, 64, 65, 66, 67, 68, 69] (by decide +kernel) (by decide +kernel)
set_option maxRecDepth 20000 in
theorem gX3_worst_X3_isRowOrCost : GoodIn wsX3_worst (wsV RX3 74 RX3 yX3_isRowOrCost wsX3_isRowOrCost) := goodIn_app (goodIn_of _ (by decide +kernel)) ggX3_worst_X3_isRowOrCost
set_option maxRecDepth 20000 in
theorem ggX3_worst_X3_findWorst : GoodIn wsX3_worst wsX3_findWorst := goodIn_r _ [24, 25, 26, 27, 28, 29, 30, 31, 32, 33, 34, 35, 36, 37, 38, 39, 40, 41, 42, 43, 44, 45, 46, 47, 48, 49, 50, 5, 51, 52, 53, 54, 55, 56, 57, 58, 59, 60, 61, 62, 63, 64, 65, 66, 67, 68, 69, 70, 71, 72, 73, 74, 75, 76, 77, 78] (by decide +kernel) (by decide +kernel)
set_option maxRecDepth 20000 in
theorem gX3_worst_X3_findWorst : GoodIn wsX3_worst (wsV RX3 125 RX3 yX3_findWorst wsX3_findWorst) := goodIn_app (goodIn_of _ (by decide +kernel)) ggX3_worst_X3_findWorst
theorem dX3_worst_0 : decode cX3_worst 0 = .ok (.aload_n 0, 1) := by decide +kernel
theorem dX3_worst_1 : decode cX3_worst 1 = .ok (.iload_n 1, 1) := by decide +kernel
theorem dX3_worst_2 : decode cX3_worst 2 = .ok (.invokevirtual 111, 3) := by decide +kernel
theorem dX3_worst_5 : decode cX3_worst 5 = .ok (.ifCond .eq 11, 3) := by decide +kernel
theorem dX3_worst_8 : decode cX3_worst 8 = .ok (.aload_n 0, 1) := by decide +kernel
theorem dX3_worst_9 : decode cX3_worst 9 = .ok (.iload_n 2, 1) := by decide +kernel
theorem dX3_worst_10 : decode cX3_worst 10 = .ok (.invokevirtual 74, 3) := by decide +kernel
theorem dX3_worst_13 : decode cX3_worst 13 = .ok (.ifCond .ne 6, 3) := by decide +kernel
theorem dX3_worst_16 : decode cX3_worst 16 = .ok (.ldc 54, 2) := by decide +kernel
theorem dX3_worst_18 : decode cX3_worst 18 = .ok (.ireturn, 1) := by decide +kernel
theorem dX3_worst_19 : decode cX3_worst 19 = .ok (.aload_n 0, 1) := by decide +kernel
theorem dX3_worst_20 : decode cX3_worst 20 = .ok (.iload_n 1, 1) := by decide +kernel
theorem dX3_worst_21 : decode cX3_worst 21 = .ok (.iload_n 2, 1) := by decide +kernel
theorem dX3_worst_22 : decode cX3_worst 22 = .ok (.invokevirtual 125, 3) := by decide +kernel
theorem dX3_worst_25 : decode cX3_worst 25 = .ok (.ireturn, 1) := by decide +kernel
set_option maxRecDepth 20000 in
theorem ggX3_worstName_X3_isPlan : GoodIn wsX3_worstName wsX3_isPlan := goodIn_r _ [7, 8, 9, 10, 6, 11, 12, 13, 14, 15, 16, 62, 63, 64, 65, 66, 67, 68, 69, 70, 71, 72, 73] (by decide +kernel) (by decide +kernel)
set_option maxRecDepth 20000 in
theorem gX3_worstName_X3_isPlan : GoodIn wsX3_worstName (wsV RX3 111 RX3 yX3_isPlan wsX3_isPlan) := goodIn_app (goodIn_of _ (by decide +kernel)) ggX3_worstName_X3_isPlan
set_option maxRecDepth 20000 in
theorem ggX3_worstName_X3_isRowOrCost : GoodIn wsX3_worstName wsX3_isRowOrCost := goodIn_r _ [20, 21, 14, 15, 6, 16, 62, 63, 64, 65, 66, 67, 68, 69, 70, 71, 72, 73] (by decide +kernel) (by decide +kernel)
set_option maxRecDepth 20000 in
theorem gX3_worstName_X3_isRowOrCost : GoodIn wsX3_worstName (wsV RX3 74 RX3 yX3_isRowOrCost wsX3_isRowOrCost) := goodIn_app (goodIn_of _ (by decide +kernel)) ggX3_worstName_X3_isRowOrCost
set_option maxRecDepth 20000 in
theorem ggX3_worstName_X3_isName : GoodIn wsX3_worstName wsX3_isName := goodIn_r _ [25, 26, 27, 14, 15, 6, 16, 62, 63, 64, 65, 66, 67, 68, 69, 70, 71, 72, 73, 74, 75, 76, 77] (by decide +kernel) (by decide +kernel)
set_option maxRecDepth 20000 in
theorem gX3_worstName_X3_isName : GoodIn wsX3_worstName (wsV RX3 94 RX3 yX3_isName wsX3_isName) := goodIn_app (goodIn_of _ (by decide +kernel)) ggX3_worstName_X3_isName
set_option maxRecDepth 20000 in
theorem ggX3_worstName_X3_findWorst : GoodIn wsX3_worstName wsX3_findWorst := goodIn_r _ [31, 32, 33, 26, 27, 34, 35, 2, 36, 37, 38, 39, 40, 41, 42, 43, 44, 45, 46, 47, 48, 49, 50, 51, 52, 53, 54, 6, 55, 56, 57, 58, 59, 60, 61, 62, 63, 64, 65, 66, 67, 68, 69, 70, 71, 72, 73, 74, 75, 76, 77, 78, 79, 80, 81, 82] (by decide +kernel) (by decide +kernel)
set_option maxRecDepth 20000 in
theorem gX3_worstName_X3_findWorst : GoodIn wsX3_worstName (wsV RX3 125 RX3 yX3_findWorst wsX3_findWorst) := goodIn_app (goodIn_of _ (by decide +kernel)) ggX3_worstName_X3_findWorst
theorem dX3_worstName_0 : decode cX3_worstName 0 = .ok (.aload_n 0, 1) := by decide +kernel
theorem dX3_worstName_1 : decode cX3_worstName 1 = .ok (.iload_n 1, 1) := by decide +kernel
theorem dX3_worstName_2 : decode cX3_worstName 2 = .ok (.invokevirtual 111, 3) := by decide +kernel
theorem dX3_worstName_5 : decode cX3_worstName 5 = .ok (.ifCond .eq 19, 3) := by decide +kernel
theorem dX3_worstName_8 : decode cX3_worstName 8 = .ok (.aload_n 0, 1) := by decide +kernel
theorem dX3_worstName_9 : decode cX3_worstName 9 = .ok (.iload_n 2, 1) := by decide +kernel
theorem dX3_worstName_10 : decode cX3_worstName 10 = .ok (.invokevirtual 74, 3) := by decide +kernel
theorem dX3_worstName_13 : decode cX3_worstName 13 = .ok (.ifCond .eq 11, 3) := by decide +kernel
theorem dX3_worstName_16 : decode cX3_worstName 16 = .ok (.aload_n 0, 1) := by decide +kernel
theorem dX3_worstName_17 : decode cX3_worstName 17 = .ok (.iload_n 3, 1) := by decide +kernel
theorem dX3_worstName_18 : decode cX3_worstName 18 = .ok (.invokevirtual 94, 3) := by decide +kernel
theorem dX3_worstName_21 : decode cX3_worstName 21 = .ok (.ifCond .ne 6, 3) := by decide +kernel
theorem dX3_worstName_24 : decode cX3_worstName 24 = .ok (.ldc 54, 2) := by decide +kernel
theorem dX3_worstName_26 : decode cX3_worstName 26 = .ok (.ireturn, 1) := by decide +kernel
theorem dX3_worstName_27 : decode cX3_worstName 27 = .ok (.aload_n 0, 1) := by decide +kernel
theorem dX3_worstName_28 : decode cX3_worstName 28 = .ok (.iload_n 1, 1) := by decide +kernel
theorem dX3_worstName_29 : decode cX3_worstName 29 = .ok (.iload_n 2, 1) := by decide +kernel
theorem dX3_worstName_30 : decode cX3_worstName 30 = .ok (.invokevirtual 125, 3) := by decide +kernel
theorem dX3_worstName_33 : decode cX3_worstName 33 = .ok (.pop, 1) := by decide +kernel
theorem dX3_worstName_34 : decode cX3_worstName 34 = .ok (.aload_n 0, 1) := by decide +kernel
theorem dX3_worstName_35 : decode cX3_worstName 35 = .ok (.getfield 43, 3) := by decide +kernel
theorem dX3_worstName_38 : decode cX3_worstName 38 = .ok (.iload_n 3, 1) := by decide +kernel
theorem dX3_worstName_39 : decode cX3_worstName 39 = .ok (.iaload, 1) := by decide +kernel
theorem dX3_worstName_40 : decode cX3_worstName 40 = .ok (.ireturn, 1) := by decide +kernel
set_option maxRecDepth 20000 in
theorem ggX3_breaks_X3_isPlan : GoodIn wsX3_breaks wsX3_isPlan := goodIn_r _ [6, 7, 8, 9, 5, 10, 11, 12, 13, 14, 15, 58, 59, 60, 61, 62, 63, 64, 65, 66, 67, 68, 69] (by decide +kernel) (by decide +kernel)
set_option maxRecDepth 20000 in
theorem gX3_breaks_X3_isPlan : GoodIn wsX3_breaks (wsV RX3 111 RX3 yX3_isPlan wsX3_isPlan) := goodIn_app (goodIn_of _ (by decide +kernel)) ggX3_breaks_X3_isPlan
set_option maxRecDepth 20000 in
theorem ggX3_breaks_X3_firstBroken : GoodIn wsX3_breaks wsX3_firstBroken := goodIn_r _ [19, 20, 21, 22, 23, 24, 5, 25, 26, 27, 28, 29, 30, 31, 32, 33, 34, 35, 36, 37, 38, 39, 40, 41, 42, 43, 44, 45, 46, 47, 48, 49, 50, 51, 52, 53, 54, 55, 56, 57, 58, 59, 60, 61, 62, 63, 64, 65, 66, 67, 68, 69, 70, 71, 72, 73, 74, 75, 76, 77, 78] (by decide +kernel) (by decide +kernel)
set_option maxRecDepth 20000 in
theorem gX3_breaks_X3_firstBroken : GoodIn wsX3_breaks (wsV RX3 129 RX3 yX3_firstBroken wsX3_firstBroken) := goodIn_app (goodIn_of _ (by decide +kernel)) ggX3_breaks_X3_firstBroken
theorem dX3_breaks_0 : decode cX3_breaks 0 = .ok (.aload_n 0, 1) := by decide +kernel
theorem dX3_breaks_1 : decode cX3_breaks 1 = .ok (.iload_n 1, 1) := by decide +kernel
theorem dX3_breaks_2 : decode cX3_breaks 2 = .ok (.invokevirtual 111, 3) := by decide +kernel
theorem dX3_breaks_5 : decode cX3_breaks 5 = .ok (.ifCond .ne 6, 3) := by decide +kernel
theorem dX3_breaks_8 : decode cX3_breaks 8 = .ok (.ldc 54, 2) := by decide +kernel
theorem dX3_breaks_10 : decode cX3_breaks 10 = .ok (.ireturn, 1) := by decide +kernel
theorem dX3_breaks_11 : decode cX3_breaks 11 = .ok (.aload_n 0, 1) := by decide +kernel
theorem dX3_breaks_12 : decode cX3_breaks 12 = .ok (.iload_n 1, 1) := by decide +kernel
theorem dX3_breaks_13 : decode cX3_breaks 13 = .ok (.invokevirtual 129, 3) := by decide +kernel
theorem dX3_breaks_16 : decode cX3_breaks 16 = .ok (.ireturn, 1) := by decide +kernel
set_option maxRecDepth 20000 in
theorem ggX3_safest_X3_planCount : GoodIn wsX3_safest wsX3_planCount := goodIn_r _ [6, 7, 8, 50, 51, 52, 53, 54, 55, 56, 57, 58, 59, 60, 61] (by decide +kernel) (by decide +kernel)
set_option maxRecDepth 20000 in
theorem gX3_safest_X3_planCount : GoodIn wsX3_safest (wsV RX3 133 RX3 yX3_planCount wsX3_planCount) := goodIn_app (goodIn_of _ (by decide +kernel)) ggX3_safest_X3_planCount
set_option maxRecDepth 20000 in
theorem ggX3_safest_X3_findWorst : GoodIn wsX3_safest wsX3_findWorst := goodIn_r _ [12, 13, 14, 15, 16, 17, 18, 19, 20, 1, 21, 22, 23, 24, 25, 26, 27, 28, 29, 30, 31, 32, 33, 34, 35, 36, 37, 5, 38, 39, 40, 41, 42, 43, 44, 50, 51, 52, 53, 54, 55, 56, 57, 58, 59, 60, 61, 62, 63, 64, 65, 66, 67, 68, 69, 70] (by decide +kernel) (by decide +kernel)
set_option maxRecDepth 20000 in
theorem gX3_safest_X3_findWorst : GoodIn wsX3_safest (wsV RX3 125 RX3 yX3_findWorst wsX3_findWorst) := goodIn_app (goodIn_of _ (by decide +kernel)) ggX3_safest_X3_findWorst
set_option maxRecDepth 20000 in
theorem ggX3_safest_X3_firstBroken : GoodIn wsX3_safest wsX3_firstBroken := goodIn_r _ [48, 49, 1, 9, 10, 11, 5, 12, 13, 14, 15, 16, 17, 18, 19, 20, 21, 22, 23, 24, 25, 26, 27, 28, 29, 30, 31, 32, 33, 34, 35, 36, 37, 38, 39, 40, 41, 42, 43, 44, 50, 51, 52, 53, 54, 55, 56, 57, 58, 59, 60, 61, 62, 63, 64, 65, 66, 67, 68, 69, 70] (by decide +kernel) (by decide +kernel)
set_option maxRecDepth 20000 in
theorem gX3_safest_X3_firstBroken : GoodIn wsX3_safest (wsV RX3 129 RX3 yX3_firstBroken wsX3_firstBroken) := goodIn_app (goodIn_of _ (by decide +kernel)) ggX3_safest_X3_firstBroken
theorem dX3_safest_0 : decode cX3_safest 0 = .ok (.ldc 132, 2) := by decide +kernel
theorem dX3_safest_2 : decode cX3_safest 2 = .ok (.istore_n 1, 1) := by decide +kernel
theorem dX3_safest_3 : decode cX3_safest 3 = .ok (.iconst 0, 1) := by decide +kernel
theorem dX3_safest_4 : decode cX3_safest 4 = .ok (.istore_n 2, 1) := by decide +kernel
theorem dX3_safest_5 : decode cX3_safest 5 = .ok (.iconst 0, 1) := by decide +kernel
theorem dX3_safest_6 : decode cX3_safest 6 = .ok (.istore_n 3, 1) := by decide +kernel
theorem dX3_safest_7 : decode cX3_safest 7 = .ok (.iload_n 3, 1) := by decide +kernel
theorem dX3_safest_8 : decode cX3_safest 8 = .ok (.aload_n 0, 1) := by decide +kernel
theorem dX3_safest_9 : decode cX3_safest 9 = .ok (.invokevirtual 133, 3) := by decide +kernel
theorem dX3_safest_12 : decode cX3_safest 12 = .ok (.if_icmp .ge 44, 3) := by decide +kernel
theorem dX3_safest_15 : decode cX3_safest 15 = .ok (.aload_n 0, 1) := by decide +kernel
theorem dX3_safest_16 : decode cX3_safest 16 = .ok (.iload_n 3, 1) := by decide +kernel
theorem dX3_safest_17 : decode cX3_safest 17 = .ok (.iconst (-1), 1) := by decide +kernel
theorem dX3_safest_18 : decode cX3_safest 18 = .ok (.invokevirtual 125, 3) := by decide +kernel
theorem dX3_safest_21 : decode cX3_safest 21 = .ok (.istore 4, 2) := by decide +kernel
theorem dX3_safest_23 : decode cX3_safest 23 = .ok (.iload_n 1, 1) := by decide +kernel
theorem dX3_safest_24 : decode cX3_safest 24 = .ok (.ldc 132, 2) := by decide +kernel
theorem dX3_safest_26 : decode cX3_safest 26 = .ok (.if_icmp .eq 9, 3) := by decide +kernel
theorem dX3_safest_29 : decode cX3_safest 29 = .ok (.iload 4, 2) := by decide +kernel
theorem dX3_safest_31 : decode cX3_safest 31 = .ok (.iload_n 2, 1) := by decide +kernel
theorem dX3_safest_32 : decode cX3_safest 32 = .ok (.if_icmp .ge 18, 3) := by decide +kernel
theorem dX3_safest_35 : decode cX3_safest 35 = .ok (.aload_n 0, 1) := by decide +kernel
theorem dX3_safest_36 : decode cX3_safest 36 = .ok (.iload_n 3, 1) := by decide +kernel
theorem dX3_safest_37 : decode cX3_safest 37 = .ok (.invokevirtual 129, 3) := by decide +kernel
theorem dX3_safest_40 : decode cX3_safest 40 = .ok (.ldc 132, 2) := by decide +kernel
theorem dX3_safest_42 : decode cX3_safest 42 = .ok (.if_icmp .ne 8, 3) := by decide +kernel
theorem dX3_safest_45 : decode cX3_safest 45 = .ok (.iload_n 3, 1) := by decide +kernel
theorem dX3_safest_46 : decode cX3_safest 46 = .ok (.istore_n 1, 1) := by decide +kernel
theorem dX3_safest_47 : decode cX3_safest 47 = .ok (.iload 4, 2) := by decide +kernel
theorem dX3_safest_49 : decode cX3_safest 49 = .ok (.istore_n 2, 1) := by decide +kernel
theorem dX3_safest_50 : decode cX3_safest 50 = .ok (.iinc 3 1, 3) := by decide +kernel
theorem dX3_safest_53 : decode cX3_safest 53 = .ok (.goto (-46), 3) := by decide +kernel
theorem dX3_safest_56 : decode cX3_safest 56 = .ok (.iload_n 1, 1) := by decide +kernel
theorem dX3_safest_57 : decode cX3_safest 57 = .ok (.ireturn, 1) := by decide +kernel
set_option maxRecDepth 20000 in
theorem ggX3_answer_X3_isFirstPart : GoodIn wsX3_answer wsX3_isFirstPart := goodIn_r _ [6, 7, 8, 9, 5, 10, 11, 12, 13, 14, 52, 53, 54, 55, 56, 57, 58, 59, 60, 61, 62, 63] (by decide +kernel) (by decide +kernel)
set_option maxRecDepth 20000 in
theorem gX3_answer_X3_isFirstPart : GoodIn wsX3_answer (wsV RX3 136 RX3 yX3_isFirstPart wsX3_isFirstPart) := goodIn_app (goodIn_of _ (by decide +kernel)) ggX3_answer_X3_isFirstPart
set_option maxRecDepth 20000 in
theorem ggX3_answer_X3_isListed : GoodIn wsX3_answer wsX3_isListed := goodIn_r _ [18, 19, 20, 12, 13, 5, 14, 52, 53, 54, 55, 56, 57, 58, 59, 60, 61, 62, 63, 64, 65, 66, 67] (by decide +kernel) (by decide +kernel)
set_option maxRecDepth 20000 in
theorem gX3_answer_X3_isListed : GoodIn wsX3_answer (wsV RX3 91 RX3 yX3_isListed wsX3_isListed) := goodIn_app (goodIn_of _ (by decide +kernel)) ggX3_answer_X3_isListed
set_option maxRecDepth 20000 in
theorem ggX3_answer_X3_findAnswer : GoodIn wsX3_answer wsX3_findAnswer := goodIn_r _ [24, 25, 26, 11, 27, 28, 29, 30, 5, 31, 32, 19, 33, 34, 35, 36, 37, 38, 39, 40, 41, 42, 43, 44, 45, 46, 47, 48, 49, 50, 51, 52, 53, 54, 55, 56, 57, 58, 59, 60, 61, 62, 63, 64, 65, 66, 67, 68, 69, 70, 71, 72] (by decide +kernel) (by decide +kernel)
set_option maxRecDepth 20000 in
theorem gX3_answer_X3_findAnswer : GoodIn wsX3_answer (wsV RX3 139 RX3 yX3_findAnswer wsX3_findAnswer) := goodIn_app (goodIn_of _ (by decide +kernel)) ggX3_answer_X3_findAnswer
theorem dX3_answer_0 : decode cX3_answer 0 = .ok (.aload_n 0, 1) := by decide +kernel
theorem dX3_answer_1 : decode cX3_answer 1 = .ok (.iload_n 1, 1) := by decide +kernel
theorem dX3_answer_2 : decode cX3_answer 2 = .ok (.invokevirtual 136, 3) := by decide +kernel
theorem dX3_answer_5 : decode cX3_answer 5 = .ok (.ifCond .eq 11, 3) := by decide +kernel
theorem dX3_answer_8 : decode cX3_answer 8 = .ok (.aload_n 0, 1) := by decide +kernel
theorem dX3_answer_9 : decode cX3_answer 9 = .ok (.iload_n 2, 1) := by decide +kernel
theorem dX3_answer_10 : decode cX3_answer 10 = .ok (.invokevirtual 91, 3) := by decide +kernel
theorem dX3_answer_13 : decode cX3_answer 13 = .ok (.ifCond .ne 6, 3) := by decide +kernel
theorem dX3_answer_16 : decode cX3_answer 16 = .ok (.ldc 54, 2) := by decide +kernel
theorem dX3_answer_18 : decode cX3_answer 18 = .ok (.ireturn, 1) := by decide +kernel
theorem dX3_answer_19 : decode cX3_answer 19 = .ok (.aload_n 0, 1) := by decide +kernel
theorem dX3_answer_20 : decode cX3_answer 20 = .ok (.iload_n 1, 1) := by decide +kernel
theorem dX3_answer_21 : decode cX3_answer 21 = .ok (.iload_n 2, 1) := by decide +kernel
theorem dX3_answer_22 : decode cX3_answer 22 = .ok (.invokevirtual 139, 3) := by decide +kernel
theorem dX3_answer_25 : decode cX3_answer 25 = .ok (.ireturn, 1) := by decide +kernel
set_option maxRecDepth 20000 in
theorem ggX3_twoStep_X3_findTwoStep : GoodIn wsX3_twoStep wsX3_findTwoStep := goodIn_r _ [5, 6, 7, 8, 9, 4, 10, 11, 12, 13, 14, 15, 16, 17, 18, 19, 20, 21, 22, 23, 24, 25, 26, 27, 28, 29, 30, 31, 32, 33, 34, 35, 36, 37, 38, 39, 40, 41, 42, 43, 44, 45, 46, 47, 48, 49, 50, 51, 52, 53, 54, 55, 56, 57, 58, 59, 60, 61, 62, 63, 64, 65, 66, 67, 68, 69, 70, 71, 72, 73, 74, 75, 76, 77, 78, 79, 80, 81, 82] (by decide +kernel) (by decide +kernel)
set_option maxRecDepth 20000 in
theorem gX3_twoStep_X3_findTwoStep : GoodIn wsX3_twoStep (wsV RX3 142 RX3 yX3_findTwoStep wsX3_findTwoStep) := goodIn_app (goodIn_of _ (by decide +kernel)) ggX3_twoStep_X3_findTwoStep
theorem dX3_twoStep_0 : decode cX3_twoStep 0 = .ok (.aload_n 0, 1) := by decide +kernel
theorem dX3_twoStep_1 : decode cX3_twoStep 1 = .ok (.invokevirtual 142, 3) := by decide +kernel
theorem dX3_twoStep_4 : decode cX3_twoStep 4 = .ok (.ireturn, 1) := by decide +kernel
set_option maxRecDepth 20000 in
theorem ggX3_mean_X3_isFirstPart : GoodIn wsX3_mean wsX3_isFirstPart := goodIn_r _ [8, 9, 10, 11, 7, 12, 13, 14, 15, 16, 79, 80, 81, 82, 83, 84, 85, 86, 87, 88, 89, 90] (by decide +kernel) (by decide +kernel)
set_option maxRecDepth 20000 in
theorem gX3_mean_X3_isFirstPart : GoodIn wsX3_mean (wsV RX3 136 RX3 yX3_isFirstPart wsX3_isFirstPart) := goodIn_app (goodIn_of _ (by decide +kernel)) ggX3_mean_X3_isFirstPart
set_option maxRecDepth 20000 in
theorem ggX3_mean_X3_isPart : GoodIn wsX3_mean wsX3_isPart := goodIn_r _ [19, 14, 15, 7, 16] (by decide +kernel) (by decide +kernel)
set_option maxRecDepth 20000 in
theorem gX3_mean_X3_isPart : GoodIn wsX3_mean (va_wsS RX3 145 yX3_isPart wsX3_isPart) := goodIn_app (goodIn_of _ (by decide +kernel)) ggX3_mean_X3_isPart
set_option maxRecDepth 20000 in
theorem ggX3_mean_X3_costByOdds : GoodIn wsX3_mean wsX3_costByOdds := goodIn_r _ [23, 3, 2, 24, 25, 26, 27, 28, 29, 30, 31, 32, 33, 34, 35, 36, 37, 7, 38, 39, 13, 40, 41, 42, 43, 44, 45, 46, 47, 48, 49, 50, 51, 52, 53, 54, 55, 56, 57, 58, 59, 60, 61, 62, 63, 64, 65, 66, 67, 68, 79, 80, 81, 82, 83, 84, 85, 86, 87, 88, 89, 90, 91, 92, 93, 94, 95, 96, 97, 98, 99] (by decide +kernel) (by decide +kernel)
set_option maxRecDepth 20000 in
theorem gX3_mean_X3_costByOdds : GoodIn wsX3_mean (wsV RX3 148 RX3 yX3_costByOdds wsX3_costByOdds) := goodIn_app (goodIn_of _ (by decide +kernel)) ggX3_mean_X3_costByOdds
set_option maxRecDepth 20000 in
theorem ggX3_mean_X0_countedOdds : GoodIn wsX3_mean wsX0_countedOdds := goodIn_r _ [31, 32, 33, 34, 91, 92, 93, 94] (by decide +kernel) (by decide +kernel)
set_option maxRecDepth 20000 in
theorem gX3_mean_X0_countedOdds : GoodIn wsX3_mean (wsV RX3 151 RX0 yX0_countedOdds wsX0_countedOdds) := goodIn_app (goodIn_of _ (by decide +kernel)) ggX3_mean_X0_countedOdds
set_option maxRecDepth 20000 in
theorem ggX3_mean_X3_partOfFraction : GoodIn wsX3_mean wsX3_partOfFraction := goodIn_r _ [71, 72, 73, 74, 75, 76, 77, 7, 78] (by decide +kernel) (by decide +kernel)
set_option maxRecDepth 20000 in
theorem gX3_mean_X3_partOfFraction : GoodIn wsX3_mean (va_wsS RX3 154 yX3_partOfFraction wsX3_partOfFraction) := goodIn_app (goodIn_of _ (by decide +kernel)) ggX3_mean_X3_partOfFraction
theorem dX3_mean_0 : decode cX3_mean 0 = .ok (.aload_n 0, 1) := by decide +kernel
theorem dX3_mean_1 : decode cX3_mean 1 = .ok (.iload_n 1, 1) := by decide +kernel
theorem dX3_mean_2 : decode cX3_mean 2 = .ok (.invokevirtual 136, 3) := by decide +kernel
theorem dX3_mean_5 : decode cX3_mean 5 = .ok (.ifCond .eq 10, 3) := by decide +kernel
theorem dX3_mean_8 : decode cX3_mean 8 = .ok (.iload_n 2, 1) := by decide +kernel
theorem dX3_mean_9 : decode cX3_mean 9 = .ok (.invokestatic 145, 3) := by decide +kernel
theorem dX3_mean_12 : decode cX3_mean 12 = .ok (.ifCond .ne 6, 3) := by decide +kernel
theorem dX3_mean_15 : decode cX3_mean 15 = .ok (.ldc 54, 2) := by decide +kernel
theorem dX3_mean_17 : decode cX3_mean 17 = .ok (.ireturn, 1) := by decide +kernel
theorem dX3_mean_18 : decode cX3_mean 18 = .ok (.aload_n 0, 1) := by decide +kernel
theorem dX3_mean_19 : decode cX3_mean 19 = .ok (.iload_n 1, 1) := by decide +kernel
theorem dX3_mean_20 : decode cX3_mean 20 = .ok (.invokevirtual 148, 3) := by decide +kernel
theorem dX3_mean_23 : decode cX3_mean 23 = .ok (.istore_n 3, 1) := by decide +kernel
theorem dX3_mean_24 : decode cX3_mean 24 = .ok (.iload_n 3, 1) := by decide +kernel
theorem dX3_mean_25 : decode cX3_mean 25 = .ok (.ldc 132, 2) := by decide +kernel
theorem dX3_mean_27 : decode cX3_mean 27 = .ok (.if_icmp .ne 6, 3) := by decide +kernel
theorem dX3_mean_30 : decode cX3_mean 30 = .ok (.ldc 132, 2) := by decide +kernel
theorem dX3_mean_32 : decode cX3_mean 32 = .ok (.ireturn, 1) := by decide +kernel
theorem dX3_mean_33 : decode cX3_mean 33 = .ok (.iload_n 3, 1) := by decide +kernel
theorem dX3_mean_34 : decode cX3_mean 34 = .ok (.aload_n 0, 1) := by decide +kernel
theorem dX3_mean_35 : decode cX3_mean 35 = .ok (.getfield 26, 3) := by decide +kernel
theorem dX3_mean_38 : decode cX3_mean 38 = .ok (.invokevirtual 151, 3) := by decide +kernel
theorem dX3_mean_41 : decode cX3_mean 41 = .ok (.iload_n 2, 1) := by decide +kernel
theorem dX3_mean_42 : decode cX3_mean 42 = .ok (.invokestatic 154, 3) := by decide +kernel
theorem dX3_mean_45 : decode cX3_mean 45 = .ok (.ireturn, 1) := by decide +kernel
set_option maxRecDepth 20000 in
theorem ggX3_best_X3_isListed : GoodIn wsX3_best wsX3_isListed := goodIn_r _ [6, 7, 8, 9, 10, 5, 11, 48, 49, 50, 51, 52, 53, 54, 55, 56, 57, 58, 59, 60, 61, 62, 63] (by decide +kernel) (by decide +kernel)
set_option maxRecDepth 20000 in
theorem gX3_best_X3_isListed : GoodIn wsX3_best (wsV RX3 91 RX3 yX3_isListed wsX3_isListed) := goodIn_app (goodIn_of _ (by decide +kernel)) ggX3_best_X3_isListed
set_option maxRecDepth 20000 in
theorem ggX3_best_X3_leastCost : GoodIn wsX3_best wsX3_leastCost := goodIn_r _ [15, 16, 17, 18, 19, 20, 5, 21, 22, 23, 24, 25, 26, 27, 28, 7, 29, 30, 31, 32, 33, 34, 35, 36, 37, 38, 39, 40, 41, 42, 43, 44, 45, 46, 47, 48, 49, 50, 51, 52, 53, 54, 55, 56, 57, 58, 59, 60, 61, 62, 63, 64, 65, 66, 67, 68] (by decide +kernel) (by decide +kernel)
set_option maxRecDepth 20000 in
theorem gX3_best_X3_leastCost : GoodIn wsX3_best (wsV RX3 157 RX3 yX3_leastCost wsX3_leastCost) := goodIn_app (goodIn_of _ (by decide +kernel)) ggX3_best_X3_leastCost
theorem dX3_best_0 : decode cX3_best 0 = .ok (.aload_n 0, 1) := by decide +kernel
theorem dX3_best_1 : decode cX3_best 1 = .ok (.iload_n 1, 1) := by decide +kernel
theorem dX3_best_2 : decode cX3_best 2 = .ok (.invokevirtual 91, 3) := by decide +kernel
theorem dX3_best_5 : decode cX3_best 5 = .ok (.ifCond .ne 6, 3) := by decide +kernel
theorem dX3_best_8 : decode cX3_best 8 = .ok (.ldc 54, 2) := by decide +kernel
theorem dX3_best_10 : decode cX3_best 10 = .ok (.ireturn, 1) := by decide +kernel
theorem dX3_best_11 : decode cX3_best 11 = .ok (.aload_n 0, 1) := by decide +kernel
theorem dX3_best_12 : decode cX3_best 12 = .ok (.iload_n 1, 1) := by decide +kernel
theorem dX3_best_13 : decode cX3_best 13 = .ok (.invokevirtual 157, 3) := by decide +kernel
theorem dX3_best_16 : decode cX3_best 16 = .ok (.ireturn, 1) := by decide +kernel
set_option maxRecDepth 20000 in
theorem ggX3_regret_X3_isFirstPart : GoodIn wsX3_regret wsX3_isFirstPart := goodIn_r _ [6, 7, 8, 9, 5, 10, 11, 12, 13, 14, 82, 83, 84, 85, 86, 87, 88, 89, 90, 91, 92, 93] (by decide +kernel) (by decide +kernel)
set_option maxRecDepth 20000 in
theorem gX3_regret_X3_isFirstPart : GoodIn wsX3_regret (wsV RX3 136 RX3 yX3_isFirstPart wsX3_isFirstPart) := goodIn_app (goodIn_of _ (by decide +kernel)) ggX3_regret_X3_isFirstPart
set_option maxRecDepth 20000 in
theorem ggX3_regret_X3_fillBests : GoodIn wsX3_regret wsX3_fillBests := goodIn_r _ [18, 19, 20, 21, 22, 23, 24, 25, 5, 26, 27, 28, 29, 30, 31, 32, 11, 33, 34, 35, 36, 37, 38, 39, 40, 41, 42, 43, 44, 45, 46, 47, 48, 49, 50, 51, 52, 53, 54, 55, 56, 57, 82, 83, 84, 85, 86, 87, 88, 89, 90, 91, 92, 93, 94, 95, 96, 97, 98, 99, 100, 101, 102] (by decide +kernel) (by decide +kernel)
set_option maxRecDepth 20000 in
theorem gX3_regret_X3_fillBests : GoodIn wsX3_regret (wsV RX3 160 RX3 yX3_fillBests wsX3_fillBests) := goodIn_app (goodIn_of _ (by decide +kernel)) ggX3_regret_X3_fillBests
set_option maxRecDepth 20000 in
theorem ggX3_regret_X3_greatestRegret : GoodIn wsX3_regret wsX3_greatestRegret := goodIn_r _ [61, 19, 27, 20, 21, 22, 62, 63, 64, 65, 66, 67, 68, 69, 70, 71, 72, 73, 74, 75, 76, 5, 77, 33, 11, 28, 34, 35, 36, 37, 38, 39, 40, 41, 42, 43, 44, 45, 46, 47, 48, 49, 50, 51, 52, 53, 54, 55, 56, 57, 78, 79, 80, 81, 82, 83, 84, 85, 86, 87, 88, 89, 90, 91, 92, 93, 94, 95, 96, 97, 98, 99, 100, 101, 102] (by decide +kernel) (by decide +kernel)
set_option maxRecDepth 20000 in
theorem gX3_regret_X3_greatestRegret : GoodIn wsX3_regret (wsV RX3 163 RX3 yX3_greatestRegret wsX3_greatestRegret) := goodIn_app (goodIn_of _ (by decide +kernel)) ggX3_regret_X3_greatestRegret
theorem dX3_regret_0 : decode cX3_regret 0 = .ok (.aload_n 0, 1) := by decide +kernel
theorem dX3_regret_1 : decode cX3_regret 1 = .ok (.iload_n 1, 1) := by decide +kernel
theorem dX3_regret_2 : decode cX3_regret 2 = .ok (.invokevirtual 136, 3) := by decide +kernel
theorem dX3_regret_5 : decode cX3_regret 5 = .ok (.ifCond .ne 6, 3) := by decide +kernel
theorem dX3_regret_8 : decode cX3_regret 8 = .ok (.ldc 54, 2) := by decide +kernel
theorem dX3_regret_10 : decode cX3_regret 10 = .ok (.ireturn, 1) := by decide +kernel
theorem dX3_regret_11 : decode cX3_regret 11 = .ok (.aload_n 0, 1) := by decide +kernel
theorem dX3_regret_12 : decode cX3_regret 12 = .ok (.invokevirtual 160, 3) := by decide +kernel
theorem dX3_regret_15 : decode cX3_regret 15 = .ok (.aload_n 0, 1) := by decide +kernel
theorem dX3_regret_16 : decode cX3_regret 16 = .ok (.iload_n 1, 1) := by decide +kernel
theorem dX3_regret_17 : decode cX3_regret 17 = .ok (.invokevirtual 163, 3) := by decide +kernel
theorem dX3_regret_20 : decode cX3_regret 20 = .ok (.ireturn, 1) := by decide +kernel
set_option maxRecDepth 20000 in
theorem ggX3_calmest_X3_fillBests : GoodIn wsX3_calmest wsX3_fillBests := goodIn_r _ [6, 7, 8, 9, 10, 11, 12, 13, 5, 14, 1, 15, 16, 17, 18, 19, 20, 21, 22, 23, 24, 25, 26, 27, 28, 29, 30, 31, 32, 33, 34, 35, 36, 37, 38, 39, 40, 41, 42, 43, 44, 45, 74, 75, 76, 77, 78, 79, 80, 81, 82, 83, 84, 85, 86, 87, 88, 89, 90, 91, 92, 93, 94] (by decide +kernel) (by decide +kernel)
set_option maxRecDepth 20000 in
theorem gX3_calmest_X3_fillBests : GoodIn wsX3_calmest (wsV RX3 160 RX3 yX3_fillBests wsX3_fillBests) := goodIn_app (goodIn_of _ (by decide +kernel)) ggX3_calmest_X3_fillBests
set_option maxRecDepth 20000 in
theorem ggX3_calmest_X3_firstPartCount : GoodIn wsX3_calmest wsX3_firstPartCount := goodIn_r _ [49, 20, 74, 75, 76, 77, 78, 79, 80, 81, 82, 83, 84, 85] (by decide +kernel) (by decide +kernel)
set_option maxRecDepth 20000 in
theorem gX3_calmest_X3_firstPartCount : GoodIn wsX3_calmest (wsV RX3 166 RX3 yX3_firstPartCount wsX3_firstPartCount) := goodIn_app (goodIn_of _ (by decide +kernel)) ggX3_calmest_X3_firstPartCount
set_option maxRecDepth 20000 in
theorem ggX3_calmest_X3_greatestRegret : GoodIn wsX3_calmest wsX3_greatestRegret := goodIn_r _ [53, 7, 1, 8, 9, 10, 54, 55, 56, 57, 58, 59, 60, 61, 62, 63, 64, 65, 66, 67, 68, 5, 69, 21, 20, 15, 22, 23, 24, 25, 26, 27, 28, 29, 30, 31, 32, 33, 34, 35, 36, 37, 38, 39, 40, 41, 42, 43, 44, 45, 70, 71, 72, 73, 74, 75, 76, 77, 78, 79, 80, 81, 82, 83, 84, 85, 86, 87, 88, 89, 90, 91, 92, 93, 94] (by decide +kernel) (by decide +kernel)
set_option maxRecDepth 20000 in
theorem gX3_calmest_X3_greatestRegret : GoodIn wsX3_calmest (wsV RX3 163 RX3 yX3_greatestRegret wsX3_greatestRegret) := goodIn_app (goodIn_of _ (by decide +kernel)) ggX3_calmest_X3_greatestRegret
theorem dX3_calmest_0 : decode cX3_calmest 0 = .ok (.aload_n 0, 1) := by decide +kernel
theorem dX3_calmest_1 : decode cX3_calmest 1 = .ok (.invokevirtual 160, 3) := by decide +kernel
theorem dX3_calmest_4 : decode cX3_calmest 4 = .ok (.ldc 132, 2) := by decide +kernel
theorem dX3_calmest_6 : decode cX3_calmest 6 = .ok (.istore_n 1, 1) := by decide +kernel
theorem dX3_calmest_7 : decode cX3_calmest 7 = .ok (.iconst 0, 1) := by decide +kernel
theorem dX3_calmest_8 : decode cX3_calmest 8 = .ok (.istore_n 2, 1) := by decide +kernel
theorem dX3_calmest_9 : decode cX3_calmest 9 = .ok (.iconst 0, 1) := by decide +kernel
theorem dX3_calmest_10 : decode cX3_calmest 10 = .ok (.istore_n 3, 1) := by decide +kernel
theorem dX3_calmest_11 : decode cX3_calmest 11 = .ok (.iload_n 3, 1) := by decide +kernel
theorem dX3_calmest_12 : decode cX3_calmest 12 = .ok (.aload_n 0, 1) := by decide +kernel
theorem dX3_calmest_13 : decode cX3_calmest 13 = .ok (.invokevirtual 166, 3) := by decide +kernel
theorem dX3_calmest_16 : decode cX3_calmest 16 = .ok (.if_icmp .ge 40, 3) := by decide +kernel
theorem dX3_calmest_19 : decode cX3_calmest 19 = .ok (.aload_n 0, 1) := by decide +kernel
theorem dX3_calmest_20 : decode cX3_calmest 20 = .ok (.iload_n 3, 1) := by decide +kernel
theorem dX3_calmest_21 : decode cX3_calmest 21 = .ok (.invokevirtual 163, 3) := by decide +kernel
theorem dX3_calmest_24 : decode cX3_calmest 24 = .ok (.istore 4, 2) := by decide +kernel
theorem dX3_calmest_26 : decode cX3_calmest 26 = .ok (.iload 4, 2) := by decide +kernel
theorem dX3_calmest_28 : decode cX3_calmest 28 = .ok (.ldc 132, 2) := by decide +kernel
theorem dX3_calmest_30 : decode cX3_calmest 30 = .ok (.if_icmp .eq 20, 3) := by decide +kernel
theorem dX3_calmest_33 : decode cX3_calmest 33 = .ok (.iload_n 1, 1) := by decide +kernel
theorem dX3_calmest_34 : decode cX3_calmest 34 = .ok (.ldc 132, 2) := by decide +kernel
theorem dX3_calmest_36 : decode cX3_calmest 36 = .ok (.if_icmp .eq 9, 3) := by decide +kernel
theorem dX3_calmest_39 : decode cX3_calmest 39 = .ok (.iload 4, 2) := by decide +kernel
theorem dX3_calmest_41 : decode cX3_calmest 41 = .ok (.iload_n 2, 1) := by decide +kernel
theorem dX3_calmest_42 : decode cX3_calmest 42 = .ok (.if_icmp .ge 8, 3) := by decide +kernel
theorem dX3_calmest_45 : decode cX3_calmest 45 = .ok (.iload_n 3, 1) := by decide +kernel
theorem dX3_calmest_46 : decode cX3_calmest 46 = .ok (.istore_n 1, 1) := by decide +kernel
theorem dX3_calmest_47 : decode cX3_calmest 47 = .ok (.iload 4, 2) := by decide +kernel
theorem dX3_calmest_49 : decode cX3_calmest 49 = .ok (.istore_n 2, 1) := by decide +kernel
theorem dX3_calmest_50 : decode cX3_calmest 50 = .ok (.iinc 3 1, 3) := by decide +kernel
theorem dX3_calmest_53 : decode cX3_calmest 53 = .ok (.goto (-42), 3) := by decide +kernel
theorem dX3_calmest_56 : decode cX3_calmest 56 = .ok (.iload_n 1, 1) := by decide +kernel
theorem dX3_calmest_57 : decode cX3_calmest 57 = .ok (.ireturn, 1) := by decide +kernel
set_option maxRecDepth 20000 in
theorem ggX3_waiting_X3_isPart : GoodIn wsX3_waiting wsX3_isPart := goodIn_r _ [11, 12, 13, 10, 14] (by decide +kernel) (by decide +kernel)
set_option maxRecDepth 20000 in
theorem gX3_waiting_X3_isPart : GoodIn wsX3_waiting (va_wsS RX3 145 yX3_isPart wsX3_isPart) := goodIn_app (goodIn_of _ (by decide +kernel)) ggX3_waiting_X3_isPart
set_option maxRecDepth 20000 in
theorem ggX3_waiting_X3_findTwoStep : GoodIn wsX3_waiting wsX3_findTwoStep := goodIn_r _ [18, 2, 19, 20, 21, 10, 22, 23, 24, 25, 26, 27, 3, 4, 5, 6, 28, 29, 30, 31, 32, 33, 34, 35, 36, 37, 38, 39, 40, 41, 42, 43, 44, 45, 46, 47, 48, 49, 50, 51, 52, 53, 54, 55, 56, 57, 58, 59, 60, 61, 62, 63, 64, 65, 66, 67, 68, 69, 92, 93, 94, 95, 96, 97, 98, 99, 100, 101, 102, 103, 104, 105, 106, 107, 108, 109, 110, 111, 112] (by decide +kernel) (by decide +kernel)
set_option maxRecDepth 20000 in
theorem gX3_waiting_X3_findTwoStep : GoodIn wsX3_waiting (wsV RX3 142 RX3 yX3_findTwoStep wsX3_findTwoStep) := goodIn_app (goodIn_of _ (by decide +kernel)) ggX3_waiting_X3_findTwoStep
set_option maxRecDepth 20000 in
theorem ggX3_waiting_X3_fillBests : GoodIn wsX3_waiting wsX3_fillBests := goodIn_r _ [73, 3, 4, 5, 7, 74, 75, 76, 10, 77, 2, 41, 78, 79, 80, 81, 23, 40, 42, 43, 44, 45, 46, 47, 48, 49, 50, 51, 52, 53, 54, 55, 56, 57, 58, 59, 60, 61, 62, 63, 64, 65, 92, 93, 94, 95, 96, 97, 98, 99, 100, 101, 102, 103, 104, 105, 106, 107, 108, 109, 110, 111, 112] (by decide +kernel) (by decide +kernel)
set_option maxRecDepth 20000 in
theorem gX3_waiting_X3_fillBests : GoodIn wsX3_waiting (wsV RX3 160 RX3 yX3_fillBests wsX3_fillBests) := goodIn_app (goodIn_of _ (by decide +kernel)) ggX3_waiting_X3_fillBests
set_option maxRecDepth 20000 in
theorem ggX3_waiting_X3_costByOdds : GoodIn wsX3_waiting wsX3_costByOdds := goodIn_r _ [27, 3, 2, 4, 5, 6, 28, 29, 30, 31, 32, 33, 34, 35, 36, 37, 38, 10, 39, 40, 23, 41, 42, 43, 44, 45, 46, 47, 48, 49, 50, 51, 52, 53, 54, 55, 56, 57, 58, 59, 60, 61, 62, 63, 64, 65, 66, 67, 68, 69, 92, 93, 94, 95, 96, 97, 98, 99, 100, 101, 102, 103, 104, 105, 106, 107, 108, 109, 110, 111, 112] (by decide +kernel) (by decide +kernel)
set_option maxRecDepth 20000 in
theorem gX3_waiting_X3_costByOdds : GoodIn wsX3_waiting (wsV RX3 148 RX3 yX3_costByOdds wsX3_costByOdds) := goodIn_app (goodIn_of _ (by decide +kernel)) ggX3_waiting_X3_costByOdds
set_option maxRecDepth 20000 in
theorem ggX3_waiting_X0_countedOdds : GoodIn wsX3_waiting wsX0_countedOdds := goodIn_r _ [32, 33, 34, 35, 104, 105, 106, 107] (by decide +kernel) (by decide +kernel)
set_option maxRecDepth 20000 in
theorem gX3_waiting_X0_countedOdds : GoodIn wsX3_waiting (wsV RX3 151 RX0 yX0_countedOdds wsX0_countedOdds) := goodIn_app (goodIn_of _ (by decide +kernel)) ggX3_waiting_X0_countedOdds
set_option maxRecDepth 20000 in
theorem ggX3_waiting_X3_partOfFraction : GoodIn wsX3_waiting wsX3_partOfFraction := goodIn_r _ [84, 85, 86, 87, 88, 89, 90, 10, 91] (by decide +kernel) (by decide +kernel)
set_option maxRecDepth 20000 in
theorem gX3_waiting_X3_partOfFraction : GoodIn wsX3_waiting (va_wsS RX3 154 yX3_partOfFraction wsX3_partOfFraction) := goodIn_app (goodIn_of _ (by decide +kernel)) ggX3_waiting_X3_partOfFraction
theorem dX3_waiting_0 : decode cX3_waiting 0 = .ok (.iload_n 1, 1) := by decide +kernel
theorem dX3_waiting_1 : decode cX3_waiting 1 = .ok (.invokestatic 145, 3) := by decide +kernel
theorem dX3_waiting_4 : decode cX3_waiting 4 = .ok (.ifCond .ne 6, 3) := by decide +kernel
theorem dX3_waiting_7 : decode cX3_waiting 7 = .ok (.ldc 54, 2) := by decide +kernel
theorem dX3_waiting_9 : decode cX3_waiting 9 = .ok (.ireturn, 1) := by decide +kernel
theorem dX3_waiting_10 : decode cX3_waiting 10 = .ok (.aload_n 0, 1) := by decide +kernel
theorem dX3_waiting_11 : decode cX3_waiting 11 = .ok (.invokevirtual 142, 3) := by decide +kernel
theorem dX3_waiting_14 : decode cX3_waiting 14 = .ok (.istore_n 2, 1) := by decide +kernel
theorem dX3_waiting_15 : decode cX3_waiting 15 = .ok (.iload_n 2, 1) := by decide +kernel
theorem dX3_waiting_16 : decode cX3_waiting 16 = .ok (.ldc 132, 2) := by decide +kernel
theorem dX3_waiting_18 : decode cX3_waiting 18 = .ok (.if_icmp .ne 6, 3) := by decide +kernel
theorem dX3_waiting_21 : decode cX3_waiting 21 = .ok (.ldc 132, 2) := by decide +kernel
theorem dX3_waiting_23 : decode cX3_waiting 23 = .ok (.ireturn, 1) := by decide +kernel
theorem dX3_waiting_24 : decode cX3_waiting 24 = .ok (.aload_n 0, 1) := by decide +kernel
theorem dX3_waiting_25 : decode cX3_waiting 25 = .ok (.invokevirtual 160, 3) := by decide +kernel
theorem dX3_waiting_28 : decode cX3_waiting 28 = .ok (.aload_n 0, 1) := by decide +kernel
theorem dX3_waiting_29 : decode cX3_waiting 29 = .ok (.iload_n 2, 1) := by decide +kernel
theorem dX3_waiting_30 : decode cX3_waiting 30 = .ok (.invokevirtual 148, 3) := by decide +kernel
theorem dX3_waiting_33 : decode cX3_waiting 33 = .ok (.istore_n 3, 1) := by decide +kernel
theorem dX3_waiting_34 : decode cX3_waiting 34 = .ok (.iconst 0, 1) := by decide +kernel
theorem dX3_waiting_35 : decode cX3_waiting 35 = .ok (.istore 4, 2) := by decide +kernel
theorem dX3_waiting_37 : decode cX3_waiting 37 = .ok (.iload 4, 2) := by decide +kernel
theorem dX3_waiting_39 : decode cX3_waiting 39 = .ok (.aload_n 0, 1) := by decide +kernel
theorem dX3_waiting_40 : decode cX3_waiting 40 = .ok (.getfield 26, 3) := by decide +kernel
theorem dX3_waiting_43 : decode cX3_waiting 43 = .ok (.getfield 87, 3) := by decide +kernel
theorem dX3_waiting_46 : decode cX3_waiting 46 = .ok (.if_icmp .ge 43, 3) := by decide +kernel
theorem dX3_waiting_49 : decode cX3_waiting 49 = .ok (.aload_n 0, 1) := by decide +kernel
theorem dX3_waiting_50 : decode cX3_waiting 50 = .ok (.getfield 26, 3) := by decide +kernel
theorem dX3_waiting_53 : decode cX3_waiting 53 = .ok (.getfield 169, 3) := by decide +kernel
theorem dX3_waiting_56 : decode cX3_waiting 56 = .ok (.iload 4, 2) := by decide +kernel
theorem dX3_waiting_58 : decode cX3_waiting 58 = .ok (.baload, 1) := by decide +kernel
theorem dX3_waiting_59 : decode cX3_waiting 59 = .ok (.ifCond .ne 24, 3) := by decide +kernel
theorem dX3_waiting_62 : decode cX3_waiting 62 = .ok (.iload_n 3, 1) := by decide +kernel
theorem dX3_waiting_63 : decode cX3_waiting 63 = .ok (.aload_n 0, 1) := by decide +kernel
theorem dX3_waiting_64 : decode cX3_waiting 64 = .ok (.getfield 26, 3) := by decide +kernel
theorem dX3_waiting_67 : decode cX3_waiting 67 = .ok (.getfield 173, 3) := by decide +kernel
theorem dX3_waiting_70 : decode cX3_waiting 70 = .ok (.iload 4, 2) := by decide +kernel
theorem dX3_waiting_72 : decode cX3_waiting 72 = .ok (.iaload, 1) := by decide +kernel
theorem dX3_waiting_73 : decode cX3_waiting 73 = .ok (.aload_n 0, 1) := by decide +kernel
theorem dX3_waiting_74 : decode cX3_waiting 74 = .ok (.getfield 34, 3) := by decide +kernel
theorem dX3_waiting_77 : decode cX3_waiting 77 = .ok (.iload 4, 2) := by decide +kernel
theorem dX3_waiting_79 : decode cX3_waiting 79 = .ok (.iaload, 1) := by decide +kernel
theorem dX3_waiting_80 : decode cX3_waiting 80 = .ok (.imul, 1) := by decide +kernel
theorem dX3_waiting_81 : decode cX3_waiting 81 = .ok (.isub, 1) := by decide +kernel
theorem dX3_waiting_82 : decode cX3_waiting 82 = .ok (.istore_n 3, 1) := by decide +kernel
theorem dX3_waiting_83 : decode cX3_waiting 83 = .ok (.iinc 4 1, 3) := by decide +kernel
theorem dX3_waiting_86 : decode cX3_waiting 86 = .ok (.goto (-49), 3) := by decide +kernel
theorem dX3_waiting_89 : decode cX3_waiting 89 = .ok (.iload_n 3, 1) := by decide +kernel
theorem dX3_waiting_90 : decode cX3_waiting 90 = .ok (.aload_n 0, 1) := by decide +kernel
theorem dX3_waiting_91 : decode cX3_waiting 91 = .ok (.getfield 26, 3) := by decide +kernel
theorem dX3_waiting_94 : decode cX3_waiting 94 = .ok (.invokevirtual 151, 3) := by decide +kernel
theorem dX3_waiting_97 : decode cX3_waiting 97 = .ok (.iload_n 1, 1) := by decide +kernel
theorem dX3_waiting_98 : decode cX3_waiting 98 = .ok (.invokestatic 154, 3) := by decide +kernel
theorem dX3_waiting_101 : decode cX3_waiting 101 = .ok (.ireturn, 1) := by decide +kernel
set_option maxRecDepth 20000 in
theorem ggX3_chance_X3_isPlan : GoodIn wsX3_chance wsX3_isPlan := goodIn_r _ [11, 12, 13, 14, 10, 15, 16, 17, 18, 19, 20, 67, 68, 69, 70, 71, 72, 73, 74, 75, 76, 77, 78] (by decide +kernel) (by decide +kernel)
set_option maxRecDepth 20000 in
theorem gX3_chance_X3_isPlan : GoodIn wsX3_chance (wsV RX3 111 RX3 yX3_isPlan wsX3_isPlan) := goodIn_app (goodIn_of _ (by decide +kernel)) ggX3_chance_X3_isPlan
set_option maxRecDepth 20000 in
theorem ggX3_chance_X3_isPart : GoodIn wsX3_chance wsX3_isPart := goodIn_r _ [23, 18, 19, 10, 20] (by decide +kernel) (by decide +kernel)
set_option maxRecDepth 20000 in
theorem gX3_chance_X3_isPart : GoodIn wsX3_chance (va_wsS RX3 145 yX3_isPart wsX3_isPart) := goodIn_app (goodIn_of _ (by decide +kernel)) ggX3_chance_X3_isPart
set_option maxRecDepth 20000 in
theorem ggX3_chance_X0_countedOdds : GoodIn wsX3_chance wsX0_countedOdds := goodIn_r _ [28, 29, 30, 31, 79, 80, 81, 82] (by decide +kernel) (by decide +kernel)
set_option maxRecDepth 20000 in
theorem gX3_chance_X0_countedOdds : GoodIn wsX3_chance (wsV RX3 151 RX0 yX0_countedOdds wsX0_countedOdds) := goodIn_app (goodIn_of _ (by decide +kernel)) ggX3_chance_X0_countedOdds
set_option maxRecDepth 20000 in
theorem ggX3_chance_X3_allHold : GoodIn wsX3_chance wsX3_allHold := goodIn_r _ [35, 36, 2, 37, 38, 39, 40, 41, 42, 43, 44, 45, 46, 47, 48, 49, 50, 51, 52, 53, 54, 10, 55, 56, 67, 68, 69, 70, 71, 72, 73, 74, 75, 76, 77, 78, 79, 80, 81, 82, 83, 84, 85, 86, 87] (by decide +kernel) (by decide +kernel)
set_option maxRecDepth 20000 in
theorem gX3_chance_X3_allHold : GoodIn wsX3_chance (wsV RX3 176 RX3 yX3_allHold wsX3_allHold) := goodIn_app (goodIn_of _ (by decide +kernel)) ggX3_chance_X3_allHold
set_option maxRecDepth 20000 in
theorem ggX3_chance_X3_partOfFraction : GoodIn wsX3_chance wsX3_partOfFraction := goodIn_r _ [59, 60, 61, 62, 63, 64, 65, 10, 66] (by decide +kernel) (by decide +kernel)
set_option maxRecDepth 20000 in
theorem gX3_chance_X3_partOfFraction : GoodIn wsX3_chance (va_wsS RX3 154 yX3_partOfFraction wsX3_partOfFraction) := goodIn_app (goodIn_of _ (by decide +kernel)) ggX3_chance_X3_partOfFraction
theorem dX3_chance_0 : decode cX3_chance 0 = .ok (.aload_n 0, 1) := by decide +kernel
theorem dX3_chance_1 : decode cX3_chance 1 = .ok (.iload_n 1, 1) := by decide +kernel
theorem dX3_chance_2 : decode cX3_chance 2 = .ok (.invokevirtual 111, 3) := by decide +kernel
theorem dX3_chance_5 : decode cX3_chance 5 = .ok (.ifCond .eq 10, 3) := by decide +kernel
theorem dX3_chance_8 : decode cX3_chance 8 = .ok (.iload_n 2, 1) := by decide +kernel
theorem dX3_chance_9 : decode cX3_chance 9 = .ok (.invokestatic 145, 3) := by decide +kernel
theorem dX3_chance_12 : decode cX3_chance 12 = .ok (.ifCond .ne 6, 3) := by decide +kernel
theorem dX3_chance_15 : decode cX3_chance 15 = .ok (.ldc 54, 2) := by decide +kernel
theorem dX3_chance_17 : decode cX3_chance 17 = .ok (.ireturn, 1) := by decide +kernel
theorem dX3_chance_18 : decode cX3_chance 18 = .ok (.aload_n 0, 1) := by decide +kernel
