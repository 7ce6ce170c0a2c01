theorem dX4_init_0 : decode cX4_init 0 = .ok (.aload_n 0, 1) := by decide +kernel
theorem dX4_init_1 : decode cX4_init 1 = .ok (.invokespecial 1, 3) := by decide +kernel
theorem dX4_init_4 : decode cX4_init 4 = .ok (.aload_n 0, 1) := by decide +kernel
theorem dX4_init_5 : decode cX4_init 5 = .ok (.iconst 1, 1) := by decide +kernel
theorem dX4_init_6 : decode cX4_init 6 = .ok (.putfield 7, 3) := by decide +kernel
theorem dX4_init_9 : decode cX4_init 9 = .ok (.aload_n 0, 1) := by decide +kernel
theorem dX4_init_10 : decode cX4_init 10 = .ok (.bipush 12, 2) := by decide +kernel
theorem dX4_init_12 : decode cX4_init 12 = .ok (.newarray .int, 2) := by decide +kernel
theorem dX4_init_14 : decode cX4_init 14 = .ok (.putfield 13, 3) := by decide +kernel
theorem dX4_init_17 : decode cX4_init 17 = .ok (.aload_n 0, 1) := by decide +kernel
theorem dX4_init_18 : decode cX4_init 18 = .ok (.bipush 12, 2) := by decide +kernel
theorem dX4_init_20 : decode cX4_init 20 = .ok (.newarray .int, 2) := by decide +kernel
theorem dX4_init_22 : decode cX4_init 22 = .ok (.putfield 17, 3) := by decide +kernel
theorem dX4_init_25 : decode cX4_init 25 = .ok (.aload_n 0, 1) := by decide +kernel
theorem dX4_init_26 : decode cX4_init 26 = .ok (.bipush 12, 2) := by decide +kernel
theorem dX4_init_28 : decode cX4_init 28 = .ok (.newarray .int, 2) := by decide +kernel
theorem dX4_init_30 : decode cX4_init 30 = .ok (.putfield 20, 3) := by decide +kernel
theorem dX4_init_33 : decode cX4_init 33 = .ok (.aload_n 0, 1) := by decide +kernel
theorem dX4_init_34 : decode cX4_init 34 = .ok (.bipush 40, 2) := by decide +kernel
theorem dX4_init_36 : decode cX4_init 36 = .ok (.newarray .int, 2) := by decide +kernel
theorem dX4_init_38 : decode cX4_init 38 = .ok (.putfield 23, 3) := by decide +kernel
theorem dX4_init_41 : decode cX4_init 41 = .ok (.aload_n 0, 1) := by decide +kernel
theorem dX4_init_42 : decode cX4_init 42 = .ok (.bipush 40, 2) := by decide +kernel
theorem dX4_init_44 : decode cX4_init 44 = .ok (.newarray .int, 2) := by decide +kernel
theorem dX4_init_46 : decode cX4_init 46 = .ok (.putfield 26, 3) := by decide +kernel
theorem dX4_init_49 : decode cX4_init 49 = .ok (.aload_n 0, 1) := by decide +kernel
theorem dX4_init_50 : decode cX4_init 50 = .ok (.bipush 40, 2) := by decide +kernel
theorem dX4_init_52 : decode cX4_init 52 = .ok (.newarray .int, 2) := by decide +kernel
theorem dX4_init_54 : decode cX4_init 54 = .ok (.putfield 29, 3) := by decide +kernel
theorem dX4_init_57 : decode cX4_init 57 = .ok (.aload_n 0, 1) := by decide +kernel
theorem dX4_init_58 : decode cX4_init 58 = .ok (.bipush 40, 2) := by decide +kernel
theorem dX4_init_60 : decode cX4_init 60 = .ok (.newarray .int, 2) := by decide +kernel
theorem dX4_init_62 : decode cX4_init 62 = .ok (.putfield 32, 3) := by decide +kernel
theorem dX4_init_65 : decode cX4_init 65 = .ok (.aload_n 0, 1) := by decide +kernel
theorem dX4_init_66 : decode cX4_init 66 = .ok (.bipush 8, 2) := by decide +kernel
theorem dX4_init_68 : decode cX4_init 68 = .ok (.newarray .int, 2) := by decide +kernel
theorem dX4_init_70 : decode cX4_init 70 = .ok (.putfield 35, 3) := by decide +kernel
theorem dX4_init_73 : decode cX4_init 73 = .ok (.aload_n 0, 1) := by decide +kernel
theorem dX4_init_74 : decode cX4_init 74 = .ok (.bipush 8, 2) := by decide +kernel
theorem dX4_init_76 : decode cX4_init 76 = .ok (.newarray .boolean, 2) := by decide +kernel
theorem dX4_init_78 : decode cX4_init 78 = .ok (.putfield 38, 3) := by decide +kernel
theorem dX4_init_81 : decode cX4_init 81 = .ok (.aload_n 0, 1) := by decide +kernel
theorem dX4_init_82 : decode cX4_init 82 = .ok (.bipush 96, 2) := by decide +kernel
theorem dX4_init_84 : decode cX4_init 84 = .ok (.newarray .int, 2) := by decide +kernel
theorem dX4_init_86 : decode cX4_init 86 = .ok (.putfield 42, 3) := by decide +kernel
theorem dX4_init_89 : decode cX4_init 89 = .ok (.aload_n 0, 1) := by decide +kernel
theorem dX4_init_90 : decode cX4_init 90 = .ok (.bipush 12, 2) := by decide +kernel
theorem dX4_init_92 : decode cX4_init 92 = .ok (.newarray .int, 2) := by decide +kernel
theorem dX4_init_94 : decode cX4_init 94 = .ok (.putfield 45, 3) := by decide +kernel
theorem dX4_init_97 : decode cX4_init 97 = .ok (.aload_n 0, 1) := by decide +kernel
theorem dX4_init_98 : decode cX4_init 98 = .ok (.bipush 12, 2) := by decide +kernel
theorem dX4_init_100 : decode cX4_init 100 = .ok (.newarray .int, 2) := by decide +kernel
theorem dX4_init_102 : decode cX4_init 102 = .ok (.putfield 48, 3) := by decide +kernel
theorem dX4_init_105 : decode cX4_init 105 = .ok (.aload_n 0, 1) := by decide +kernel
theorem dX4_init_106 : decode cX4_init 106 = .ok (.bipush 8, 2) := by decide +kernel
theorem dX4_init_108 : decode cX4_init 108 = .ok (.newarray .int, 2) := by decide +kernel
theorem dX4_init_110 : decode cX4_init 110 = .ok (.putfield 51, 3) := by decide +kernel
theorem dX4_init_113 : decode cX4_init 113 = .ok (.return_, 1) := by decide +kernel
theorem dX4_in_0 : decode cX4_in 0 = .ok (.iload_n 0, 1) := by decide +kernel
theorem dX4_in_1 : decode cX4_in 1 = .ok (.iload_n 1, 1) := by decide +kernel
theorem dX4_in_2 : decode cX4_in 2 = .ok (.if_icmp .lt 12, 3) := by decide +kernel
theorem dX4_in_5 : decode cX4_in 5 = .ok (.iload_n 0, 1) := by decide +kernel
theorem dX4_in_6 : decode cX4_in 6 = .ok (.iload_n 2, 1) := by decide +kernel
theorem dX4_in_7 : decode cX4_in 7 = .ok (.if_icmp .gt 7, 3) := by decide +kernel
theorem dX4_in_10 : decode cX4_in 10 = .ok (.iconst 1, 1) := by decide +kernel
theorem dX4_in_11 : decode cX4_in 11 = .ok (.goto 4, 3) := by decide +kernel
theorem dX4_in_14 : decode cX4_in 14 = .ok (.iconst 0, 1) := by decide +kernel
theorem dX4_in_15 : decode cX4_in 15 = .ok (.ireturn, 1) := by decide +kernel
set_option maxRecDepth 20000 in
theorem ggX4_begin_X4_in : GoodIn wsX4_begin wsX4_in := goodIn_r _ [12] (by decide +kernel) (by decide +kernel)
set_option maxRecDepth 20000 in
theorem gX4_begin_X4_in : GoodIn wsX4_begin (va_wsS RX4 54 yX4_in wsX4_in) := goodIn_app (goodIn_of _ (by decide +kernel)) ggX4_begin_X4_in
theorem dX4_begin_0 : decode cX4_begin 0 = .ok (.iload_n 1, 1) := by decide +kernel
theorem dX4_begin_1 : decode cX4_begin 1 = .ok (.iconst 1, 1) := by decide +kernel
theorem dX4_begin_2 : decode cX4_begin 2 = .ok (.bipush 6, 2) := by decide +kernel
theorem dX4_begin_4 : decode cX4_begin 4 = .ok (.invokestatic 54, 3) := by decide +kernel
theorem dX4_begin_7 : decode cX4_begin 7 = .ok (.ifCond .eq 12, 3) := by decide +kernel
theorem dX4_begin_10 : decode cX4_begin 10 = .ok (.iload_n 2, 1) := by decide +kernel
theorem dX4_begin_11 : decode cX4_begin 11 = .ok (.iconst 0, 1) := by decide +kernel
theorem dX4_begin_12 : decode cX4_begin 12 = .ok (.iconst 4, 1) := by decide +kernel
theorem dX4_begin_13 : decode cX4_begin 13 = .ok (.invokestatic 54, 3) := by decide +kernel
theorem dX4_begin_16 : decode cX4_begin 16 = .ok (.ifCond .ne 6, 3) := by decide +kernel
theorem dX4_begin_19 : decode cX4_begin 19 = .ok (.ldc 58, 2) := by decide +kernel
theorem dX4_begin_21 : decode cX4_begin 21 = .ok (.ireturn, 1) := by decide +kernel
theorem dX4_begin_22 : decode cX4_begin 22 = .ok (.aload_n 0, 1) := by decide +kernel
theorem dX4_begin_23 : decode cX4_begin 23 = .ok (.getfield 59, 3) := by decide +kernel
theorem dX4_begin_26 : decode cX4_begin 26 = .ok (.istore_n 3, 1) := by decide +kernel
theorem dX4_begin_27 : decode cX4_begin 27 = .ok (.aload_n 0, 1) := by decide +kernel
theorem dX4_begin_28 : decode cX4_begin 28 = .ok (.iload_n 1, 1) := by decide +kernel
theorem dX4_begin_29 : decode cX4_begin 29 = .ok (.putfield 7, 3) := by decide +kernel
theorem dX4_begin_32 : decode cX4_begin 32 = .ok (.aload_n 0, 1) := by decide +kernel
theorem dX4_begin_33 : decode cX4_begin 33 = .ok (.iload_n 2, 1) := by decide +kernel
theorem dX4_begin_34 : decode cX4_begin 34 = .ok (.putfield 62, 3) := by decide +kernel
theorem dX4_begin_37 : decode cX4_begin 37 = .ok (.aload_n 0, 1) := by decide +kernel
theorem dX4_begin_38 : decode cX4_begin 38 = .ok (.iconst 0, 1) := by decide +kernel
theorem dX4_begin_39 : decode cX4_begin 39 = .ok (.putfield 65, 3) := by decide +kernel
theorem dX4_begin_42 : decode cX4_begin 42 = .ok (.aload_n 0, 1) := by decide +kernel
theorem dX4_begin_43 : decode cX4_begin 43 = .ok (.iconst 0, 1) := by decide +kernel
theorem dX4_begin_44 : decode cX4_begin 44 = .ok (.putfield 68, 3) := by decide +kernel
theorem dX4_begin_47 : decode cX4_begin 47 = .ok (.aload_n 0, 1) := by decide +kernel
theorem dX4_begin_48 : decode cX4_begin 48 = .ok (.iconst 0, 1) := by decide +kernel
theorem dX4_begin_49 : decode cX4_begin 49 = .ok (.putfield 71, 3) := by decide +kernel
theorem dX4_begin_52 : decode cX4_begin 52 = .ok (.aload_n 0, 1) := by decide +kernel
theorem dX4_begin_53 : decode cX4_begin 53 = .ok (.iconst 0, 1) := by decide +kernel
theorem dX4_begin_54 : decode cX4_begin 54 = .ok (.putfield 59, 3) := by decide +kernel
theorem dX4_begin_57 : decode cX4_begin 57 = .ok (.aload_n 0, 1) := by decide +kernel
theorem dX4_begin_58 : decode cX4_begin 58 = .ok (.iconst 0, 1) := by decide +kernel
theorem dX4_begin_59 : decode cX4_begin 59 = .ok (.putfield 74, 3) := by decide +kernel
theorem dX4_begin_62 : decode cX4_begin 62 = .ok (.iload_n 3, 1) := by decide +kernel
theorem dX4_begin_63 : decode cX4_begin 63 = .ok (.ireturn, 1) := by decide +kernel
theorem dX4_name_0 : decode cX4_name 0 = .ok (.iload_n 1, 1) := by decide +kernel
theorem dX4_name_1 : decode cX4_name 1 = .ok (.bipush (-100), 2) := by decide +kernel
theorem dX4_name_3 : decode cX4_name 3 = .ok (.if_icmp .lt 19, 3) := by decide +kernel
theorem dX4_name_6 : decode cX4_name 6 = .ok (.iload_n 3, 1) := by decide +kernel
theorem dX4_name_7 : decode cX4_name 7 = .ok (.bipush 100, 2) := by decide +kernel
theorem dX4_name_9 : decode cX4_name 9 = .ok (.if_icmp .gt 13, 3) := by decide +kernel
theorem dX4_name_12 : decode cX4_name 12 = .ok (.iload_n 1, 1) := by decide +kernel
theorem dX4_name_13 : decode cX4_name 13 = .ok (.iload_n 2, 1) := by decide +kernel
theorem dX4_name_14 : decode cX4_name 14 = .ok (.if_icmp .gt 8, 3) := by decide +kernel
theorem dX4_name_17 : decode cX4_name 17 = .ok (.iload_n 2, 1) := by decide +kernel
theorem dX4_name_18 : decode cX4_name 18 = .ok (.iload_n 3, 1) := by decide +kernel
theorem dX4_name_19 : decode cX4_name 19 = .ok (.if_icmp .le 6, 3) := by decide +kernel
theorem dX4_name_22 : decode cX4_name 22 = .ok (.ldc 58, 2) := by decide +kernel
theorem dX4_name_24 : decode cX4_name 24 = .ok (.ireturn, 1) := by decide +kernel
theorem dX4_name_25 : decode cX4_name 25 = .ok (.aload_n 0, 1) := by decide +kernel
theorem dX4_name_26 : decode cX4_name 26 = .ok (.getfield 65, 3) := by decide +kernel
theorem dX4_name_29 : decode cX4_name 29 = .ok (.bipush 12, 2) := by decide +kernel
theorem dX4_name_31 : decode cX4_name 31 = .ok (.if_icmp .ne 6, 3) := by decide +kernel
theorem dX4_name_34 : decode cX4_name 34 = .ok (.ldc 77, 2) := by decide +kernel
theorem dX4_name_36 : decode cX4_name 36 = .ok (.ireturn, 1) := by decide +kernel
theorem dX4_name_37 : decode cX4_name 37 = .ok (.aload_n 0, 1) := by decide +kernel
theorem dX4_name_38 : decode cX4_name 38 = .ok (.getfield 13, 3) := by decide +kernel
theorem dX4_name_41 : decode cX4_name 41 = .ok (.aload_n 0, 1) := by decide +kernel
theorem dX4_name_42 : decode cX4_name 42 = .ok (.getfield 65, 3) := by decide +kernel
theorem dX4_name_45 : decode cX4_name 45 = .ok (.iload_n 1, 1) := by decide +kernel
theorem dX4_name_46 : decode cX4_name 46 = .ok (.iastore, 1) := by decide +kernel
theorem dX4_name_47 : decode cX4_name 47 = .ok (.aload_n 0, 1) := by decide +kernel
theorem dX4_name_48 : decode cX4_name 48 = .ok (.getfield 17, 3) := by decide +kernel
theorem dX4_name_51 : decode cX4_name 51 = .ok (.aload_n 0, 1) := by decide +kernel
theorem dX4_name_52 : decode cX4_name 52 = .ok (.getfield 65, 3) := by decide +kernel
theorem dX4_name_55 : decode cX4_name 55 = .ok (.iload_n 2, 1) := by decide +kernel
theorem dX4_name_56 : decode cX4_name 56 = .ok (.iastore, 1) := by decide +kernel
theorem dX4_name_57 : decode cX4_name 57 = .ok (.aload_n 0, 1) := by decide +kernel
theorem dX4_name_58 : decode cX4_name 58 = .ok (.getfield 20, 3) := by decide +kernel
theorem dX4_name_61 : decode cX4_name 61 = .ok (.aload_n 0, 1) := by decide +kernel
theorem dX4_name_62 : decode cX4_name 62 = .ok (.getfield 65, 3) := by decide +kernel
theorem dX4_name_65 : decode cX4_name 65 = .ok (.iload_n 3, 1) := by decide +kernel
theorem dX4_name_66 : decode cX4_name 66 = .ok (.iastore, 1) := by decide +kernel
theorem dX4_name_67 : decode cX4_name 67 = .ok (.iconst 0, 1) := by decide +kernel
theorem dX4_name_68 : decode cX4_name 68 = .ok (.istore 4, 2) := by decide +kernel
theorem dX4_name_70 : decode cX4_name 70 = .ok (.iload 4, 2) := by decide +kernel
theorem dX4_name_72 : decode cX4_name 72 = .ok (.bipush 8, 2) := by decide +kernel
theorem dX4_name_74 : decode cX4_name 74 = .ok (.if_icmp .ge 25, 3) := by decide +kernel
theorem dX4_name_77 : decode cX4_name 77 = .ok (.aload_n 0, 1) := by decide +kernel
theorem dX4_name_78 : decode cX4_name 78 = .ok (.getfield 42, 3) := by decide +kernel
theorem dX4_name_81 : decode cX4_name 81 = .ok (.bipush 12, 2) := by decide +kernel
theorem dX4_name_83 : decode cX4_name 83 = .ok (.iload 4, 2) := by decide +kernel
theorem dX4_name_85 : decode cX4_name 85 = .ok (.imul, 1) := by decide +kernel
theorem dX4_name_86 : decode cX4_name 86 = .ok (.aload_n 0, 1) := by decide +kernel
theorem dX4_name_87 : decode cX4_name 87 = .ok (.getfield 65, 3) := by decide +kernel
theorem dX4_name_90 : decode cX4_name 90 = .ok (.iadd, 1) := by decide +kernel
theorem dX4_name_91 : decode cX4_name 91 = .ok (.iload_n 2, 1) := by decide +kernel
theorem dX4_name_92 : decode cX4_name 92 = .ok (.iastore, 1) := by decide +kernel
theorem dX4_name_93 : decode cX4_name 93 = .ok (.iinc 4 1, 3) := by decide +kernel
theorem dX4_name_96 : decode cX4_name 96 = .ok (.goto (-26), 3) := by decide +kernel
theorem dX4_name_99 : decode cX4_name 99 = .ok (.aload_n 0, 1) := by decide +kernel
theorem dX4_name_100 : decode cX4_name 100 = .ok (.dup, 1) := by decide +kernel
theorem dX4_name_101 : decode cX4_name 101 = .ok (.getfield 65, 3) := by decide +kernel
theorem dX4_name_104 : decode cX4_name 104 = .ok (.iconst 1, 1) := by decide +kernel
theorem dX4_name_105 : decode cX4_name 105 = .ok (.iadd, 1) := by decide +kernel
theorem dX4_name_106 : decode cX4_name 106 = .ok (.putfield 65, 3) := by decide +kernel
theorem dX4_name_109 : decode cX4_name 109 = .ok (.aload_n 0, 1) := by decide +kernel
theorem dX4_name_110 : decode cX4_name 110 = .ok (.getfield 65, 3) := by decide +kernel
theorem dX4_name_113 : decode cX4_name 113 = .ok (.iconst 1, 1) := by decide +kernel
theorem dX4_name_114 : decode cX4_name 114 = .ok (.isub, 1) := by decide +kernel
theorem dX4_name_115 : decode cX4_name 115 = .ok (.ireturn, 1) := by decide +kernel
set_option maxRecDepth 20000 in
theorem ggX4_budget_X4_in : GoodIn wsX4_budget wsX4_in := goodIn_r _ [6] (by decide +kernel) (by decide +kernel)
set_option maxRecDepth 20000 in
theorem gX4_budget_X4_in : GoodIn wsX4_budget (va_wsS RX4 54 yX4_in wsX4_in) := goodIn_app (goodIn_of _ (by decide +kernel)) ggX4_budget_X4_in
theorem dX4_budget_0 : decode cX4_budget 0 = .ok (.iload_n 1, 1) := by decide +kernel
theorem dX4_budget_1 : decode cX4_budget 1 = .ok (.iconst 0, 1) := by decide +kernel
theorem dX4_budget_2 : decode cX4_budget 2 = .ok (.bipush 12, 2) := by decide +kernel
theorem dX4_budget_4 : decode cX4_budget 4 = .ok (.invokestatic 54, 3) := by decide +kernel
theorem dX4_budget_7 : decode cX4_budget 7 = .ok (.ifCond .ne 6, 3) := by decide +kernel
theorem dX4_budget_10 : decode cX4_budget 10 = .ok (.ldc 58, 2) := by decide +kernel
theorem dX4_budget_12 : decode cX4_budget 12 = .ok (.ireturn, 1) := by decide +kernel
theorem dX4_budget_13 : decode cX4_budget 13 = .ok (.aload_n 0, 1) := by decide +kernel
theorem dX4_budget_14 : decode cX4_budget 14 = .ok (.getfield 68, 3) := by decide +kernel
theorem dX4_budget_17 : decode cX4_budget 17 = .ok (.istore_n 2, 1) := by decide +kernel
theorem dX4_budget_18 : decode cX4_budget 18 = .ok (.aload_n 0, 1) := by decide +kernel
theorem dX4_budget_19 : decode cX4_budget 19 = .ok (.iload_n 1, 1) := by decide +kernel
theorem dX4_budget_20 : decode cX4_budget 20 = .ok (.putfield 68, 3) := by decide +kernel
theorem dX4_budget_23 : decode cX4_budget 23 = .ok (.iload_n 2, 1) := by decide +kernel
theorem dX4_budget_24 : decode cX4_budget 24 = .ok (.ireturn, 1) := by decide +kernel
theorem dX4_row_0 : decode cX4_row 0 = .ok (.aload_n 0, 1) := by decide +kernel
theorem dX4_row_1 : decode cX4_row 1 = .ok (.getfield 71, 3) := by decide +kernel
theorem dX4_row_4 : decode cX4_row 4 = .ok (.bipush 10, 2) := by decide +kernel
theorem dX4_row_6 : decode cX4_row 6 = .ok (.if_icmp .ne 6, 3) := by decide +kernel
theorem dX4_row_9 : decode cX4_row 9 = .ok (.ldc 77, 2) := by decide +kernel
theorem dX4_row_11 : decode cX4_row 11 = .ok (.ireturn, 1) := by decide +kernel
theorem dX4_row_12 : decode cX4_row 12 = .ok (.aload_n 0, 1) := by decide +kernel
theorem dX4_row_13 : decode cX4_row 13 = .ok (.dup, 1) := by decide +kernel
theorem dX4_row_14 : decode cX4_row 14 = .ok (.getfield 71, 3) := by decide +kernel
theorem dX4_row_17 : decode cX4_row 17 = .ok (.iconst 1, 1) := by decide +kernel
theorem dX4_row_18 : decode cX4_row 18 = .ok (.iadd, 1) := by decide +kernel
theorem dX4_row_19 : decode cX4_row 19 = .ok (.putfield 71, 3) := by decide +kernel
theorem dX4_row_22 : decode cX4_row 22 = .ok (.aload_n 0, 1) := by decide +kernel
theorem dX4_row_23 : decode cX4_row 23 = .ok (.getfield 71, 3) := by decide +kernel
theorem dX4_row_26 : decode cX4_row 26 = .ok (.iconst 1, 1) := by decide +kernel
theorem dX4_row_27 : decode cX4_row 27 = .ok (.isub, 1) := by decide +kernel
theorem dX4_row_28 : decode cX4_row 28 = .ok (.ireturn, 1) := by decide +kernel
set_option maxRecDepth 20000 in
theorem ggX4_term_X4_in : GoodIn wsX4_term wsX4_in := goodIn_r _ [15] (by decide +kernel) (by decide +kernel)
set_option maxRecDepth 20000 in
theorem gX4_term_X4_in : GoodIn wsX4_term (va_wsS RX4 54 yX4_in wsX4_in) := goodIn_app (goodIn_of _ (by decide +kernel)) ggX4_term_X4_in
theorem dX4_term_0 : decode cX4_term 0 = .ok (.iload_n 1, 1) := by decide +kernel
theorem dX4_term_1 : decode cX4_term 1 = .ok (.iconst (-1), 1) := by decide +kernel
theorem dX4_term_2 : decode cX4_term 2 = .ok (.aload_n 0, 1) := by decide +kernel
theorem dX4_term_3 : decode cX4_term 3 = .ok (.getfield 71, 3) := by decide +kernel
theorem dX4_term_6 : decode cX4_term 6 = .ok (.iconst 1, 1) := by decide +kernel
theorem dX4_term_7 : decode cX4_term 7 = .ok (.isub, 1) := by decide +kernel
theorem dX4_term_8 : decode cX4_term 8 = .ok (.invokestatic 54, 3) := by decide +kernel
theorem dX4_term_11 : decode cX4_term 11 = .ok (.ifCond .eq 52, 3) := by decide +kernel
theorem dX4_term_14 : decode cX4_term 14 = .ok (.iload_n 2, 1) := by decide +kernel
theorem dX4_term_15 : decode cX4_term 15 = .ok (.iconst (-1), 1) := by decide +kernel
theorem dX4_term_16 : decode cX4_term 16 = .ok (.aload_n 0, 1) := by decide +kernel
theorem dX4_term_17 : decode cX4_term 17 = .ok (.getfield 7, 3) := by decide +kernel
theorem dX4_term_20 : decode cX4_term 20 = .ok (.aload_n 0, 1) := by decide +kernel
theorem dX4_term_21 : decode cX4_term 21 = .ok (.getfield 62, 3) := by decide +kernel
theorem dX4_term_24 : decode cX4_term 24 = .ok (.iadd, 1) := by decide +kernel
theorem dX4_term_25 : decode cX4_term 25 = .ok (.iconst 1, 1) := by decide +kernel
theorem dX4_term_26 : decode cX4_term 26 = .ok (.isub, 1) := by decide +kernel
theorem dX4_term_27 : decode cX4_term 27 = .ok (.invokestatic 54, 3) := by decide +kernel
theorem dX4_term_30 : decode cX4_term 30 = .ok (.ifCond .eq 33, 3) := by decide +kernel
theorem dX4_term_33 : decode cX4_term 33 = .ok (.iload_n 3, 1) := by decide +kernel
theorem dX4_term_34 : decode cX4_term 34 = .ok (.iconst (-1), 1) := by decide +kernel
theorem dX4_term_35 : decode cX4_term 35 = .ok (.aload_n 0, 1) := by decide +kernel
theorem dX4_term_36 : decode cX4_term 36 = .ok (.getfield 65, 3) := by decide +kernel
theorem dX4_term_39 : decode cX4_term 39 = .ok (.iconst 1, 1) := by decide +kernel
theorem dX4_term_40 : decode cX4_term 40 = .ok (.isub, 1) := by decide +kernel
theorem dX4_term_41 : decode cX4_term 41 = .ok (.invokestatic 54, 3) := by decide +kernel
theorem dX4_term_44 : decode cX4_term 44 = .ok (.ifCond .eq 19, 3) := by decide +kernel
theorem dX4_term_47 : decode cX4_term 47 = .ok (.iload 4, 2) := by decide +kernel
theorem dX4_term_49 : decode cX4_term 49 = .ok (.bipush (-20), 2) := by decide +kernel
theorem dX4_term_51 : decode cX4_term 51 = .ok (.bipush 20, 2) := by decide +kernel
theorem dX4_term_53 : decode cX4_term 53 = .ok (.invokestatic 54, 3) := by decide +kernel
theorem dX4_term_56 : decode cX4_term 56 = .ok (.ifCond .eq 7, 3) := by decide +kernel
theorem dX4_term_59 : decode cX4_term 59 = .ok (.iconst 1, 1) := by decide +kernel
theorem dX4_term_60 : decode cX4_term 60 = .ok (.goto 4, 3) := by decide +kernel
theorem dX4_term_63 : decode cX4_term 63 = .ok (.iconst 0, 1) := by decide +kernel
theorem dX4_term_64 : decode cX4_term 64 = .ok (.istore 5, 2) := by decide +kernel
theorem dX4_term_66 : decode cX4_term 66 = .ok (.iload 5, 2) := by decide +kernel
theorem dX4_term_68 : decode cX4_term 68 = .ok (.ifCond .ne 6, 3) := by decide +kernel
theorem dX4_term_71 : decode cX4_term 71 = .ok (.ldc 58, 2) := by decide +kernel
theorem dX4_term_73 : decode cX4_term 73 = .ok (.ireturn, 1) := by decide +kernel
theorem dX4_term_74 : decode cX4_term 74 = .ok (.aload_n 0, 1) := by decide +kernel
theorem dX4_term_75 : decode cX4_term 75 = .ok (.getfield 59, 3) := by decide +kernel
theorem dX4_term_78 : decode cX4_term 78 = .ok (.bipush 40, 2) := by decide +kernel
theorem dX4_term_80 : decode cX4_term 80 = .ok (.if_icmp .ne 6, 3) := by decide +kernel
theorem dX4_term_83 : decode cX4_term 83 = .ok (.ldc 77, 2) := by decide +kernel
theorem dX4_term_85 : decode cX4_term 85 = .ok (.ireturn, 1) := by decide +kernel
theorem dX4_term_86 : decode cX4_term 86 = .ok (.aload_n 0, 1) := by decide +kernel
theorem dX4_term_87 : decode cX4_term 87 = .ok (.getfield 23, 3) := by decide +kernel
theorem dX4_term_90 : decode cX4_term 90 = .ok (.aload_n 0, 1) := by decide +kernel
theorem dX4_term_91 : decode cX4_term 91 = .ok (.getfield 59, 3) := by decide +kernel
theorem dX4_term_94 : decode cX4_term 94 = .ok (.iload_n 1, 1) := by decide +kernel
theorem dX4_term_95 : decode cX4_term 95 = .ok (.iastore, 1) := by decide +kernel
theorem dX4_term_96 : decode cX4_term 96 = .ok (.aload_n 0, 1) := by decide +kernel
theorem dX4_term_97 : decode cX4_term 97 = .ok (.getfield 26, 3) := by decide +kernel
theorem dX4_term_100 : decode cX4_term 100 = .ok (.aload_n 0, 1) := by decide +kernel
theorem dX4_term_101 : decode cX4_term 101 = .ok (.getfield 59, 3) := by decide +kernel
theorem dX4_term_104 : decode cX4_term 104 = .ok (.iload_n 2, 1) := by decide +kernel
theorem dX4_term_105 : decode cX4_term 105 = .ok (.iastore, 1) := by decide +kernel
theorem dX4_term_106 : decode cX4_term 106 = .ok (.aload_n 0, 1) := by decide +kernel
theorem dX4_term_107 : decode cX4_term 107 = .ok (.getfield 29, 3) := by decide +kernel
theorem dX4_term_110 : decode cX4_term 110 = .ok (.aload_n 0, 1) := by decide +kernel
theorem dX4_term_111 : decode cX4_term 111 = .ok (.getfield 59, 3) := by decide +kernel
theorem dX4_term_114 : decode cX4_term 114 = .ok (.iload_n 3, 1) := by decide +kernel
theorem dX4_term_115 : decode cX4_term 115 = .ok (.iastore, 1) := by decide +kernel
theorem dX4_term_116 : decode cX4_term 116 = .ok (.aload_n 0, 1) := by decide +kernel
theorem dX4_term_117 : decode cX4_term 117 = .ok (.getfield 32, 3) := by decide +kernel
theorem dX4_term_120 : decode cX4_term 120 = .ok (.aload_n 0, 1) := by decide +kernel
theorem dX4_term_121 : decode cX4_term 121 = .ok (.getfield 59, 3) := by decide +kernel
theorem dX4_term_124 : decode cX4_term 124 = .ok (.iload 4, 2) := by decide +kernel
theorem dX4_term_126 : decode cX4_term 126 = .ok (.iastore, 1) := by decide +kernel
theorem dX4_term_127 : decode cX4_term 127 = .ok (.aload_n 0, 1) := by decide +kernel
theorem dX4_term_128 : decode cX4_term 128 = .ok (.dup, 1) := by decide +kernel
theorem dX4_term_129 : decode cX4_term 129 = .ok (.getfield 59, 3) := by decide +kernel
theorem dX4_term_132 : decode cX4_term 132 = .ok (.iconst 1, 1) := by decide +kernel
theorem dX4_term_133 : decode cX4_term 133 = .ok (.iadd, 1) := by decide +kernel
theorem dX4_term_134 : decode cX4_term 134 = .ok (.putfield 59, 3) := by decide +kernel
theorem dX4_term_137 : decode cX4_term 137 = .ok (.aload_n 0, 1) := by decide +kernel
theorem dX4_term_138 : decode cX4_term 138 = .ok (.getfield 59, 3) := by decide +kernel
theorem dX4_term_141 : decode cX4_term 141 = .ok (.ireturn, 1) := by decide +kernel
set_option maxRecDepth 20000 in
theorem ggX4_future_X4_in : GoodIn wsX4_future wsX4_in := goodIn_r _ [12] (by decide +kernel) (by decide +kernel)
set_option maxRecDepth 20000 in
theorem gX4_future_X4_in : GoodIn wsX4_future (va_wsS RX4 54 yX4_in wsX4_in) := goodIn_app (goodIn_of _ (by decide +kernel)) ggX4_future_X4_in
theorem dX4_future_0 : decode cX4_future 0 = .ok (.iload_n 1, 1) := by decide +kernel
theorem dX4_future_1 : decode cX4_future 1 = .ok (.iconst 1, 1) := by decide +kernel
theorem dX4_future_2 : decode cX4_future 2 = .ok (.bipush 100, 2) := by decide +kernel
theorem dX4_future_4 : decode cX4_future 4 = .ok (.invokestatic 54, 3) := by decide +kernel
theorem dX4_future_7 : decode cX4_future 7 = .ok (.ifCond .ne 6, 3) := by decide +kernel
theorem dX4_future_10 : decode cX4_future 10 = .ok (.ldc 58, 2) := by decide +kernel
theorem dX4_future_12 : decode cX4_future 12 = .ok (.ireturn, 1) := by decide +kernel
theorem dX4_future_13 : decode cX4_future 13 = .ok (.aload_n 0, 1) := by decide +kernel
theorem dX4_future_14 : decode cX4_future 14 = .ok (.getfield 74, 3) := by decide +kernel
theorem dX4_future_17 : decode cX4_future 17 = .ok (.bipush 8, 2) := by decide +kernel
theorem dX4_future_19 : decode cX4_future 19 = .ok (.if_icmp .ne 6, 3) := by decide +kernel
theorem dX4_future_22 : decode cX4_future 22 = .ok (.ldc 77, 2) := by decide +kernel
theorem dX4_future_24 : decode cX4_future 24 = .ok (.ireturn, 1) := by decide +kernel
theorem dX4_future_25 : decode cX4_future 25 = .ok (.aload_n 0, 1) := by decide +kernel
theorem dX4_future_26 : decode cX4_future 26 = .ok (.getfield 35, 3) := by decide +kernel
theorem dX4_future_29 : decode cX4_future 29 = .ok (.aload_n 0, 1) := by decide +kernel
theorem dX4_future_30 : decode cX4_future 30 = .ok (.getfield 74, 3) := by decide +kernel
theorem dX4_future_33 : decode cX4_future 33 = .ok (.iload_n 1, 1) := by decide +kernel
theorem dX4_future_34 : decode cX4_future 34 = .ok (.iastore, 1) := by decide +kernel
theorem dX4_future_35 : decode cX4_future 35 = .ok (.aload_n 0, 1) := by decide +kernel
theorem dX4_future_36 : decode cX4_future 36 = .ok (.getfield 38, 3) := by decide +kernel
theorem dX4_future_39 : decode cX4_future 39 = .ok (.aload_n 0, 1) := by decide +kernel
theorem dX4_future_40 : decode cX4_future 40 = .ok (.getfield 74, 3) := by decide +kernel
theorem dX4_future_43 : decode cX4_future 43 = .ok (.iload_n 2, 1) := by decide +kernel
theorem dX4_future_44 : decode cX4_future 44 = .ok (.bastore, 1) := by decide +kernel
theorem dX4_future_45 : decode cX4_future 45 = .ok (.iconst 0, 1) := by decide +kernel
theorem dX4_future_46 : decode cX4_future 46 = .ok (.istore_n 3, 1) := by decide +kernel
theorem dX4_future_47 : decode cX4_future 47 = .ok (.iload_n 3, 1) := by decide +kernel
theorem dX4_future_48 : decode cX4_future 48 = .ok (.aload_n 0, 1) := by decide +kernel
theorem dX4_future_49 : decode cX4_future 49 = .ok (.getfield 65, 3) := by decide +kernel
theorem dX4_future_52 : decode cX4_future 52 = .ok (.if_icmp .ge 29, 3) := by decide +kernel
theorem dX4_future_55 : decode cX4_future 55 = .ok (.aload_n 0, 1) := by decide +kernel
theorem dX4_future_56 : decode cX4_future 56 = .ok (.getfield 42, 3) := by decide +kernel
theorem dX4_future_59 : decode cX4_future 59 = .ok (.bipush 12, 2) := by decide +kernel
theorem dX4_future_61 : decode cX4_future 61 = .ok (.aload_n 0, 1) := by decide +kernel
theorem dX4_future_62 : decode cX4_future 62 = .ok (.getfield 74, 3) := by decide +kernel
theorem dX4_future_65 : decode cX4_future 65 = .ok (.imul, 1) := by decide +kernel
theorem dX4_future_66 : decode cX4_future 66 = .ok (.iload_n 3, 1) := by decide +kernel
theorem dX4_future_67 : decode cX4_future 67 = .ok (.iadd, 1) := by decide +kernel
theorem dX4_future_68 : decode cX4_future 68 = .ok (.aload_n 0, 1) := by decide +kernel
theorem dX4_future_69 : decode cX4_future 69 = .ok (.getfield 17, 3) := by decide +kernel
theorem dX4_future_72 : decode cX4_future 72 = .ok (.iload_n 3, 1) := by decide +kernel
theorem dX4_future_73 : decode cX4_future 73 = .ok (.iaload, 1) := by decide +kernel
theorem dX4_future_74 : decode cX4_future 74 = .ok (.iastore, 1) := by decide +kernel
theorem dX4_future_75 : decode cX4_future 75 = .ok (.iinc 3 1, 3) := by decide +kernel
theorem dX4_future_78 : decode cX4_future 78 = .ok (.goto (-31), 3) := by decide +kernel
theorem dX4_future_81 : decode cX4_future 81 = .ok (.aload_n 0, 1) := by decide +kernel
theorem dX4_future_82 : decode cX4_future 82 = .ok (.dup, 1) := by decide +kernel
theorem dX4_future_83 : decode cX4_future 83 = .ok (.getfield 74, 3) := by decide +kernel
theorem dX4_future_86 : decode cX4_future 86 = .ok (.iconst 1, 1) := by decide +kernel
theorem dX4_future_87 : decode cX4_future 87 = .ok (.iadd, 1) := by decide +kernel
theorem dX4_future_88 : decode cX4_future 88 = .ok (.putfield 74, 3) := by decide +kernel
theorem dX4_future_91 : decode cX4_future 91 = .ok (.aload_n 0, 1) := by decide +kernel
theorem dX4_future_92 : decode cX4_future 92 = .ok (.getfield 74, 3) := by decide +kernel
theorem dX4_future_95 : decode cX4_future 95 = .ok (.iconst 1, 1) := by decide +kernel
theorem dX4_future_96 : decode cX4_future 96 = .ok (.isub, 1) := by decide +kernel
theorem dX4_future_97 : decode cX4_future 97 = .ok (.ireturn, 1) := by decide +kernel
set_option maxRecDepth 20000 in
theorem ggX4_set_X4_in : GoodIn wsX4_set wsX4_in := goodIn_r _ [10] (by decide +kernel) (by decide +kernel)
set_option maxRecDepth 20000 in
theorem gX4_set_X4_in : GoodIn wsX4_set (va_wsS RX4 54 yX4_in wsX4_in) := goodIn_app (goodIn_of _ (by decide +kernel)) ggX4_set_X4_in
theorem dX4_set_0 : decode cX4_set 0 = .ok (.iload_n 1, 1) := by decide +kernel
theorem dX4_set_1 : decode cX4_set 1 = .ok (.iconst 0, 1) := by decide +kernel
theorem dX4_set_2 : decode cX4_set 2 = .ok (.aload_n 0, 1) := by decide +kernel
theorem dX4_set_3 : decode cX4_set 3 = .ok (.getfield 74, 3) := by decide +kernel
theorem dX4_set_6 : decode cX4_set 6 = .ok (.iconst 1, 1) := by decide +kernel
theorem dX4_set_7 : decode cX4_set 7 = .ok (.isub, 1) := by decide +kernel
theorem dX4_set_8 : decode cX4_set 8 = .ok (.invokestatic 54, 3) := by decide +kernel
theorem dX4_set_11 : decode cX4_set 11 = .ok (.ifCond .eq 36, 3) := by decide +kernel
theorem dX4_set_14 : decode cX4_set 14 = .ok (.iload_n 2, 1) := by decide +kernel
theorem dX4_set_15 : decode cX4_set 15 = .ok (.iconst 0, 1) := by decide +kernel
theorem dX4_set_16 : decode cX4_set 16 = .ok (.aload_n 0, 1) := by decide +kernel
theorem dX4_set_17 : decode cX4_set 17 = .ok (.getfield 65, 3) := by decide +kernel
theorem dX4_set_20 : decode cX4_set 20 = .ok (.iconst 1, 1) := by decide +kernel
theorem dX4_set_21 : decode cX4_set 21 = .ok (.isub, 1) := by decide +kernel
theorem dX4_set_22 : decode cX4_set 22 = .ok (.invokestatic 54, 3) := by decide +kernel
theorem dX4_set_25 : decode cX4_set 25 = .ok (.ifCond .eq 22, 3) := by decide +kernel
theorem dX4_set_28 : decode cX4_set 28 = .ok (.iload_n 3, 1) := by decide +kernel
theorem dX4_set_29 : decode cX4_set 29 = .ok (.aload_n 0, 1) := by decide +kernel
theorem dX4_set_30 : decode cX4_set 30 = .ok (.getfield 13, 3) := by decide +kernel
theorem dX4_set_33 : decode cX4_set 33 = .ok (.iload_n 2, 1) := by decide +kernel
theorem dX4_set_34 : decode cX4_set 34 = .ok (.iaload, 1) := by decide +kernel
theorem dX4_set_35 : decode cX4_set 35 = .ok (.aload_n 0, 1) := by decide +kernel
theorem dX4_set_36 : decode cX4_set 36 = .ok (.getfield 20, 3) := by decide +kernel
theorem dX4_set_39 : decode cX4_set 39 = .ok (.iload_n 2, 1) := by decide +kernel
theorem dX4_set_40 : decode cX4_set 40 = .ok (.iaload, 1) := by decide +kernel
theorem dX4_set_41 : decode cX4_set 41 = .ok (.invokestatic 54, 3) := by decide +kernel
theorem dX4_set_44 : decode cX4_set 44 = .ok (.ifCond .ne 6, 3) := by decide +kernel
theorem dX4_set_47 : decode cX4_set 47 = .ok (.ldc 58, 2) := by decide +kernel
theorem dX4_set_49 : decode cX4_set 49 = .ok (.ireturn, 1) := by decide +kernel
theorem dX4_set_50 : decode cX4_set 50 = .ok (.aload_n 0, 1) := by decide +kernel
theorem dX4_set_51 : decode cX4_set 51 = .ok (.getfield 42, 3) := by decide +kernel
theorem dX4_set_54 : decode cX4_set 54 = .ok (.bipush 12, 2) := by decide +kernel
theorem dX4_set_56 : decode cX4_set 56 = .ok (.iload_n 1, 1) := by decide +kernel
theorem dX4_set_57 : decode cX4_set 57 = .ok (.imul, 1) := by decide +kernel
theorem dX4_set_58 : decode cX4_set 58 = .ok (.iload_n 2, 1) := by decide +kernel
theorem dX4_set_59 : decode cX4_set 59 = .ok (.iadd, 1) := by decide +kernel
theorem dX4_set_60 : decode cX4_set 60 = .ok (.iaload, 1) := by decide +kernel
theorem dX4_set_61 : decode cX4_set 61 = .ok (.istore 4, 2) := by decide +kernel
theorem dX4_set_63 : decode cX4_set 63 = .ok (.aload_n 0, 1) := by decide +kernel
theorem dX4_set_64 : decode cX4_set 64 = .ok (.getfield 42, 3) := by decide +kernel
theorem dX4_set_67 : decode cX4_set 67 = .ok (.bipush 12, 2) := by decide +kernel
theorem dX4_set_69 : decode cX4_set 69 = .ok (.iload_n 1, 1) := by decide +kernel
theorem dX4_set_70 : decode cX4_set 70 = .ok (.imul, 1) := by decide +kernel
theorem dX4_set_71 : decode cX4_set 71 = .ok (.iload_n 2, 1) := by decide +kernel
theorem dX4_set_72 : decode cX4_set 72 = .ok (.iadd, 1) := by decide +kernel
theorem dX4_set_73 : decode cX4_set 73 = .ok (.iload_n 3, 1) := by decide +kernel
theorem dX4_set_74 : decode cX4_set 74 = .ok (.iastore, 1) := by decide +kernel
theorem dX4_set_75 : decode cX4_set 75 = .ok (.iload 4, 2) := by decide +kernel
theorem dX4_set_77 : decode cX4_set 77 = .ok (.ireturn, 1) := by decide +kernel
theorem dX4_counted_0 : decode cX4_counted 0 = .ok (.iconst 0, 1) := by decide +kernel
theorem dX4_counted_1 : decode cX4_counted 1 = .ok (.istore_n 1, 1) := by decide +kernel
theorem dX4_counted_2 : decode cX4_counted 2 = .ok (.iconst 0, 1) := by decide +kernel
theorem dX4_counted_3 : decode cX4_counted 3 = .ok (.istore_n 2, 1) := by decide +kernel
theorem dX4_counted_4 : decode cX4_counted 4 = .ok (.iload_n 2, 1) := by decide +kernel
theorem dX4_counted_5 : decode cX4_counted 5 = .ok (.aload_n 0, 1) := by decide +kernel
theorem dX4_counted_6 : decode cX4_counted 6 = .ok (.getfield 74, 3) := by decide +kernel
theorem dX4_counted_9 : decode cX4_counted 9 = .ok (.if_icmp .ge 26, 3) := by decide +kernel
theorem dX4_counted_12 : decode cX4_counted 12 = .ok (.iload_n 1, 1) := by decide +kernel
theorem dX4_counted_13 : decode cX4_counted 13 = .ok (.aload_n 0, 1) := by decide +kernel
theorem dX4_counted_14 : decode cX4_counted 14 = .ok (.getfield 38, 3) := by decide +kernel
theorem dX4_counted_17 : decode cX4_counted 17 = .ok (.iload_n 2, 1) := by decide +kernel
theorem dX4_counted_18 : decode cX4_counted 18 = .ok (.baload, 1) := by decide +kernel
theorem dX4_counted_19 : decode cX4_counted 19 = .ok (.ifCond .eq 7, 3) := by decide +kernel
theorem dX4_counted_22 : decode cX4_counted 22 = .ok (.iconst 0, 1) := by decide +kernel
theorem dX4_counted_23 : decode cX4_counted 23 = .ok (.goto 4, 3) := by decide +kernel
theorem dX4_counted_26 : decode cX4_counted 26 = .ok (.iconst 1, 1) := by decide +kernel
theorem dX4_counted_27 : decode cX4_counted 27 = .ok (.iadd, 1) := by decide +kernel
theorem dX4_counted_28 : decode cX4_counted 28 = .ok (.istore_n 1, 1) := by decide +kernel
theorem dX4_counted_29 : decode cX4_counted 29 = .ok (.iinc 2 1, 3) := by decide +kernel
theorem dX4_counted_32 : decode cX4_counted 32 = .ok (.goto (-28), 3) := by decide +kernel
theorem dX4_counted_35 : decode cX4_counted 35 = .ok (.iload_n 1, 1) := by decide +kernel
theorem dX4_counted_36 : decode cX4_counted 36 = .ok (.ireturn, 1) := by decide +kernel
set_option maxRecDepth 20000 in
theorem ggX4_told_X4_counted : GoodIn wsX4_told wsX4_counted := goodIn_r _ [13, 4, 14, 15, 16, 17, 18, 19, 20, 21, 22, 23, 24, 25, 26, 27, 28, 29, 30, 31, 32, 33, 34] (by decide +kernel) (by decide +kernel)
set_option maxRecDepth 20000 in
theorem gX4_told_X4_counted : GoodIn wsX4_told (wsV RX4 78 RX4 yX4_counted wsX4_counted) := goodIn_app (goodIn_of _ (by decide +kernel)) ggX4_told_X4_counted
theorem dX4_told_0 : decode cX4_told 0 = .ok (.iload_n 1, 1) := by decide +kernel
theorem dX4_told_1 : decode cX4_told 1 = .ok (.tableswitch 87 0 7 #[47, 52, 57, 62, 67, 72, 77, 82], 47) := by decide +kernel
theorem dX4_told_48 : decode cX4_told 48 = .ok (.aload_n 0, 1) := by decide +kernel
theorem dX4_told_49 : decode cX4_told 49 = .ok (.getfield 65, 3) := by decide +kernel
theorem dX4_told_52 : decode cX4_told 52 = .ok (.ireturn, 1) := by decide +kernel
theorem dX4_told_53 : decode cX4_told 53 = .ok (.aload_n 0, 1) := by decide +kernel
theorem dX4_told_54 : decode cX4_told 54 = .ok (.getfield 71, 3) := by decide +kernel
theorem dX4_told_57 : decode cX4_told 57 = .ok (.ireturn, 1) := by decide +kernel
theorem dX4_told_58 : decode cX4_told 58 = .ok (.aload_n 0, 1) := by decide +kernel
theorem dX4_told_59 : decode cX4_told 59 = .ok (.getfield 59, 3) := by decide +kernel
theorem dX4_told_62 : decode cX4_told 62 = .ok (.ireturn, 1) := by decide +kernel
theorem dX4_told_63 : decode cX4_told 63 = .ok (.aload_n 0, 1) := by decide +kernel
theorem dX4_told_64 : decode cX4_told 64 = .ok (.getfield 74, 3) := by decide +kernel
theorem dX4_told_67 : decode cX4_told 67 = .ok (.ireturn, 1) := by decide +kernel
theorem dX4_told_68 : decode cX4_told 68 = .ok (.aload_n 0, 1) := by decide +kernel
theorem dX4_told_69 : decode cX4_told 69 = .ok (.invokevirtual 78, 3) := by decide +kernel
theorem dX4_told_72 : decode cX4_told 72 = .ok (.ireturn, 1) := by decide +kernel
theorem dX4_told_73 : decode cX4_told 73 = .ok (.aload_n 0, 1) := by decide +kernel
theorem dX4_told_74 : decode cX4_told 74 = .ok (.getfield 7, 3) := by decide +kernel
theorem dX4_told_77 : decode cX4_told 77 = .ok (.ireturn, 1) := by decide +kernel
theorem dX4_told_78 : decode cX4_told 78 = .ok (.aload_n 0, 1) := by decide +kernel
theorem dX4_told_79 : decode cX4_told 79 = .ok (.getfield 62, 3) := by decide +kernel
theorem dX4_told_82 : decode cX4_told 82 = .ok (.ireturn, 1) := by decide +kernel
theorem dX4_told_83 : decode cX4_told 83 = .ok (.aload_n 0, 1) := by decide +kernel
theorem dX4_told_84 : decode cX4_told 84 = .ok (.getfield 68, 3) := by decide +kernel
theorem dX4_told_87 : decode cX4_told 87 = .ok (.ireturn, 1) := by decide +kernel
theorem dX4_told_88 : decode cX4_told 88 = .ok (.ldc 58, 2) := by decide +kernel
theorem dX4_told_90 : decode cX4_told 90 = .ok (.ireturn, 1) := by decide +kernel
set_option maxRecDepth 20000 in
theorem ggX4_isPlan_X4_in : GoodIn wsX4_isPlan wsX4_in := goodIn_r _ [6] (by decide +kernel) (by decide +kernel)
set_option maxRecDepth 20000 in
theorem gX4_isPlan_X4_in : GoodIn wsX4_isPlan (va_wsS RX4 54 yX4_in wsX4_in) := goodIn_app (goodIn_of _ (by decide +kernel)) ggX4_isPlan_X4_in
theorem dX4_isPlan_0 : decode cX4_isPlan 0 = .ok (.iload_n 1, 1) := by decide +kernel
theorem dX4_isPlan_1 : decode cX4_isPlan 1 = .ok (.iconst 0, 1) := by decide +kernel
theorem dX4_isPlan_2 : decode cX4_isPlan 2 = .ok (.iconst 1, 1) := by decide +kernel
theorem dX4_isPlan_3 : decode cX4_isPlan 3 = .ok (.aload_n 0, 1) := by decide +kernel
theorem dX4_isPlan_4 : decode cX4_isPlan 4 = .ok (.getfield 7, 3) := by decide +kernel
theorem dX4_isPlan_7 : decode cX4_isPlan 7 = .ok (.aload_n 0, 1) := by decide +kernel
theorem dX4_isPlan_8 : decode cX4_isPlan 8 = .ok (.getfield 62, 3) := by decide +kernel
theorem dX4_isPlan_11 : decode cX4_isPlan 11 = .ok (.iadd, 1) := by decide +kernel
theorem dX4_isPlan_12 : decode cX4_isPlan 12 = .ok (.ishl, 1) := by decide +kernel
theorem dX4_isPlan_13 : decode cX4_isPlan 13 = .ok (.iconst 1, 1) := by decide +kernel
theorem dX4_isPlan_14 : decode cX4_isPlan 14 = .ok (.isub, 1) := by decide +kernel
theorem dX4_isPlan_15 : decode cX4_isPlan 15 = .ok (.invokestatic 54, 3) := by decide +kernel
theorem dX4_isPlan_18 : decode cX4_isPlan 18 = .ok (.ireturn, 1) := by decide +kernel
theorem dX4_isOn_0 : decode cX4_isOn 0 = .ok (.aload_n 0, 1) := by decide +kernel
theorem dX4_isOn_1 : decode cX4_isOn 1 = .ok (.getfield 23, 3) := by decide +kernel
theorem dX4_isOn_4 : decode cX4_isOn 4 = .ok (.iload_n 1, 1) := by decide +kernel
theorem dX4_isOn_5 : decode cX4_isOn 5 = .ok (.iaload, 1) := by decide +kernel
theorem dX4_isOn_6 : decode cX4_isOn 6 = .ok (.iload_n 3, 1) := by decide +kernel
theorem dX4_isOn_7 : decode cX4_isOn 7 = .ok (.if_icmp .ne 30, 3) := by decide +kernel
theorem dX4_isOn_10 : decode cX4_isOn 10 = .ok (.aload_n 0, 1) := by decide +kernel
theorem dX4_isOn_11 : decode cX4_isOn 11 = .ok (.getfield 26, 3) := by decide +kernel
theorem dX4_isOn_14 : decode cX4_isOn 14 = .ok (.iload_n 1, 1) := by decide +kernel
theorem dX4_isOn_15 : decode cX4_isOn 15 = .ok (.iaload, 1) := by decide +kernel
theorem dX4_isOn_16 : decode cX4_isOn 16 = .ok (.ifCond .lt 17, 3) := by decide +kernel
theorem dX4_isOn_19 : decode cX4_isOn 19 = .ok (.iload_n 2, 1) := by decide +kernel
theorem dX4_isOn_20 : decode cX4_isOn 20 = .ok (.aload_n 0, 1) := by decide +kernel
theorem dX4_isOn_21 : decode cX4_isOn 21 = .ok (.getfield 26, 3) := by decide +kernel
theorem dX4_isOn_24 : decode cX4_isOn 24 = .ok (.iload_n 1, 1) := by decide +kernel
theorem dX4_isOn_25 : decode cX4_isOn 25 = .ok (.iaload, 1) := by decide +kernel
theorem dX4_isOn_26 : decode cX4_isOn 26 = .ok (.ishr, 1) := by decide +kernel
theorem dX4_isOn_27 : decode cX4_isOn 27 = .ok (.iconst 1, 1) := by decide +kernel
theorem dX4_isOn_28 : decode cX4_isOn 28 = .ok (.iand, 1) := by decide +kernel
theorem dX4_isOn_29 : decode cX4_isOn 29 = .ok (.iconst 1, 1) := by decide +kernel
theorem dX4_isOn_30 : decode cX4_isOn 30 = .ok (.if_icmp .ne 7, 3) := by decide +kernel
theorem dX4_isOn_33 : decode cX4_isOn 33 = .ok (.iconst 1, 1) := by decide +kernel
theorem dX4_isOn_34 : decode cX4_isOn 34 = .ok (.goto 4, 3) := by decide +kernel
theorem dX4_isOn_37 : decode cX4_isOn 37 = .ok (.iconst 0, 1) := by decide +kernel
theorem dX4_isOn_38 : decode cX4_isOn 38 = .ok (.ireturn, 1) := by decide +kernel
set_option maxRecDepth 20000 in
theorem ggX4_sum_X4_isOn : GoodIn wsX4_sum wsX4_isOn := goodIn_r _ [10, 11, 12, 13, 14, 15, 16, 17, 18, 19, 20, 21, 22, 23, 24, 25, 26, 27, 28, 29, 30, 31, 32] (by decide +kernel) (by decide +kernel)
set_option maxRecDepth 20000 in
theorem gX4_sum_X4_isOn : GoodIn wsX4_sum (wsV RX4 82 RX4 yX4_isOn wsX4_isOn) := goodIn_app (goodIn_of _ (by decide +kernel)) ggX4_sum_X4_isOn
theorem dX4_sum_0 : decode cX4_sum 0 = .ok (.iconst 0, 1) := by decide +kernel
theorem dX4_sum_1 : decode cX4_sum 1 = .ok (.istore 4, 2) := by decide +kernel
theorem dX4_sum_3 : decode cX4_sum 3 = .ok (.iconst 0, 1) := by decide +kernel
theorem dX4_sum_4 : decode cX4_sum 4 = .ok (.istore 5, 2) := by decide +kernel
theorem dX4_sum_6 : decode cX4_sum 6 = .ok (.iload 5, 2) := by decide +kernel
theorem dX4_sum_8 : decode cX4_sum 8 = .ok (.aload_n 0, 1) := by decide +kernel
theorem dX4_sum_9 : decode cX4_sum 9 = .ok (.getfield 59, 3) := by decide +kernel
theorem dX4_sum_12 : decode cX4_sum 12 = .ok (.if_icmp .ge 81, 3) := by decide +kernel
theorem dX4_sum_15 : decode cX4_sum 15 = .ok (.aload_n 0, 1) := by decide +kernel
theorem dX4_sum_16 : decode cX4_sum 16 = .ok (.iload 5, 2) := by decide +kernel
theorem dX4_sum_18 : decode cX4_sum 18 = .ok (.iload_n 1, 1) := by decide +kernel
theorem dX4_sum_19 : decode cX4_sum 19 = .ok (.iload_n 2, 1) := by decide +kernel
theorem dX4_sum_20 : decode cX4_sum 20 = .ok (.invokevirtual 82, 3) := by decide +kernel
theorem dX4_sum_23 : decode cX4_sum 23 = .ok (.ifCond .eq 64, 3) := by decide +kernel
theorem dX4_sum_26 : decode cX4_sum 26 = .ok (.aload_n 0, 1) := by decide +kernel
theorem dX4_sum_27 : decode cX4_sum 27 = .ok (.getfield 29, 3) := by decide +kernel
theorem dX4_sum_30 : decode cX4_sum 30 = .ok (.iload 5, 2) := by decide +kernel
theorem dX4_sum_32 : decode cX4_sum 32 = .ok (.iaload, 1) := by decide +kernel
theorem dX4_sum_33 : decode cX4_sum 33 = .ok (.istore 6, 2) := by decide +kernel
theorem dX4_sum_35 : decode cX4_sum 35 = .ok (.iload 6, 2) := by decide +kernel
theorem dX4_sum_37 : decode cX4_sum 37 = .ok (.ifCond .ge 7, 3) := by decide +kernel
theorem dX4_sum_40 : decode cX4_sum 40 = .ok (.iconst 1, 1) := by decide +kernel
theorem dX4_sum_41 : decode cX4_sum 41 = .ok (.goto 29, 3) := by decide +kernel
theorem dX4_sum_44 : decode cX4_sum 44 = .ok (.iload_n 3, 1) := by decide +kernel
theorem dX4_sum_45 : decode cX4_sum 45 = .ok (.ifCond .ge 13, 3) := by decide +kernel
theorem dX4_sum_48 : decode cX4_sum 48 = .ok (.aload_n 0, 1) := by decide +kernel
theorem dX4_sum_49 : decode cX4_sum 49 = .ok (.getfield 17, 3) := by decide +kernel
theorem dX4_sum_52 : decode cX4_sum 52 = .ok (.iload 6, 2) := by decide +kernel
theorem dX4_sum_54 : decode cX4_sum 54 = .ok (.iaload, 1) := by decide +kernel
theorem dX4_sum_55 : decode cX4_sum 55 = .ok (.goto 15, 3) := by decide +kernel
theorem dX4_sum_58 : decode cX4_sum 58 = .ok (.aload_n 0, 1) := by decide +kernel
theorem dX4_sum_59 : decode cX4_sum 59 = .ok (.getfield 42, 3) := by decide +kernel
theorem dX4_sum_62 : decode cX4_sum 62 = .ok (.bipush 12, 2) := by decide +kernel
theorem dX4_sum_64 : decode cX4_sum 64 = .ok (.iload_n 3, 1) := by decide +kernel
theorem dX4_sum_65 : decode cX4_sum 65 = .ok (.imul, 1) := by decide +kernel
theorem dX4_sum_66 : decode cX4_sum 66 = .ok (.iload 6, 2) := by decide +kernel
theorem dX4_sum_68 : decode cX4_sum 68 = .ok (.iadd, 1) := by decide +kernel
theorem dX4_sum_69 : decode cX4_sum 69 = .ok (.iaload, 1) := by decide +kernel
theorem dX4_sum_70 : decode cX4_sum 70 = .ok (.istore 7, 2) := by decide +kernel
theorem dX4_sum_72 : decode cX4_sum 72 = .ok (.iload 4, 2) := by decide +kernel
theorem dX4_sum_74 : decode cX4_sum 74 = .ok (.aload_n 0, 1) := by decide +kernel
theorem dX4_sum_75 : decode cX4_sum 75 = .ok (.getfield 32, 3) := by decide +kernel
theorem dX4_sum_78 : decode cX4_sum 78 = .ok (.iload 5, 2) := by decide +kernel
theorem dX4_sum_80 : decode cX4_sum 80 = .ok (.iaload, 1) := by decide +kernel
theorem dX4_sum_81 : decode cX4_sum 81 = .ok (.iload 7, 2) := by decide +kernel
theorem dX4_sum_83 : decode cX4_sum 83 = .ok (.imul, 1) := by decide +kernel
theorem dX4_sum_84 : decode cX4_sum 84 = .ok (.iadd, 1) := by decide +kernel
theorem dX4_sum_85 : decode cX4_sum 85 = .ok (.istore 4, 2) := by decide +kernel
theorem dX4_sum_87 : decode cX4_sum 87 = .ok (.iinc 5 1, 3) := by decide +kernel
theorem dX4_sum_90 : decode cX4_sum 90 = .ok (.goto (-84), 3) := by decide +kernel
theorem dX4_sum_93 : decode cX4_sum 93 = .ok (.iload 4, 2) := by decide +kernel
theorem dX4_sum_95 : decode cX4_sum 95 = .ok (.ireturn, 1) := by decide +kernel
set_option maxRecDepth 20000 in
theorem ggX4_comes_X4_isPlan : GoodIn wsX4_comes wsX4_isPlan := goodIn_r _ [8, 9, 10, 11, 12, 7, 13, 29, 30, 31, 32, 33, 34, 35, 36, 37, 38, 39, 40, 41, 42, 43, 44, 45, 46, 47, 48] (by decide +kernel) (by decide +kernel)
set_option maxRecDepth 20000 in
theorem gX4_comes_X4_isPlan : GoodIn wsX4_comes (wsV RX4 85 RX4 yX4_isPlan wsX4_isPlan) := goodIn_app (goodIn_of _ (by decide +kernel)) ggX4_comes_X4_isPlan
set_option maxRecDepth 20000 in
theorem ggX4_comes_X4_in : GoodIn wsX4_comes wsX4_in := goodIn_r _ [13] (by decide +kernel) (by decide +kernel)
set_option maxRecDepth 20000 in
theorem gX4_comes_X4_in : GoodIn wsX4_comes (va_wsS RX4 54 yX4_in wsX4_in) := goodIn_app (goodIn_of _ (by decide +kernel)) ggX4_comes_X4_in
set_option maxRecDepth 20000 in
theorem ggX4_comes_X4_sum : GoodIn wsX4_comes wsX4_sum := goodIn_r _ [17, 18, 19, 20, 21, 22, 23, 24, 25, 7, 26, 27, 28, 29, 30, 31, 32, 33, 34, 35, 36, 37, 38, 39, 40, 41, 42, 43, 44, 45, 46, 47, 48] (by decide +kernel) (by decide +kernel)
set_option maxRecDepth 20000 in
theorem gX4_comes_X4_sum : GoodIn wsX4_comes (wsV RX4 89 RX4 yX4_sum wsX4_sum) := goodIn_app (goodIn_of _ (by decide +kernel)) ggX4_comes_X4_sum
theorem dX4_comes_0 : decode cX4_comes 0 = .ok (.aload_n 0, 1) := by decide +kernel
theorem dX4_comes_1 : decode cX4_comes 1 = .ok (.iload_n 1, 1) := by decide +kernel
theorem dX4_comes_2 : decode cX4_comes 2 = .ok (.invokevirtual 85, 3) := by decide +kernel
theorem dX4_comes_5 : decode cX4_comes 5 = .ok (.ifCond .eq 35, 3) := by decide +kernel
theorem dX4_comes_8 : decode cX4_comes 8 = .ok (.iload_n 2, 1) := by decide +kernel
theorem dX4_comes_9 : decode cX4_comes 9 = .ok (.iconst (-1), 1) := by decide +kernel
theorem dX4_comes_10 : decode cX4_comes 10 = .ok (.aload_n 0, 1) := by decide +kernel
theorem dX4_comes_11 : decode cX4_comes 11 = .ok (.getfield 71, 3) := by decide +kernel
theorem dX4_comes_14 : decode cX4_comes 14 = .ok (.iconst 1, 1) := by decide +kernel
theorem dX4_comes_15 : decode cX4_comes 15 = .ok (.isub, 1) := by decide +kernel
theorem dX4_comes_16 : decode cX4_comes 16 = .ok (.invokestatic 54, 3) := by decide +kernel
theorem dX4_comes_19 : decode cX4_comes 19 = .ok (.ifCond .eq 21, 3) := by decide +kernel
theorem dX4_comes_22 : decode cX4_comes 22 = .ok (.iload_n 3, 1) := by decide +kernel
theorem dX4_comes_23 : decode cX4_comes 23 = .ok (.iconst (-1), 1) := by decide +kernel
theorem dX4_comes_24 : decode cX4_comes 24 = .ok (.aload_n 0, 1) := by decide +kernel
theorem dX4_comes_25 : decode cX4_comes 25 = .ok (.getfield 74, 3) := by decide +kernel
theorem dX4_comes_28 : decode cX4_comes 28 = .ok (.iconst 1, 1) := by decide +kernel
theorem dX4_comes_29 : decode cX4_comes 29 = .ok (.isub, 1) := by decide +kernel
theorem dX4_comes_30 : decode cX4_comes 30 = .ok (.invokestatic 54, 3) := by decide +kernel
theorem dX4_comes_33 : decode cX4_comes 33 = .ok (.ifCond .eq 7, 3) := by decide +kernel
theorem dX4_comes_36 : decode cX4_comes 36 = .ok (.iconst 1, 1) := by decide +kernel
theorem dX4_comes_37 : decode cX4_comes 37 = .ok (.goto 4, 3) := by decide +kernel
theorem dX4_comes_40 : decode cX4_comes 40 = .ok (.iconst 0, 1) := by decide +kernel
theorem dX4_comes_41 : decode cX4_comes 41 = .ok (.istore 4, 2) := by decide +kernel
theorem dX4_comes_43 : decode cX4_comes 43 = .ok (.iload 4, 2) := by decide +kernel
theorem dX4_comes_45 : decode cX4_comes 45 = .ok (.ifCond .eq 13, 3) := by decide +kernel
theorem dX4_comes_48 : decode cX4_comes 48 = .ok (.aload_n 0, 1) := by decide +kernel
theorem dX4_comes_49 : decode cX4_comes 49 = .ok (.iload_n 1, 1) := by decide +kernel
theorem dX4_comes_50 : decode cX4_comes 50 = .ok (.iload_n 2, 1) := by decide +kernel
theorem dX4_comes_51 : decode cX4_comes 51 = .ok (.iload_n 3, 1) := by decide +kernel
theorem dX4_comes_52 : decode cX4_comes 52 = .ok (.invokevirtual 89, 3) := by decide +kernel
theorem dX4_comes_55 : decode cX4_comes 55 = .ok (.goto 5, 3) := by decide +kernel
theorem dX4_comes_58 : decode cX4_comes 58 = .ok (.ldc 58, 2) := by decide +kernel
theorem dX4_comes_60 : decode cX4_comes 60 = .ok (.ireturn, 1) := by decide +kernel
set_option maxRecDepth 20000 in
theorem ggX4_findWorst_X4_isOn : GoodIn wsX4_findWorst wsX4_isOn := goodIn_r _ [15, 16, 17, 27, 28, 29, 30, 31, 32, 33, 34, 35, 36, 37, 38, 39, 40, 41, 42, 43, 44, 45, 46] (by decide +kernel) (by decide +kernel)
set_option maxRecDepth 20000 in
theorem gX4_findWorst_X4_isOn : GoodIn wsX4_findWorst (wsV RX4 82 RX4 yX4_isOn wsX4_isOn) := goodIn_app (goodIn_of _ (by decide +kernel)) ggX4_findWorst_X4_isOn
set_option maxRecDepth 20000 in
theorem ggX4_findWorst_X4_sum : GoodIn wsX4_findWorst wsX4_sum := goodIn_r _ [21, 2, 3, 7, 22, 4, 11, 12, 13, 14, 15, 16, 17, 27, 28, 29, 30, 31, 32, 33, 34, 35, 36, 37, 38, 39, 40, 41, 42, 43, 44, 45, 46] (by decide +kernel) (by decide +kernel)
set_option maxRecDepth 20000 in
theorem gX4_findWorst_X4_sum : GoodIn wsX4_findWorst (wsV RX4 89 RX4 yX4_sum wsX4_sum) := goodIn_app (goodIn_of _ (by decide +kernel)) ggX4_findWorst_X4_sum
set_option maxRecDepth 20000 in
theorem ggX4_findWorst_X4_isUp : GoodIn wsX4_findWorst wsX4_isUp := goodIn_r _ [26, 2, 3, 4, 11, 12, 13, 14, 15, 16, 17, 27, 28, 29, 30, 31, 32, 33, 34, 35, 36, 37, 38, 39, 40, 41, 42, 43, 44, 45, 46] (by decide +kernel) (by decide +kernel)
set_option maxRecDepth 20000 in
theorem gX4_findWorst_X4_isUp : GoodIn wsX4_findWorst (wsV RX4 93 RX4 yX4_isUp wsX4_isUp) := goodIn_app (goodIn_of _ (by decide +kernel)) ggX4_findWorst_X4_isUp
theorem dX4_findWorst_0 : decode cX4_findWorst 0 = .ok (.iconst 0, 1) := by decide +kernel
theorem dX4_findWorst_1 : decode cX4_findWorst 1 = .ok (.istore_n 3, 1) := by decide +kernel
theorem dX4_findWorst_2 : decode cX4_findWorst 2 = .ok (.iload_n 3, 1) := by decide +kernel
theorem dX4_findWorst_3 : decode cX4_findWorst 3 = .ok (.aload_n 0, 1) := by decide +kernel
theorem dX4_findWorst_4 : decode cX4_findWorst 4 = .ok (.getfield 65, 3) := by decide +kernel
theorem dX4_findWorst_7 : decode cX4_findWorst 7 = .ok (.if_icmp .ge 134, 3) := by decide +kernel
theorem dX4_findWorst_10 : decode cX4_findWorst 10 = .ok (.iconst 0, 1) := by decide +kernel
theorem dX4_findWorst_11 : decode cX4_findWorst 11 = .ok (.istore 4, 2) := by decide +kernel
theorem dX4_findWorst_13 : decode cX4_findWorst 13 = .ok (.iconst 0, 1) := by decide +kernel
theorem dX4_findWorst_14 : decode cX4_findWorst 14 = .ok (.istore 5, 2) := by decide +kernel
theorem dX4_findWorst_16 : decode cX4_findWorst 16 = .ok (.iload 5, 2) := by decide +kernel
theorem dX4_findWorst_18 : decode cX4_findWorst 18 = .ok (.aload_n 0, 1) := by decide +kernel
theorem dX4_findWorst_19 : decode cX4_findWorst 19 = .ok (.getfield 59, 3) := by decide +kernel
theorem dX4_findWorst_22 : decode cX4_findWorst 22 = .ok (.if_icmp .ge 47, 3) := by decide +kernel
theorem dX4_findWorst_25 : decode cX4_findWorst 25 = .ok (.iload 4, 2) := by decide +kernel
theorem dX4_findWorst_27 : decode cX4_findWorst 27 = .ok (.aload_n 0, 1) := by decide +kernel
theorem dX4_findWorst_28 : decode cX4_findWorst 28 = .ok (.iload 5, 2) := by decide +kernel
theorem dX4_findWorst_30 : decode cX4_findWorst 30 = .ok (.iload_n 1, 1) := by decide +kernel
theorem dX4_findWorst_31 : decode cX4_findWorst 31 = .ok (.iload_n 2, 1) := by decide +kernel
theorem dX4_findWorst_32 : decode cX4_findWorst 32 = .ok (.invokevirtual 82, 3) := by decide +kernel
theorem dX4_findWorst_35 : decode cX4_findWorst 35 = .ok (.ifCond .eq 24, 3) := by decide +kernel
theorem dX4_findWorst_38 : decode cX4_findWorst 38 = .ok (.aload_n 0, 1) := by decide +kernel
theorem dX4_findWorst_39 : decode cX4_findWorst 39 = .ok (.getfield 29, 3) := by decide +kernel
theorem dX4_findWorst_42 : decode cX4_findWorst 42 = .ok (.iload 5, 2) := by decide +kernel
theorem dX4_findWorst_44 : decode cX4_findWorst 44 = .ok (.iaload, 1) := by decide +kernel
theorem dX4_findWorst_45 : decode cX4_findWorst 45 = .ok (.iload_n 3, 1) := by decide +kernel
theorem dX4_findWorst_46 : decode cX4_findWorst 46 = .ok (.if_icmp .ne 13, 3) := by decide +kernel
theorem dX4_findWorst_49 : decode cX4_findWorst 49 = .ok (.aload_n 0, 1) := by decide +kernel
theorem dX4_findWorst_50 : decode cX4_findWorst 50 = .ok (.getfield 32, 3) := by decide +kernel
theorem dX4_findWorst_53 : decode cX4_findWorst 53 = .ok (.iload 5, 2) := by decide +kernel
theorem dX4_findWorst_55 : decode cX4_findWorst 55 = .ok (.iaload, 1) := by decide +kernel
theorem dX4_findWorst_56 : decode cX4_findWorst 56 = .ok (.goto 4, 3) := by decide +kernel
theorem dX4_findWorst_59 : decode cX4_findWorst 59 = .ok (.iconst 0, 1) := by decide +kernel
theorem dX4_findWorst_60 : decode cX4_findWorst 60 = .ok (.iadd, 1) := by decide +kernel
theorem dX4_findWorst_61 : decode cX4_findWorst 61 = .ok (.istore 4, 2) := by decide +kernel
theorem dX4_findWorst_63 : decode cX4_findWorst 63 = .ok (.iinc 5 1, 3) := by decide +kernel
theorem dX4_findWorst_66 : decode cX4_findWorst 66 = .ok (.goto (-50), 3) := by decide +kernel
theorem dX4_findWorst_69 : decode cX4_findWorst 69 = .ok (.iload 4, 2) := by decide +kernel
theorem dX4_findWorst_71 : decode cX4_findWorst 71 = .ok (.ifCond .le 12, 3) := by decide +kernel
theorem dX4_findWorst_74 : decode cX4_findWorst 74 = .ok (.aload_n 0, 1) := by decide +kernel
theorem dX4_findWorst_75 : decode cX4_findWorst 75 = .ok (.getfield 20, 3) := by decide +kernel
theorem dX4_findWorst_78 : decode cX4_findWorst 78 = .ok (.iload_n 3, 1) := by decide +kernel
theorem dX4_findWorst_79 : decode cX4_findWorst 79 = .ok (.iaload, 1) := by decide +kernel
theorem dX4_findWorst_80 : decode cX4_findWorst 80 = .ok (.goto 23, 3) := by decide +kernel
theorem dX4_findWorst_83 : decode cX4_findWorst 83 = .ok (.iload 4, 2) := by decide +kernel
theorem dX4_findWorst_85 : decode cX4_findWorst 85 = .ok (.ifCond .ge 12, 3) := by decide +kernel
theorem dX4_findWorst_88 : decode cX4_findWorst 88 = .ok (.aload_n 0, 1) := by decide +kernel
theorem dX4_findWorst_89 : decode cX4_findWorst 89 = .ok (.getfield 13, 3) := by decide +kernel
theorem dX4_findWorst_92 : decode cX4_findWorst 92 = .ok (.iload_n 3, 1) := by decide +kernel
theorem dX4_findWorst_93 : decode cX4_findWorst 93 = .ok (.iaload, 1) := by decide +kernel
theorem dX4_findWorst_94 : decode cX4_findWorst 94 = .ok (.goto 9, 3) := by decide +kernel
theorem dX4_findWorst_97 : decode cX4_findWorst 97 = .ok (.aload_n 0, 1) := by decide +kernel
theorem dX4_findWorst_98 : decode cX4_findWorst 98 = .ok (.getfield 17, 3) := by decide +kernel
theorem dX4_findWorst_101 : decode cX4_findWorst 101 = .ok (.iload_n 3, 1) := by decide +kernel
theorem dX4_findWorst_102 : decode cX4_findWorst 102 = .ok (.iaload, 1) := by decide +kernel
theorem dX4_findWorst_103 : decode cX4_findWorst 103 = .ok (.istore 5, 2) := by decide +kernel
theorem dX4_findWorst_105 : decode cX4_findWorst 105 = .ok (.aload_n 0, 1) := by decide +kernel
theorem dX4_findWorst_106 : decode cX4_findWorst 106 = .ok (.getfield 45, 3) := by decide +kernel
theorem dX4_findWorst_109 : decode cX4_findWorst 109 = .ok (.iload_n 3, 1) := by decide +kernel
theorem dX4_findWorst_110 : decode cX4_findWorst 110 = .ok (.iload 4, 2) := by decide +kernel
theorem dX4_findWorst_112 : decode cX4_findWorst 112 = .ok (.iload 5, 2) := by decide +kernel
theorem dX4_findWorst_114 : decode cX4_findWorst 114 = .ok (.aload_n 0, 1) := by decide +kernel
theorem dX4_findWorst_115 : decode cX4_findWorst 115 = .ok (.getfield 17, 3) := by decide +kernel
theorem dX4_findWorst_118 : decode cX4_findWorst 118 = .ok (.iload_n 3, 1) := by decide +kernel
theorem dX4_findWorst_119 : decode cX4_findWorst 119 = .ok (.iaload, 1) := by decide +kernel
theorem dX4_findWorst_120 : decode cX4_findWorst 120 = .ok (.isub, 1) := by decide +kernel
theorem dX4_findWorst_121 : decode cX4_findWorst 121 = .ok (.imul, 1) := by decide +kernel
theorem dX4_findWorst_122 : decode cX4_findWorst 122 = .ok (.iastore, 1) := by decide +kernel
theorem dX4_findWorst_123 : decode cX4_findWorst 123 = .ok (.aload_n 0, 1) := by decide +kernel
theorem dX4_findWorst_124 : decode cX4_findWorst 124 = .ok (.getfield 48, 3) := by decide +kernel
theorem dX4_findWorst_127 : decode cX4_findWorst 127 = .ok (.iload_n 3, 1) := by decide +kernel
theorem dX4_findWorst_128 : decode cX4_findWorst 128 = .ok (.aload_n 0, 1) := by decide +kernel
theorem dX4_findWorst_129 : decode cX4_findWorst 129 = .ok (.getfield 17, 3) := by decide +kernel
theorem dX4_findWorst_132 : decode cX4_findWorst 132 = .ok (.iload_n 3, 1) := by decide +kernel
theorem dX4_findWorst_133 : decode cX4_findWorst 133 = .ok (.iaload, 1) := by decide +kernel
theorem dX4_findWorst_134 : decode cX4_findWorst 134 = .ok (.iastore, 1) := by decide +kernel
theorem dX4_findWorst_135 : decode cX4_findWorst 135 = .ok (.iinc 3 1, 3) := by decide +kernel
theorem dX4_findWorst_138 : decode cX4_findWorst 138 = .ok (.goto (-136), 3) := by decide +kernel
theorem dX4_findWorst_141 : decode cX4_findWorst 141 = .ok (.aload_n 0, 1) := by decide +kernel
theorem dX4_findWorst_142 : decode cX4_findWorst 142 = .ok (.iload_n 1, 1) := by decide +kernel
theorem dX4_findWorst_143 : decode cX4_findWorst 143 = .ok (.iload_n 2, 1) := by decide +kernel
theorem dX4_findWorst_144 : decode cX4_findWorst 144 = .ok (.iconst (-1), 1) := by decide +kernel
theorem dX4_findWorst_145 : decode cX4_findWorst 145 = .ok (.invokevirtual 89, 3) := by decide +kernel
theorem dX4_findWorst_148 : decode cX4_findWorst 148 = .ok (.istore_n 3, 1) := by decide +kernel
theorem dX4_findWorst_149 : decode cX4_findWorst 149 = .ok (.iconst 0, 1) := by decide +kernel
theorem dX4_findWorst_150 : decode cX4_findWorst 150 = .ok (.istore 4, 2) := by decide +kernel
theorem dX4_findWorst_152 : decode cX4_findWorst 152 = .ok (.iload 4, 2) := by decide +kernel
theorem dX4_findWorst_154 : decode cX4_findWorst 154 = .ok (.aload_n 0, 1) := by decide +kernel
theorem dX4_findWorst_155 : decode cX4_findWorst 155 = .ok (.getfield 68, 3) := by decide +kernel
theorem dX4_findWorst_158 : decode cX4_findWorst 158 = .ok (.if_icmp .ge 129, 3) := by decide +kernel
theorem dX4_findWorst_161 : decode cX4_findWorst 161 = .ok (.iconst (-1), 1) := by decide +kernel
theorem dX4_findWorst_162 : decode cX4_findWorst 162 = .ok (.istore 5, 2) := by decide +kernel
theorem dX4_findWorst_164 : decode cX4_findWorst 164 = .ok (.iconst 0, 1) := by decide +kernel
theorem dX4_findWorst_165 : decode cX4_findWorst 165 = .ok (.istore 6, 2) := by decide +kernel
theorem dX4_findWorst_167 : decode cX4_findWorst 167 = .ok (.iload 6, 2) := by decide +kernel
theorem dX4_findWorst_169 : decode cX4_findWorst 169 = .ok (.aload_n 0, 1) := by decide +kernel
theorem dX4_findWorst_170 : decode cX4_findWorst 170 = .ok (.getfield 65, 3) := by decide +kernel
theorem dX4_findWorst_173 : decode cX4_findWorst 173 = .ok (.if_icmp .ge 50, 3) := by decide +kernel
theorem dX4_findWorst_176 : decode cX4_findWorst 176 = .ok (.aload_n 0, 1) := by decide +kernel
theorem dX4_findWorst_177 : decode cX4_findWorst 177 = .ok (.getfield 45, 3) := by decide +kernel
theorem dX4_findWorst_180 : decode cX4_findWorst 180 = .ok (.iload 6, 2) := by decide +kernel
theorem dX4_findWorst_182 : decode cX4_findWorst 182 = .ok (.iaload, 1) := by decide +kernel
theorem dX4_findWorst_183 : decode cX4_findWorst 183 = .ok (.ifCond .le 30, 3) := by decide +kernel
theorem dX4_findWorst_186 : decode cX4_findWorst 186 = .ok (.iload 5, 2) := by decide +kernel
theorem dX4_findWorst_188 : decode cX4_findWorst 188 = .ok (.ifCond .lt 20, 3) := by decide +kernel
theorem dX4_findWorst_191 : decode cX4_findWorst 191 = .ok (.aload_n 0, 1) := by decide +kernel
theorem dX4_findWorst_192 : decode cX4_findWorst 192 = .ok (.getfield 45, 3) := by decide +kernel
theorem dX4_findWorst_195 : decode cX4_findWorst 195 = .ok (.iload 6, 2) := by decide +kernel
