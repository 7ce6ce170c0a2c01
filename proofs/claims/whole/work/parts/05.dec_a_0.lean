theorem dX0_init_0 : decode cX0_init 0 = .ok (.aload_n 0, 1) := by decide +kernel
theorem dX0_init_1 : decode cX0_init 1 = .ok (.invokespecial 3, 3) := by decide +kernel
theorem dX0_init_4 : decode cX0_init 4 = .ok (.aload_n 0, 1) := by decide +kernel
theorem dX0_init_5 : decode cX0_init 5 = .ok (.bipush 8, 2) := by decide +kernel
theorem dX0_init_7 : decode cX0_init 7 = .ok (.newarray .int, 2) := by decide +kernel
theorem dX0_init_9 : decode cX0_init 9 = .ok (.putfield 9, 3) := by decide +kernel
theorem dX0_init_12 : decode cX0_init 12 = .ok (.aload_n 0, 1) := by decide +kernel
theorem dX0_init_13 : decode cX0_init 13 = .ok (.bipush 8, 2) := by decide +kernel
theorem dX0_init_15 : decode cX0_init 15 = .ok (.newarray .boolean, 2) := by decide +kernel
theorem dX0_init_17 : decode cX0_init 17 = .ok (.putfield 15, 3) := by decide +kernel
theorem dX0_init_20 : decode cX0_init 20 = .ok (.aload_n 0, 1) := by decide +kernel
theorem dX0_init_21 : decode cX0_init 21 = .ok (.bipush 8, 2) := by decide +kernel
theorem dX0_init_23 : decode cX0_init 23 = .ok (.bipush 12, 2) := by decide +kernel
theorem dX0_init_25 : decode cX0_init 25 = .ok (.multianewarray 19 2, 4) := by decide +kernel
theorem dX0_init_29 : decode cX0_init 29 = .ok (.putfield 21, 3) := by decide +kernel
theorem dX0_init_32 : decode cX0_init 32 = .ok (.return_, 1) := by decide +kernel
theorem dX0_add_0 : decode cX0_add 0 = .ok (.aload_n 0, 1) := by decide +kernel
theorem dX0_add_1 : decode cX0_add 1 = .ok (.getfield 9, 3) := by decide +kernel
theorem dX0_add_4 : decode cX0_add 4 = .ok (.aload_n 0, 1) := by decide +kernel
theorem dX0_add_5 : decode cX0_add 5 = .ok (.getfield 24, 3) := by decide +kernel
theorem dX0_add_8 : decode cX0_add 8 = .ok (.iload_n 1, 1) := by decide +kernel
theorem dX0_add_9 : decode cX0_add 9 = .ok (.iastore, 1) := by decide +kernel
theorem dX0_add_10 : decode cX0_add 10 = .ok (.aload_n 0, 1) := by decide +kernel
theorem dX0_add_11 : decode cX0_add 11 = .ok (.getfield 15, 3) := by decide +kernel
theorem dX0_add_14 : decode cX0_add 14 = .ok (.aload_n 0, 1) := by decide +kernel
theorem dX0_add_15 : decode cX0_add 15 = .ok (.getfield 24, 3) := by decide +kernel
theorem dX0_add_18 : decode cX0_add 18 = .ok (.iload_n 2, 1) := by decide +kernel
theorem dX0_add_19 : decode cX0_add 19 = .ok (.bastore, 1) := by decide +kernel
theorem dX0_add_20 : decode cX0_add 20 = .ok (.iconst 0, 1) := by decide +kernel
theorem dX0_add_21 : decode cX0_add 21 = .ok (.istore 4, 2) := by decide +kernel
theorem dX0_add_23 : decode cX0_add 23 = .ok (.iload 4, 2) := by decide +kernel
theorem dX0_add_25 : decode cX0_add 25 = .ok (.aload_n 3, 1) := by decide +kernel
theorem dX0_add_26 : decode cX0_add 26 = .ok (.getfield 28, 3) := by decide +kernel
theorem dX0_add_29 : decode cX0_add 29 = .ok (.if_icmp .ge 28, 3) := by decide +kernel
theorem dX0_add_32 : decode cX0_add 32 = .ok (.aload_n 0, 1) := by decide +kernel
theorem dX0_add_33 : decode cX0_add 33 = .ok (.getfield 21, 3) := by decide +kernel
theorem dX0_add_36 : decode cX0_add 36 = .ok (.aload_n 0, 1) := by decide +kernel
theorem dX0_add_37 : decode cX0_add 37 = .ok (.getfield 24, 3) := by decide +kernel
theorem dX0_add_40 : decode cX0_add 40 = .ok (.aaload, 1) := by decide +kernel
theorem dX0_add_41 : decode cX0_add 41 = .ok (.iload 4, 2) := by decide +kernel
theorem dX0_add_43 : decode cX0_add 43 = .ok (.aload_n 3, 1) := by decide +kernel
theorem dX0_add_44 : decode cX0_add 44 = .ok (.getfield 31, 3) := by decide +kernel
theorem dX0_add_47 : decode cX0_add 47 = .ok (.iload 4, 2) := by decide +kernel
theorem dX0_add_49 : decode cX0_add 49 = .ok (.iaload, 1) := by decide +kernel
theorem dX0_add_50 : decode cX0_add 50 = .ok (.iastore, 1) := by decide +kernel
theorem dX0_add_51 : decode cX0_add 51 = .ok (.iinc 4 1, 3) := by decide +kernel
theorem dX0_add_54 : decode cX0_add 54 = .ok (.goto (-31), 3) := by decide +kernel
theorem dX0_add_57 : decode cX0_add 57 = .ok (.aload_n 0, 1) := by decide +kernel
theorem dX0_add_58 : decode cX0_add 58 = .ok (.dup, 1) := by decide +kernel
theorem dX0_add_59 : decode cX0_add 59 = .ok (.getfield 24, 3) := by decide +kernel
theorem dX0_add_62 : decode cX0_add 62 = .ok (.iconst 1, 1) := by decide +kernel
theorem dX0_add_63 : decode cX0_add 63 = .ok (.iadd, 1) := by decide +kernel
theorem dX0_add_64 : decode cX0_add 64 = .ok (.putfield 24, 3) := by decide +kernel
theorem dX0_add_67 : decode cX0_add 67 = .ok (.aload_n 0, 1) := by decide +kernel
theorem dX0_add_68 : decode cX0_add 68 = .ok (.getfield 24, 3) := by decide +kernel
theorem dX0_add_71 : decode cX0_add 71 = .ok (.iconst 1, 1) := by decide +kernel
theorem dX0_add_72 : decode cX0_add 72 = .ok (.isub, 1) := by decide +kernel
theorem dX0_add_73 : decode cX0_add 73 = .ok (.ireturn, 1) := by decide +kernel
theorem dX0_putInAll_0 : decode cX0_putInAll 0 = .ok (.iconst 0, 1) := by decide +kernel
theorem dX0_putInAll_1 : decode cX0_putInAll 1 = .ok (.istore_n 3, 1) := by decide +kernel
theorem dX0_putInAll_2 : decode cX0_putInAll 2 = .ok (.iload_n 3, 1) := by decide +kernel
theorem dX0_putInAll_3 : decode cX0_putInAll 3 = .ok (.aload_n 0, 1) := by decide +kernel
theorem dX0_putInAll_4 : decode cX0_putInAll 4 = .ok (.getfield 24, 3) := by decide +kernel
theorem dX0_putInAll_7 : decode cX0_putInAll 7 = .ok (.if_icmp .ge 18, 3) := by decide +kernel
theorem dX0_putInAll_10 : decode cX0_putInAll 10 = .ok (.aload_n 0, 1) := by decide +kernel
theorem dX0_putInAll_11 : decode cX0_putInAll 11 = .ok (.getfield 21, 3) := by decide +kernel
theorem dX0_putInAll_14 : decode cX0_putInAll 14 = .ok (.iload_n 3, 1) := by decide +kernel
theorem dX0_putInAll_15 : decode cX0_putInAll 15 = .ok (.aaload, 1) := by decide +kernel
theorem dX0_putInAll_16 : decode cX0_putInAll 16 = .ok (.iload_n 1, 1) := by decide +kernel
theorem dX0_putInAll_17 : decode cX0_putInAll 17 = .ok (.iload_n 2, 1) := by decide +kernel
theorem dX0_putInAll_18 : decode cX0_putInAll 18 = .ok (.iastore, 1) := by decide +kernel
theorem dX0_putInAll_19 : decode cX0_putInAll 19 = .ok (.iinc 3 1, 3) := by decide +kernel
theorem dX0_putInAll_22 : decode cX0_putInAll 22 = .ok (.goto (-20), 3) := by decide +kernel
theorem dX0_putInAll_25 : decode cX0_putInAll 25 = .ok (.return_, 1) := by decide +kernel
theorem dX0_countCounted_0 : decode cX0_countCounted 0 = .ok (.iconst 0, 1) := by decide +kernel
theorem dX0_countCounted_1 : decode cX0_countCounted 1 = .ok (.istore_n 1, 1) := by decide +kernel
theorem dX0_countCounted_2 : decode cX0_countCounted 2 = .ok (.iconst 0, 1) := by decide +kernel
theorem dX0_countCounted_3 : decode cX0_countCounted 3 = .ok (.istore_n 2, 1) := by decide +kernel
theorem dX0_countCounted_4 : decode cX0_countCounted 4 = .ok (.iload_n 2, 1) := by decide +kernel
theorem dX0_countCounted_5 : decode cX0_countCounted 5 = .ok (.aload_n 0, 1) := by decide +kernel
theorem dX0_countCounted_6 : decode cX0_countCounted 6 = .ok (.getfield 24, 3) := by decide +kernel
theorem dX0_countCounted_9 : decode cX0_countCounted 9 = .ok (.if_icmp .ge 21, 3) := by decide +kernel
theorem dX0_countCounted_12 : decode cX0_countCounted 12 = .ok (.aload_n 0, 1) := by decide +kernel
theorem dX0_countCounted_13 : decode cX0_countCounted 13 = .ok (.getfield 15, 3) := by decide +kernel
theorem dX0_countCounted_16 : decode cX0_countCounted 16 = .ok (.iload_n 2, 1) := by decide +kernel
theorem dX0_countCounted_17 : decode cX0_countCounted 17 = .ok (.baload, 1) := by decide +kernel
theorem dX0_countCounted_18 : decode cX0_countCounted 18 = .ok (.ifCond .ne 6, 3) := by decide +kernel
theorem dX0_countCounted_21 : decode cX0_countCounted 21 = .ok (.iinc 1 1, 3) := by decide +kernel
theorem dX0_countCounted_24 : decode cX0_countCounted 24 = .ok (.iinc 2 1, 3) := by decide +kernel
theorem dX0_countCounted_27 : decode cX0_countCounted 27 = .ok (.goto (-23), 3) := by decide +kernel
theorem dX0_countCounted_30 : decode cX0_countCounted 30 = .ok (.iload_n 1, 1) := by decide +kernel
theorem dX0_countCounted_31 : decode cX0_countCounted 31 = .ok (.ireturn, 1) := by decide +kernel
theorem dX0_countedOdds_0 : decode cX0_countedOdds 0 = .ok (.iconst 0, 1) := by decide +kernel
theorem dX0_countedOdds_1 : decode cX0_countedOdds 1 = .ok (.istore_n 1, 1) := by decide +kernel
theorem dX0_countedOdds_2 : decode cX0_countedOdds 2 = .ok (.iconst 0, 1) := by decide +kernel
theorem dX0_countedOdds_3 : decode cX0_countedOdds 3 = .ok (.istore_n 2, 1) := by decide +kernel
theorem dX0_countedOdds_4 : decode cX0_countedOdds 4 = .ok (.iload_n 2, 1) := by decide +kernel
theorem dX0_countedOdds_5 : decode cX0_countedOdds 5 = .ok (.aload_n 0, 1) := by decide +kernel
theorem dX0_countedOdds_6 : decode cX0_countedOdds 6 = .ok (.getfield 24, 3) := by decide +kernel
theorem dX0_countedOdds_9 : decode cX0_countedOdds 9 = .ok (.if_icmp .ge 27, 3) := by decide +kernel
theorem dX0_countedOdds_12 : decode cX0_countedOdds 12 = .ok (.aload_n 0, 1) := by decide +kernel
theorem dX0_countedOdds_13 : decode cX0_countedOdds 13 = .ok (.getfield 15, 3) := by decide +kernel
theorem dX0_countedOdds_16 : decode cX0_countedOdds 16 = .ok (.iload_n 2, 1) := by decide +kernel
theorem dX0_countedOdds_17 : decode cX0_countedOdds 17 = .ok (.baload, 1) := by decide +kernel
theorem dX0_countedOdds_18 : decode cX0_countedOdds 18 = .ok (.ifCond .ne 12, 3) := by decide +kernel
theorem dX0_countedOdds_21 : decode cX0_countedOdds 21 = .ok (.iload_n 1, 1) := by decide +kernel
theorem dX0_countedOdds_22 : decode cX0_countedOdds 22 = .ok (.aload_n 0, 1) := by decide +kernel
theorem dX0_countedOdds_23 : decode cX0_countedOdds 23 = .ok (.getfield 9, 3) := by decide +kernel
theorem dX0_countedOdds_26 : decode cX0_countedOdds 26 = .ok (.iload_n 2, 1) := by decide +kernel
theorem dX0_countedOdds_27 : decode cX0_countedOdds 27 = .ok (.iaload, 1) := by decide +kernel
theorem dX0_countedOdds_28 : decode cX0_countedOdds 28 = .ok (.iadd, 1) := by decide +kernel
theorem dX0_countedOdds_29 : decode cX0_countedOdds 29 = .ok (.istore_n 1, 1) := by decide +kernel
theorem dX0_countedOdds_30 : decode cX0_countedOdds 30 = .ok (.iinc 2 1, 3) := by decide +kernel
theorem dX0_countedOdds_33 : decode cX0_countedOdds 33 = .ok (.goto (-29), 3) := by decide +kernel
theorem dX0_countedOdds_36 : decode cX0_countedOdds 36 = .ok (.iload_n 1, 1) := by decide +kernel
theorem dX0_countedOdds_37 : decode cX0_countedOdds 37 = .ok (.ireturn, 1) := by decide +kernel
theorem dX1_init_0 : decode cX1_init 0 = .ok (.aload_n 0, 1) := by decide +kernel
theorem dX1_init_1 : decode cX1_init 1 = .ok (.invokespecial 3, 3) := by decide +kernel
theorem dX1_init_4 : decode cX1_init 4 = .ok (.aload_n 0, 1) := by decide +kernel
theorem dX1_init_5 : decode cX1_init 5 = .ok (.bipush 12, 2) := by decide +kernel
theorem dX1_init_7 : decode cX1_init 7 = .ok (.newarray .int, 2) := by decide +kernel
theorem dX1_init_9 : decode cX1_init 9 = .ok (.putfield 9, 3) := by decide +kernel
theorem dX1_init_12 : decode cX1_init 12 = .ok (.aload_n 0, 1) := by decide +kernel
theorem dX1_init_13 : decode cX1_init 13 = .ok (.bipush 12, 2) := by decide +kernel
theorem dX1_init_15 : decode cX1_init 15 = .ok (.newarray .int, 2) := by decide +kernel
theorem dX1_init_17 : decode cX1_init 17 = .ok (.putfield 15, 3) := by decide +kernel
theorem dX1_init_20 : decode cX1_init 20 = .ok (.aload_n 0, 1) := by decide +kernel
theorem dX1_init_21 : decode cX1_init 21 = .ok (.bipush 12, 2) := by decide +kernel
theorem dX1_init_23 : decode cX1_init 23 = .ok (.newarray .int, 2) := by decide +kernel
theorem dX1_init_25 : decode cX1_init 25 = .ok (.putfield 18, 3) := by decide +kernel
theorem dX1_init_28 : decode cX1_init 28 = .ok (.return_, 1) := by decide +kernel
theorem dX1_add_0 : decode cX1_add 0 = .ok (.aload_n 0, 1) := by decide +kernel
theorem dX1_add_1 : decode cX1_add 1 = .ok (.getfield 9, 3) := by decide +kernel
theorem dX1_add_4 : decode cX1_add 4 = .ok (.aload_n 0, 1) := by decide +kernel
theorem dX1_add_5 : decode cX1_add 5 = .ok (.getfield 21, 3) := by decide +kernel
theorem dX1_add_8 : decode cX1_add 8 = .ok (.iload_n 1, 1) := by decide +kernel
theorem dX1_add_9 : decode cX1_add 9 = .ok (.iastore, 1) := by decide +kernel
theorem dX1_add_10 : decode cX1_add 10 = .ok (.aload_n 0, 1) := by decide +kernel
theorem dX1_add_11 : decode cX1_add 11 = .ok (.getfield 15, 3) := by decide +kernel
theorem dX1_add_14 : decode cX1_add 14 = .ok (.aload_n 0, 1) := by decide +kernel
theorem dX1_add_15 : decode cX1_add 15 = .ok (.getfield 21, 3) := by decide +kernel
theorem dX1_add_18 : decode cX1_add 18 = .ok (.iload_n 2, 1) := by decide +kernel
theorem dX1_add_19 : decode cX1_add 19 = .ok (.iastore, 1) := by decide +kernel
theorem dX1_add_20 : decode cX1_add 20 = .ok (.aload_n 0, 1) := by decide +kernel
theorem dX1_add_21 : decode cX1_add 21 = .ok (.getfield 18, 3) := by decide +kernel
theorem dX1_add_24 : decode cX1_add 24 = .ok (.aload_n 0, 1) := by decide +kernel
theorem dX1_add_25 : decode cX1_add 25 = .ok (.getfield 21, 3) := by decide +kernel
theorem dX1_add_28 : decode cX1_add 28 = .ok (.iload_n 3, 1) := by decide +kernel
theorem dX1_add_29 : decode cX1_add 29 = .ok (.iastore, 1) := by decide +kernel
theorem dX1_add_30 : decode cX1_add 30 = .ok (.aload_n 0, 1) := by decide +kernel
theorem dX1_add_31 : decode cX1_add 31 = .ok (.dup, 1) := by decide +kernel
theorem dX1_add_32 : decode cX1_add 32 = .ok (.getfield 21, 3) := by decide +kernel
theorem dX1_add_35 : decode cX1_add 35 = .ok (.iconst 1, 1) := by decide +kernel
theorem dX1_add_36 : decode cX1_add 36 = .ok (.iadd, 1) := by decide +kernel
theorem dX1_add_37 : decode cX1_add 37 = .ok (.putfield 21, 3) := by decide +kernel
theorem dX1_add_40 : decode cX1_add 40 = .ok (.aload_n 0, 1) := by decide +kernel
theorem dX1_add_41 : decode cX1_add 41 = .ok (.getfield 21, 3) := by decide +kernel
theorem dX1_add_44 : decode cX1_add 44 = .ok (.iconst 1, 1) := by decide +kernel
theorem dX1_add_45 : decode cX1_add 45 = .ok (.isub, 1) := by decide +kernel
theorem dX1_add_46 : decode cX1_add 46 = .ok (.ireturn, 1) := by decide +kernel
theorem dX2_init_0 : decode cX2_init 0 = .ok (.aload_n 0, 1) := by decide +kernel
theorem dX2_init_1 : decode cX2_init 1 = .ok (.invokespecial 3, 3) := by decide +kernel
theorem dX2_init_4 : decode cX2_init 4 = .ok (.aload_n 0, 1) := by decide +kernel
theorem dX2_init_5 : decode cX2_init 5 = .ok (.bipush 40, 2) := by decide +kernel
theorem dX2_init_7 : decode cX2_init 7 = .ok (.newarray .int, 2) := by decide +kernel
theorem dX2_init_9 : decode cX2_init 9 = .ok (.putfield 9, 3) := by decide +kernel
theorem dX2_init_12 : decode cX2_init 12 = .ok (.aload_n 0, 1) := by decide +kernel
theorem dX2_init_13 : decode cX2_init 13 = .ok (.bipush 40, 2) := by decide +kernel
theorem dX2_init_15 : decode cX2_init 15 = .ok (.newarray .int, 2) := by decide +kernel
theorem dX2_init_17 : decode cX2_init 17 = .ok (.putfield 15, 3) := by decide +kernel
theorem dX2_init_20 : decode cX2_init 20 = .ok (.aload_n 0, 1) := by decide +kernel
theorem dX2_init_21 : decode cX2_init 21 = .ok (.bipush 40, 2) := by decide +kernel
theorem dX2_init_23 : decode cX2_init 23 = .ok (.newarray .int, 2) := by decide +kernel
theorem dX2_init_25 : decode cX2_init 25 = .ok (.putfield 18, 3) := by decide +kernel
theorem dX2_init_28 : decode cX2_init 28 = .ok (.aload_n 0, 1) := by decide +kernel
theorem dX2_init_29 : decode cX2_init 29 = .ok (.bipush 40, 2) := by decide +kernel
theorem dX2_init_31 : decode cX2_init 31 = .ok (.newarray .int, 2) := by decide +kernel
theorem dX2_init_33 : decode cX2_init 33 = .ok (.putfield 21, 3) := by decide +kernel
theorem dX2_init_36 : decode cX2_init 36 = .ok (.return_, 1) := by decide +kernel
theorem dX2_add_0 : decode cX2_add 0 = .ok (.aload_n 0, 1) := by decide +kernel
theorem dX2_add_1 : decode cX2_add 1 = .ok (.getfield 9, 3) := by decide +kernel
theorem dX2_add_4 : decode cX2_add 4 = .ok (.aload_n 0, 1) := by decide +kernel
theorem dX2_add_5 : decode cX2_add 5 = .ok (.getfield 24, 3) := by decide +kernel
theorem dX2_add_8 : decode cX2_add 8 = .ok (.iload_n 1, 1) := by decide +kernel
theorem dX2_add_9 : decode cX2_add 9 = .ok (.iastore, 1) := by decide +kernel
theorem dX2_add_10 : decode cX2_add 10 = .ok (.aload_n 0, 1) := by decide +kernel
theorem dX2_add_11 : decode cX2_add 11 = .ok (.getfield 15, 3) := by decide +kernel
theorem dX2_add_14 : decode cX2_add 14 = .ok (.aload_n 0, 1) := by decide +kernel
theorem dX2_add_15 : decode cX2_add 15 = .ok (.getfield 24, 3) := by decide +kernel
theorem dX2_add_18 : decode cX2_add 18 = .ok (.iload_n 2, 1) := by decide +kernel
theorem dX2_add_19 : decode cX2_add 19 = .ok (.iastore, 1) := by decide +kernel
theorem dX2_add_20 : decode cX2_add 20 = .ok (.aload_n 0, 1) := by decide +kernel
theorem dX2_add_21 : decode cX2_add 21 = .ok (.getfield 18, 3) := by decide +kernel
theorem dX2_add_24 : decode cX2_add 24 = .ok (.aload_n 0, 1) := by decide +kernel
theorem dX2_add_25 : decode cX2_add 25 = .ok (.getfield 24, 3) := by decide +kernel
theorem dX2_add_28 : decode cX2_add 28 = .ok (.iload_n 3, 1) := by decide +kernel
theorem dX2_add_29 : decode cX2_add 29 = .ok (.iastore, 1) := by decide +kernel
theorem dX2_add_30 : decode cX2_add 30 = .ok (.aload_n 0, 1) := by decide +kernel
theorem dX2_add_31 : decode cX2_add 31 = .ok (.getfield 21, 3) := by decide +kernel
theorem dX2_add_34 : decode cX2_add 34 = .ok (.aload_n 0, 1) := by decide +kernel
theorem dX2_add_35 : decode cX2_add 35 = .ok (.getfield 24, 3) := by decide +kernel
theorem dX2_add_38 : decode cX2_add 38 = .ok (.iload 4, 2) := by decide +kernel
theorem dX2_add_40 : decode cX2_add 40 = .ok (.iastore, 1) := by decide +kernel
theorem dX2_add_41 : decode cX2_add 41 = .ok (.aload_n 0, 1) := by decide +kernel
theorem dX2_add_42 : decode cX2_add 42 = .ok (.dup, 1) := by decide +kernel
theorem dX2_add_43 : decode cX2_add 43 = .ok (.getfield 24, 3) := by decide +kernel
theorem dX2_add_46 : decode cX2_add 46 = .ok (.iconst 1, 1) := by decide +kernel
theorem dX2_add_47 : decode cX2_add 47 = .ok (.iadd, 1) := by decide +kernel
theorem dX2_add_48 : decode cX2_add 48 = .ok (.putfield 24, 3) := by decide +kernel
theorem dX2_add_51 : decode cX2_add 51 = .ok (.aload_n 0, 1) := by decide +kernel
theorem dX2_add_52 : decode cX2_add 52 = .ok (.getfield 24, 3) := by decide +kernel
theorem dX2_add_55 : decode cX2_add 55 = .ok (.ireturn, 1) := by decide +kernel
set_option maxRecDepth 20000 in
theorem ggX2_sumUp_X2_isTaken : GoodIn wsX2_sumUp wsX2_isTaken := goodIn_r _ [9, 10, 14, 15, 16, 17, 18] (by decide +kernel) (by decide +kernel)
set_option maxRecDepth 20000 in
theorem gX2_sumUp_X2_isTaken : GoodIn wsX2_sumUp (wsV RX2 28 RX2 yX2_isTaken wsX2_isTaken) := goodIn_app (goodIn_of _ (by decide +kernel)) ggX2_sumUp_X2_isTaken
set_option maxRecDepth 20000 in
theorem ggX2_sumUp_X3_slotOf : GoodIn wsX2_sumUp wsX3_slotOf := goodIn_r _ [13] (by decide +kernel) (by decide +kernel)
set_option maxRecDepth 20000 in
theorem gX2_sumUp_X3_slotOf_n32 : GoodIn wsX2_sumUp (wsX3_slotOf) := ggX2_sumUp_X3_slotOf
theorem dX2_sumUp_0 : decode cX2_sumUp 0 = .ok (.iconst 0, 1) := by decide +kernel
theorem dX2_sumUp_1 : decode cX2_sumUp 1 = .ok (.istore 4, 2) := by decide +kernel
theorem dX2_sumUp_3 : decode cX2_sumUp 3 = .ok (.iload 4, 2) := by decide +kernel
theorem dX2_sumUp_5 : decode cX2_sumUp 5 = .ok (.aload_n 3, 1) := by decide +kernel
theorem dX2_sumUp_6 : decode cX2_sumUp 6 = .ok (.arraylength, 1) := by decide +kernel
theorem dX2_sumUp_7 : decode cX2_sumUp 7 = .ok (.if_icmp .ge 14, 3) := by decide +kernel
theorem dX2_sumUp_10 : decode cX2_sumUp 10 = .ok (.aload_n 3, 1) := by decide +kernel
theorem dX2_sumUp_11 : decode cX2_sumUp 11 = .ok (.iload 4, 2) := by decide +kernel
theorem dX2_sumUp_13 : decode cX2_sumUp 13 = .ok (.iconst 0, 1) := by decide +kernel
theorem dX2_sumUp_14 : decode cX2_sumUp 14 = .ok (.iastore, 1) := by decide +kernel
theorem dX2_sumUp_15 : decode cX2_sumUp 15 = .ok (.iinc 4 1, 3) := by decide +kernel
theorem dX2_sumUp_18 : decode cX2_sumUp 18 = .ok (.goto (-15), 3) := by decide +kernel
theorem dX2_sumUp_21 : decode cX2_sumUp 21 = .ok (.iconst 0, 1) := by decide +kernel
theorem dX2_sumUp_22 : decode cX2_sumUp 22 = .ok (.istore 4, 2) := by decide +kernel
theorem dX2_sumUp_24 : decode cX2_sumUp 24 = .ok (.iload 4, 2) := by decide +kernel
theorem dX2_sumUp_26 : decode cX2_sumUp 26 = .ok (.aload_n 0, 1) := by decide +kernel
theorem dX2_sumUp_27 : decode cX2_sumUp 27 = .ok (.getfield 24, 3) := by decide +kernel
theorem dX2_sumUp_30 : decode cX2_sumUp 30 = .ok (.if_icmp .ge 73, 3) := by decide +kernel
theorem dX2_sumUp_33 : decode cX2_sumUp 33 = .ok (.aload_n 0, 1) := by decide +kernel
theorem dX2_sumUp_34 : decode cX2_sumUp 34 = .ok (.iload 4, 2) := by decide +kernel
theorem dX2_sumUp_36 : decode cX2_sumUp 36 = .ok (.iload_n 1, 1) := by decide +kernel
theorem dX2_sumUp_37 : decode cX2_sumUp 37 = .ok (.invokevirtual 28, 3) := by decide +kernel
theorem dX2_sumUp_40 : decode cX2_sumUp 40 = .ok (.ifCond .ne 6, 3) := by decide +kernel
theorem dX2_sumUp_43 : decode cX2_sumUp 43 = .ok (.goto 54, 3) := by decide +kernel
theorem dX2_sumUp_46 : decode cX2_sumUp 46 = .ok (.aload_n 0, 1) := by decide +kernel
theorem dX2_sumUp_47 : decode cX2_sumUp 47 = .ok (.getfield 18, 3) := by decide +kernel
theorem dX2_sumUp_50 : decode cX2_sumUp 50 = .ok (.iload 4, 2) := by decide +kernel
theorem dX2_sumUp_52 : decode cX2_sumUp 52 = .ok (.iaload, 1) := by decide +kernel
theorem dX2_sumUp_53 : decode cX2_sumUp 53 = .ok (.iconst (-1), 1) := by decide +kernel
theorem dX2_sumUp_54 : decode cX2_sumUp 54 = .ok (.if_icmp .ne 7, 3) := by decide +kernel
theorem dX2_sumUp_57 : decode cX2_sumUp 57 = .ok (.iconst 1, 1) := by decide +kernel
theorem dX2_sumUp_58 : decode cX2_sumUp 58 = .ok (.goto 12, 3) := by decide +kernel
theorem dX2_sumUp_61 : decode cX2_sumUp 61 = .ok (.aload_n 2, 1) := by decide +kernel
theorem dX2_sumUp_62 : decode cX2_sumUp 62 = .ok (.aload_n 0, 1) := by decide +kernel
theorem dX2_sumUp_63 : decode cX2_sumUp 63 = .ok (.getfield 18, 3) := by decide +kernel
theorem dX2_sumUp_66 : decode cX2_sumUp 66 = .ok (.iload 4, 2) := by decide +kernel
theorem dX2_sumUp_68 : decode cX2_sumUp 68 = .ok (.iaload, 1) := by decide +kernel
theorem dX2_sumUp_69 : decode cX2_sumUp 69 = .ok (.iaload, 1) := by decide +kernel
theorem dX2_sumUp_70 : decode cX2_sumUp 70 = .ok (.istore 5, 2) := by decide +kernel
theorem dX2_sumUp_72 : decode cX2_sumUp 72 = .ok (.aload_n 3, 1) := by decide +kernel
theorem dX2_sumUp_73 : decode cX2_sumUp 73 = .ok (.aload_n 0, 1) := by decide +kernel
theorem dX2_sumUp_74 : decode cX2_sumUp 74 = .ok (.getfield 9, 3) := by decide +kernel
theorem dX2_sumUp_77 : decode cX2_sumUp 77 = .ok (.iload 4, 2) := by decide +kernel
theorem dX2_sumUp_79 : decode cX2_sumUp 79 = .ok (.iaload, 1) := by decide +kernel
theorem dX2_sumUp_80 : decode cX2_sumUp 80 = .ok (.invokestatic 32, 3) := by decide +kernel
theorem dX2_sumUp_83 : decode cX2_sumUp 83 = .ok (.dup2, 1) := by decide +kernel
theorem dX2_sumUp_84 : decode cX2_sumUp 84 = .ok (.iaload, 1) := by decide +kernel
theorem dX2_sumUp_85 : decode cX2_sumUp 85 = .ok (.aload_n 0, 1) := by decide +kernel
theorem dX2_sumUp_86 : decode cX2_sumUp 86 = .ok (.getfield 21, 3) := by decide +kernel
theorem dX2_sumUp_89 : decode cX2_sumUp 89 = .ok (.iload 4, 2) := by decide +kernel
theorem dX2_sumUp_91 : decode cX2_sumUp 91 = .ok (.iaload, 1) := by decide +kernel
theorem dX2_sumUp_92 : decode cX2_sumUp 92 = .ok (.iload 5, 2) := by decide +kernel
theorem dX2_sumUp_94 : decode cX2_sumUp 94 = .ok (.imul, 1) := by decide +kernel
theorem dX2_sumUp_95 : decode cX2_sumUp 95 = .ok (.iadd, 1) := by decide +kernel
theorem dX2_sumUp_96 : decode cX2_sumUp 96 = .ok (.iastore, 1) := by decide +kernel
theorem dX2_sumUp_97 : decode cX2_sumUp 97 = .ok (.iinc 4 1, 3) := by decide +kernel
theorem dX2_sumUp_100 : decode cX2_sumUp 100 = .ok (.goto (-76), 3) := by decide +kernel
theorem dX2_sumUp_103 : decode cX2_sumUp 103 = .ok (.return_, 1) := by decide +kernel
set_option maxRecDepth 20000 in
theorem ggX2_weigh_X2_isTaken : GoodIn wsX2_weigh wsX2_isTaken := goodIn_r _ [9, 10, 11, 12, 13, 14, 15] (by decide +kernel) (by decide +kernel)
set_option maxRecDepth 20000 in
theorem gX2_weigh_X2_isTaken : GoodIn wsX2_weigh (wsV RX2 28 RX2 yX2_isTaken wsX2_isTaken) := goodIn_app (goodIn_of _ (by decide +kernel)) ggX2_weigh_X2_isTaken
theorem dX2_weigh_0 : decode cX2_weigh 0 = .ok (.iconst 0, 1) := by decide +kernel
theorem dX2_weigh_1 : decode cX2_weigh 1 = .ok (.istore 4, 2) := by decide +kernel
theorem dX2_weigh_3 : decode cX2_weigh 3 = .ok (.iload 4, 2) := by decide +kernel
theorem dX2_weigh_5 : decode cX2_weigh 5 = .ok (.aload_n 3, 1) := by decide +kernel
theorem dX2_weigh_6 : decode cX2_weigh 6 = .ok (.arraylength, 1) := by decide +kernel
theorem dX2_weigh_7 : decode cX2_weigh 7 = .ok (.if_icmp .ge 14, 3) := by decide +kernel
theorem dX2_weigh_10 : decode cX2_weigh 10 = .ok (.aload_n 3, 1) := by decide +kernel
theorem dX2_weigh_11 : decode cX2_weigh 11 = .ok (.iload 4, 2) := by decide +kernel
theorem dX2_weigh_13 : decode cX2_weigh 13 = .ok (.iconst 0, 1) := by decide +kernel
theorem dX2_weigh_14 : decode cX2_weigh 14 = .ok (.iastore, 1) := by decide +kernel
theorem dX2_weigh_15 : decode cX2_weigh 15 = .ok (.iinc 4 1, 3) := by decide +kernel
theorem dX2_weigh_18 : decode cX2_weigh 18 = .ok (.goto (-15), 3) := by decide +kernel
theorem dX2_weigh_21 : decode cX2_weigh 21 = .ok (.iconst 0, 1) := by decide +kernel
theorem dX2_weigh_22 : decode cX2_weigh 22 = .ok (.istore 4, 2) := by decide +kernel
theorem dX2_weigh_24 : decode cX2_weigh 24 = .ok (.iconst 0, 1) := by decide +kernel
theorem dX2_weigh_25 : decode cX2_weigh 25 = .ok (.istore 5, 2) := by decide +kernel
theorem dX2_weigh_27 : decode cX2_weigh 27 = .ok (.iload 5, 2) := by decide +kernel
theorem dX2_weigh_29 : decode cX2_weigh 29 = .ok (.aload_n 0, 1) := by decide +kernel
theorem dX2_weigh_30 : decode cX2_weigh 30 = .ok (.getfield 24, 3) := by decide +kernel
theorem dX2_weigh_33 : decode cX2_weigh 33 = .ok (.if_icmp .ge 78, 3) := by decide +kernel
theorem dX2_weigh_36 : decode cX2_weigh 36 = .ok (.aload_n 0, 1) := by decide +kernel
theorem dX2_weigh_37 : decode cX2_weigh 37 = .ok (.getfield 9, 3) := by decide +kernel
theorem dX2_weigh_40 : decode cX2_weigh 40 = .ok (.iload 5, 2) := by decide +kernel
theorem dX2_weigh_42 : decode cX2_weigh 42 = .ok (.iaload, 1) := by decide +kernel
theorem dX2_weigh_43 : decode cX2_weigh 43 = .ok (.iload_n 2, 1) := by decide +kernel
theorem dX2_weigh_44 : decode cX2_weigh 44 = .ok (.if_icmp .ne 61, 3) := by decide +kernel
theorem dX2_weigh_47 : decode cX2_weigh 47 = .ok (.aload_n 0, 1) := by decide +kernel
theorem dX2_weigh_48 : decode cX2_weigh 48 = .ok (.iload 5, 2) := by decide +kernel
theorem dX2_weigh_50 : decode cX2_weigh 50 = .ok (.iload_n 1, 1) := by decide +kernel
theorem dX2_weigh_51 : decode cX2_weigh 51 = .ok (.invokevirtual 28, 3) := by decide +kernel
theorem dX2_weigh_54 : decode cX2_weigh 54 = .ok (.ifCond .ne 6, 3) := by decide +kernel
theorem dX2_weigh_57 : decode cX2_weigh 57 = .ok (.goto 48, 3) := by decide +kernel
theorem dX2_weigh_60 : decode cX2_weigh 60 = .ok (.aload_n 0, 1) := by decide +kernel
theorem dX2_weigh_61 : decode cX2_weigh 61 = .ok (.getfield 18, 3) := by decide +kernel
theorem dX2_weigh_64 : decode cX2_weigh 64 = .ok (.iload 5, 2) := by decide +kernel
theorem dX2_weigh_66 : decode cX2_weigh 66 = .ok (.iaload, 1) := by decide +kernel
theorem dX2_weigh_67 : decode cX2_weigh 67 = .ok (.iconst (-1), 1) := by decide +kernel
theorem dX2_weigh_68 : decode cX2_weigh 68 = .ok (.if_icmp .ne 18, 3) := by decide +kernel
theorem dX2_weigh_71 : decode cX2_weigh 71 = .ok (.iload 4, 2) := by decide +kernel
theorem dX2_weigh_73 : decode cX2_weigh 73 = .ok (.aload_n 0, 1) := by decide +kernel
theorem dX2_weigh_74 : decode cX2_weigh 74 = .ok (.getfield 21, 3) := by decide +kernel
theorem dX2_weigh_77 : decode cX2_weigh 77 = .ok (.iload 5, 2) := by decide +kernel
theorem dX2_weigh_79 : decode cX2_weigh 79 = .ok (.iaload, 1) := by decide +kernel
theorem dX2_weigh_80 : decode cX2_weigh 80 = .ok (.iadd, 1) := by decide +kernel
theorem dX2_weigh_81 : decode cX2_weigh 81 = .ok (.istore 4, 2) := by decide +kernel
theorem dX2_weigh_83 : decode cX2_weigh 83 = .ok (.goto 22, 3) := by decide +kernel
theorem dX2_weigh_86 : decode cX2_weigh 86 = .ok (.aload_n 3, 1) := by decide +kernel
theorem dX2_weigh_87 : decode cX2_weigh 87 = .ok (.aload_n 0, 1) := by decide +kernel
theorem dX2_weigh_88 : decode cX2_weigh 88 = .ok (.getfield 18, 3) := by decide +kernel
theorem dX2_weigh_91 : decode cX2_weigh 91 = .ok (.iload 5, 2) := by decide +kernel
theorem dX2_weigh_93 : decode cX2_weigh 93 = .ok (.iaload, 1) := by decide +kernel
theorem dX2_weigh_94 : decode cX2_weigh 94 = .ok (.dup2, 1) := by decide +kernel
theorem dX2_weigh_95 : decode cX2_weigh 95 = .ok (.iaload, 1) := by decide +kernel
theorem dX2_weigh_96 : decode cX2_weigh 96 = .ok (.aload_n 0, 1) := by decide +kernel
theorem dX2_weigh_97 : decode cX2_weigh 97 = .ok (.getfield 21, 3) := by decide +kernel
theorem dX2_weigh_100 : decode cX2_weigh 100 = .ok (.iload 5, 2) := by decide +kernel
theorem dX2_weigh_102 : decode cX2_weigh 102 = .ok (.iaload, 1) := by decide +kernel
theorem dX2_weigh_103 : decode cX2_weigh 103 = .ok (.iadd, 1) := by decide +kernel
theorem dX2_weigh_104 : decode cX2_weigh 104 = .ok (.iastore, 1) := by decide +kernel
theorem dX2_weigh_105 : decode cX2_weigh 105 = .ok (.iinc 5 1, 3) := by decide +kernel
theorem dX2_weigh_108 : decode cX2_weigh 108 = .ok (.goto (-81), 3) := by decide +kernel
theorem dX2_weigh_111 : decode cX2_weigh 111 = .ok (.iload 4, 2) := by decide +kernel
theorem dX2_weigh_113 : decode cX2_weigh 113 = .ok (.ireturn, 1) := by decide +kernel
theorem dX2_isTaken_0 : decode cX2_isTaken 0 = .ok (.aload_n 0, 1) := by decide +kernel
theorem dX2_isTaken_1 : decode cX2_isTaken 1 = .ok (.getfield 15, 3) := by decide +kernel
theorem dX2_isTaken_4 : decode cX2_isTaken 4 = .ok (.iload_n 1, 1) := by decide +kernel
theorem dX2_isTaken_5 : decode cX2_isTaken 5 = .ok (.iaload, 1) := by decide +kernel
theorem dX2_isTaken_6 : decode cX2_isTaken 6 = .ok (.iconst (-1), 1) := by decide +kernel
theorem dX2_isTaken_7 : decode cX2_isTaken 7 = .ok (.if_icmp .eq 17, 3) := by decide +kernel
theorem dX2_isTaken_10 : decode cX2_isTaken 10 = .ok (.iload_n 2, 1) := by decide +kernel
theorem dX2_isTaken_11 : decode cX2_isTaken 11 = .ok (.aload_n 0, 1) := by decide +kernel
theorem dX2_isTaken_12 : decode cX2_isTaken 12 = .ok (.getfield 15, 3) := by decide +kernel
theorem dX2_isTaken_15 : decode cX2_isTaken 15 = .ok (.iload_n 1, 1) := by decide +kernel
theorem dX2_isTaken_16 : decode cX2_isTaken 16 = .ok (.iaload, 1) := by decide +kernel
theorem dX2_isTaken_17 : decode cX2_isTaken 17 = .ok (.ishr, 1) := by decide +kernel
theorem dX2_isTaken_18 : decode cX2_isTaken 18 = .ok (.iconst 1, 1) := by decide +kernel
theorem dX2_isTaken_19 : decode cX2_isTaken 19 = .ok (.iand, 1) := by decide +kernel
theorem dX2_isTaken_20 : decode cX2_isTaken 20 = .ok (.iconst 1, 1) := by decide +kernel
theorem dX2_isTaken_21 : decode cX2_isTaken 21 = .ok (.if_icmp .ne 7, 3) := by decide +kernel
theorem dX2_isTaken_24 : decode cX2_isTaken 24 = .ok (.iconst 1, 1) := by decide +kernel
theorem dX2_isTaken_25 : decode cX2_isTaken 25 = .ok (.goto 4, 3) := by decide +kernel
theorem dX2_isTaken_28 : decode cX2_isTaken 28 = .ok (.iconst 0, 1) := by decide +kernel
theorem dX2_isTaken_29 : decode cX2_isTaken 29 = .ok (.ireturn, 1) := by decide +kernel
theorem dJ9_abs_0f7a4_0 : decode cJ9_abs_0f7a4 0 = .ok (.iload_n 0, 1) := by decide +kernel
theorem dJ9_abs_0f7a4_1 : decode cJ9_abs_0f7a4 1 = .ok (.ifCond .ge 8, 3) := by decide +kernel
theorem dJ9_abs_0f7a4_4 : decode cJ9_abs_0f7a4 4 = .ok (.iload_n 0, 1) := by decide +kernel
theorem dJ9_abs_0f7a4_5 : decode cJ9_abs_0f7a4 5 = .ok (.ineg, 1) := by decide +kernel
theorem dJ9_abs_0f7a4_6 : decode cJ9_abs_0f7a4 6 = .ok (.goto 4, 3) := by decide +kernel
theorem dJ9_abs_0f7a4_9 : decode cJ9_abs_0f7a4 9 = .ok (.iload_n 0, 1) := by decide +kernel
theorem dJ9_abs_0f7a4_10 : decode cJ9_abs_0f7a4 10 = .ok (.ireturn, 1) := by decide +kernel
theorem dJ9_max_7cf53_0 : decode cJ9_max_7cf53 0 = .ok (.iload_n 0, 1) := by decide +kernel
theorem dJ9_max_7cf53_1 : decode cJ9_max_7cf53 1 = .ok (.iload_n 1, 1) := by decide +kernel
theorem dJ9_max_7cf53_2 : decode cJ9_max_7cf53 2 = .ok (.if_icmp .lt 7, 3) := by decide +kernel
theorem dJ9_max_7cf53_5 : decode cJ9_max_7cf53 5 = .ok (.iload_n 0, 1) := by decide +kernel
theorem dJ9_max_7cf53_6 : decode cJ9_max_7cf53 6 = .ok (.goto 4, 3) := by decide +kernel
theorem dJ9_max_7cf53_9 : decode cJ9_max_7cf53 9 = .ok (.iload_n 1, 1) := by decide +kernel
theorem dJ9_max_7cf53_10 : decode cJ9_max_7cf53 10 = .ok (.ireturn, 1) := by decide +kernel
