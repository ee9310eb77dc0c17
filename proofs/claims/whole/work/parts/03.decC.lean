theorem dX0_init_0 : decode cX0_init 0 = .ok (.aload_n 0, 1) := by decide +kernel
theorem dX0_init_1 : decode cX0_init 1 = .ok (.invokespecial 3, 3) := by decide +kernel
theorem dX0_init_4 : decode cX0_init 4 = .ok (.aload_n 0, 1) := by decide +kernel
theorem dX0_init_5 : decode cX0_init 5 = .ok (.bipush 16, 2) := by decide +kernel
theorem dX0_init_7 : decode cX0_init 7 = .ok (.newarray .int, 2) := by decide +kernel
theorem dX0_init_9 : decode cX0_init 9 = .ok (.putfield 9, 3) := by decide +kernel
theorem dX0_init_12 : decode cX0_init 12 = .ok (.aload_n 0, 1) := by decide +kernel
theorem dX0_init_13 : decode cX0_init 13 = .ok (.iconst 0, 1) := by decide +kernel
theorem dX0_init_14 : decode cX0_init 14 = .ok (.putfield 15, 3) := by decide +kernel
theorem dX0_init_17 : decode cX0_init 17 = .ok (.aload_n 0, 1) := by decide +kernel
theorem dX0_init_18 : decode cX0_init 18 = .ok (.aload_n 1, 1) := by decide +kernel
theorem dX0_init_19 : decode cX0_init 19 = .ok (.putfield 19, 3) := by decide +kernel
theorem dX0_init_22 : decode cX0_init 22 = .ok (.return_, 1) := by decide +kernel
theorem dX0_begin_0 : decode cX0_begin 0 = .ok (.aload_n 0, 1) := by decide +kernel
theorem dX0_begin_1 : decode cX0_begin 1 = .ok (.getfield 15, 3) := by decide +kernel
theorem dX0_begin_4 : decode cX0_begin 4 = .ok (.bipush 16, 2) := by decide +kernel
theorem dX0_begin_6 : decode cX0_begin 6 = .ok (.if_icmp .ge 23, 3) := by decide +kernel
theorem dX0_begin_9 : decode cX0_begin 9 = .ok (.aload_n 0, 1) := by decide +kernel
theorem dX0_begin_10 : decode cX0_begin 10 = .ok (.getfield 9, 3) := by decide +kernel
theorem dX0_begin_13 : decode cX0_begin 13 = .ok (.aload_n 0, 1) := by decide +kernel
theorem dX0_begin_14 : decode cX0_begin 14 = .ok (.getfield 15, 3) := by decide +kernel
theorem dX0_begin_17 : decode cX0_begin 17 = .ok (.iload_n 1, 1) := by decide +kernel
theorem dX0_begin_18 : decode cX0_begin 18 = .ok (.iastore, 1) := by decide +kernel
theorem dX0_begin_19 : decode cX0_begin 19 = .ok (.aload_n 0, 1) := by decide +kernel
theorem dX0_begin_20 : decode cX0_begin 20 = .ok (.dup, 1) := by decide +kernel
theorem dX0_begin_21 : decode cX0_begin 21 = .ok (.getfield 15, 3) := by decide +kernel
theorem dX0_begin_24 : decode cX0_begin 24 = .ok (.iconst 1, 1) := by decide +kernel
theorem dX0_begin_25 : decode cX0_begin 25 = .ok (.iadd, 1) := by decide +kernel
theorem dX0_begin_26 : decode cX0_begin 26 = .ok (.putfield 15, 3) := by decide +kernel
theorem dX0_begin_29 : decode cX0_begin 29 = .ok (.return_, 1) := by decide +kernel
theorem dX0_costOf_0 : decode cX0_costOf 0 = .ok (.aload_n 0, 1) := by decide +kernel
theorem dX0_costOf_1 : decode cX0_costOf 1 = .ok (.getfield 19, 3) := by decide +kernel
theorem dX0_costOf_4 : decode cX0_costOf 4 = .ok (.iload_n 1, 1) := by decide +kernel
theorem dX0_costOf_5 : decode cX0_costOf 5 = .ok (.invokevirtual 23, 3) := by decide +kernel
theorem dX0_costOf_8 : decode cX0_costOf 8 = .ok (.tableswitch 45 1 3 #[28, 34, 40], 28) := by decide +kernel
theorem dX0_costOf_36 : decode cX0_costOf 36 = .ok (.aload_n 0, 1) := by decide +kernel
theorem dX0_costOf_37 : decode cX0_costOf 37 = .ok (.iload_n 1, 1) := by decide +kernel
theorem dX0_costOf_38 : decode cX0_costOf 38 = .ok (.invokevirtual 29, 3) := by decide +kernel
theorem dX0_costOf_41 : decode cX0_costOf 41 = .ok (.ireturn, 1) := by decide +kernel
theorem dX0_costOf_42 : decode cX0_costOf 42 = .ok (.aload_n 0, 1) := by decide +kernel
theorem dX0_costOf_43 : decode cX0_costOf 43 = .ok (.iload_n 1, 1) := by decide +kernel
theorem dX0_costOf_44 : decode cX0_costOf 44 = .ok (.invokevirtual 32, 3) := by decide +kernel
theorem dX0_costOf_47 : decode cX0_costOf 47 = .ok (.ireturn, 1) := by decide +kernel
theorem dX0_costOf_48 : decode cX0_costOf 48 = .ok (.aload_n 0, 1) := by decide +kernel
theorem dX0_costOf_49 : decode cX0_costOf 49 = .ok (.invokevirtual 35, 3) := by decide +kernel
theorem dX0_costOf_52 : decode cX0_costOf 52 = .ok (.ireturn, 1) := by decide +kernel
theorem dX0_costOf_53 : decode cX0_costOf 53 = .ok (.aload_n 0, 1) := by decide +kernel
theorem dX0_costOf_54 : decode cX0_costOf 54 = .ok (.iload_n 1, 1) := by decide +kernel
theorem dX0_costOf_55 : decode cX0_costOf 55 = .ok (.invokevirtual 39, 3) := by decide +kernel
theorem dX0_costOf_58 : decode cX0_costOf 58 = .ok (.ireturn, 1) := by decide +kernel
theorem dX0_lentCost_0 : decode cX0_lentCost 0 = .ok (.aload_n 0, 1) := by decide +kernel
theorem dX0_lentCost_1 : decode cX0_lentCost 1 = .ok (.bipush 10, 2) := by decide +kernel
theorem dX0_lentCost_3 : decode cX0_lentCost 3 = .ok (.invokevirtual 42, 3) := by decide +kernel
theorem dX0_lentCost_6 : decode cX0_lentCost 6 = .ok (.aload_n 0, 1) := by decide +kernel
theorem dX0_lentCost_7 : decode cX0_lentCost 7 = .ok (.getfield 19, 3) := by decide +kernel
theorem dX0_lentCost_10 : decode cX0_lentCost 10 = .ok (.getfield 46, 3) := by decide +kernel
theorem dX0_lentCost_13 : decode cX0_lentCost 13 = .ok (.iload_n 1, 1) := by decide +kernel
theorem dX0_lentCost_14 : decode cX0_lentCost 14 = .ok (.iaload, 1) := by decide +kernel
theorem dX0_lentCost_15 : decode cX0_lentCost 15 = .ok (.ireturn, 1) := by decide +kernel
theorem dX0_costOfShort_0 : decode cX0_costOfShort 0 = .ok (.aload_n 0, 1) := by decide +kernel
theorem dX0_costOfShort_1 : decode cX0_costOfShort 1 = .ok (.bipush 11, 2) := by decide +kernel
theorem dX0_costOfShort_3 : decode cX0_costOfShort 3 = .ok (.invokevirtual 42, 3) := by decide +kernel
theorem dX0_costOfShort_6 : decode cX0_costOfShort 6 = .ok (.iconst 2, 1) := by decide +kernel
theorem dX0_costOfShort_7 : decode cX0_costOfShort 7 = .ok (.aload_n 0, 1) := by decide +kernel
theorem dX0_costOfShort_8 : decode cX0_costOfShort 8 = .ok (.iload_n 1, 1) := by decide +kernel
theorem dX0_costOfShort_9 : decode cX0_costOfShort 9 = .ok (.invokevirtual 39, 3) := by decide +kernel
theorem dX0_costOfShort_12 : decode cX0_costOfShort 12 = .ok (.imul, 1) := by decide +kernel
theorem dX0_costOfShort_13 : decode cX0_costOfShort 13 = .ok (.ireturn, 1) := by decide +kernel
theorem dX0_costOfPoint_0 : decode cX0_costOfPoint 0 = .ok (.aload_n 0, 1) := by decide +kernel
theorem dX0_costOfPoint_1 : decode cX0_costOfPoint 1 = .ok (.bipush 12, 2) := by decide +kernel
theorem dX0_costOfPoint_3 : decode cX0_costOfPoint 3 = .ok (.invokevirtual 42, 3) := by decide +kernel
theorem dX0_costOfPoint_6 : decode cX0_costOfPoint 6 = .ok (.aload_n 0, 1) := by decide +kernel
theorem dX0_costOfPoint_7 : decode cX0_costOfPoint 7 = .ok (.iload_n 1, 1) := by decide +kernel
theorem dX0_costOfPoint_8 : decode cX0_costOfPoint 8 = .ok (.invokevirtual 29, 3) := by decide +kernel
theorem dX0_costOfPoint_11 : decode cX0_costOfPoint 11 = .ok (.aload_n 0, 1) := by decide +kernel
theorem dX0_costOfPoint_12 : decode cX0_costOfPoint 12 = .ok (.iload_n 1, 1) := by decide +kernel
theorem dX0_costOfPoint_13 : decode cX0_costOfPoint 13 = .ok (.invokevirtual 49, 3) := by decide +kernel
theorem dX0_costOfPoint_16 : decode cX0_costOfPoint 16 = .ok (.iadd, 1) := by decide +kernel
theorem dX0_costOfPoint_17 : decode cX0_costOfPoint 17 = .ok (.ireturn, 1) := by decide +kernel
theorem dX0_costOfOpen_0 : decode cX0_costOfOpen 0 = .ok (.aload_n 0, 1) := by decide +kernel
theorem dX0_costOfOpen_1 : decode cX0_costOfOpen 1 = .ok (.bipush 13, 2) := by decide +kernel
theorem dX0_costOfOpen_3 : decode cX0_costOfOpen 3 = .ok (.invokevirtual 42, 3) := by decide +kernel
theorem dX0_costOfOpen_6 : decode cX0_costOfOpen 6 = .ok (.iconst 0, 1) := by decide +kernel
theorem dX0_costOfOpen_7 : decode cX0_costOfOpen 7 = .ok (.ireturn, 1) := by decide +kernel
theorem dX0_markOf_0 : decode cX0_markOf 0 = .ok (.aload_n 0, 1) := by decide +kernel
theorem dX0_markOf_1 : decode cX0_markOf 1 = .ok (.getfield 19, 3) := by decide +kernel
theorem dX0_markOf_4 : decode cX0_markOf 4 = .ok (.iload_n 1, 1) := by decide +kernel
theorem dX0_markOf_5 : decode cX0_markOf 5 = .ok (.invokevirtual 23, 3) := by decide +kernel
theorem dX0_markOf_8 : decode cX0_markOf 8 = .ok (.tableswitch 40 1 3 #[28, 28, 34], 28) := by decide +kernel
theorem dX0_markOf_36 : decode cX0_markOf 36 = .ok (.aload_n 0, 1) := by decide +kernel
theorem dX0_markOf_37 : decode cX0_markOf 37 = .ok (.iload_n 1, 1) := by decide +kernel
theorem dX0_markOf_38 : decode cX0_markOf 38 = .ok (.invokevirtual 52, 3) := by decide +kernel
theorem dX0_markOf_41 : decode cX0_markOf 41 = .ok (.ireturn, 1) := by decide +kernel
theorem dX0_markOf_42 : decode cX0_markOf 42 = .ok (.aload_n 0, 1) := by decide +kernel
theorem dX0_markOf_43 : decode cX0_markOf 43 = .ok (.iload_n 1, 1) := by decide +kernel
theorem dX0_markOf_44 : decode cX0_markOf 44 = .ok (.invokevirtual 55, 3) := by decide +kernel
theorem dX0_markOf_47 : decode cX0_markOf 47 = .ok (.ireturn, 1) := by decide +kernel
theorem dX0_markOf_48 : decode cX0_markOf 48 = .ok (.aload_n 0, 1) := by decide +kernel
theorem dX0_markOf_49 : decode cX0_markOf 49 = .ok (.iload_n 1, 1) := by decide +kernel
theorem dX0_markOf_50 : decode cX0_markOf 50 = .ok (.invokevirtual 58, 3) := by decide +kernel
theorem dX0_markOf_53 : decode cX0_markOf 53 = .ok (.ireturn, 1) := by decide +kernel
theorem dX0_lentMark_0 : decode cX0_lentMark 0 = .ok (.aload_n 0, 1) := by decide +kernel
theorem dX0_lentMark_1 : decode cX0_lentMark 1 = .ok (.bipush 20, 2) := by decide +kernel
theorem dX0_lentMark_3 : decode cX0_lentMark 3 = .ok (.invokevirtual 42, 3) := by decide +kernel
theorem dX0_lentMark_6 : decode cX0_lentMark 6 = .ok (.aload_n 0, 1) := by decide +kernel
theorem dX0_lentMark_7 : decode cX0_lentMark 7 = .ok (.getfield 19, 3) := by decide +kernel
theorem dX0_lentMark_10 : decode cX0_lentMark 10 = .ok (.getfield 61, 3) := by decide +kernel
theorem dX0_lentMark_13 : decode cX0_lentMark 13 = .ok (.iload_n 1, 1) := by decide +kernel
theorem dX0_lentMark_14 : decode cX0_lentMark 14 = .ok (.iaload, 1) := by decide +kernel
theorem dX0_lentMark_15 : decode cX0_lentMark 15 = .ok (.ireturn, 1) := by decide +kernel
theorem dX0_markOfShort_0 : decode cX0_markOfShort 0 = .ok (.aload_n 0, 1) := by decide +kernel
theorem dX0_markOfShort_1 : decode cX0_markOfShort 1 = .ok (.bipush 21, 2) := by decide +kernel
theorem dX0_markOfShort_3 : decode cX0_markOfShort 3 = .ok (.invokevirtual 42, 3) := by decide +kernel
theorem dX0_markOfShort_6 : decode cX0_markOfShort 6 = .ok (.aload_n 0, 1) := by decide +kernel
theorem dX0_markOfShort_7 : decode cX0_markOfShort 7 = .ok (.iload_n 1, 1) := by decide +kernel
theorem dX0_markOfShort_8 : decode cX0_markOfShort 8 = .ok (.invokevirtual 58, 3) := by decide +kernel
theorem dX0_markOfShort_11 : decode cX0_markOfShort 11 = .ok (.bipush 100, 2) := by decide +kernel
theorem dX0_markOfShort_13 : decode cX0_markOfShort 13 = .ok (.iadd, 1) := by decide +kernel
theorem dX0_markOfShort_14 : decode cX0_markOfShort 14 = .ok (.ireturn, 1) := by decide +kernel
theorem dX0_markOfOpen_0 : decode cX0_markOfOpen 0 = .ok (.aload_n 0, 1) := by decide +kernel
theorem dX0_markOfOpen_1 : decode cX0_markOfOpen 1 = .ok (.bipush 22, 2) := by decide +kernel
theorem dX0_markOfOpen_3 : decode cX0_markOfOpen 3 = .ok (.invokevirtual 42, 3) := by decide +kernel
theorem dX0_markOfOpen_6 : decode cX0_markOfOpen 6 = .ok (.aload_n 0, 1) := by decide +kernel
theorem dX0_markOfOpen_7 : decode cX0_markOfOpen 7 = .ok (.iload_n 1, 1) := by decide +kernel
theorem dX0_markOfOpen_8 : decode cX0_markOfOpen 8 = .ok (.invokevirtual 58, 3) := by decide +kernel
theorem dX0_markOfOpen_11 : decode cX0_markOfOpen 11 = .ok (.aload_n 0, 1) := by decide +kernel
theorem dX0_markOfOpen_12 : decode cX0_markOfOpen 12 = .ok (.invokevirtual 35, 3) := by decide +kernel
theorem dX0_markOfOpen_15 : decode cX0_markOfOpen 15 = .ok (.iadd, 1) := by decide +kernel
theorem dX0_markOfOpen_16 : decode cX0_markOfOpen 16 = .ok (.iconst 1, 1) := by decide +kernel
theorem dX0_markOfOpen_17 : decode cX0_markOfOpen 17 = .ok (.iadd, 1) := by decide +kernel
theorem dX0_markOfOpen_18 : decode cX0_markOfOpen 18 = .ok (.ireturn, 1) := by decide +kernel
theorem dX1_init_0 : decode cX1_init 0 = .ok (.aload_n 0, 1) := by decide +kernel
theorem dX1_init_1 : decode cX1_init 1 = .ok (.invokespecial 3, 3) := by decide +kernel
theorem dX1_init_4 : decode cX1_init 4 = .ok (.aload_n 0, 1) := by decide +kernel
theorem dX1_init_5 : decode cX1_init 5 = .ok (.sipush 1200, 3) := by decide +kernel
theorem dX1_init_8 : decode cX1_init 8 = .ok (.newarray .int, 2) := by decide +kernel
theorem dX1_init_10 : decode cX1_init 10 = .ok (.putfield 9, 3) := by decide +kernel
theorem dX1_init_13 : decode cX1_init 13 = .ok (.aload_n 0, 1) := by decide +kernel
theorem dX1_init_14 : decode cX1_init 14 = .ok (.iconst 0, 1) := by decide +kernel
theorem dX1_init_15 : decode cX1_init 15 = .ok (.putfield 15, 3) := by decide +kernel
theorem dX1_init_18 : decode cX1_init 18 = .ok (.aload_n 0, 1) := by decide +kernel
theorem dX1_init_19 : decode cX1_init 19 = .ok (.iconst 0, 1) := by decide +kernel
theorem dX1_init_20 : decode cX1_init 20 = .ok (.putfield 19, 3) := by decide +kernel
theorem dX1_init_23 : decode cX1_init 23 = .ok (.return_, 1) := by decide +kernel
theorem dX1_fact_0 : decode cX1_fact 0 = .ok (.aload_n 0, 1) := by decide +kernel
theorem dX1_fact_1 : decode cX1_fact 1 = .ok (.getfield 9, 3) := by decide +kernel
theorem dX1_fact_4 : decode cX1_fact 4 = .ok (.iload_n 1, 1) := by decide +kernel
theorem dX1_fact_5 : decode cX1_fact 5 = .ok (.bipush 6, 2) := by decide +kernel
theorem dX1_fact_7 : decode cX1_fact 7 = .ok (.imul, 1) := by decide +kernel
theorem dX1_fact_8 : decode cX1_fact 8 = .ok (.iload_n 2, 1) := by decide +kernel
theorem dX1_fact_9 : decode cX1_fact 9 = .ok (.iadd, 1) := by decide +kernel
theorem dX1_fact_10 : decode cX1_fact 10 = .ok (.iaload, 1) := by decide +kernel
theorem dX1_fact_11 : decode cX1_fact 11 = .ok (.ireturn, 1) := by decide +kernel
theorem dX1_begin_0 : decode cX1_begin 0 = .ok (.aload_n 0, 1) := by decide +kernel
theorem dX1_begin_1 : decode cX1_begin 1 = .ok (.getfield 15, 3) := by decide +kernel
theorem dX1_begin_4 : decode cX1_begin 4 = .ok (.bipush 6, 2) := by decide +kernel
theorem dX1_begin_6 : decode cX1_begin 6 = .ok (.imul, 1) := by decide +kernel
theorem dX1_begin_7 : decode cX1_begin 7 = .ok (.istore_n 2, 1) := by decide +kernel
theorem dX1_begin_8 : decode cX1_begin 8 = .ok (.aload_n 0, 1) := by decide +kernel
theorem dX1_begin_9 : decode cX1_begin 9 = .ok (.getfield 9, 3) := by decide +kernel
theorem dX1_begin_12 : decode cX1_begin 12 = .ok (.iload_n 2, 1) := by decide +kernel
theorem dX1_begin_13 : decode cX1_begin 13 = .ok (.iconst 1, 1) := by decide +kernel
theorem dX1_begin_14 : decode cX1_begin 14 = .ok (.iadd, 1) := by decide +kernel
theorem dX1_begin_15 : decode cX1_begin 15 = .ok (.iconst 0, 1) := by decide +kernel
theorem dX1_begin_16 : decode cX1_begin 16 = .ok (.iastore, 1) := by decide +kernel
theorem dX1_begin_17 : decode cX1_begin 17 = .ok (.aload_n 0, 1) := by decide +kernel
theorem dX1_begin_18 : decode cX1_begin 18 = .ok (.getfield 9, 3) := by decide +kernel
theorem dX1_begin_21 : decode cX1_begin 21 = .ok (.iload_n 2, 1) := by decide +kernel
theorem dX1_begin_22 : decode cX1_begin 22 = .ok (.iconst 2, 1) := by decide +kernel
theorem dX1_begin_23 : decode cX1_begin 23 = .ok (.iadd, 1) := by decide +kernel
theorem dX1_begin_24 : decode cX1_begin 24 = .ok (.iconst 0, 1) := by decide +kernel
theorem dX1_begin_25 : decode cX1_begin 25 = .ok (.iastore, 1) := by decide +kernel
theorem dX1_begin_26 : decode cX1_begin 26 = .ok (.aload_n 0, 1) := by decide +kernel
theorem dX1_begin_27 : decode cX1_begin 27 = .ok (.getfield 9, 3) := by decide +kernel
theorem dX1_begin_30 : decode cX1_begin 30 = .ok (.iload_n 2, 1) := by decide +kernel
theorem dX1_begin_31 : decode cX1_begin 31 = .ok (.iconst 4, 1) := by decide +kernel
theorem dX1_begin_32 : decode cX1_begin 32 = .ok (.iadd, 1) := by decide +kernel
theorem dX1_begin_33 : decode cX1_begin 33 = .ok (.iload_n 1, 1) := by decide +kernel
theorem dX1_begin_34 : decode cX1_begin 34 = .ok (.iastore, 1) := by decide +kernel
theorem dX1_begin_35 : decode cX1_begin 35 = .ok (.return_, 1) := by decide +kernel
theorem dX1_addTry_0 : decode cX1_addTry 0 = .ok (.aload_n 0, 1) := by decide +kernel
theorem dX1_addTry_1 : decode cX1_addTry 1 = .ok (.getfield 15, 3) := by decide +kernel
theorem dX1_addTry_4 : decode cX1_addTry 4 = .ok (.bipush 6, 2) := by decide +kernel
theorem dX1_addTry_6 : decode cX1_addTry 6 = .ok (.imul, 1) := by decide +kernel
theorem dX1_addTry_7 : decode cX1_addTry 7 = .ok (.istore 4, 2) := by decide +kernel
theorem dX1_addTry_9 : decode cX1_addTry 9 = .ok (.aload_n 0, 1) := by decide +kernel
theorem dX1_addTry_10 : decode cX1_addTry 10 = .ok (.getfield 9, 3) := by decide +kernel
theorem dX1_addTry_13 : decode cX1_addTry 13 = .ok (.iload 4, 2) := by decide +kernel
theorem dX1_addTry_15 : decode cX1_addTry 15 = .ok (.iconst 1, 1) := by decide +kernel
theorem dX1_addTry_16 : decode cX1_addTry 16 = .ok (.iadd, 1) := by decide +kernel
theorem dX1_addTry_17 : decode cX1_addTry 17 = .ok (.iaload, 1) := by decide +kernel
theorem dX1_addTry_18 : decode cX1_addTry 18 = .ok (.ifCond .ne 13, 3) := by decide +kernel
theorem dX1_addTry_21 : decode cX1_addTry 21 = .ok (.aload_n 0, 1) := by decide +kernel
theorem dX1_addTry_22 : decode cX1_addTry 22 = .ok (.getfield 9, 3) := by decide +kernel
theorem dX1_addTry_25 : decode cX1_addTry 25 = .ok (.iload 4, 2) := by decide +kernel
theorem dX1_addTry_27 : decode cX1_addTry 27 = .ok (.iconst 5, 1) := by decide +kernel
theorem dX1_addTry_28 : decode cX1_addTry 28 = .ok (.iadd, 1) := by decide +kernel
theorem dX1_addTry_29 : decode cX1_addTry 29 = .ok (.iload_n 2, 1) := by decide +kernel
theorem dX1_addTry_30 : decode cX1_addTry 30 = .ok (.iastore, 1) := by decide +kernel
theorem dX1_addTry_31 : decode cX1_addTry 31 = .ok (.aload_n 0, 1) := by decide +kernel
theorem dX1_addTry_32 : decode cX1_addTry 32 = .ok (.getfield 9, 3) := by decide +kernel
theorem dX1_addTry_35 : decode cX1_addTry 35 = .ok (.iload 4, 2) := by decide +kernel
theorem dX1_addTry_37 : decode cX1_addTry 37 = .ok (.iconst 0, 1) := by decide +kernel
theorem dX1_addTry_38 : decode cX1_addTry 38 = .ok (.iadd, 1) := by decide +kernel
theorem dX1_addTry_39 : decode cX1_addTry 39 = .ok (.iload_n 2, 1) := by decide +kernel
theorem dX1_addTry_40 : decode cX1_addTry 40 = .ok (.iastore, 1) := by decide +kernel
theorem dX1_addTry_41 : decode cX1_addTry 41 = .ok (.aload_n 0, 1) := by decide +kernel
theorem dX1_addTry_42 : decode cX1_addTry 42 = .ok (.getfield 9, 3) := by decide +kernel
theorem dX1_addTry_45 : decode cX1_addTry 45 = .ok (.iload 4, 2) := by decide +kernel
theorem dX1_addTry_47 : decode cX1_addTry 47 = .ok (.iconst 1, 1) := by decide +kernel
theorem dX1_addTry_48 : decode cX1_addTry 48 = .ok (.iadd, 1) := by decide +kernel
theorem dX1_addTry_49 : decode cX1_addTry 49 = .ok (.dup2, 1) := by decide +kernel
theorem dX1_addTry_50 : decode cX1_addTry 50 = .ok (.iaload, 1) := by decide +kernel
theorem dX1_addTry_51 : decode cX1_addTry 51 = .ok (.iconst 1, 1) := by decide +kernel
theorem dX1_addTry_52 : decode cX1_addTry 52 = .ok (.iadd, 1) := by decide +kernel
theorem dX1_addTry_53 : decode cX1_addTry 53 = .ok (.iastore, 1) := by decide +kernel
theorem dX1_addTry_54 : decode cX1_addTry 54 = .ok (.aload_n 0, 1) := by decide +kernel
theorem dX1_addTry_55 : decode cX1_addTry 55 = .ok (.getfield 9, 3) := by decide +kernel
theorem dX1_addTry_58 : decode cX1_addTry 58 = .ok (.iload 4, 2) := by decide +kernel
theorem dX1_addTry_60 : decode cX1_addTry 60 = .ok (.iconst 2, 1) := by decide +kernel
theorem dX1_addTry_61 : decode cX1_addTry 61 = .ok (.iadd, 1) := by decide +kernel
theorem dX1_addTry_62 : decode cX1_addTry 62 = .ok (.dup2, 1) := by decide +kernel
theorem dX1_addTry_63 : decode cX1_addTry 63 = .ok (.iaload, 1) := by decide +kernel
theorem dX1_addTry_64 : decode cX1_addTry 64 = .ok (.iload_n 3, 1) := by decide +kernel
theorem dX1_addTry_65 : decode cX1_addTry 65 = .ok (.iadd, 1) := by decide +kernel
theorem dX1_addTry_66 : decode cX1_addTry 66 = .ok (.iastore, 1) := by decide +kernel
theorem dX1_addTry_67 : decode cX1_addTry 67 = .ok (.aload_n 0, 1) := by decide +kernel
theorem dX1_addTry_68 : decode cX1_addTry 68 = .ok (.getfield 9, 3) := by decide +kernel
theorem dX1_addTry_71 : decode cX1_addTry 71 = .ok (.iload 4, 2) := by decide +kernel
theorem dX1_addTry_73 : decode cX1_addTry 73 = .ok (.iconst 3, 1) := by decide +kernel
theorem dX1_addTry_74 : decode cX1_addTry 74 = .ok (.iadd, 1) := by decide +kernel
theorem dX1_addTry_75 : decode cX1_addTry 75 = .ok (.iload_n 1, 1) := by decide +kernel
theorem dX1_addTry_76 : decode cX1_addTry 76 = .ok (.iastore, 1) := by decide +kernel
theorem dX1_addTry_77 : decode cX1_addTry 77 = .ok (.return_, 1) := by decide +kernel
theorem dX1_keep_0 : decode cX1_keep 0 = .ok (.aload_n 0, 1) := by decide +kernel
theorem dX1_keep_1 : decode cX1_keep 1 = .ok (.dup, 1) := by decide +kernel
theorem dX1_keep_2 : decode cX1_keep 2 = .ok (.getfield 15, 3) := by decide +kernel
theorem dX1_keep_5 : decode cX1_keep 5 = .ok (.iconst 1, 1) := by decide +kernel
theorem dX1_keep_6 : decode cX1_keep 6 = .ok (.iadd, 1) := by decide +kernel
theorem dX1_keep_7 : decode cX1_keep 7 = .ok (.putfield 15, 3) := by decide +kernel
theorem dX1_keep_10 : decode cX1_keep 10 = .ok (.aload_n 0, 1) := by decide +kernel
theorem dX1_keep_11 : decode cX1_keep 11 = .ok (.getfield 15, 3) := by decide +kernel
theorem dX1_keep_14 : decode cX1_keep 14 = .ok (.iconst 1, 1) := by decide +kernel
theorem dX1_keep_15 : decode cX1_keep 15 = .ok (.isub, 1) := by decide +kernel
theorem dX1_keep_16 : decode cX1_keep 16 = .ok (.ireturn, 1) := by decide +kernel
theorem dX1_lotSize_0 : decode cX1_lotSize 0 = .ok (.aload_n 0, 1) := by decide +kernel
theorem dX1_lotSize_1 : decode cX1_lotSize 1 = .ok (.getfield 15, 3) := by decide +kernel
theorem dX1_lotSize_4 : decode cX1_lotSize 4 = .ok (.aload_n 0, 1) := by decide +kernel
theorem dX1_lotSize_5 : decode cX1_lotSize 5 = .ok (.getfield 19, 3) := by decide +kernel
theorem dX1_lotSize_8 : decode cX1_lotSize 8 = .ok (.isub, 1) := by decide +kernel
theorem dX1_lotSize_9 : decode cX1_lotSize 9 = .ok (.ireturn, 1) := by decide +kernel
theorem dX1_countOfBin_0 : decode cX1_countOfBin 0 = .ok (.iconst 0, 1) := by decide +kernel
theorem dX1_countOfBin_1 : decode cX1_countOfBin 1 = .ok (.istore_n 2, 1) := by decide +kernel
theorem dX1_countOfBin_2 : decode cX1_countOfBin 2 = .ok (.aload_n 0, 1) := by decide +kernel
theorem dX1_countOfBin_3 : decode cX1_countOfBin 3 = .ok (.getfield 19, 3) := by decide +kernel
theorem dX1_countOfBin_6 : decode cX1_countOfBin 6 = .ok (.istore_n 3, 1) := by decide +kernel
theorem dX1_countOfBin_7 : decode cX1_countOfBin 7 = .ok (.iload_n 3, 1) := by decide +kernel
theorem dX1_countOfBin_8 : decode cX1_countOfBin 8 = .ok (.aload_n 0, 1) := by decide +kernel
theorem dX1_countOfBin_9 : decode cX1_countOfBin 9 = .ok (.getfield 15, 3) := by decide +kernel
theorem dX1_countOfBin_12 : decode cX1_countOfBin 12 = .ok (.if_icmp .ge 22, 3) := by decide +kernel
theorem dX1_countOfBin_15 : decode cX1_countOfBin 15 = .ok (.aload_n 0, 1) := by decide +kernel
theorem dX1_countOfBin_16 : decode cX1_countOfBin 16 = .ok (.iload_n 3, 1) := by decide +kernel
theorem dX1_countOfBin_17 : decode cX1_countOfBin 17 = .ok (.iconst 0, 1) := by decide +kernel
theorem dX1_countOfBin_18 : decode cX1_countOfBin 18 = .ok (.invokevirtual 22, 3) := by decide +kernel
theorem dX1_countOfBin_21 : decode cX1_countOfBin 21 = .ok (.iload_n 1, 1) := by decide +kernel
theorem dX1_countOfBin_22 : decode cX1_countOfBin 22 = .ok (.if_icmp .ne 6, 3) := by decide +kernel
theorem dX1_countOfBin_25 : decode cX1_countOfBin 25 = .ok (.iinc 2 1, 3) := by decide +kernel
theorem dX1_countOfBin_28 : decode cX1_countOfBin 28 = .ok (.iinc 3 1, 3) := by decide +kernel
theorem dX1_countOfBin_31 : decode cX1_countOfBin 31 = .ok (.goto (-24), 3) := by decide +kernel
theorem dX1_countOfBin_34 : decode cX1_countOfBin 34 = .ok (.iload_n 2, 1) := by decide +kernel
theorem dX1_countOfBin_35 : decode cX1_countOfBin 35 = .ok (.ireturn, 1) := by decide +kernel
theorem dX1_countOfSeat_0 : decode cX1_countOfSeat 0 = .ok (.iconst 0, 1) := by decide +kernel
theorem dX1_countOfSeat_1 : decode cX1_countOfSeat 1 = .ok (.istore_n 2, 1) := by decide +kernel
theorem dX1_countOfSeat_2 : decode cX1_countOfSeat 2 = .ok (.aload_n 0, 1) := by decide +kernel
theorem dX1_countOfSeat_3 : decode cX1_countOfSeat 3 = .ok (.getfield 19, 3) := by decide +kernel
theorem dX1_countOfSeat_6 : decode cX1_countOfSeat 6 = .ok (.istore_n 3, 1) := by decide +kernel
theorem dX1_countOfSeat_7 : decode cX1_countOfSeat 7 = .ok (.iload_n 3, 1) := by decide +kernel
theorem dX1_countOfSeat_8 : decode cX1_countOfSeat 8 = .ok (.aload_n 0, 1) := by decide +kernel
theorem dX1_countOfSeat_9 : decode cX1_countOfSeat 9 = .ok (.getfield 15, 3) := by decide +kernel
theorem dX1_countOfSeat_12 : decode cX1_countOfSeat 12 = .ok (.if_icmp .ge 22, 3) := by decide +kernel
theorem dX1_countOfSeat_15 : decode cX1_countOfSeat 15 = .ok (.aload_n 0, 1) := by decide +kernel
theorem dX1_countOfSeat_16 : decode cX1_countOfSeat 16 = .ok (.iload_n 3, 1) := by decide +kernel
theorem dX1_countOfSeat_17 : decode cX1_countOfSeat 17 = .ok (.iconst 4, 1) := by decide +kernel
theorem dX1_countOfSeat_18 : decode cX1_countOfSeat 18 = .ok (.invokevirtual 22, 3) := by decide +kernel
theorem dX1_countOfSeat_21 : decode cX1_countOfSeat 21 = .ok (.iload_n 1, 1) := by decide +kernel
theorem dX1_countOfSeat_22 : decode cX1_countOfSeat 22 = .ok (.if_icmp .ne 6, 3) := by decide +kernel
theorem dX1_countOfSeat_25 : decode cX1_countOfSeat 25 = .ok (.iinc 2 1, 3) := by decide +kernel
theorem dX1_countOfSeat_28 : decode cX1_countOfSeat 28 = .ok (.iinc 3 1, 3) := by decide +kernel
theorem dX1_countOfSeat_31 : decode cX1_countOfSeat 31 = .ok (.goto (-24), 3) := by decide +kernel
theorem dX1_countOfSeat_34 : decode cX1_countOfSeat 34 = .ok (.iload_n 2, 1) := by decide +kernel
theorem dX1_countOfSeat_35 : decode cX1_countOfSeat 35 = .ok (.ireturn, 1) := by decide +kernel
theorem dX1_passedOfSeat_0 : decode cX1_passedOfSeat 0 = .ok (.iconst 0, 1) := by decide +kernel
theorem dX1_passedOfSeat_1 : decode cX1_passedOfSeat 1 = .ok (.istore_n 2, 1) := by decide +kernel
theorem dX1_passedOfSeat_2 : decode cX1_passedOfSeat 2 = .ok (.aload_n 0, 1) := by decide +kernel
theorem dX1_passedOfSeat_3 : decode cX1_passedOfSeat 3 = .ok (.getfield 19, 3) := by decide +kernel
theorem dX1_passedOfSeat_6 : decode cX1_passedOfSeat 6 = .ok (.istore_n 3, 1) := by decide +kernel
theorem dX1_passedOfSeat_7 : decode cX1_passedOfSeat 7 = .ok (.iload_n 3, 1) := by decide +kernel
theorem dX1_passedOfSeat_8 : decode cX1_passedOfSeat 8 = .ok (.aload_n 0, 1) := by decide +kernel
theorem dX1_passedOfSeat_9 : decode cX1_passedOfSeat 9 = .ok (.getfield 15, 3) := by decide +kernel
theorem dX1_passedOfSeat_12 : decode cX1_passedOfSeat 12 = .ok (.if_icmp .ge 31, 3) := by decide +kernel
theorem dX1_passedOfSeat_15 : decode cX1_passedOfSeat 15 = .ok (.aload_n 0, 1) := by decide +kernel
theorem dX1_passedOfSeat_16 : decode cX1_passedOfSeat 16 = .ok (.iload_n 3, 1) := by decide +kernel
theorem dX1_passedOfSeat_17 : decode cX1_passedOfSeat 17 = .ok (.iconst 4, 1) := by decide +kernel
theorem dX1_passedOfSeat_18 : decode cX1_passedOfSeat 18 = .ok (.invokevirtual 22, 3) := by decide +kernel
theorem dX1_passedOfSeat_21 : decode cX1_passedOfSeat 21 = .ok (.iload_n 1, 1) := by decide +kernel
theorem dX1_passedOfSeat_22 : decode cX1_passedOfSeat 22 = .ok (.if_icmp .ne 15, 3) := by decide +kernel
theorem dX1_passedOfSeat_25 : decode cX1_passedOfSeat 25 = .ok (.aload_n 0, 1) := by decide +kernel
theorem dX1_passedOfSeat_26 : decode cX1_passedOfSeat 26 = .ok (.iload_n 3, 1) := by decide +kernel
theorem dX1_passedOfSeat_27 : decode cX1_passedOfSeat 27 = .ok (.iconst 0, 1) := by decide +kernel
theorem dX1_passedOfSeat_28 : decode cX1_passedOfSeat 28 = .ok (.invokevirtual 22, 3) := by decide +kernel
theorem dX1_passedOfSeat_31 : decode cX1_passedOfSeat 31 = .ok (.ifCond .ne 6, 3) := by decide +kernel
theorem dX1_passedOfSeat_34 : decode cX1_passedOfSeat 34 = .ok (.iinc 2 1, 3) := by decide +kernel
theorem dX1_passedOfSeat_37 : decode cX1_passedOfSeat 37 = .ok (.iinc 3 1, 3) := by decide +kernel
theorem dX1_passedOfSeat_40 : decode cX1_passedOfSeat 40 = .ok (.goto (-33), 3) := by decide +kernel
theorem dX1_passedOfSeat_43 : decode cX1_passedOfSeat 43 = .ok (.iload_n 2, 1) := by decide +kernel
theorem dX1_passedOfSeat_44 : decode cX1_passedOfSeat 44 = .ok (.ireturn, 1) := by decide +kernel
theorem dX1_isHeld_0 : decode cX1_isHeld 0 = .ok (.bipush 100, 2) := by decide +kernel
theorem dX1_isHeld_2 : decode cX1_isHeld 2 = .ok (.aload_n 0, 1) := by decide +kernel
theorem dX1_isHeld_3 : decode cX1_isHeld 3 = .ok (.iconst 0, 1) := by decide +kernel
theorem dX1_isHeld_4 : decode cX1_isHeld 4 = .ok (.invokevirtual 26, 3) := by decide +kernel
theorem dX1_isHeld_7 : decode cX1_isHeld 7 = .ok (.imul, 1) := by decide +kernel
theorem dX1_isHeld_8 : decode cX1_isHeld 8 = .ok (.iload_n 1, 1) := by decide +kernel
theorem dX1_isHeld_9 : decode cX1_isHeld 9 = .ok (.aload_n 0, 1) := by decide +kernel
theorem dX1_isHeld_10 : decode cX1_isHeld 10 = .ok (.invokevirtual 30, 3) := by decide +kernel
theorem dX1_isHeld_13 : decode cX1_isHeld 13 = .ok (.imul, 1) := by decide +kernel
theorem dX1_isHeld_14 : decode cX1_isHeld 14 = .ok (.if_icmp .ge 5, 3) := by decide +kernel
theorem dX1_isHeld_17 : decode cX1_isHeld 17 = .ok (.iconst 1, 1) := by decide +kernel
theorem dX1_isHeld_18 : decode cX1_isHeld 18 = .ok (.ireturn, 1) := by decide +kernel
theorem dX1_isHeld_19 : decode cX1_isHeld 19 = .ok (.iconst 1, 1) := by decide +kernel
theorem dX1_isHeld_20 : decode cX1_isHeld 20 = .ok (.istore_n 3, 1) := by decide +kernel
theorem dX1_isHeld_21 : decode cX1_isHeld 21 = .ok (.iload_n 3, 1) := by decide +kernel
theorem dX1_isHeld_22 : decode cX1_isHeld 22 = .ok (.bipush 16, 2) := by decide +kernel
theorem dX1_isHeld_24 : decode cX1_isHeld 24 = .ok (.if_icmp .ge 20, 3) := by decide +kernel
theorem dX1_isHeld_27 : decode cX1_isHeld 27 = .ok (.aload_n 0, 1) := by decide +kernel
theorem dX1_isHeld_28 : decode cX1_isHeld 28 = .ok (.iload_n 3, 1) := by decide +kernel
theorem dX1_isHeld_29 : decode cX1_isHeld 29 = .ok (.invokevirtual 26, 3) := by decide +kernel
theorem dX1_isHeld_32 : decode cX1_isHeld 32 = .ok (.iload_n 2, 1) := by decide +kernel
theorem dX1_isHeld_33 : decode cX1_isHeld 33 = .ok (.if_icmp .le 5, 3) := by decide +kernel
theorem dX1_isHeld_36 : decode cX1_isHeld 36 = .ok (.iconst 1, 1) := by decide +kernel
theorem dX1_isHeld_37 : decode cX1_isHeld 37 = .ok (.ireturn, 1) := by decide +kernel
theorem dX1_isHeld_38 : decode cX1_isHeld 38 = .ok (.iinc 3 1, 3) := by decide +kernel
theorem dX1_isHeld_41 : decode cX1_isHeld 41 = .ok (.goto (-20), 3) := by decide +kernel
theorem dX1_isHeld_44 : decode cX1_isHeld 44 = .ok (.iconst 0, 1) := by decide +kernel
theorem dX1_isHeld_45 : decode cX1_isHeld 45 = .ok (.ireturn, 1) := by decide +kernel
theorem dX1_waysSo_0 : decode cX1_waysSo 0 = .ok (.aload_n 0, 1) := by decide +kernel
theorem dX1_waysSo_1 : decode cX1_waysSo 1 = .ok (.iconst 0, 1) := by decide +kernel
theorem dX1_waysSo_2 : decode cX1_waysSo 2 = .ok (.invokevirtual 26, 3) := by decide +kernel
theorem dX1_waysSo_5 : decode cX1_waysSo 5 = .ok (.istore_n 2, 1) := by decide +kernel
theorem dX1_waysSo_6 : decode cX1_waysSo 6 = .ok (.aload_n 0, 1) := by decide +kernel
theorem dX1_waysSo_7 : decode cX1_waysSo 7 = .ok (.invokevirtual 30, 3) := by decide +kernel
theorem dX1_waysSo_10 : decode cX1_waysSo 10 = .ok (.iload_n 2, 1) := by decide +kernel
theorem dX1_waysSo_11 : decode cX1_waysSo 11 = .ok (.isub, 1) := by decide +kernel
theorem dX1_waysSo_12 : decode cX1_waysSo 12 = .ok (.istore_n 3, 1) := by decide +kernel
theorem dX1_waysSo_13 : decode cX1_waysSo 13 = .ok (.aload_n 0, 1) := by decide +kernel
theorem dX1_waysSo_14 : decode cX1_waysSo 14 = .ok (.iload_n 1, 1) := by decide +kernel
theorem dX1_waysSo_15 : decode cX1_waysSo 15 = .ok (.invokevirtual 34, 3) := by decide +kernel
theorem dX1_waysSo_18 : decode cX1_waysSo 18 = .ok (.istore 4, 2) := by decide +kernel
theorem dX1_waysSo_20 : decode cX1_waysSo 20 = .ok (.aload_n 0, 1) := by decide +kernel
theorem dX1_waysSo_21 : decode cX1_waysSo 21 = .ok (.iload_n 1, 1) := by decide +kernel
theorem dX1_waysSo_22 : decode cX1_waysSo 22 = .ok (.invokevirtual 37, 3) := by decide +kernel
theorem dX1_waysSo_25 : decode cX1_waysSo 25 = .ok (.istore 5, 2) := by decide +kernel
theorem dX1_waysSo_27 : decode cX1_waysSo 27 = .ok (.lconst 0, 1) := by decide +kernel
theorem dX1_waysSo_28 : decode cX1_waysSo 28 = .ok (.lstore 6, 2) := by decide +kernel
theorem dX1_waysSo_30 : decode cX1_waysSo 30 = .ok (.iconst 0, 1) := by decide +kernel
theorem dX1_waysSo_31 : decode cX1_waysSo 31 = .ok (.istore 8, 2) := by decide +kernel
theorem dX1_waysSo_33 : decode cX1_waysSo 33 = .ok (.iload 8, 2) := by decide +kernel
theorem dX1_waysSo_35 : decode cX1_waysSo 35 = .ok (.iload 5, 2) := by decide +kernel
theorem dX1_waysSo_37 : decode cX1_waysSo 37 = .ok (.if_icmp .gt 30, 3) := by decide +kernel
theorem dX1_waysSo_40 : decode cX1_waysSo 40 = .ok (.lload 6, 2) := by decide +kernel
theorem dX1_waysSo_42 : decode cX1_waysSo 42 = .ok (.iload_n 2, 1) := by decide +kernel
theorem dX1_waysSo_43 : decode cX1_waysSo 43 = .ok (.iload 8, 2) := by decide +kernel
theorem dX1_waysSo_45 : decode cX1_waysSo 45 = .ok (.invokestatic 40, 3) := by decide +kernel
theorem dX1_waysSo_48 : decode cX1_waysSo 48 = .ok (.iload_n 3, 1) := by decide +kernel
theorem dX1_waysSo_49 : decode cX1_waysSo 49 = .ok (.iload 4, 2) := by decide +kernel
theorem dX1_waysSo_51 : decode cX1_waysSo 51 = .ok (.iload 8, 2) := by decide +kernel
theorem dX1_waysSo_53 : decode cX1_waysSo 53 = .ok (.isub, 1) := by decide +kernel
theorem dX1_waysSo_54 : decode cX1_waysSo 54 = .ok (.invokestatic 40, 3) := by decide +kernel
theorem dX1_waysSo_57 : decode cX1_waysSo 57 = .ok (.lmul, 1) := by decide +kernel
theorem dX1_waysSo_58 : decode cX1_waysSo 58 = .ok (.ladd, 1) := by decide +kernel
theorem dX1_waysSo_59 : decode cX1_waysSo 59 = .ok (.lstore 6, 2) := by decide +kernel
theorem dX1_waysSo_61 : decode cX1_waysSo 61 = .ok (.iinc 8 1, 3) := by decide +kernel
theorem dX1_waysSo_64 : decode cX1_waysSo 64 = .ok (.goto (-31), 3) := by decide +kernel
theorem dX1_waysSo_67 : decode cX1_waysSo 67 = .ok (.lload 6, 2) := by decide +kernel
theorem dX1_waysSo_69 : decode cX1_waysSo 69 = .ok (.lreturn, 1) := by decide +kernel
theorem dX2_init_0 : decode cX2_init 0 = .ok (.aload_n 0, 1) := by decide +kernel
theorem dX2_init_1 : decode cX2_init 1 = .ok (.invokespecial 3, 3) := by decide +kernel
theorem dX2_init_4 : decode cX2_init 4 = .ok (.aload_n 0, 1) := by decide +kernel
theorem dX2_init_5 : decode cX2_init 5 = .ok (.sipush 400, 3) := by decide +kernel
theorem dX2_init_8 : decode cX2_init 8 = .ok (.newarray .int, 2) := by decide +kernel
theorem dX2_init_10 : decode cX2_init 10 = .ok (.putfield 9, 3) := by decide +kernel
theorem dX2_init_13 : decode cX2_init 13 = .ok (.aload_n 0, 1) := by decide +kernel
theorem dX2_init_14 : decode cX2_init 14 = .ok (.sipush 400, 3) := by decide +kernel
theorem dX2_init_17 : decode cX2_init 17 = .ok (.newarray .int, 2) := by decide +kernel
theorem dX2_init_19 : decode cX2_init 19 = .ok (.putfield 15, 3) := by decide +kernel
theorem dX2_init_22 : decode cX2_init 22 = .ok (.aload_n 0, 1) := by decide +kernel
theorem dX2_init_23 : decode cX2_init 23 = .ok (.sipush 400, 3) := by decide +kernel
theorem dX2_init_26 : decode cX2_init 26 = .ok (.newarray .int, 2) := by decide +kernel
theorem dX2_init_28 : decode cX2_init 28 = .ok (.putfield 18, 3) := by decide +kernel
theorem dX2_init_31 : decode cX2_init 31 = .ok (.aload_n 0, 1) := by decide +kernel
theorem dX2_init_32 : decode cX2_init 32 = .ok (.sipush 400, 3) := by decide +kernel
theorem dX2_init_35 : decode cX2_init 35 = .ok (.newarray .int, 2) := by decide +kernel
theorem dX2_init_37 : decode cX2_init 37 = .ok (.putfield 21, 3) := by decide +kernel
theorem dX2_init_40 : decode cX2_init 40 = .ok (.aload_n 0, 1) := by decide +kernel
theorem dX2_init_41 : decode cX2_init 41 = .ok (.sipush 400, 3) := by decide +kernel
theorem dX2_init_44 : decode cX2_init 44 = .ok (.newarray .int, 2) := by decide +kernel
theorem dX2_init_46 : decode cX2_init 46 = .ok (.putfield 24, 3) := by decide +kernel
theorem dX2_init_49 : decode cX2_init 49 = .ok (.aload_n 0, 1) := by decide +kernel
theorem dX2_init_50 : decode cX2_init 50 = .ok (.sipush 400, 3) := by decide +kernel
theorem dX2_init_53 : decode cX2_init 53 = .ok (.newarray .int, 2) := by decide +kernel
theorem dX2_init_55 : decode cX2_init 55 = .ok (.putfield 27, 3) := by decide +kernel
theorem dX2_init_58 : decode cX2_init 58 = .ok (.aload_n 0, 1) := by decide +kernel
theorem dX2_init_59 : decode cX2_init 59 = .ok (.sipush 400, 3) := by decide +kernel
theorem dX2_init_62 : decode cX2_init 62 = .ok (.newarray .int, 2) := by decide +kernel
theorem dX2_init_64 : decode cX2_init 64 = .ok (.putfield 30, 3) := by decide +kernel
theorem dX2_init_67 : decode cX2_init 67 = .ok (.aload_n 0, 1) := by decide +kernel
theorem dX2_init_68 : decode cX2_init 68 = .ok (.sipush 400, 3) := by decide +kernel
theorem dX2_init_71 : decode cX2_init 71 = .ok (.newarray .int, 2) := by decide +kernel
theorem dX2_init_73 : decode cX2_init 73 = .ok (.putfield 33, 3) := by decide +kernel
theorem dX2_init_76 : decode cX2_init 76 = .ok (.aload_n 0, 1) := by decide +kernel
theorem dX2_init_77 : decode cX2_init 77 = .ok (.iconst 0, 1) := by decide +kernel
theorem dX2_init_78 : decode cX2_init 78 = .ok (.putfield 36, 3) := by decide +kernel
theorem dX2_init_81 : decode cX2_init 81 = .ok (.aload_n 0, 1) := by decide +kernel
theorem dX2_init_82 : decode cX2_init 82 = .ok (.iconst 0, 1) := by decide +kernel
theorem dX2_init_83 : decode cX2_init 83 = .ok (.putfield 40, 3) := by decide +kernel
theorem dX2_init_86 : decode cX2_init 86 = .ok (.aload_n 0, 1) := by decide +kernel
theorem dX2_init_87 : decode cX2_init 87 = .ok (.iconst 0, 1) := by decide +kernel
theorem dX2_init_88 : decode cX2_init 88 = .ok (.putfield 43, 3) := by decide +kernel
theorem dX2_init_91 : decode cX2_init 91 = .ok (.aload_n 0, 1) := by decide +kernel
theorem dX2_init_92 : decode cX2_init 92 = .ok (.iconst 0, 1) := by decide +kernel
theorem dX2_init_93 : decode cX2_init 93 = .ok (.putfield 46, 3) := by decide +kernel
theorem dX2_init_96 : decode cX2_init 96 = .ok (.aload_n 0, 1) := by decide +kernel
theorem dX2_init_97 : decode cX2_init 97 = .ok (.iconst 0, 1) := by decide +kernel
theorem dX2_init_98 : decode cX2_init 98 = .ok (.putfield 49, 3) := by decide +kernel
theorem dX2_init_101 : decode cX2_init 101 = .ok (.return_, 1) := by decide +kernel
theorem dX2_startWith_0 : decode cX2_startWith 0 = .ok (.aload_n 1, 1) := by decide +kernel
theorem dX2_startWith_1 : decode cX2_startWith 1 = .ok (.iconst 0, 1) := by decide +kernel
theorem dX2_startWith_2 : decode cX2_startWith 2 = .ok (.aload_n 0, 1) := by decide +kernel
theorem dX2_startWith_3 : decode cX2_startWith 3 = .ok (.getfield 9, 3) := by decide +kernel
theorem dX2_startWith_6 : decode cX2_startWith 6 = .ok (.iconst 0, 1) := by decide +kernel
theorem dX2_startWith_7 : decode cX2_startWith 7 = .ok (.iload_n 2, 1) := by decide +kernel
theorem dX2_startWith_8 : decode cX2_startWith 8 = .ok (.invokestatic 52, 3) := by decide +kernel
theorem dX2_startWith_11 : decode cX2_startWith 11 = .ok (.aload_n 0, 1) := by decide +kernel
theorem dX2_startWith_12 : decode cX2_startWith 12 = .ok (.iconst 0, 1) := by decide +kernel
theorem dX2_startWith_13 : decode cX2_startWith 13 = .ok (.putfield 36, 3) := by decide +kernel
theorem dX2_startWith_16 : decode cX2_startWith 16 = .ok (.aload_n 0, 1) := by decide +kernel
theorem dX2_startWith_17 : decode cX2_startWith 17 = .ok (.iconst 0, 1) := by decide +kernel
theorem dX2_startWith_18 : decode cX2_startWith 18 = .ok (.putfield 43, 3) := by decide +kernel
theorem dX2_startWith_21 : decode cX2_startWith 21 = .ok (.aload_n 0, 1) := by decide +kernel
theorem dX2_startWith_22 : decode cX2_startWith 22 = .ok (.iconst 0, 1) := by decide +kernel
theorem dX2_startWith_23 : decode cX2_startWith 23 = .ok (.putfield 46, 3) := by decide +kernel
theorem dX2_startWith_26 : decode cX2_startWith 26 = .ok (.aload_n 0, 1) := by decide +kernel
theorem dX2_startWith_27 : decode cX2_startWith 27 = .ok (.iconst 0, 1) := by decide +kernel
theorem dX2_startWith_28 : decode cX2_startWith 28 = .ok (.putfield 49, 3) := by decide +kernel
theorem dX2_startWith_31 : decode cX2_startWith 31 = .ok (.return_, 1) := by decide +kernel
theorem dX2_addLine_0 : decode cX2_addLine 0 = .ok (.aload_n 0, 1) := by decide +kernel
theorem dX2_addLine_1 : decode cX2_addLine 1 = .ok (.getfield 15, 3) := by decide +kernel
theorem dX2_addLine_4 : decode cX2_addLine 4 = .ok (.aload_n 0, 1) := by decide +kernel
theorem dX2_addLine_5 : decode cX2_addLine 5 = .ok (.getfield 36, 3) := by decide +kernel
theorem dX2_addLine_8 : decode cX2_addLine 8 = .ok (.iconst 0, 1) := by decide +kernel
theorem dX2_addLine_9 : decode cX2_addLine 9 = .ok (.iastore, 1) := by decide +kernel
theorem dX2_addLine_10 : decode cX2_addLine 10 = .ok (.aload_n 0, 1) := by decide +kernel
theorem dX2_addLine_11 : decode cX2_addLine 11 = .ok (.getfield 18, 3) := by decide +kernel
theorem dX2_addLine_14 : decode cX2_addLine 14 = .ok (.aload_n 0, 1) := by decide +kernel
theorem dX2_addLine_15 : decode cX2_addLine 15 = .ok (.getfield 36, 3) := by decide +kernel
theorem dX2_addLine_18 : decode cX2_addLine 18 = .ok (.iload_n 1, 1) := by decide +kernel
theorem dX2_addLine_19 : decode cX2_addLine 19 = .ok (.iastore, 1) := by decide +kernel
theorem dX2_addLine_20 : decode cX2_addLine 20 = .ok (.aload_n 0, 1) := by decide +kernel
theorem dX2_addLine_21 : decode cX2_addLine 21 = .ok (.getfield 27, 3) := by decide +kernel
theorem dX2_addLine_24 : decode cX2_addLine 24 = .ok (.aload_n 0, 1) := by decide +kernel
theorem dX2_addLine_25 : decode cX2_addLine 25 = .ok (.getfield 36, 3) := by decide +kernel
theorem dX2_addLine_28 : decode cX2_addLine 28 = .ok (.aload_n 0, 1) := by decide +kernel
theorem dX2_addLine_29 : decode cX2_addLine 29 = .ok (.bipush 76, 2) := by decide +kernel
theorem dX2_addLine_31 : decode cX2_addLine 31 = .ok (.iload_n 1, 1) := by decide +kernel
theorem dX2_addLine_32 : decode cX2_addLine 32 = .ok (.iload_n 2, 1) := by decide +kernel
theorem dX2_addLine_33 : decode cX2_addLine 33 = .ok (.invokevirtual 58, 3) := by decide +kernel
theorem dX2_addLine_36 : decode cX2_addLine 36 = .ok (.iastore, 1) := by decide +kernel
theorem dX2_addLine_37 : decode cX2_addLine 37 = .ok (.aload_n 0, 1) := by decide +kernel
theorem dX2_addLine_38 : decode cX2_addLine 38 = .ok (.getfield 30, 3) := by decide +kernel
theorem dX2_addLine_41 : decode cX2_addLine 41 = .ok (.aload_n 0, 1) := by decide +kernel
theorem dX2_addLine_42 : decode cX2_addLine 42 = .ok (.getfield 36, 3) := by decide +kernel
theorem dX2_addLine_45 : decode cX2_addLine 45 = .ok (.aload_n 0, 1) := by decide +kernel
theorem dX2_addLine_46 : decode cX2_addLine 46 = .ok (.bipush 72, 2) := by decide +kernel
theorem dX2_addLine_48 : decode cX2_addLine 48 = .ok (.iload_n 1, 1) := by decide +kernel
theorem dX2_addLine_49 : decode cX2_addLine 49 = .ok (.iload_n 2, 1) := by decide +kernel
theorem dX2_addLine_50 : decode cX2_addLine 50 = .ok (.invokevirtual 58, 3) := by decide +kernel
theorem dX2_addLine_53 : decode cX2_addLine 53 = .ok (.iastore, 1) := by decide +kernel
theorem dX2_addLine_54 : decode cX2_addLine 54 = .ok (.aload_n 0, 1) := by decide +kernel
theorem dX2_addLine_55 : decode cX2_addLine 55 = .ok (.dup, 1) := by decide +kernel
theorem dX2_addLine_56 : decode cX2_addLine 56 = .ok (.getfield 36, 3) := by decide +kernel
theorem dX2_addLine_59 : decode cX2_addLine 59 = .ok (.iconst 1, 1) := by decide +kernel
theorem dX2_addLine_60 : decode cX2_addLine 60 = .ok (.iadd, 1) := by decide +kernel
theorem dX2_addLine_61 : decode cX2_addLine 61 = .ok (.putfield 36, 3) := by decide +kernel
theorem dX2_addLine_64 : decode cX2_addLine 64 = .ok (.aload_n 0, 1) := by decide +kernel
theorem dX2_addLine_65 : decode cX2_addLine 65 = .ok (.iload_n 2, 1) := by decide +kernel
theorem dX2_addLine_66 : decode cX2_addLine 66 = .ok (.putfield 43, 3) := by decide +kernel
theorem dX2_addLine_69 : decode cX2_addLine 69 = .ok (.aload_n 0, 1) := by decide +kernel
theorem dX2_addLine_70 : decode cX2_addLine 70 = .ok (.dup, 1) := by decide +kernel
theorem dX2_addLine_71 : decode cX2_addLine 71 = .ok (.getfield 46, 3) := by decide +kernel
theorem dX2_addLine_74 : decode cX2_addLine 74 = .ok (.iconst 1, 1) := by decide +kernel
theorem dX2_addLine_75 : decode cX2_addLine 75 = .ok (.iadd, 1) := by decide +kernel
theorem dX2_addLine_76 : decode cX2_addLine 76 = .ok (.putfield 46, 3) := by decide +kernel
theorem dX2_addLine_79 : decode cX2_addLine 79 = .ok (.return_, 1) := by decide +kernel
theorem dX2_pinsWith_0 : decode cX2_pinsWith 0 = .ok (.iconst 0, 1) := by decide +kernel
theorem dX2_pinsWith_1 : decode cX2_pinsWith 1 = .ok (.istore 4, 2) := by decide +kernel
theorem dX2_pinsWith_3 : decode cX2_pinsWith 3 = .ok (.iconst 0, 1) := by decide +kernel
theorem dX2_pinsWith_4 : decode cX2_pinsWith 4 = .ok (.istore 5, 2) := by decide +kernel
theorem dX2_pinsWith_6 : decode cX2_pinsWith 6 = .ok (.iload 5, 2) := by decide +kernel
theorem dX2_pinsWith_8 : decode cX2_pinsWith 8 = .ok (.iload_n 3, 1) := by decide +kernel
theorem dX2_pinsWith_9 : decode cX2_pinsWith 9 = .ok (.if_icmp .ge 31, 3) := by decide +kernel
theorem dX2_pinsWith_12 : decode cX2_pinsWith 12 = .ok (.aload_n 0, 1) := by decide +kernel
theorem dX2_pinsWith_13 : decode cX2_pinsWith 13 = .ok (.getfield 9, 3) := by decide +kernel
theorem dX2_pinsWith_16 : decode cX2_pinsWith 16 = .ok (.iload_n 2, 1) := by decide +kernel
theorem dX2_pinsWith_17 : decode cX2_pinsWith 17 = .ok (.iload 5, 2) := by decide +kernel
theorem dX2_pinsWith_19 : decode cX2_pinsWith 19 = .ok (.iadd, 1) := by decide +kernel
theorem dX2_pinsWith_20 : decode cX2_pinsWith 20 = .ok (.iaload, 1) := by decide +kernel
theorem dX2_pinsWith_21 : decode cX2_pinsWith 21 = .ok (.iload_n 1, 1) := by decide +kernel
theorem dX2_pinsWith_22 : decode cX2_pinsWith 22 = .ok (.if_icmp .ne 12, 3) := by decide +kernel
theorem dX2_pinsWith_25 : decode cX2_pinsWith 25 = .ok (.iload 4, 2) := by decide +kernel
theorem dX2_pinsWith_27 : decode cX2_pinsWith 27 = .ok (.iconst 1, 1) := by decide +kernel
theorem dX2_pinsWith_28 : decode cX2_pinsWith 28 = .ok (.iload 5, 2) := by decide +kernel
theorem dX2_pinsWith_30 : decode cX2_pinsWith 30 = .ok (.ishl, 1) := by decide +kernel
theorem dX2_pinsWith_31 : decode cX2_pinsWith 31 = .ok (.ior, 1) := by decide +kernel
theorem dX2_pinsWith_32 : decode cX2_pinsWith 32 = .ok (.istore 4, 2) := by decide +kernel
theorem dX2_pinsWith_34 : decode cX2_pinsWith 34 = .ok (.iinc 5 1, 3) := by decide +kernel
theorem dX2_pinsWith_37 : decode cX2_pinsWith 37 = .ok (.goto (-31), 3) := by decide +kernel
theorem dX2_pinsWith_40 : decode cX2_pinsWith 40 = .ok (.iload 4, 2) := by decide +kernel
theorem dX2_pinsWith_42 : decode cX2_pinsWith 42 = .ok (.ireturn, 1) := by decide +kernel
theorem dX2_beginLoop_0 : decode cX2_beginLoop 0 = .ok (.aload_n 0, 1) := by decide +kernel
theorem dX2_beginLoop_1 : decode cX2_beginLoop 1 = .ok (.getfield 15, 3) := by decide +kernel
theorem dX2_beginLoop_4 : decode cX2_beginLoop 4 = .ok (.aload_n 0, 1) := by decide +kernel
theorem dX2_beginLoop_5 : decode cX2_beginLoop 5 = .ok (.getfield 36, 3) := by decide +kernel
theorem dX2_beginLoop_8 : decode cX2_beginLoop 8 = .ok (.iconst 1, 1) := by decide +kernel
theorem dX2_beginLoop_9 : decode cX2_beginLoop 9 = .ok (.iastore, 1) := by decide +kernel
theorem dX2_beginLoop_10 : decode cX2_beginLoop 10 = .ok (.aload_n 0, 1) := by decide +kernel
theorem dX2_beginLoop_11 : decode cX2_beginLoop 11 = .ok (.getfield 21, 3) := by decide +kernel
theorem dX2_beginLoop_14 : decode cX2_beginLoop 14 = .ok (.aload_n 0, 1) := by decide +kernel
theorem dX2_beginLoop_15 : decode cX2_beginLoop 15 = .ok (.getfield 36, 3) := by decide +kernel
theorem dX2_beginLoop_18 : decode cX2_beginLoop 18 = .ok (.iload_n 1, 1) := by decide +kernel
theorem dX2_beginLoop_19 : decode cX2_beginLoop 19 = .ok (.iastore, 1) := by decide +kernel
theorem dX2_beginLoop_20 : decode cX2_beginLoop 20 = .ok (.aload_n 0, 1) := by decide +kernel
theorem dX2_beginLoop_21 : decode cX2_beginLoop 21 = .ok (.dup, 1) := by decide +kernel
theorem dX2_beginLoop_22 : decode cX2_beginLoop 22 = .ok (.getfield 36, 3) := by decide +kernel
theorem dX2_beginLoop_25 : decode cX2_beginLoop 25 = .ok (.iconst 1, 1) := by decide +kernel
theorem dX2_beginLoop_26 : decode cX2_beginLoop 26 = .ok (.iadd, 1) := by decide +kernel
theorem dX2_beginLoop_27 : decode cX2_beginLoop 27 = .ok (.putfield 36, 3) := by decide +kernel
theorem dX2_beginLoop_30 : decode cX2_beginLoop 30 = .ok (.aload_n 0, 1) := by decide +kernel
theorem dX2_beginLoop_31 : decode cX2_beginLoop 31 = .ok (.getfield 36, 3) := by decide +kernel
theorem dX2_beginLoop_34 : decode cX2_beginLoop 34 = .ok (.iconst 1, 1) := by decide +kernel
theorem dX2_beginLoop_35 : decode cX2_beginLoop 35 = .ok (.isub, 1) := by decide +kernel
theorem dX2_beginLoop_36 : decode cX2_beginLoop 36 = .ok (.ireturn, 1) := by decide +kernel
theorem dX2_endLoop_0 : decode cX2_endLoop 0 = .ok (.iload_n 2, 1) := by decide +kernel
theorem dX2_endLoop_1 : decode cX2_endLoop 1 = .ok (.ifCond .ne 9, 3) := by decide +kernel
theorem dX2_endLoop_4 : decode cX2_endLoop 4 = .ok (.aload_n 0, 1) := by decide +kernel
theorem dX2_endLoop_5 : decode cX2_endLoop 5 = .ok (.iload_n 1, 1) := by decide +kernel
theorem dX2_endLoop_6 : decode cX2_endLoop 6 = .ok (.putfield 36, 3) := by decide +kernel
theorem dX2_endLoop_9 : decode cX2_endLoop 9 = .ok (.return_, 1) := by decide +kernel
theorem dX2_endLoop_10 : decode cX2_endLoop 10 = .ok (.aload_n 0, 1) := by decide +kernel
theorem dX2_endLoop_11 : decode cX2_endLoop 11 = .ok (.getfield 24, 3) := by decide +kernel
theorem dX2_endLoop_14 : decode cX2_endLoop 14 = .ok (.iload_n 1, 1) := by decide +kernel
theorem dX2_endLoop_15 : decode cX2_endLoop 15 = .ok (.iload_n 2, 1) := by decide +kernel
theorem dX2_endLoop_16 : decode cX2_endLoop 16 = .ok (.iastore, 1) := by decide +kernel
theorem dX2_endLoop_17 : decode cX2_endLoop 17 = .ok (.aload_n 0, 1) := by decide +kernel
theorem dX2_endLoop_18 : decode cX2_endLoop 18 = .ok (.getfield 18, 3) := by decide +kernel
theorem dX2_endLoop_21 : decode cX2_endLoop 21 = .ok (.iload_n 1, 1) := by decide +kernel
theorem dX2_endLoop_22 : decode cX2_endLoop 22 = .ok (.aload_n 0, 1) := by decide +kernel
theorem dX2_endLoop_23 : decode cX2_endLoop 23 = .ok (.getfield 36, 3) := by decide +kernel
theorem dX2_endLoop_26 : decode cX2_endLoop 26 = .ok (.iastore, 1) := by decide +kernel
theorem dX2_endLoop_27 : decode cX2_endLoop 27 = .ok (.aload_n 0, 1) := by decide +kernel
theorem dX2_endLoop_28 : decode cX2_endLoop 28 = .ok (.getfield 15, 3) := by decide +kernel
theorem dX2_endLoop_31 : decode cX2_endLoop 31 = .ok (.aload_n 0, 1) := by decide +kernel
theorem dX2_endLoop_32 : decode cX2_endLoop 32 = .ok (.getfield 36, 3) := by decide +kernel
theorem dX2_endLoop_35 : decode cX2_endLoop 35 = .ok (.iconst 2, 1) := by decide +kernel
theorem dX2_endLoop_36 : decode cX2_endLoop 36 = .ok (.iastore, 1) := by decide +kernel
theorem dX2_endLoop_37 : decode cX2_endLoop 37 = .ok (.aload_n 0, 1) := by decide +kernel
theorem dX2_endLoop_38 : decode cX2_endLoop 38 = .ok (.getfield 18, 3) := by decide +kernel
theorem dX2_endLoop_41 : decode cX2_endLoop 41 = .ok (.aload_n 0, 1) := by decide +kernel
theorem dX2_endLoop_42 : decode cX2_endLoop 42 = .ok (.getfield 36, 3) := by decide +kernel
theorem dX2_endLoop_45 : decode cX2_endLoop 45 = .ok (.iload_n 1, 1) := by decide +kernel
theorem dX2_endLoop_46 : decode cX2_endLoop 46 = .ok (.iastore, 1) := by decide +kernel
theorem dX2_endLoop_47 : decode cX2_endLoop 47 = .ok (.aload_n 0, 1) := by decide +kernel
theorem dX2_endLoop_48 : decode cX2_endLoop 48 = .ok (.dup, 1) := by decide +kernel
theorem dX2_endLoop_49 : decode cX2_endLoop 49 = .ok (.getfield 36, 3) := by decide +kernel
theorem dX2_endLoop_52 : decode cX2_endLoop 52 = .ok (.iconst 1, 1) := by decide +kernel
theorem dX2_endLoop_53 : decode cX2_endLoop 53 = .ok (.iadd, 1) := by decide +kernel
theorem dX2_endLoop_54 : decode cX2_endLoop 54 = .ok (.putfield 36, 3) := by decide +kernel
theorem dX2_endLoop_57 : decode cX2_endLoop 57 = .ok (.return_, 1) := by decide +kernel
theorem dX2_lineOf_0 : decode cX2_lineOf 0 = .ok (.iload_n 1, 1) := by decide +kernel
theorem dX2_lineOf_1 : decode cX2_lineOf 1 = .ok (.istore_n 2, 1) := by decide +kernel
theorem dX2_lineOf_2 : decode cX2_lineOf 2 = .ok (.iconst 0, 1) := by decide +kernel
theorem dX2_lineOf_3 : decode cX2_lineOf 3 = .ok (.istore_n 3, 1) := by decide +kernel
theorem dX2_lineOf_4 : decode cX2_lineOf 4 = .ok (.iconst 0, 1) := by decide +kernel
theorem dX2_lineOf_5 : decode cX2_lineOf 5 = .ok (.istore 4, 2) := by decide +kernel
theorem dX2_lineOf_7 : decode cX2_lineOf 7 = .ok (.iload 4, 2) := by decide +kernel
theorem dX2_lineOf_9 : decode cX2_lineOf 9 = .ok (.sipush 400, 3) := by decide +kernel
theorem dX2_lineOf_12 : decode cX2_lineOf 12 = .ok (.if_icmp .ge 133, 3) := by decide +kernel
theorem dX2_lineOf_15 : decode cX2_lineOf 15 = .ok (.iload_n 3, 1) := by decide +kernel
theorem dX2_lineOf_16 : decode cX2_lineOf 16 = .ok (.aload_n 0, 1) := by decide +kernel
theorem dX2_lineOf_17 : decode cX2_lineOf 17 = .ok (.getfield 36, 3) := by decide +kernel
theorem dX2_lineOf_20 : decode cX2_lineOf 20 = .ok (.if_icmp .ge 125, 3) := by decide +kernel
theorem dX2_lineOf_23 : decode cX2_lineOf 23 = .ok (.aload_n 0, 1) := by decide +kernel
theorem dX2_lineOf_24 : decode cX2_lineOf 24 = .ok (.getfield 15, 3) := by decide +kernel
theorem dX2_lineOf_27 : decode cX2_lineOf 27 = .ok (.iload_n 3, 1) := by decide +kernel
theorem dX2_lineOf_28 : decode cX2_lineOf 28 = .ok (.iaload, 1) := by decide +kernel
theorem dX2_lineOf_29 : decode cX2_lineOf 29 = .ok (.ifCond .ne 18, 3) := by decide +kernel
theorem dX2_lineOf_32 : decode cX2_lineOf 32 = .ok (.iload_n 2, 1) := by decide +kernel
theorem dX2_lineOf_33 : decode cX2_lineOf 33 = .ok (.ifCond .ne 5, 3) := by decide +kernel
theorem dX2_lineOf_36 : decode cX2_lineOf 36 = .ok (.iload_n 3, 1) := by decide +kernel
theorem dX2_lineOf_37 : decode cX2_lineOf 37 = .ok (.ireturn, 1) := by decide +kernel
theorem dX2_lineOf_38 : decode cX2_lineOf 38 = .ok (.iinc 2 (-1), 3) := by decide +kernel
theorem dX2_lineOf_41 : decode cX2_lineOf 41 = .ok (.iinc 3 1, 3) := by decide +kernel
theorem dX2_lineOf_44 : decode cX2_lineOf 44 = .ok (.goto 95, 3) := by decide +kernel
theorem dX2_lineOf_47 : decode cX2_lineOf 47 = .ok (.aload_n 0, 1) := by decide +kernel
theorem dX2_lineOf_48 : decode cX2_lineOf 48 = .ok (.getfield 15, 3) := by decide +kernel
theorem dX2_lineOf_51 : decode cX2_lineOf 51 = .ok (.iload_n 3, 1) := by decide +kernel
theorem dX2_lineOf_52 : decode cX2_lineOf 52 = .ok (.iaload, 1) := by decide +kernel
theorem dX2_lineOf_53 : decode cX2_lineOf 53 = .ok (.iconst 1, 1) := by decide +kernel
theorem dX2_lineOf_54 : decode cX2_lineOf 54 = .ok (.if_icmp .ne 44, 3) := by decide +kernel
theorem dX2_lineOf_57 : decode cX2_lineOf 57 = .ok (.aload_n 0, 1) := by decide +kernel
theorem dX2_lineOf_58 : decode cX2_lineOf 58 = .ok (.getfield 24, 3) := by decide +kernel
theorem dX2_lineOf_61 : decode cX2_lineOf 61 = .ok (.iload_n 3, 1) := by decide +kernel
theorem dX2_lineOf_62 : decode cX2_lineOf 62 = .ok (.iaload, 1) := by decide +kernel
theorem dX2_lineOf_63 : decode cX2_lineOf 63 = .ok (.ifCond .le 35, 3) := by decide +kernel
theorem dX2_lineOf_66 : decode cX2_lineOf 66 = .ok (.iload_n 2, 1) := by decide +kernel
theorem dX2_lineOf_67 : decode cX2_lineOf 67 = .ok (.aload_n 0, 1) := by decide +kernel
theorem dX2_lineOf_68 : decode cX2_lineOf 68 = .ok (.getfield 21, 3) := by decide +kernel
theorem dX2_lineOf_71 : decode cX2_lineOf 71 = .ok (.iload_n 3, 1) := by decide +kernel
theorem dX2_lineOf_72 : decode cX2_lineOf 72 = .ok (.iaload, 1) := by decide +kernel
theorem dX2_lineOf_73 : decode cX2_lineOf 73 = .ok (.aload_n 0, 1) := by decide +kernel
theorem dX2_lineOf_74 : decode cX2_lineOf 74 = .ok (.getfield 24, 3) := by decide +kernel
theorem dX2_lineOf_77 : decode cX2_lineOf 77 = .ok (.iload_n 3, 1) := by decide +kernel
theorem dX2_lineOf_78 : decode cX2_lineOf 78 = .ok (.iaload, 1) := by decide +kernel
theorem dX2_lineOf_79 : decode cX2_lineOf 79 = .ok (.imul, 1) := by decide +kernel
theorem dX2_lineOf_80 : decode cX2_lineOf 80 = .ok (.if_icmp .ge 18, 3) := by decide +kernel
theorem dX2_lineOf_83 : decode cX2_lineOf 83 = .ok (.iload_n 2, 1) := by decide +kernel
theorem dX2_lineOf_84 : decode cX2_lineOf 84 = .ok (.aload_n 0, 1) := by decide +kernel
theorem dX2_lineOf_85 : decode cX2_lineOf 85 = .ok (.getfield 24, 3) := by decide +kernel
theorem dX2_lineOf_88 : decode cX2_lineOf 88 = .ok (.iload_n 3, 1) := by decide +kernel
theorem dX2_lineOf_89 : decode cX2_lineOf 89 = .ok (.iaload, 1) := by decide +kernel
theorem dX2_lineOf_90 : decode cX2_lineOf 90 = .ok (.irem, 1) := by decide +kernel
theorem dX2_lineOf_91 : decode cX2_lineOf 91 = .ok (.istore_n 2, 1) := by decide +kernel
theorem dX2_lineOf_92 : decode cX2_lineOf 92 = .ok (.iinc 3 1, 3) := by decide +kernel
theorem dX2_lineOf_95 : decode cX2_lineOf 95 = .ok (.goto 44, 3) := by decide +kernel
theorem dX2_lineOf_98 : decode cX2_lineOf 98 = .ok (.aload_n 0, 1) := by decide +kernel
theorem dX2_lineOf_99 : decode cX2_lineOf 99 = .ok (.getfield 15, 3) := by decide +kernel
theorem dX2_lineOf_102 : decode cX2_lineOf 102 = .ok (.iload_n 3, 1) := by decide +kernel
theorem dX2_lineOf_103 : decode cX2_lineOf 103 = .ok (.iaload, 1) := by decide +kernel
theorem dX2_lineOf_104 : decode cX2_lineOf 104 = .ok (.iconst 1, 1) := by decide +kernel
theorem dX2_lineOf_105 : decode cX2_lineOf 105 = .ok (.if_icmp .ne 31, 3) := by decide +kernel
theorem dX2_lineOf_108 : decode cX2_lineOf 108 = .ok (.iload_n 2, 1) := by decide +kernel
theorem dX2_lineOf_109 : decode cX2_lineOf 109 = .ok (.aload_n 0, 1) := by decide +kernel
theorem dX2_lineOf_110 : decode cX2_lineOf 110 = .ok (.getfield 21, 3) := by decide +kernel
theorem dX2_lineOf_113 : decode cX2_lineOf 113 = .ok (.iload_n 3, 1) := by decide +kernel
theorem dX2_lineOf_114 : decode cX2_lineOf 114 = .ok (.iaload, 1) := by decide +kernel
theorem dX2_lineOf_115 : decode cX2_lineOf 115 = .ok (.aload_n 0, 1) := by decide +kernel
theorem dX2_lineOf_116 : decode cX2_lineOf 116 = .ok (.getfield 24, 3) := by decide +kernel
theorem dX2_lineOf_119 : decode cX2_lineOf 119 = .ok (.iload_n 3, 1) := by decide +kernel
theorem dX2_lineOf_120 : decode cX2_lineOf 120 = .ok (.iaload, 1) := by decide +kernel
theorem dX2_lineOf_121 : decode cX2_lineOf 121 = .ok (.imul, 1) := by decide +kernel
theorem dX2_lineOf_122 : decode cX2_lineOf 122 = .ok (.isub, 1) := by decide +kernel
theorem dX2_lineOf_123 : decode cX2_lineOf 123 = .ok (.istore_n 2, 1) := by decide +kernel
theorem dX2_lineOf_124 : decode cX2_lineOf 124 = .ok (.aload_n 0, 1) := by decide +kernel
theorem dX2_lineOf_125 : decode cX2_lineOf 125 = .ok (.getfield 18, 3) := by decide +kernel
theorem dX2_lineOf_128 : decode cX2_lineOf 128 = .ok (.iload_n 3, 1) := by decide +kernel
theorem dX2_lineOf_129 : decode cX2_lineOf 129 = .ok (.iaload, 1) := by decide +kernel
theorem dX2_lineOf_130 : decode cX2_lineOf 130 = .ok (.iconst 1, 1) := by decide +kernel
theorem dX2_lineOf_131 : decode cX2_lineOf 131 = .ok (.iadd, 1) := by decide +kernel
theorem dX2_lineOf_132 : decode cX2_lineOf 132 = .ok (.istore_n 3, 1) := by decide +kernel
theorem dX2_lineOf_133 : decode cX2_lineOf 133 = .ok (.goto 6, 3) := by decide +kernel
theorem dX2_lineOf_136 : decode cX2_lineOf 136 = .ok (.iinc 3 1, 3) := by decide +kernel
theorem dX2_lineOf_139 : decode cX2_lineOf 139 = .ok (.iinc 4 1, 3) := by decide +kernel
theorem dX2_lineOf_142 : decode cX2_lineOf 142 = .ok (.goto (-135), 3) := by decide +kernel
theorem dX2_lineOf_145 : decode cX2_lineOf 145 = .ok (.ldc 62, 2) := by decide +kernel
theorem dX2_lineOf_147 : decode cX2_lineOf 147 = .ok (.ireturn, 1) := by decide +kernel
theorem dX2_signOf_0 : decode cX2_signOf 0 = .ok (.iload_n 1, 1) := by decide +kernel
theorem dX2_signOf_1 : decode cX2_signOf 1 = .ok (.ldc 62, 2) := by decide +kernel
theorem dX2_signOf_3 : decode cX2_signOf 3 = .ok (.if_icmp .ne 8, 3) := by decide +kernel
theorem dX2_signOf_6 : decode cX2_signOf 6 = .ok (.ldc 62, 2) := by decide +kernel
theorem dX2_signOf_8 : decode cX2_signOf 8 = .ok (.goto 16, 3) := by decide +kernel
theorem dX2_signOf_11 : decode cX2_signOf 11 = .ok (.aload_n 0, 1) := by decide +kernel
theorem dX2_signOf_12 : decode cX2_signOf 12 = .ok (.getfield 9, 3) := by decide +kernel
theorem dX2_signOf_15 : decode cX2_signOf 15 = .ok (.aload_n 0, 1) := by decide +kernel
theorem dX2_signOf_16 : decode cX2_signOf 16 = .ok (.getfield 18, 3) := by decide +kernel
theorem dX2_signOf_19 : decode cX2_signOf 19 = .ok (.iload_n 1, 1) := by decide +kernel
theorem dX2_signOf_20 : decode cX2_signOf 20 = .ok (.iaload, 1) := by decide +kernel
theorem dX2_signOf_21 : decode cX2_signOf 21 = .ok (.iload_n 2, 1) := by decide +kernel
theorem dX2_signOf_22 : decode cX2_signOf 22 = .ok (.iadd, 1) := by decide +kernel
theorem dX2_signOf_23 : decode cX2_signOf 23 = .ok (.iaload, 1) := by decide +kernel
theorem dX2_signOf_24 : decode cX2_signOf 24 = .ok (.ireturn, 1) := by decide +kernel
theorem dX2_startWalk_0 : decode cX2_startWalk 0 = .ok (.aload_n 0, 1) := by decide +kernel
theorem dX2_startWalk_1 : decode cX2_startWalk 1 = .ok (.iconst 0, 1) := by decide +kernel
theorem dX2_startWalk_2 : decode cX2_startWalk 2 = .ok (.putfield 40, 3) := by decide +kernel
theorem dX2_startWalk_5 : decode cX2_startWalk 5 = .ok (.return_, 1) := by decide +kernel
theorem dX2_nextLine_0 : decode cX2_nextLine 0 = .ok (.iconst 0, 1) := by decide +kernel
theorem dX2_nextLine_1 : decode cX2_nextLine 1 = .ok (.istore_n 1, 1) := by decide +kernel
theorem dX2_nextLine_2 : decode cX2_nextLine 2 = .ok (.iload_n 1, 1) := by decide +kernel
theorem dX2_nextLine_3 : decode cX2_nextLine 3 = .ok (.bipush 12, 2) := by decide +kernel
theorem dX2_nextLine_5 : decode cX2_nextLine 5 = .ok (.if_icmp .gt 118, 3) := by decide +kernel
theorem dX2_nextLine_8 : decode cX2_nextLine 8 = .ok (.aload_n 0, 1) := by decide +kernel
theorem dX2_nextLine_9 : decode cX2_nextLine 9 = .ok (.getfield 40, 3) := by decide +kernel
theorem dX2_nextLine_12 : decode cX2_nextLine 12 = .ok (.aload_n 0, 1) := by decide +kernel
theorem dX2_nextLine_13 : decode cX2_nextLine 13 = .ok (.getfield 36, 3) := by decide +kernel
theorem dX2_nextLine_16 : decode cX2_nextLine 16 = .ok (.if_icmp .ge 107, 3) := by decide +kernel
theorem dX2_nextLine_19 : decode cX2_nextLine 19 = .ok (.aload_n 0, 1) := by decide +kernel
theorem dX2_nextLine_20 : decode cX2_nextLine 20 = .ok (.getfield 40, 3) := by decide +kernel
theorem dX2_nextLine_23 : decode cX2_nextLine 23 = .ok (.istore_n 2, 1) := by decide +kernel
theorem dX2_nextLine_24 : decode cX2_nextLine 24 = .ok (.aload_n 0, 1) := by decide +kernel
theorem dX2_nextLine_25 : decode cX2_nextLine 25 = .ok (.dup, 1) := by decide +kernel
theorem dX2_nextLine_26 : decode cX2_nextLine 26 = .ok (.getfield 40, 3) := by decide +kernel
theorem dX2_nextLine_29 : decode cX2_nextLine 29 = .ok (.iconst 1, 1) := by decide +kernel
theorem dX2_nextLine_30 : decode cX2_nextLine 30 = .ok (.iadd, 1) := by decide +kernel
theorem dX2_nextLine_31 : decode cX2_nextLine 31 = .ok (.putfield 40, 3) := by decide +kernel
theorem dX2_nextLine_34 : decode cX2_nextLine 34 = .ok (.aload_n 0, 1) := by decide +kernel
theorem dX2_nextLine_35 : decode cX2_nextLine 35 = .ok (.getfield 15, 3) := by decide +kernel
theorem dX2_nextLine_38 : decode cX2_nextLine 38 = .ok (.iload_n 2, 1) := by decide +kernel
theorem dX2_nextLine_39 : decode cX2_nextLine 39 = .ok (.iaload, 1) := by decide +kernel
theorem dX2_nextLine_40 : decode cX2_nextLine 40 = .ok (.ifCond .ne 5, 3) := by decide +kernel
theorem dX2_nextLine_43 : decode cX2_nextLine 43 = .ok (.iload_n 2, 1) := by decide +kernel
theorem dX2_nextLine_44 : decode cX2_nextLine 44 = .ok (.ireturn, 1) := by decide +kernel
theorem dX2_nextLine_45 : decode cX2_nextLine 45 = .ok (.aload_n 0, 1) := by decide +kernel
theorem dX2_nextLine_46 : decode cX2_nextLine 46 = .ok (.getfield 15, 3) := by decide +kernel
theorem dX2_nextLine_49 : decode cX2_nextLine 49 = .ok (.iload_n 2, 1) := by decide +kernel
theorem dX2_nextLine_50 : decode cX2_nextLine 50 = .ok (.iaload, 1) := by decide +kernel
theorem dX2_nextLine_51 : decode cX2_nextLine 51 = .ok (.iconst 1, 1) := by decide +kernel
theorem dX2_nextLine_52 : decode cX2_nextLine 52 = .ok (.if_icmp .ne 13, 3) := by decide +kernel
theorem dX2_nextLine_55 : decode cX2_nextLine 55 = .ok (.aload_n 0, 1) := by decide +kernel
theorem dX2_nextLine_56 : decode cX2_nextLine 56 = .ok (.getfield 33, 3) := by decide +kernel
theorem dX2_nextLine_59 : decode cX2_nextLine 59 = .ok (.iload_n 2, 1) := by decide +kernel
theorem dX2_nextLine_60 : decode cX2_nextLine 60 = .ok (.iconst 1, 1) := by decide +kernel
theorem dX2_nextLine_61 : decode cX2_nextLine 61 = .ok (.iastore, 1) := by decide +kernel
theorem dX2_nextLine_62 : decode cX2_nextLine 62 = .ok (.goto 55, 3) := by decide +kernel
theorem dX2_nextLine_65 : decode cX2_nextLine 65 = .ok (.aload_n 0, 1) := by decide +kernel
theorem dX2_nextLine_66 : decode cX2_nextLine 66 = .ok (.getfield 33, 3) := by decide +kernel
theorem dX2_nextLine_69 : decode cX2_nextLine 69 = .ok (.aload_n 0, 1) := by decide +kernel
theorem dX2_nextLine_70 : decode cX2_nextLine 70 = .ok (.getfield 18, 3) := by decide +kernel
theorem dX2_nextLine_73 : decode cX2_nextLine 73 = .ok (.iload_n 2, 1) := by decide +kernel
theorem dX2_nextLine_74 : decode cX2_nextLine 74 = .ok (.iaload, 1) := by decide +kernel
theorem dX2_nextLine_75 : decode cX2_nextLine 75 = .ok (.iaload, 1) := by decide +kernel
theorem dX2_nextLine_76 : decode cX2_nextLine 76 = .ok (.aload_n 0, 1) := by decide +kernel
theorem dX2_nextLine_77 : decode cX2_nextLine 77 = .ok (.getfield 21, 3) := by decide +kernel
theorem dX2_nextLine_80 : decode cX2_nextLine 80 = .ok (.aload_n 0, 1) := by decide +kernel
theorem dX2_nextLine_81 : decode cX2_nextLine 81 = .ok (.getfield 18, 3) := by decide +kernel
theorem dX2_nextLine_84 : decode cX2_nextLine 84 = .ok (.iload_n 2, 1) := by decide +kernel
theorem dX2_nextLine_85 : decode cX2_nextLine 85 = .ok (.iaload, 1) := by decide +kernel
theorem dX2_nextLine_86 : decode cX2_nextLine 86 = .ok (.iaload, 1) := by decide +kernel
theorem dX2_nextLine_87 : decode cX2_nextLine 87 = .ok (.if_icmp .ge 30, 3) := by decide +kernel
theorem dX2_nextLine_90 : decode cX2_nextLine 90 = .ok (.aload_n 0, 1) := by decide +kernel
theorem dX2_nextLine_91 : decode cX2_nextLine 91 = .ok (.getfield 33, 3) := by decide +kernel
theorem dX2_nextLine_94 : decode cX2_nextLine 94 = .ok (.aload_n 0, 1) := by decide +kernel
theorem dX2_nextLine_95 : decode cX2_nextLine 95 = .ok (.getfield 18, 3) := by decide +kernel
theorem dX2_nextLine_98 : decode cX2_nextLine 98 = .ok (.iload_n 2, 1) := by decide +kernel
theorem dX2_nextLine_99 : decode cX2_nextLine 99 = .ok (.iaload, 1) := by decide +kernel
theorem dX2_nextLine_100 : decode cX2_nextLine 100 = .ok (.dup2, 1) := by decide +kernel
theorem dX2_nextLine_101 : decode cX2_nextLine 101 = .ok (.iaload, 1) := by decide +kernel
theorem dX2_nextLine_102 : decode cX2_nextLine 102 = .ok (.iconst 1, 1) := by decide +kernel
theorem dX2_nextLine_103 : decode cX2_nextLine 103 = .ok (.iadd, 1) := by decide +kernel
theorem dX2_nextLine_104 : decode cX2_nextLine 104 = .ok (.iastore, 1) := by decide +kernel
theorem dX2_nextLine_105 : decode cX2_nextLine 105 = .ok (.aload_n 0, 1) := by decide +kernel
theorem dX2_nextLine_106 : decode cX2_nextLine 106 = .ok (.aload_n 0, 1) := by decide +kernel
theorem dX2_nextLine_107 : decode cX2_nextLine 107 = .ok (.getfield 18, 3) := by decide +kernel
theorem dX2_nextLine_110 : decode cX2_nextLine 110 = .ok (.iload_n 2, 1) := by decide +kernel
theorem dX2_nextLine_111 : decode cX2_nextLine 111 = .ok (.iaload, 1) := by decide +kernel
theorem dX2_nextLine_112 : decode cX2_nextLine 112 = .ok (.iconst 1, 1) := by decide +kernel
theorem dX2_nextLine_113 : decode cX2_nextLine 113 = .ok (.iadd, 1) := by decide +kernel
theorem dX2_nextLine_114 : decode cX2_nextLine 114 = .ok (.putfield 40, 3) := by decide +kernel
theorem dX2_nextLine_117 : decode cX2_nextLine 117 = .ok (.iinc 1 1, 3) := by decide +kernel
theorem dX2_nextLine_120 : decode cX2_nextLine 120 = .ok (.goto (-118), 3) := by decide +kernel
theorem dX2_nextLine_123 : decode cX2_nextLine 123 = .ok (.ldc 62, 2) := by decide +kernel
theorem dX2_nextLine_125 : decode cX2_nextLine 125 = .ok (.ireturn, 1) := by decide +kernel
theorem dX2_wrongPins_0 : decode cX2_wrongPins 0 = .ok (.iload_n 1, 1) := by decide +kernel
theorem dX2_wrongPins_1 : decode cX2_wrongPins 1 = .ok (.ldc 62, 2) := by decide +kernel
theorem dX2_wrongPins_3 : decode cX2_wrongPins 3 = .ok (.if_icmp .ne 7, 3) := by decide +kernel
theorem dX2_wrongPins_6 : decode cX2_wrongPins 6 = .ok (.iconst 0, 1) := by decide +kernel
theorem dX2_wrongPins_7 : decode cX2_wrongPins 7 = .ok (.goto 22, 3) := by decide +kernel
theorem dX2_wrongPins_10 : decode cX2_wrongPins 10 = .ok (.iload_n 2, 1) := by decide +kernel
theorem dX2_wrongPins_11 : decode cX2_wrongPins 11 = .ok (.aload_n 0, 1) := by decide +kernel
theorem dX2_wrongPins_12 : decode cX2_wrongPins 12 = .ok (.getfield 27, 3) := by decide +kernel
theorem dX2_wrongPins_15 : decode cX2_wrongPins 15 = .ok (.iload_n 1, 1) := by decide +kernel
theorem dX2_wrongPins_16 : decode cX2_wrongPins 16 = .ok (.iaload, 1) := by decide +kernel
theorem dX2_wrongPins_17 : decode cX2_wrongPins 17 = .ok (.iand, 1) := by decide +kernel
theorem dX2_wrongPins_18 : decode cX2_wrongPins 18 = .ok (.iload_n 2, 1) := by decide +kernel
theorem dX2_wrongPins_19 : decode cX2_wrongPins 19 = .ok (.iconst (-1), 1) := by decide +kernel
theorem dX2_wrongPins_20 : decode cX2_wrongPins 20 = .ok (.ixor, 1) := by decide +kernel
theorem dX2_wrongPins_21 : decode cX2_wrongPins 21 = .ok (.aload_n 0, 1) := by decide +kernel
theorem dX2_wrongPins_22 : decode cX2_wrongPins 22 = .ok (.getfield 30, 3) := by decide +kernel
theorem dX2_wrongPins_25 : decode cX2_wrongPins 25 = .ok (.iload_n 1, 1) := by decide +kernel
theorem dX2_wrongPins_26 : decode cX2_wrongPins 26 = .ok (.iaload, 1) := by decide +kernel
theorem dX2_wrongPins_27 : decode cX2_wrongPins 27 = .ok (.iand, 1) := by decide +kernel
theorem dX2_wrongPins_28 : decode cX2_wrongPins 28 = .ok (.ior, 1) := by decide +kernel
theorem dX2_wrongPins_29 : decode cX2_wrongPins 29 = .ok (.ireturn, 1) := by decide +kernel
theorem dX3_init_0 : decode cX3_init 0 = .ok (.aload_n 0, 1) := by decide +kernel
theorem dX3_init_1 : decode cX3_init 1 = .ok (.invokespecial 3, 3) := by decide +kernel
theorem dX3_init_4 : decode cX3_init 4 = .ok (.aload_n 0, 1) := by decide +kernel
theorem dX3_init_5 : decode cX3_init 5 = .ok (.bipush 8, 2) := by decide +kernel
theorem dX3_init_7 : decode cX3_init 7 = .ok (.newarray .int, 2) := by decide +kernel
theorem dX3_init_9 : decode cX3_init 9 = .ok (.putfield 9, 3) := by decide +kernel
theorem dX3_init_12 : decode cX3_init 12 = .ok (.aload_n 0, 1) := by decide +kernel
theorem dX3_init_13 : decode cX3_init 13 = .ok (.bipush 8, 2) := by decide +kernel
theorem dX3_init_15 : decode cX3_init 15 = .ok (.newarray .int, 2) := by decide +kernel
theorem dX3_init_17 : decode cX3_init 17 = .ok (.putfield 15, 3) := by decide +kernel
theorem dX3_init_20 : decode cX3_init 20 = .ok (.aload_n 0, 1) := by decide +kernel
theorem dX3_init_21 : decode cX3_init 21 = .ok (.sipush 800, 3) := by decide +kernel
theorem dX3_init_24 : decode cX3_init 24 = .ok (.newarray .int, 2) := by decide +kernel
theorem dX3_init_26 : decode cX3_init 26 = .ok (.putfield 18, 3) := by decide +kernel
theorem dX3_init_29 : decode cX3_init 29 = .ok (.aload_n 0, 1) := by decide +kernel
theorem dX3_init_30 : decode cX3_init 30 = .ok (.getfield 9, 3) := by decide +kernel
theorem dX3_init_33 : decode cX3_init 33 = .ok (.iconst (-1), 1) := by decide +kernel
theorem dX3_init_34 : decode cX3_init 34 = .ok (.invokestatic 21, 3) := by decide +kernel
theorem dX3_init_37 : decode cX3_init 37 = .ok (.return_, 1) := by decide +kernel
theorem dX3_isMissing_0 : decode cX3_isMissing 0 = .ok (.aload_n 0, 1) := by decide +kernel
theorem dX3_isMissing_1 : decode cX3_isMissing 1 = .ok (.getfield 9, 3) := by decide +kernel
theorem dX3_isMissing_4 : decode cX3_isMissing 4 = .ok (.iload_n 1, 1) := by decide +kernel
theorem dX3_isMissing_5 : decode cX3_isMissing 5 = .ok (.iaload, 1) := by decide +kernel
theorem dX3_isMissing_6 : decode cX3_isMissing 6 = .ok (.iconst (-1), 1) := by decide +kernel
theorem dX3_isMissing_7 : decode cX3_isMissing 7 = .ok (.if_icmp .ne 7, 3) := by decide +kernel
theorem dX3_isMissing_10 : decode cX3_isMissing 10 = .ok (.iconst 1, 1) := by decide +kernel
theorem dX3_isMissing_11 : decode cX3_isMissing 11 = .ok (.goto 4, 3) := by decide +kernel
theorem dX3_isMissing_14 : decode cX3_isMissing 14 = .ok (.iconst 0, 1) := by decide +kernel
theorem dX3_isMissing_15 : decode cX3_isMissing 15 = .ok (.ireturn, 1) := by decide +kernel
theorem dX3_present_0 : decode cX3_present 0 = .ok (.iconst 0, 1) := by decide +kernel
theorem dX3_present_1 : decode cX3_present 1 = .ok (.istore_n 1, 1) := by decide +kernel
theorem dX3_present_2 : decode cX3_present 2 = .ok (.iconst 0, 1) := by decide +kernel
theorem dX3_present_3 : decode cX3_present 3 = .ok (.istore_n 2, 1) := by decide +kernel
theorem dX3_present_4 : decode cX3_present 4 = .ok (.iload_n 2, 1) := by decide +kernel
theorem dX3_present_5 : decode cX3_present 5 = .ok (.bipush 8, 2) := by decide +kernel
theorem dX3_present_7 : decode cX3_present 7 = .ok (.if_icmp .ge 20, 3) := by decide +kernel
theorem dX3_present_10 : decode cX3_present 10 = .ok (.aload_n 0, 1) := by decide +kernel
theorem dX3_present_11 : decode cX3_present 11 = .ok (.iload_n 2, 1) := by decide +kernel
theorem dX3_present_12 : decode cX3_present 12 = .ok (.invokevirtual 27, 3) := by decide +kernel
theorem dX3_present_15 : decode cX3_present 15 = .ok (.ifCond .ne 6, 3) := by decide +kernel
theorem dX3_present_18 : decode cX3_present 18 = .ok (.iinc 1 1, 3) := by decide +kernel
theorem dX3_present_21 : decode cX3_present 21 = .ok (.iinc 2 1, 3) := by decide +kernel
theorem dX3_present_24 : decode cX3_present 24 = .ok (.goto (-20), 3) := by decide +kernel
theorem dX3_present_27 : decode cX3_present 27 = .ok (.iload_n 1, 1) := by decide +kernel
theorem dX3_present_28 : decode cX3_present 28 = .ok (.ireturn, 1) := by decide +kernel
theorem dX3_lay_0 : decode cX3_lay 0 = .ok (.aload_n 0, 1) := by decide +kernel
theorem dX3_lay_1 : decode cX3_lay 1 = .ok (.getfield 9, 3) := by decide +kernel
theorem dX3_lay_4 : decode cX3_lay 4 = .ok (.iload_n 1, 1) := by decide +kernel
theorem dX3_lay_5 : decode cX3_lay 5 = .ok (.iload_n 2, 1) := by decide +kernel
theorem dX3_lay_6 : decode cX3_lay 6 = .ok (.iastore, 1) := by decide +kernel
theorem dX3_lay_7 : decode cX3_lay 7 = .ok (.aload_n 0, 1) := by decide +kernel
theorem dX3_lay_8 : decode cX3_lay 8 = .ok (.getfield 15, 3) := by decide +kernel
theorem dX3_lay_11 : decode cX3_lay 11 = .ok (.iload_n 1, 1) := by decide +kernel
theorem dX3_lay_12 : decode cX3_lay 12 = .ok (.iload_n 3, 1) := by decide +kernel
theorem dX3_lay_13 : decode cX3_lay 13 = .ok (.iastore, 1) := by decide +kernel
theorem dX3_lay_14 : decode cX3_lay 14 = .ok (.iconst 0, 1) := by decide +kernel
theorem dX3_lay_15 : decode cX3_lay 15 = .ok (.istore 4, 2) := by decide +kernel
theorem dX3_lay_17 : decode cX3_lay 17 = .ok (.iload 4, 2) := by decide +kernel
theorem dX3_lay_19 : decode cX3_lay 19 = .ok (.iload_n 3, 1) := by decide +kernel
theorem dX3_lay_20 : decode cX3_lay 20 = .ok (.if_icmp .ge 22, 3) := by decide +kernel
theorem dX3_lay_23 : decode cX3_lay 23 = .ok (.aload_n 0, 1) := by decide +kernel
theorem dX3_lay_24 : decode cX3_lay 24 = .ok (.getfield 18, 3) := by decide +kernel
theorem dX3_lay_27 : decode cX3_lay 27 = .ok (.aload_n 0, 1) := by decide +kernel
theorem dX3_lay_28 : decode cX3_lay 28 = .ok (.iload_n 1, 1) := by decide +kernel
theorem dX3_lay_29 : decode cX3_lay 29 = .ok (.iload 4, 2) := by decide +kernel
theorem dX3_lay_31 : decode cX3_lay 31 = .ok (.invokevirtual 31, 3) := by decide +kernel
theorem dX3_lay_34 : decode cX3_lay 34 = .ok (.iconst 0, 1) := by decide +kernel
theorem dX3_lay_35 : decode cX3_lay 35 = .ok (.iastore, 1) := by decide +kernel
theorem dX3_lay_36 : decode cX3_lay 36 = .ok (.iinc 4 1, 3) := by decide +kernel
theorem dX3_lay_39 : decode cX3_lay 39 = .ok (.goto (-22), 3) := by decide +kernel
theorem dX3_lay_42 : decode cX3_lay 42 = .ok (.return_, 1) := by decide +kernel
theorem dX3_hasItems_0 : decode cX3_hasItems 0 = .ok (.iload_n 2, 1) := by decide +kernel
theorem dX3_hasItems_1 : decode cX3_hasItems 1 = .ok (.ifCond .lt 27, 3) := by decide +kernel
theorem dX3_hasItems_4 : decode cX3_hasItems 4 = .ok (.iload_n 3, 1) := by decide +kernel
theorem dX3_hasItems_5 : decode cX3_hasItems 5 = .ok (.ifCond .lt 23, 3) := by decide +kernel
theorem dX3_hasItems_8 : decode cX3_hasItems 8 = .ok (.iload_n 2, 1) := by decide +kernel
theorem dX3_hasItems_9 : decode cX3_hasItems 9 = .ok (.i2l, 1) := by decide +kernel
theorem dX3_hasItems_10 : decode cX3_hasItems 10 = .ok (.iload_n 3, 1) := by decide +kernel
theorem dX3_hasItems_11 : decode cX3_hasItems 11 = .ok (.i2l, 1) := by decide +kernel
theorem dX3_hasItems_12 : decode cX3_hasItems 12 = .ok (.ladd, 1) := by decide +kernel
theorem dX3_hasItems_13 : decode cX3_hasItems 13 = .ok (.aload_n 0, 1) := by decide +kernel
theorem dX3_hasItems_14 : decode cX3_hasItems 14 = .ok (.getfield 15, 3) := by decide +kernel
theorem dX3_hasItems_17 : decode cX3_hasItems 17 = .ok (.iload_n 1, 1) := by decide +kernel
theorem dX3_hasItems_18 : decode cX3_hasItems 18 = .ok (.iaload, 1) := by decide +kernel
theorem dX3_hasItems_19 : decode cX3_hasItems 19 = .ok (.i2l, 1) := by decide +kernel
theorem dX3_hasItems_20 : decode cX3_hasItems 20 = .ok (.lcmp, 1) := by decide +kernel
theorem dX3_hasItems_21 : decode cX3_hasItems 21 = .ok (.ifCond .gt 7, 3) := by decide +kernel
theorem dX3_hasItems_24 : decode cX3_hasItems 24 = .ok (.iconst 1, 1) := by decide +kernel
theorem dX3_hasItems_25 : decode cX3_hasItems 25 = .ok (.goto 4, 3) := by decide +kernel
theorem dX3_hasItems_28 : decode cX3_hasItems 28 = .ok (.iconst 0, 1) := by decide +kernel
theorem dX3_hasItems_29 : decode cX3_hasItems 29 = .ok (.ireturn, 1) := by decide +kernel
theorem dX3_indexOf_0 : decode cX3_indexOf 0 = .ok (.iload_n 1, 1) := by decide +kernel
theorem dX3_indexOf_1 : decode cX3_indexOf 1 = .ok (.bipush 100, 2) := by decide +kernel
theorem dX3_indexOf_3 : decode cX3_indexOf 3 = .ok (.imul, 1) := by decide +kernel
theorem dX3_indexOf_4 : decode cX3_indexOf 4 = .ok (.iload_n 2, 1) := by decide +kernel
theorem dX3_indexOf_5 : decode cX3_indexOf 5 = .ok (.iadd, 1) := by decide +kernel
theorem dX3_indexOf_6 : decode cX3_indexOf 6 = .ok (.ireturn, 1) := by decide +kernel
theorem dX3_itemAt_0 : decode cX3_itemAt 0 = .ok (.aload_n 0, 1) := by decide +kernel
theorem dX3_itemAt_1 : decode cX3_itemAt 1 = .ok (.getfield 18, 3) := by decide +kernel
theorem dX3_itemAt_4 : decode cX3_itemAt 4 = .ok (.aload_n 0, 1) := by decide +kernel
theorem dX3_itemAt_5 : decode cX3_itemAt 5 = .ok (.iload_n 1, 1) := by decide +kernel
theorem dX3_itemAt_6 : decode cX3_itemAt 6 = .ok (.iload_n 2, 1) := by decide +kernel
theorem dX3_itemAt_7 : decode cX3_itemAt 7 = .ok (.invokevirtual 31, 3) := by decide +kernel
theorem dX3_itemAt_10 : decode cX3_itemAt 10 = .ok (.iaload, 1) := by decide +kernel
theorem dX3_itemAt_11 : decode cX3_itemAt 11 = .ok (.ireturn, 1) := by decide +kernel
theorem dX3_put_0 : decode cX3_put 0 = .ok (.iload_n 3, 1) := by decide +kernel
theorem dX3_put_1 : decode cX3_put 1 = .ok (.istore 4, 2) := by decide +kernel
theorem dX3_put_3 : decode cX3_put 3 = .ok (.aload_n 0, 1) := by decide +kernel
theorem dX3_put_4 : decode cX3_put 4 = .ok (.getfield 9, 3) := by decide +kernel
theorem dX3_put_7 : decode cX3_put 7 = .ok (.iload_n 1, 1) := by decide +kernel
theorem dX3_put_8 : decode cX3_put 8 = .ok (.iaload, 1) := by decide +kernel
theorem dX3_put_9 : decode cX3_put 9 = .ok (.ifCond .ne 10, 3) := by decide +kernel
theorem dX3_put_12 : decode cX3_put 12 = .ok (.iload_n 3, 1) := by decide +kernel
theorem dX3_put_13 : decode cX3_put 13 = .ok (.i2b, 1) := by decide +kernel
theorem dX3_put_14 : decode cX3_put 14 = .ok (.istore 4, 2) := by decide +kernel
theorem dX3_put_16 : decode cX3_put 16 = .ok (.goto 17, 3) := by decide +kernel
theorem dX3_put_19 : decode cX3_put 19 = .ok (.aload_n 0, 1) := by decide +kernel
theorem dX3_put_20 : decode cX3_put 20 = .ok (.getfield 9, 3) := by decide +kernel
theorem dX3_put_23 : decode cX3_put 23 = .ok (.iload_n 1, 1) := by decide +kernel
theorem dX3_put_24 : decode cX3_put 24 = .ok (.iaload, 1) := by decide +kernel
theorem dX3_put_25 : decode cX3_put 25 = .ok (.iconst 1, 1) := by decide +kernel
theorem dX3_put_26 : decode cX3_put 26 = .ok (.if_icmp .ne 7, 3) := by decide +kernel
theorem dX3_put_29 : decode cX3_put 29 = .ok (.iload_n 3, 1) := by decide +kernel
theorem dX3_put_30 : decode cX3_put 30 = .ok (.i2s, 1) := by decide +kernel
theorem dX3_put_31 : decode cX3_put 31 = .ok (.istore 4, 2) := by decide +kernel
theorem dX3_put_33 : decode cX3_put 33 = .ok (.aload_n 0, 1) := by decide +kernel
theorem dX3_put_34 : decode cX3_put 34 = .ok (.getfield 18, 3) := by decide +kernel
theorem dX3_put_37 : decode cX3_put 37 = .ok (.aload_n 0, 1) := by decide +kernel
theorem dX3_put_38 : decode cX3_put 38 = .ok (.iload_n 1, 1) := by decide +kernel
theorem dX3_put_39 : decode cX3_put 39 = .ok (.iload_n 2, 1) := by decide +kernel
theorem dX3_put_40 : decode cX3_put 40 = .ok (.invokevirtual 31, 3) := by decide +kernel
theorem dX3_put_43 : decode cX3_put 43 = .ok (.iload 4, 2) := by decide +kernel
theorem dX3_put_45 : decode cX3_put 45 = .ok (.iastore, 1) := by decide +kernel
theorem dX3_put_46 : decode cX3_put 46 = .ok (.iload 4, 2) := by decide +kernel
theorem dX3_put_48 : decode cX3_put 48 = .ok (.ireturn, 1) := by decide +kernel
theorem dX4_init_0 : decode cX4_init 0 = .ok (.aload_n 0, 1) := by decide +kernel
theorem dX4_init_1 : decode cX4_init 1 = .ok (.invokespecial 3, 3) := by decide +kernel
theorem dX4_init_4 : decode cX4_init 4 = .ok (.aload_n 0, 1) := by decide +kernel
theorem dX4_init_5 : decode cX4_init 5 = .ok (.new 9, 3) := by decide +kernel
theorem dX4_init_8 : decode cX4_init 8 = .ok (.dup, 1) := by decide +kernel
theorem dX4_init_9 : decode cX4_init 9 = .ok (.invokespecial 11, 3) := by decide +kernel
theorem dX4_init_12 : decode cX4_init 12 = .ok (.putfield 12, 3) := by decide +kernel
theorem dX4_init_15 : decode cX4_init 15 = .ok (.aload_n 0, 1) := by decide +kernel
theorem dX4_init_16 : decode cX4_init 16 = .ok (.iconst 0, 1) := by decide +kernel
theorem dX4_init_17 : decode cX4_init 17 = .ok (.putfield 18, 3) := by decide +kernel
theorem dX4_init_20 : decode cX4_init 20 = .ok (.aload_n 0, 1) := by decide +kernel
theorem dX4_init_21 : decode cX4_init 21 = .ok (.iconst 0, 1) := by decide +kernel
theorem dX4_init_22 : decode cX4_init 22 = .ok (.putfield 22, 3) := by decide +kernel
theorem dX4_init_25 : decode cX4_init 25 = .ok (.aload_n 0, 1) := by decide +kernel
theorem dX4_init_26 : decode cX4_init 26 = .ok (.iconst 0, 1) := by decide +kernel
theorem dX4_init_27 : decode cX4_init 27 = .ok (.putfield 25, 3) := by decide +kernel
theorem dX4_init_30 : decode cX4_init 30 = .ok (.aload_n 0, 1) := by decide +kernel
theorem dX4_init_31 : decode cX4_init 31 = .ok (.iconst 0, 1) := by decide +kernel
theorem dX4_init_32 : decode cX4_init 32 = .ok (.putfield 28, 3) := by decide +kernel
theorem dX4_init_35 : decode cX4_init 35 = .ok (.aload_n 0, 1) := by decide +kernel
theorem dX4_init_36 : decode cX4_init 36 = .ok (.bipush 7, 2) := by decide +kernel
theorem dX4_init_38 : decode cX4_init 38 = .ok (.newarray .int, 2) := by decide +kernel
theorem dX4_init_40 : decode cX4_init 40 = .ok (.putfield 31, 3) := by decide +kernel
theorem dX4_init_43 : decode cX4_init 43 = .ok (.aload_n 0, 1) := by decide +kernel
theorem dX4_init_44 : decode cX4_init 44 = .ok (.bipush 7, 2) := by decide +kernel
theorem dX4_init_46 : decode cX4_init 46 = .ok (.newarray .int, 2) := by decide +kernel
theorem dX4_init_48 : decode cX4_init 48 = .ok (.putfield 35, 3) := by decide +kernel
theorem dX4_init_51 : decode cX4_init 51 = .ok (.return_, 1) := by decide +kernel
theorem dX4_read_0 : decode cX4_read 0 = .ok (.aload_n 0, 1) := by decide +kernel
theorem dX4_read_1 : decode cX4_read 1 = .ok (.getfield 12, 3) := by decide +kernel
theorem dX4_read_4 : decode cX4_read 4 = .ok (.aload_n 1, 1) := by decide +kernel
theorem dX4_read_5 : decode cX4_read 5 = .ok (.iload_n 2, 1) := by decide +kernel
theorem dX4_read_6 : decode cX4_read 6 = .ok (.invokevirtual 38, 3) := by decide +kernel
theorem dX4_read_9 : decode cX4_read 9 = .ok (.aload_n 0, 1) := by decide +kernel
theorem dX4_read_10 : decode cX4_read 10 = .ok (.iload_n 2, 1) := by decide +kernel
theorem dX4_read_11 : decode cX4_read 11 = .ok (.putfield 25, 3) := by decide +kernel
theorem dX4_read_14 : decode cX4_read 14 = .ok (.aload_n 0, 1) := by decide +kernel
theorem dX4_read_15 : decode cX4_read 15 = .ok (.iconst 0, 1) := by decide +kernel
theorem dX4_read_16 : decode cX4_read 16 = .ok (.putfield 22, 3) := by decide +kernel
theorem dX4_read_19 : decode cX4_read 19 = .ok (.aload_n 0, 1) := by decide +kernel
theorem dX4_read_20 : decode cX4_read 20 = .ok (.iconst 0, 1) := by decide +kernel
theorem dX4_read_21 : decode cX4_read 21 = .ok (.putfield 28, 3) := by decide +kernel
theorem dX4_read_24 : decode cX4_read 24 = .ok (.aload_n 0, 1) := by decide +kernel
theorem dX4_read_25 : decode cX4_read 25 = .ok (.getfield 31, 3) := by decide +kernel
theorem dX4_read_28 : decode cX4_read 28 = .ok (.iconst 0, 1) := by decide +kernel
theorem dX4_read_29 : decode cX4_read 29 = .ok (.iconst 0, 1) := by decide +kernel
theorem dX4_read_30 : decode cX4_read 30 = .ok (.iastore, 1) := by decide +kernel
theorem dX4_read_31 : decode cX4_read 31 = .ok (.aload_n 0, 1) := by decide +kernel
theorem dX4_read_32 : decode cX4_read 32 = .ok (.iconst 0, 1) := by decide +kernel
theorem dX4_read_33 : decode cX4_read 33 = .ok (.invokevirtual 42, 3) := by decide +kernel
theorem dX4_read_36 : decode cX4_read 36 = .ok (.istore_n 3, 1) := by decide +kernel
theorem dX4_read_37 : decode cX4_read 37 = .ok (.iconst 0, 1) := by decide +kernel
theorem dX4_read_38 : decode cX4_read 38 = .ok (.istore 4, 2) := by decide +kernel
theorem dX4_read_40 : decode cX4_read 40 = .ok (.iload 4, 2) := by decide +kernel
theorem dX4_read_42 : decode cX4_read 42 = .ok (.aload_n 0, 1) := by decide +kernel
theorem dX4_read_43 : decode cX4_read 43 = .ok (.getfield 25, 3) := by decide +kernel
theorem dX4_read_46 : decode cX4_read 46 = .ok (.if_icmp .ge 34, 3) := by decide +kernel
theorem dX4_read_49 : decode cX4_read 49 = .ok (.iload_n 3, 1) := by decide +kernel
theorem dX4_read_50 : decode cX4_read 50 = .ok (.aload_n 0, 1) := by decide +kernel
theorem dX4_read_51 : decode cX4_read 51 = .ok (.getfield 25, 3) := by decide +kernel
theorem dX4_read_54 : decode cX4_read 54 = .ok (.if_icmp .ge 26, 3) := by decide +kernel
theorem dX4_read_57 : decode cX4_read 57 = .ok (.aload_n 0, 1) := by decide +kernel
theorem dX4_read_58 : decode cX4_read 58 = .ok (.getfield 22, 3) := by decide +kernel
theorem dX4_read_61 : decode cX4_read 61 = .ok (.ifCond .ne 19, 3) := by decide +kernel
theorem dX4_read_64 : decode cX4_read 64 = .ok (.aload_n 0, 1) := by decide +kernel
theorem dX4_read_65 : decode cX4_read 65 = .ok (.aload_n 0, 1) := by decide +kernel
theorem dX4_read_66 : decode cX4_read 66 = .ok (.iload_n 3, 1) := by decide +kernel
theorem dX4_read_67 : decode cX4_read 67 = .ok (.invokevirtual 46, 3) := by decide +kernel
theorem dX4_read_70 : decode cX4_read 70 = .ok (.invokevirtual 42, 3) := by decide +kernel
theorem dX4_read_73 : decode cX4_read 73 = .ok (.istore_n 3, 1) := by decide +kernel
theorem dX4_read_74 : decode cX4_read 74 = .ok (.iinc 4 1, 3) := by decide +kernel
theorem dX4_read_77 : decode cX4_read 77 = .ok (.goto (-37), 3) := by decide +kernel
theorem dX4_read_80 : decode cX4_read 80 = .ok (.aload_n 0, 1) := by decide +kernel
theorem dX4_read_81 : decode cX4_read 81 = .ok (.getfield 22, 3) := by decide +kernel
theorem dX4_read_84 : decode cX4_read 84 = .ok (.ifCond .ne 20, 3) := by decide +kernel
theorem dX4_read_87 : decode cX4_read 87 = .ok (.aload_n 0, 1) := by decide +kernel
theorem dX4_read_88 : decode cX4_read 88 = .ok (.getfield 28, 3) := by decide +kernel
theorem dX4_read_91 : decode cX4_read 91 = .ok (.ifCond .le 13, 3) := by decide +kernel
theorem dX4_read_94 : decode cX4_read 94 = .ok (.aload_n 0, 1) := by decide +kernel
theorem dX4_read_95 : decode cX4_read 95 = .ok (.iconst 1, 1) := by decide +kernel
theorem dX4_read_96 : decode cX4_read 96 = .ok (.aload_n 0, 1) := by decide +kernel
theorem dX4_read_97 : decode cX4_read 97 = .ok (.getfield 25, 3) := by decide +kernel
theorem dX4_read_100 : decode cX4_read 100 = .ok (.invokevirtual 49, 3) := by decide +kernel
theorem dX4_read_103 : decode cX4_read 103 = .ok (.pop, 1) := by decide +kernel
theorem dX4_read_104 : decode cX4_read 104 = .ok (.aload_n 0, 1) := by decide +kernel
theorem dX4_read_105 : decode cX4_read 105 = .ok (.getfield 12, 3) := by decide +kernel
theorem dX4_read_108 : decode cX4_read 108 = .ok (.aload_n 0, 1) := by decide +kernel
theorem dX4_read_109 : decode cX4_read 109 = .ok (.getfield 31, 3) := by decide +kernel
theorem dX4_read_112 : decode cX4_read 112 = .ok (.iconst 0, 1) := by decide +kernel
theorem dX4_read_113 : decode cX4_read 113 = .ok (.iaload, 1) := by decide +kernel
theorem dX4_read_114 : decode cX4_read 114 = .ok (.putfield 53, 3) := by decide +kernel
theorem dX4_read_117 : decode cX4_read 117 = .ok (.aload_n 0, 1) := by decide +kernel
theorem dX4_read_118 : decode cX4_read 118 = .ok (.getfield 22, 3) := by decide +kernel
theorem dX4_read_121 : decode cX4_read 121 = .ok (.ireturn, 1) := by decide +kernel
theorem dX4_stopAt_0 : decode cX4_stopAt 0 = .ok (.aload_n 0, 1) := by decide +kernel
theorem dX4_stopAt_1 : decode cX4_stopAt 1 = .ok (.iload_n 1, 1) := by decide +kernel
theorem dX4_stopAt_2 : decode cX4_stopAt 2 = .ok (.putfield 22, 3) := by decide +kernel
theorem dX4_stopAt_5 : decode cX4_stopAt 5 = .ok (.aload_n 0, 1) := by decide +kernel
theorem dX4_stopAt_6 : decode cX4_stopAt 6 = .ok (.iload_n 2, 1) := by decide +kernel
theorem dX4_stopAt_7 : decode cX4_stopAt 7 = .ok (.putfield 18, 3) := by decide +kernel
theorem dX4_stopAt_10 : decode cX4_stopAt 10 = .ok (.aload_n 0, 1) := by decide +kernel
theorem dX4_stopAt_11 : decode cX4_stopAt 11 = .ok (.getfield 25, 3) := by decide +kernel
theorem dX4_stopAt_14 : decode cX4_stopAt 14 = .ok (.ireturn, 1) := by decide +kernel
theorem dX4_readToken_0 : decode cX4_readToken 0 = .ok (.aload_n 0, 1) := by decide +kernel
theorem dX4_readToken_1 : decode cX4_readToken 1 = .ok (.getfield 12, 3) := by decide +kernel
theorem dX4_readToken_4 : decode cX4_readToken 4 = .ok (.getfield 56, 3) := by decide +kernel
theorem dX4_readToken_7 : decode cX4_readToken 7 = .ok (.iload_n 1, 1) := by decide +kernel
theorem dX4_readToken_8 : decode cX4_readToken 8 = .ok (.iaload, 1) := by decide +kernel
theorem dX4_readToken_9 : decode cX4_readToken 9 = .ok (.bipush 41, 2) := by decide +kernel
theorem dX4_readToken_11 : decode cX4_readToken 11 = .ok (.if_icmp .ne 9, 3) := by decide +kernel
theorem dX4_readToken_14 : decode cX4_readToken 14 = .ok (.aload_n 0, 1) := by decide +kernel
theorem dX4_readToken_15 : decode cX4_readToken 15 = .ok (.iload_n 1, 1) := by decide +kernel
theorem dX4_readToken_16 : decode cX4_readToken 16 = .ok (.invokevirtual 59, 3) := by decide +kernel
theorem dX4_readToken_19 : decode cX4_readToken 19 = .ok (.ireturn, 1) := by decide +kernel
theorem dX4_readToken_20 : decode cX4_readToken 20 = .ok (.aload_n 0, 1) := by decide +kernel
theorem dX4_readToken_21 : decode cX4_readToken 21 = .ok (.iload_n 1, 1) := by decide +kernel
theorem dX4_readToken_22 : decode cX4_readToken 22 = .ok (.invokevirtual 62, 3) := by decide +kernel
theorem dX4_readToken_25 : decode cX4_readToken 25 = .ok (.istore_n 2, 1) := by decide +kernel
theorem dX4_readToken_26 : decode cX4_readToken 26 = .ok (.iload_n 2, 1) := by decide +kernel
theorem dX4_readToken_27 : decode cX4_readToken 27 = .ok (.iload_n 1, 1) := by decide +kernel
theorem dX4_readToken_28 : decode cX4_readToken 28 = .ok (.if_icmp .ne 10, 3) := by decide +kernel
theorem dX4_readToken_31 : decode cX4_readToken 31 = .ok (.aload_n 0, 1) := by decide +kernel
theorem dX4_readToken_32 : decode cX4_readToken 32 = .ok (.iconst 1, 1) := by decide +kernel
theorem dX4_readToken_33 : decode cX4_readToken 33 = .ok (.iload_n 1, 1) := by decide +kernel
theorem dX4_readToken_34 : decode cX4_readToken 34 = .ok (.invokevirtual 49, 3) := by decide +kernel
theorem dX4_readToken_37 : decode cX4_readToken 37 = .ok (.ireturn, 1) := by decide +kernel
theorem dX4_readToken_38 : decode cX4_readToken 38 = .ok (.aload_n 0, 1) := by decide +kernel
theorem dX4_readToken_39 : decode cX4_readToken 39 = .ok (.iload_n 2, 1) := by decide +kernel
theorem dX4_readToken_40 : decode cX4_readToken 40 = .ok (.bipush 59, 2) := by decide +kernel
theorem dX4_readToken_42 : decode cX4_readToken 42 = .ok (.invokevirtual 65, 3) := by decide +kernel
theorem dX4_readToken_45 : decode cX4_readToken 45 = .ok (.ifCond .eq 12, 3) := by decide +kernel
theorem dX4_readToken_48 : decode cX4_readToken 48 = .ok (.aload_n 0, 1) := by decide +kernel
theorem dX4_readToken_49 : decode cX4_readToken 49 = .ok (.iload_n 1, 1) := by decide +kernel
theorem dX4_readToken_50 : decode cX4_readToken 50 = .ok (.iload_n 2, 1) := by decide +kernel
theorem dX4_readToken_51 : decode cX4_readToken 51 = .ok (.invokevirtual 69, 3) := by decide +kernel
theorem dX4_readToken_54 : decode cX4_readToken 54 = .ok (.goto 9, 3) := by decide +kernel
theorem dX4_readToken_57 : decode cX4_readToken 57 = .ok (.aload_n 0, 1) := by decide +kernel
theorem dX4_readToken_58 : decode cX4_readToken 58 = .ok (.iload_n 1, 1) := by decide +kernel
theorem dX4_readToken_59 : decode cX4_readToken 59 = .ok (.iload_n 2, 1) := by decide +kernel
theorem dX4_readToken_60 : decode cX4_readToken 60 = .ok (.invokevirtual 72, 3) := by decide +kernel
theorem dX4_readToken_63 : decode cX4_readToken 63 = .ok (.ireturn, 1) := by decide +kernel
theorem dX4_readEnd_0 : decode cX4_readEnd 0 = .ok (.aload_n 0, 1) := by decide +kernel
theorem dX4_readEnd_1 : decode cX4_readEnd 1 = .ok (.getfield 28, 3) := by decide +kernel
theorem dX4_readEnd_4 : decode cX4_readEnd 4 = .ok (.ifCond .ne 10, 3) := by decide +kernel
theorem dX4_readEnd_7 : decode cX4_readEnd 7 = .ok (.aload_n 0, 1) := by decide +kernel
theorem dX4_readEnd_8 : decode cX4_readEnd 8 = .ok (.iconst 1, 1) := by decide +kernel
theorem dX4_readEnd_9 : decode cX4_readEnd 9 = .ok (.iload_n 1, 1) := by decide +kernel
theorem dX4_readEnd_10 : decode cX4_readEnd 10 = .ok (.invokevirtual 49, 3) := by decide +kernel
theorem dX4_readEnd_13 : decode cX4_readEnd 13 = .ok (.ireturn, 1) := by decide +kernel
theorem dX4_readEnd_14 : decode cX4_readEnd 14 = .ok (.aload_n 0, 1) := by decide +kernel
theorem dX4_readEnd_15 : decode cX4_readEnd 15 = .ok (.getfield 35, 3) := by decide +kernel
theorem dX4_readEnd_18 : decode cX4_readEnd 18 = .ok (.aload_n 0, 1) := by decide +kernel
theorem dX4_readEnd_19 : decode cX4_readEnd 19 = .ok (.getfield 28, 3) := by decide +kernel
theorem dX4_readEnd_22 : decode cX4_readEnd 22 = .ok (.iaload, 1) := by decide +kernel
theorem dX4_readEnd_23 : decode cX4_readEnd 23 = .ok (.istore_n 2, 1) := by decide +kernel
theorem dX4_readEnd_24 : decode cX4_readEnd 24 = .ok (.aload_n 0, 1) := by decide +kernel
theorem dX4_readEnd_25 : decode cX4_readEnd 25 = .ok (.getfield 31, 3) := by decide +kernel
theorem dX4_readEnd_28 : decode cX4_readEnd 28 = .ok (.aload_n 0, 1) := by decide +kernel
theorem dX4_readEnd_29 : decode cX4_readEnd 29 = .ok (.getfield 28, 3) := by decide +kernel
theorem dX4_readEnd_32 : decode cX4_readEnd 32 = .ok (.iaload, 1) := by decide +kernel
theorem dX4_readEnd_33 : decode cX4_readEnd 33 = .ok (.istore_n 3, 1) := by decide +kernel
theorem dX4_readEnd_34 : decode cX4_readEnd 34 = .ok (.aload_n 0, 1) := by decide +kernel
theorem dX4_readEnd_35 : decode cX4_readEnd 35 = .ok (.dup, 1) := by decide +kernel
theorem dX4_readEnd_36 : decode cX4_readEnd 36 = .ok (.getfield 28, 3) := by decide +kernel
theorem dX4_readEnd_39 : decode cX4_readEnd 39 = .ok (.iconst 1, 1) := by decide +kernel
theorem dX4_readEnd_40 : decode cX4_readEnd 40 = .ok (.isub, 1) := by decide +kernel
theorem dX4_readEnd_41 : decode cX4_readEnd 41 = .ok (.putfield 28, 3) := by decide +kernel
theorem dX4_readEnd_44 : decode cX4_readEnd 44 = .ok (.aload_n 0, 1) := by decide +kernel
theorem dX4_readEnd_45 : decode cX4_readEnd 45 = .ok (.getfield 31, 3) := by decide +kernel
theorem dX4_readEnd_48 : decode cX4_readEnd 48 = .ok (.aload_n 0, 1) := by decide +kernel
theorem dX4_readEnd_49 : decode cX4_readEnd 49 = .ok (.getfield 28, 3) := by decide +kernel
theorem dX4_readEnd_52 : decode cX4_readEnd 52 = .ok (.dup2, 1) := by decide +kernel
theorem dX4_readEnd_53 : decode cX4_readEnd 53 = .ok (.iaload, 1) := by decide +kernel
theorem dX4_readEnd_54 : decode cX4_readEnd 54 = .ok (.aload_n 0, 1) := by decide +kernel
theorem dX4_readEnd_55 : decode cX4_readEnd 55 = .ok (.getfield 12, 3) := by decide +kernel
theorem dX4_readEnd_58 : decode cX4_readEnd 58 = .ok (.getfield 75, 3) := by decide +kernel
theorem dX4_readEnd_61 : decode cX4_readEnd 61 = .ok (.iload_n 2, 1) := by decide +kernel
theorem dX4_readEnd_62 : decode cX4_readEnd 62 = .ok (.iaload, 1) := by decide +kernel
theorem dX4_readEnd_63 : decode cX4_readEnd 63 = .ok (.iload_n 3, 1) := by decide +kernel
theorem dX4_readEnd_64 : decode cX4_readEnd 64 = .ok (.imul, 1) := by decide +kernel
theorem dX4_readEnd_65 : decode cX4_readEnd 65 = .ok (.iadd, 1) := by decide +kernel
theorem dX4_readEnd_66 : decode cX4_readEnd 66 = .ok (.iastore, 1) := by decide +kernel
theorem dX4_readEnd_67 : decode cX4_readEnd 67 = .ok (.aload_n 0, 1) := by decide +kernel
theorem dX4_readEnd_68 : decode cX4_readEnd 68 = .ok (.getfield 31, 3) := by decide +kernel
theorem dX4_readEnd_71 : decode cX4_readEnd 71 = .ok (.aload_n 0, 1) := by decide +kernel
theorem dX4_readEnd_72 : decode cX4_readEnd 72 = .ok (.getfield 28, 3) := by decide +kernel
theorem dX4_readEnd_75 : decode cX4_readEnd 75 = .ok (.iaload, 1) := by decide +kernel
theorem dX4_readEnd_76 : decode cX4_readEnd 76 = .ok (.ldc 78, 2) := by decide +kernel
theorem dX4_readEnd_78 : decode cX4_readEnd 78 = .ok (.if_icmp .le 10, 3) := by decide +kernel
theorem dX4_readEnd_81 : decode cX4_readEnd 81 = .ok (.aload_n 0, 1) := by decide +kernel
theorem dX4_readEnd_82 : decode cX4_readEnd 82 = .ok (.iconst 4, 1) := by decide +kernel
theorem dX4_readEnd_83 : decode cX4_readEnd 83 = .ok (.iload_n 1, 1) := by decide +kernel
theorem dX4_readEnd_84 : decode cX4_readEnd 84 = .ok (.invokevirtual 49, 3) := by decide +kernel
theorem dX4_readEnd_87 : decode cX4_readEnd 87 = .ok (.ireturn, 1) := by decide +kernel
theorem dX4_readEnd_88 : decode cX4_readEnd 88 = .ok (.aload_n 0, 1) := by decide +kernel
theorem dX4_readEnd_89 : decode cX4_readEnd 89 = .ok (.getfield 12, 3) := by decide +kernel
theorem dX4_readEnd_92 : decode cX4_readEnd 92 = .ok (.iload_n 2, 1) := by decide +kernel
theorem dX4_readEnd_93 : decode cX4_readEnd 93 = .ok (.iload_n 3, 1) := by decide +kernel
theorem dX4_readEnd_94 : decode cX4_readEnd 94 = .ok (.invokevirtual 79, 3) := by decide +kernel
theorem dX4_readEnd_97 : decode cX4_readEnd 97 = .ok (.iload_n 1, 1) := by decide +kernel
theorem dX4_readEnd_98 : decode cX4_readEnd 98 = .ok (.iconst 1, 1) := by decide +kernel
theorem dX4_readEnd_99 : decode cX4_readEnd 99 = .ok (.iadd, 1) := by decide +kernel
theorem dX4_readEnd_100 : decode cX4_readEnd 100 = .ok (.ireturn, 1) := by decide +kernel
theorem dX4_readLine_0 : decode cX4_readLine 0 = .ok (.iload_n 2, 1) := by decide +kernel
theorem dX4_readLine_1 : decode cX4_readLine 1 = .ok (.iload_n 1, 1) := by decide +kernel
theorem dX4_readLine_2 : decode cX4_readLine 2 = .ok (.isub, 1) := by decide +kernel
theorem dX4_readLine_3 : decode cX4_readLine 3 = .ok (.istore_n 3, 1) := by decide +kernel
theorem dX4_readLine_4 : decode cX4_readLine 4 = .ok (.iload_n 3, 1) := by decide +kernel
theorem dX4_readLine_5 : decode cX4_readLine 5 = .ok (.bipush 8, 2) := by decide +kernel
theorem dX4_readLine_7 : decode cX4_readLine 7 = .ok (.if_icmp .gt 12, 3) := by decide +kernel
theorem dX4_readLine_10 : decode cX4_readLine 10 = .ok (.aload_n 0, 1) := by decide +kernel
theorem dX4_readLine_11 : decode cX4_readLine 11 = .ok (.iload_n 1, 1) := by decide +kernel
theorem dX4_readLine_12 : decode cX4_readLine 12 = .ok (.iload_n 2, 1) := by decide +kernel
theorem dX4_readLine_13 : decode cX4_readLine 13 = .ok (.invokevirtual 83, 3) := by decide +kernel
theorem dX4_readLine_16 : decode cX4_readLine 16 = .ok (.ifCond .ne 10, 3) := by decide +kernel
theorem dX4_readLine_19 : decode cX4_readLine 19 = .ok (.aload_n 0, 1) := by decide +kernel
theorem dX4_readLine_20 : decode cX4_readLine 20 = .ok (.iconst 1, 1) := by decide +kernel
theorem dX4_readLine_21 : decode cX4_readLine 21 = .ok (.iload_n 1, 1) := by decide +kernel
theorem dX4_readLine_22 : decode cX4_readLine 22 = .ok (.invokevirtual 49, 3) := by decide +kernel
theorem dX4_readLine_25 : decode cX4_readLine 25 = .ok (.ireturn, 1) := by decide +kernel
theorem dX4_readLine_26 : decode cX4_readLine 26 = .ok (.aload_n 0, 1) := by decide +kernel
theorem dX4_readLine_27 : decode cX4_readLine 27 = .ok (.getfield 12, 3) := by decide +kernel
theorem dX4_readLine_30 : decode cX4_readLine 30 = .ok (.getfield 86, 3) := by decide +kernel
theorem dX4_readLine_33 : decode cX4_readLine 33 = .ok (.ifCond .le 21, 3) := by decide +kernel
theorem dX4_readLine_36 : decode cX4_readLine 36 = .ok (.iload_n 3, 1) := by decide +kernel
theorem dX4_readLine_37 : decode cX4_readLine 37 = .ok (.aload_n 0, 1) := by decide +kernel
theorem dX4_readLine_38 : decode cX4_readLine 38 = .ok (.getfield 12, 3) := by decide +kernel
theorem dX4_readLine_41 : decode cX4_readLine 41 = .ok (.getfield 89, 3) := by decide +kernel
theorem dX4_readLine_44 : decode cX4_readLine 44 = .ok (.if_icmp .eq 10, 3) := by decide +kernel
theorem dX4_readLine_47 : decode cX4_readLine 47 = .ok (.aload_n 0, 1) := by decide +kernel
theorem dX4_readLine_48 : decode cX4_readLine 48 = .ok (.iconst 2, 1) := by decide +kernel
theorem dX4_readLine_49 : decode cX4_readLine 49 = .ok (.iload_n 1, 1) := by decide +kernel
theorem dX4_readLine_50 : decode cX4_readLine 50 = .ok (.invokevirtual 49, 3) := by decide +kernel
theorem dX4_readLine_53 : decode cX4_readLine 53 = .ok (.ireturn, 1) := by decide +kernel
theorem dX4_readLine_54 : decode cX4_readLine 54 = .ok (.aload_n 0, 1) := by decide +kernel
theorem dX4_readLine_55 : decode cX4_readLine 55 = .ok (.getfield 31, 3) := by decide +kernel
theorem dX4_readLine_58 : decode cX4_readLine 58 = .ok (.aload_n 0, 1) := by decide +kernel
theorem dX4_readLine_59 : decode cX4_readLine 59 = .ok (.getfield 28, 3) := by decide +kernel
theorem dX4_readLine_62 : decode cX4_readLine 62 = .ok (.dup2, 1) := by decide +kernel
theorem dX4_readLine_63 : decode cX4_readLine 63 = .ok (.iaload, 1) := by decide +kernel
theorem dX4_readLine_64 : decode cX4_readLine 64 = .ok (.iconst 1, 1) := by decide +kernel
theorem dX4_readLine_65 : decode cX4_readLine 65 = .ok (.iadd, 1) := by decide +kernel
theorem dX4_readLine_66 : decode cX4_readLine 66 = .ok (.iastore, 1) := by decide +kernel
theorem dX4_readLine_67 : decode cX4_readLine 67 = .ok (.aload_n 0, 1) := by decide +kernel
theorem dX4_readLine_68 : decode cX4_readLine 68 = .ok (.getfield 31, 3) := by decide +kernel
theorem dX4_readLine_71 : decode cX4_readLine 71 = .ok (.aload_n 0, 1) := by decide +kernel
theorem dX4_readLine_72 : decode cX4_readLine 72 = .ok (.getfield 28, 3) := by decide +kernel
theorem dX4_readLine_75 : decode cX4_readLine 75 = .ok (.iaload, 1) := by decide +kernel
theorem dX4_readLine_76 : decode cX4_readLine 76 = .ok (.ldc 78, 2) := by decide +kernel
theorem dX4_readLine_78 : decode cX4_readLine 78 = .ok (.if_icmp .le 10, 3) := by decide +kernel
theorem dX4_readLine_81 : decode cX4_readLine 81 = .ok (.aload_n 0, 1) := by decide +kernel
theorem dX4_readLine_82 : decode cX4_readLine 82 = .ok (.iconst 4, 1) := by decide +kernel
theorem dX4_readLine_83 : decode cX4_readLine 83 = .ok (.iload_n 1, 1) := by decide +kernel
theorem dX4_readLine_84 : decode cX4_readLine 84 = .ok (.invokevirtual 49, 3) := by decide +kernel
theorem dX4_readLine_87 : decode cX4_readLine 87 = .ok (.ireturn, 1) := by decide +kernel
theorem dX4_readLine_88 : decode cX4_readLine 88 = .ok (.aload_n 0, 1) := by decide +kernel
theorem dX4_readLine_89 : decode cX4_readLine 89 = .ok (.getfield 12, 3) := by decide +kernel
theorem dX4_readLine_92 : decode cX4_readLine 92 = .ok (.iload_n 1, 1) := by decide +kernel
theorem dX4_readLine_93 : decode cX4_readLine 93 = .ok (.iload_n 3, 1) := by decide +kernel
theorem dX4_readLine_94 : decode cX4_readLine 94 = .ok (.invokevirtual 92, 3) := by decide +kernel
theorem dX4_readLine_97 : decode cX4_readLine 97 = .ok (.iload_n 2, 1) := by decide +kernel
theorem dX4_readLine_98 : decode cX4_readLine 98 = .ok (.iconst 1, 1) := by decide +kernel
theorem dX4_readLine_99 : decode cX4_readLine 99 = .ok (.iadd, 1) := by decide +kernel
theorem dX4_readLine_100 : decode cX4_readLine 100 = .ok (.ireturn, 1) := by decide +kernel
theorem dX4_readNumber_0 : decode cX4_readNumber 0 = .ok (.aload_n 0, 1) := by decide +kernel
theorem dX4_readNumber_1 : decode cX4_readNumber 1 = .ok (.iload_n 2, 1) := by decide +kernel
theorem dX4_readNumber_2 : decode cX4_readNumber 2 = .ok (.invokevirtual 42, 3) := by decide +kernel
theorem dX4_readNumber_5 : decode cX4_readNumber 5 = .ok (.istore_n 3, 1) := by decide +kernel
theorem dX4_readNumber_6 : decode cX4_readNumber 6 = .ok (.iload_n 2, 1) := by decide +kernel
theorem dX4_readNumber_7 : decode cX4_readNumber 7 = .ok (.iload_n 1, 1) := by decide +kernel
theorem dX4_readNumber_8 : decode cX4_readNumber 8 = .ok (.isub, 1) := by decide +kernel
theorem dX4_readNumber_9 : decode cX4_readNumber 9 = .ok (.iconst 3, 1) := by decide +kernel
theorem dX4_readNumber_10 : decode cX4_readNumber 10 = .ok (.if_icmp .gt 22, 3) := by decide +kernel
theorem dX4_readNumber_13 : decode cX4_readNumber 13 = .ok (.aload_n 0, 1) := by decide +kernel
theorem dX4_readNumber_14 : decode cX4_readNumber 14 = .ok (.iload_n 1, 1) := by decide +kernel
theorem dX4_readNumber_15 : decode cX4_readNumber 15 = .ok (.iload_n 2, 1) := by decide +kernel
theorem dX4_readNumber_16 : decode cX4_readNumber 16 = .ok (.invokevirtual 95, 3) := by decide +kernel
theorem dX4_readNumber_19 : decode cX4_readNumber 19 = .ok (.ifCond .eq 13, 3) := by decide +kernel
theorem dX4_readNumber_22 : decode cX4_readNumber 22 = .ok (.aload_n 0, 1) := by decide +kernel
theorem dX4_readNumber_23 : decode cX4_readNumber 23 = .ok (.iload_n 3, 1) := by decide +kernel
theorem dX4_readNumber_24 : decode cX4_readNumber 24 = .ok (.bipush 40, 2) := by decide +kernel
theorem dX4_readNumber_26 : decode cX4_readNumber 26 = .ok (.invokevirtual 65, 3) := by decide +kernel
theorem dX4_readNumber_29 : decode cX4_readNumber 29 = .ok (.ifCond .ne 10, 3) := by decide +kernel
theorem dX4_readNumber_32 : decode cX4_readNumber 32 = .ok (.aload_n 0, 1) := by decide +kernel
theorem dX4_readNumber_33 : decode cX4_readNumber 33 = .ok (.iconst 1, 1) := by decide +kernel
theorem dX4_readNumber_34 : decode cX4_readNumber 34 = .ok (.iload_n 1, 1) := by decide +kernel
theorem dX4_readNumber_35 : decode cX4_readNumber 35 = .ok (.invokevirtual 49, 3) := by decide +kernel
theorem dX4_readNumber_38 : decode cX4_readNumber 38 = .ok (.ireturn, 1) := by decide +kernel
theorem dX4_readNumber_39 : decode cX4_readNumber 39 = .ok (.aload_n 0, 1) := by decide +kernel
theorem dX4_readNumber_40 : decode cX4_readNumber 40 = .ok (.iload_n 1, 1) := by decide +kernel
theorem dX4_readNumber_41 : decode cX4_readNumber 41 = .ok (.iload_n 2, 1) := by decide +kernel
theorem dX4_readNumber_42 : decode cX4_readNumber 42 = .ok (.invokevirtual 98, 3) := by decide +kernel
theorem dX4_readNumber_45 : decode cX4_readNumber 45 = .ok (.istore 4, 2) := by decide +kernel
theorem dX4_readNumber_47 : decode cX4_readNumber 47 = .ok (.iload 4, 2) := by decide +kernel
theorem dX4_readNumber_49 : decode cX4_readNumber 49 = .ok (.ifCond .ne 10, 3) := by decide +kernel
theorem dX4_readNumber_52 : decode cX4_readNumber 52 = .ok (.aload_n 0, 1) := by decide +kernel
theorem dX4_readNumber_53 : decode cX4_readNumber 53 = .ok (.iconst 3, 1) := by decide +kernel
theorem dX4_readNumber_54 : decode cX4_readNumber 54 = .ok (.iload_n 1, 1) := by decide +kernel
theorem dX4_readNumber_55 : decode cX4_readNumber 55 = .ok (.invokevirtual 49, 3) := by decide +kernel
theorem dX4_readNumber_58 : decode cX4_readNumber 58 = .ok (.ireturn, 1) := by decide +kernel
theorem dX4_readNumber_59 : decode cX4_readNumber 59 = .ok (.aload_n 0, 1) := by decide +kernel
theorem dX4_readNumber_60 : decode cX4_readNumber 60 = .ok (.getfield 28, 3) := by decide +kernel
theorem dX4_readNumber_63 : decode cX4_readNumber 63 = .ok (.bipush 6, 2) := by decide +kernel
theorem dX4_readNumber_65 : decode cX4_readNumber 65 = .ok (.if_icmp .ne 10, 3) := by decide +kernel
theorem dX4_readNumber_68 : decode cX4_readNumber 68 = .ok (.aload_n 0, 1) := by decide +kernel
theorem dX4_readNumber_69 : decode cX4_readNumber 69 = .ok (.iconst 4, 1) := by decide +kernel
theorem dX4_readNumber_70 : decode cX4_readNumber 70 = .ok (.iload_n 1, 1) := by decide +kernel
theorem dX4_readNumber_71 : decode cX4_readNumber 71 = .ok (.invokevirtual 49, 3) := by decide +kernel
theorem dX4_readNumber_74 : decode cX4_readNumber 74 = .ok (.ireturn, 1) := by decide +kernel
theorem dX4_readNumber_75 : decode cX4_readNumber 75 = .ok (.aload_n 0, 1) := by decide +kernel
theorem dX4_readNumber_76 : decode cX4_readNumber 76 = .ok (.dup, 1) := by decide +kernel
theorem dX4_readNumber_77 : decode cX4_readNumber 77 = .ok (.getfield 28, 3) := by decide +kernel
theorem dX4_readNumber_80 : decode cX4_readNumber 80 = .ok (.iconst 1, 1) := by decide +kernel
theorem dX4_readNumber_81 : decode cX4_readNumber 81 = .ok (.iadd, 1) := by decide +kernel
theorem dX4_readNumber_82 : decode cX4_readNumber 82 = .ok (.putfield 28, 3) := by decide +kernel
theorem dX4_readNumber_85 : decode cX4_readNumber 85 = .ok (.aload_n 0, 1) := by decide +kernel
theorem dX4_readNumber_86 : decode cX4_readNumber 86 = .ok (.getfield 31, 3) := by decide +kernel
theorem dX4_readNumber_89 : decode cX4_readNumber 89 = .ok (.aload_n 0, 1) := by decide +kernel
theorem dX4_readNumber_90 : decode cX4_readNumber 90 = .ok (.getfield 28, 3) := by decide +kernel
theorem dX4_readNumber_93 : decode cX4_readNumber 93 = .ok (.iconst 0, 1) := by decide +kernel
theorem dX4_readNumber_94 : decode cX4_readNumber 94 = .ok (.iastore, 1) := by decide +kernel
theorem dX4_readNumber_95 : decode cX4_readNumber 95 = .ok (.aload_n 0, 1) := by decide +kernel
theorem dX4_readNumber_96 : decode cX4_readNumber 96 = .ok (.getfield 35, 3) := by decide +kernel
theorem dX4_readNumber_99 : decode cX4_readNumber 99 = .ok (.aload_n 0, 1) := by decide +kernel
theorem dX4_readNumber_100 : decode cX4_readNumber 100 = .ok (.getfield 28, 3) := by decide +kernel
theorem dX4_readNumber_103 : decode cX4_readNumber 103 = .ok (.aload_n 0, 1) := by decide +kernel
theorem dX4_readNumber_104 : decode cX4_readNumber 104 = .ok (.getfield 12, 3) := by decide +kernel
theorem dX4_readNumber_107 : decode cX4_readNumber 107 = .ok (.iload 4, 2) := by decide +kernel
theorem dX4_readNumber_109 : decode cX4_readNumber 109 = .ok (.invokevirtual 101, 3) := by decide +kernel
theorem dX4_readNumber_112 : decode cX4_readNumber 112 = .ok (.iastore, 1) := by decide +kernel
theorem dX4_readNumber_113 : decode cX4_readNumber 113 = .ok (.iload_n 3, 1) := by decide +kernel
theorem dX4_readNumber_114 : decode cX4_readNumber 114 = .ok (.iconst 1, 1) := by decide +kernel
theorem dX4_readNumber_115 : decode cX4_readNumber 115 = .ok (.iadd, 1) := by decide +kernel
theorem dX4_readNumber_116 : decode cX4_readNumber 116 = .ok (.ireturn, 1) := by decide +kernel
theorem dX4_behindBlanks_0 : decode cX4_behindBlanks 0 = .ok (.iload_n 1, 1) := by decide +kernel
theorem dX4_behindBlanks_1 : decode cX4_behindBlanks 1 = .ok (.istore_n 2, 1) := by decide +kernel
theorem dX4_behindBlanks_2 : decode cX4_behindBlanks 2 = .ok (.iload_n 2, 1) := by decide +kernel
theorem dX4_behindBlanks_3 : decode cX4_behindBlanks 3 = .ok (.aload_n 0, 1) := by decide +kernel
theorem dX4_behindBlanks_4 : decode cX4_behindBlanks 4 = .ok (.getfield 25, 3) := by decide +kernel
theorem dX4_behindBlanks_7 : decode cX4_behindBlanks 7 = .ok (.if_icmp .ge 37, 3) := by decide +kernel
theorem dX4_behindBlanks_10 : decode cX4_behindBlanks 10 = .ok (.aload_n 0, 1) := by decide +kernel
theorem dX4_behindBlanks_11 : decode cX4_behindBlanks 11 = .ok (.getfield 12, 3) := by decide +kernel
theorem dX4_behindBlanks_14 : decode cX4_behindBlanks 14 = .ok (.getfield 56, 3) := by decide +kernel
theorem dX4_behindBlanks_17 : decode cX4_behindBlanks 17 = .ok (.iload_n 2, 1) := by decide +kernel
theorem dX4_behindBlanks_18 : decode cX4_behindBlanks 18 = .ok (.iaload, 1) := by decide +kernel
theorem dX4_behindBlanks_19 : decode cX4_behindBlanks 19 = .ok (.bipush 32, 2) := by decide +kernel
theorem dX4_behindBlanks_21 : decode cX4_behindBlanks 21 = .ok (.if_icmp .eq 17, 3) := by decide +kernel
theorem dX4_behindBlanks_24 : decode cX4_behindBlanks 24 = .ok (.aload_n 0, 1) := by decide +kernel
theorem dX4_behindBlanks_25 : decode cX4_behindBlanks 25 = .ok (.getfield 12, 3) := by decide +kernel
theorem dX4_behindBlanks_28 : decode cX4_behindBlanks 28 = .ok (.getfield 56, 3) := by decide +kernel
theorem dX4_behindBlanks_31 : decode cX4_behindBlanks 31 = .ok (.iload_n 2, 1) := by decide +kernel
theorem dX4_behindBlanks_32 : decode cX4_behindBlanks 32 = .ok (.iaload, 1) := by decide +kernel
theorem dX4_behindBlanks_33 : decode cX4_behindBlanks 33 = .ok (.bipush 10, 2) := by decide +kernel
theorem dX4_behindBlanks_35 : decode cX4_behindBlanks 35 = .ok (.if_icmp .ne 9, 3) := by decide +kernel
theorem dX4_behindBlanks_38 : decode cX4_behindBlanks 38 = .ok (.iinc 2 1, 3) := by decide +kernel
theorem dX4_behindBlanks_41 : decode cX4_behindBlanks 41 = .ok (.goto (-39), 3) := by decide +kernel
theorem dX4_behindBlanks_44 : decode cX4_behindBlanks 44 = .ok (.iload_n 2, 1) := by decide +kernel
theorem dX4_behindBlanks_45 : decode cX4_behindBlanks 45 = .ok (.ireturn, 1) := by decide +kernel
theorem dX4_behindRow_0 : decode cX4_behindRow 0 = .ok (.iload_n 1, 1) := by decide +kernel
theorem dX4_behindRow_1 : decode cX4_behindRow 1 = .ok (.istore_n 2, 1) := by decide +kernel
theorem dX4_behindRow_2 : decode cX4_behindRow 2 = .ok (.iload_n 2, 1) := by decide +kernel
theorem dX4_behindRow_3 : decode cX4_behindRow 3 = .ok (.aload_n 0, 1) := by decide +kernel
theorem dX4_behindRow_4 : decode cX4_behindRow 4 = .ok (.getfield 25, 3) := by decide +kernel
theorem dX4_behindRow_7 : decode cX4_behindRow 7 = .ok (.if_icmp .ge 39, 3) := by decide +kernel
theorem dX4_behindRow_10 : decode cX4_behindRow 10 = .ok (.aload_n 0, 1) := by decide +kernel
theorem dX4_behindRow_11 : decode cX4_behindRow 11 = .ok (.getfield 12, 3) := by decide +kernel
theorem dX4_behindRow_14 : decode cX4_behindRow 14 = .ok (.getfield 56, 3) := by decide +kernel
theorem dX4_behindRow_17 : decode cX4_behindRow 17 = .ok (.iload_n 2, 1) := by decide +kernel
theorem dX4_behindRow_18 : decode cX4_behindRow 18 = .ok (.iaload, 1) := by decide +kernel
theorem dX4_behindRow_19 : decode cX4_behindRow 19 = .ok (.invokestatic 104, 3) := by decide +kernel
theorem dX4_behindRow_22 : decode cX4_behindRow 22 = .ok (.ifCond .ne 18, 3) := by decide +kernel
theorem dX4_behindRow_25 : decode cX4_behindRow 25 = .ok (.aload_n 0, 1) := by decide +kernel
theorem dX4_behindRow_26 : decode cX4_behindRow 26 = .ok (.getfield 12, 3) := by decide +kernel
theorem dX4_behindRow_29 : decode cX4_behindRow 29 = .ok (.getfield 56, 3) := by decide +kernel
theorem dX4_behindRow_32 : decode cX4_behindRow 32 = .ok (.iload_n 2, 1) := by decide +kernel
theorem dX4_behindRow_33 : decode cX4_behindRow 33 = .ok (.iaload, 1) := by decide +kernel
theorem dX4_behindRow_34 : decode cX4_behindRow 34 = .ok (.invokestatic 108, 3) := by decide +kernel
theorem dX4_behindRow_37 : decode cX4_behindRow 37 = .ok (.ifCond .eq 9, 3) := by decide +kernel
theorem dX4_behindRow_40 : decode cX4_behindRow 40 = .ok (.iinc 2 1, 3) := by decide +kernel
theorem dX4_behindRow_43 : decode cX4_behindRow 43 = .ok (.goto (-41), 3) := by decide +kernel
theorem dX4_behindRow_46 : decode cX4_behindRow 46 = .ok (.iload_n 2, 1) := by decide +kernel
theorem dX4_behindRow_47 : decode cX4_behindRow 47 = .ok (.ireturn, 1) := by decide +kernel
theorem dX4_isAt_0 : decode cX4_isAt 0 = .ok (.iload_n 1, 1) := by decide +kernel
theorem dX4_isAt_1 : decode cX4_isAt 1 = .ok (.aload_n 0, 1) := by decide +kernel
theorem dX4_isAt_2 : decode cX4_isAt 2 = .ok (.getfield 25, 3) := by decide +kernel
theorem dX4_isAt_5 : decode cX4_isAt 5 = .ok (.if_icmp .ge 20, 3) := by decide +kernel
theorem dX4_isAt_8 : decode cX4_isAt 8 = .ok (.aload_n 0, 1) := by decide +kernel
theorem dX4_isAt_9 : decode cX4_isAt 9 = .ok (.getfield 12, 3) := by decide +kernel
theorem dX4_isAt_12 : decode cX4_isAt 12 = .ok (.getfield 56, 3) := by decide +kernel
theorem dX4_isAt_15 : decode cX4_isAt 15 = .ok (.iload_n 1, 1) := by decide +kernel
theorem dX4_isAt_16 : decode cX4_isAt 16 = .ok (.iaload, 1) := by decide +kernel
theorem dX4_isAt_17 : decode cX4_isAt 17 = .ok (.iload_n 2, 1) := by decide +kernel
theorem dX4_isAt_18 : decode cX4_isAt 18 = .ok (.if_icmp .ne 7, 3) := by decide +kernel
theorem dX4_isAt_21 : decode cX4_isAt 21 = .ok (.iconst 1, 1) := by decide +kernel
theorem dX4_isAt_22 : decode cX4_isAt 22 = .ok (.goto 4, 3) := by decide +kernel
theorem dX4_isAt_25 : decode cX4_isAt 25 = .ok (.iconst 0, 1) := by decide +kernel
theorem dX4_isAt_26 : decode cX4_isAt 26 = .ok (.ireturn, 1) := by decide +kernel
theorem dX4_areSigns_0 : decode cX4_areSigns 0 = .ok (.iload_n 1, 1) := by decide +kernel
theorem dX4_areSigns_1 : decode cX4_areSigns 1 = .ok (.istore_n 3, 1) := by decide +kernel
theorem dX4_areSigns_2 : decode cX4_areSigns 2 = .ok (.iload_n 3, 1) := by decide +kernel
theorem dX4_areSigns_3 : decode cX4_areSigns 3 = .ok (.iload_n 2, 1) := by decide +kernel
theorem dX4_areSigns_4 : decode cX4_areSigns 4 = .ok (.if_icmp .ge 26, 3) := by decide +kernel
theorem dX4_areSigns_7 : decode cX4_areSigns 7 = .ok (.aload_n 0, 1) := by decide +kernel
theorem dX4_areSigns_8 : decode cX4_areSigns 8 = .ok (.getfield 12, 3) := by decide +kernel
theorem dX4_areSigns_11 : decode cX4_areSigns 11 = .ok (.getfield 56, 3) := by decide +kernel
theorem dX4_areSigns_14 : decode cX4_areSigns 14 = .ok (.iload_n 3, 1) := by decide +kernel
theorem dX4_areSigns_15 : decode cX4_areSigns 15 = .ok (.iaload, 1) := by decide +kernel
theorem dX4_areSigns_16 : decode cX4_areSigns 16 = .ok (.invokestatic 108, 3) := by decide +kernel
theorem dX4_areSigns_19 : decode cX4_areSigns 19 = .ok (.ifCond .ne 5, 3) := by decide +kernel
theorem dX4_areSigns_22 : decode cX4_areSigns 22 = .ok (.iconst 0, 1) := by decide +kernel
theorem dX4_areSigns_23 : decode cX4_areSigns 23 = .ok (.ireturn, 1) := by decide +kernel
theorem dX4_areSigns_24 : decode cX4_areSigns 24 = .ok (.iinc 3 1, 3) := by decide +kernel
theorem dX4_areSigns_27 : decode cX4_areSigns 27 = .ok (.goto (-25), 3) := by decide +kernel
theorem dX4_areSigns_30 : decode cX4_areSigns 30 = .ok (.iconst 1, 1) := by decide +kernel
theorem dX4_areSigns_31 : decode cX4_areSigns 31 = .ok (.ireturn, 1) := by decide +kernel
theorem dX4_areFigures_0 : decode cX4_areFigures 0 = .ok (.iload_n 1, 1) := by decide +kernel
theorem dX4_areFigures_1 : decode cX4_areFigures 1 = .ok (.istore_n 3, 1) := by decide +kernel
theorem dX4_areFigures_2 : decode cX4_areFigures 2 = .ok (.iload_n 3, 1) := by decide +kernel
theorem dX4_areFigures_3 : decode cX4_areFigures 3 = .ok (.iload_n 2, 1) := by decide +kernel
theorem dX4_areFigures_4 : decode cX4_areFigures 4 = .ok (.if_icmp .ge 26, 3) := by decide +kernel
theorem dX4_areFigures_7 : decode cX4_areFigures 7 = .ok (.aload_n 0, 1) := by decide +kernel
theorem dX4_areFigures_8 : decode cX4_areFigures 8 = .ok (.getfield 12, 3) := by decide +kernel
theorem dX4_areFigures_11 : decode cX4_areFigures 11 = .ok (.getfield 56, 3) := by decide +kernel
theorem dX4_areFigures_14 : decode cX4_areFigures 14 = .ok (.iload_n 3, 1) := by decide +kernel
theorem dX4_areFigures_15 : decode cX4_areFigures 15 = .ok (.iaload, 1) := by decide +kernel
theorem dX4_areFigures_16 : decode cX4_areFigures 16 = .ok (.invokestatic 104, 3) := by decide +kernel
theorem dX4_areFigures_19 : decode cX4_areFigures 19 = .ok (.ifCond .ne 5, 3) := by decide +kernel
theorem dX4_areFigures_22 : decode cX4_areFigures 22 = .ok (.iconst 0, 1) := by decide +kernel
theorem dX4_areFigures_23 : decode cX4_areFigures 23 = .ok (.ireturn, 1) := by decide +kernel
theorem dX4_areFigures_24 : decode cX4_areFigures 24 = .ok (.iinc 3 1, 3) := by decide +kernel
theorem dX4_areFigures_27 : decode cX4_areFigures 27 = .ok (.goto (-25), 3) := by decide +kernel
theorem dX4_areFigures_30 : decode cX4_areFigures 30 = .ok (.iconst 1, 1) := by decide +kernel
theorem dX4_areFigures_31 : decode cX4_areFigures 31 = .ok (.ireturn, 1) := by decide +kernel
theorem dX4_numberAt_0 : decode cX4_numberAt 0 = .ok (.iconst 0, 1) := by decide +kernel
theorem dX4_numberAt_1 : decode cX4_numberAt 1 = .ok (.istore_n 3, 1) := by decide +kernel
theorem dX4_numberAt_2 : decode cX4_numberAt 2 = .ok (.iload_n 1, 1) := by decide +kernel
theorem dX4_numberAt_3 : decode cX4_numberAt 3 = .ok (.istore 4, 2) := by decide +kernel
theorem dX4_numberAt_5 : decode cX4_numberAt 5 = .ok (.iload 4, 2) := by decide +kernel
theorem dX4_numberAt_7 : decode cX4_numberAt 7 = .ok (.iload_n 2, 1) := by decide +kernel
theorem dX4_numberAt_8 : decode cX4_numberAt 8 = .ok (.if_icmp .ge 28, 3) := by decide +kernel
theorem dX4_numberAt_11 : decode cX4_numberAt 11 = .ok (.bipush 10, 2) := by decide +kernel
theorem dX4_numberAt_13 : decode cX4_numberAt 13 = .ok (.iload_n 3, 1) := by decide +kernel
theorem dX4_numberAt_14 : decode cX4_numberAt 14 = .ok (.imul, 1) := by decide +kernel
theorem dX4_numberAt_15 : decode cX4_numberAt 15 = .ok (.aload_n 0, 1) := by decide +kernel
theorem dX4_numberAt_16 : decode cX4_numberAt 16 = .ok (.getfield 12, 3) := by decide +kernel
theorem dX4_numberAt_19 : decode cX4_numberAt 19 = .ok (.getfield 56, 3) := by decide +kernel
theorem dX4_numberAt_22 : decode cX4_numberAt 22 = .ok (.iload 4, 2) := by decide +kernel
theorem dX4_numberAt_24 : decode cX4_numberAt 24 = .ok (.iaload, 1) := by decide +kernel
theorem dX4_numberAt_25 : decode cX4_numberAt 25 = .ok (.iadd, 1) := by decide +kernel
theorem dX4_numberAt_26 : decode cX4_numberAt 26 = .ok (.bipush 48, 2) := by decide +kernel
theorem dX4_numberAt_28 : decode cX4_numberAt 28 = .ok (.isub, 1) := by decide +kernel
theorem dX4_numberAt_29 : decode cX4_numberAt 29 = .ok (.istore_n 3, 1) := by decide +kernel
theorem dX4_numberAt_30 : decode cX4_numberAt 30 = .ok (.iinc 4 1, 3) := by decide +kernel
theorem dX4_numberAt_33 : decode cX4_numberAt 33 = .ok (.goto (-28), 3) := by decide +kernel
theorem dX4_numberAt_36 : decode cX4_numberAt 36 = .ok (.iload_n 3, 1) := by decide +kernel
theorem dX4_numberAt_37 : decode cX4_numberAt 37 = .ok (.ireturn, 1) := by decide +kernel
theorem dX4_isFigure_0 : decode cX4_isFigure 0 = .ok (.iload_n 0, 1) := by decide +kernel
theorem dX4_isFigure_1 : decode cX4_isFigure 1 = .ok (.bipush 48, 2) := by decide +kernel
theorem dX4_isFigure_3 : decode cX4_isFigure 3 = .ok (.if_icmp .lt 13, 3) := by decide +kernel
theorem dX4_isFigure_6 : decode cX4_isFigure 6 = .ok (.iload_n 0, 1) := by decide +kernel
theorem dX4_isFigure_7 : decode cX4_isFigure 7 = .ok (.bipush 57, 2) := by decide +kernel
theorem dX4_isFigure_9 : decode cX4_isFigure 9 = .ok (.if_icmp .gt 7, 3) := by decide +kernel
theorem dX4_isFigure_12 : decode cX4_isFigure 12 = .ok (.iconst 1, 1) := by decide +kernel
theorem dX4_isFigure_13 : decode cX4_isFigure 13 = .ok (.goto 4, 3) := by decide +kernel
theorem dX4_isFigure_16 : decode cX4_isFigure 16 = .ok (.iconst 0, 1) := by decide +kernel
theorem dX4_isFigure_17 : decode cX4_isFigure 17 = .ok (.ireturn, 1) := by decide +kernel
theorem dX4_isSign_0 : decode cX4_isSign 0 = .ok (.iload_n 0, 1) := by decide +kernel
theorem dX4_isSign_1 : decode cX4_isSign 1 = .ok (.bipush 48, 2) := by decide +kernel
theorem dX4_isSign_3 : decode cX4_isSign 3 = .ok (.if_icmp .eq 27, 3) := by decide +kernel
theorem dX4_isSign_6 : decode cX4_isSign 6 = .ok (.iload_n 0, 1) := by decide +kernel
theorem dX4_isSign_7 : decode cX4_isSign 7 = .ok (.bipush 49, 2) := by decide +kernel
theorem dX4_isSign_9 : decode cX4_isSign 9 = .ok (.if_icmp .eq 21, 3) := by decide +kernel
theorem dX4_isSign_12 : decode cX4_isSign 12 = .ok (.iload_n 0, 1) := by decide +kernel
theorem dX4_isSign_13 : decode cX4_isSign 13 = .ok (.bipush 76, 2) := by decide +kernel
theorem dX4_isSign_15 : decode cX4_isSign 15 = .ok (.if_icmp .eq 15, 3) := by decide +kernel
theorem dX4_isSign_18 : decode cX4_isSign 18 = .ok (.iload_n 0, 1) := by decide +kernel
theorem dX4_isSign_19 : decode cX4_isSign 19 = .ok (.bipush 72, 2) := by decide +kernel
theorem dX4_isSign_21 : decode cX4_isSign 21 = .ok (.if_icmp .eq 9, 3) := by decide +kernel
theorem dX4_isSign_24 : decode cX4_isSign 24 = .ok (.iload_n 0, 1) := by decide +kernel
theorem dX4_isSign_25 : decode cX4_isSign 25 = .ok (.bipush 88, 2) := by decide +kernel
theorem dX4_isSign_27 : decode cX4_isSign 27 = .ok (.if_icmp .ne 7, 3) := by decide +kernel
theorem dX4_isSign_30 : decode cX4_isSign 30 = .ok (.iconst 1, 1) := by decide +kernel
theorem dX4_isSign_31 : decode cX4_isSign 31 = .ok (.goto 4, 3) := by decide +kernel
theorem dX4_isSign_34 : decode cX4_isSign 34 = .ok (.iconst 0, 1) := by decide +kernel
theorem dX4_isSign_35 : decode cX4_isSign 35 = .ok (.ireturn, 1) := by decide +kernel
theorem dX5_init_0 : decode cX5_init 0 = .ok (.aload_n 0, 1) := by decide +kernel
theorem dX5_init_1 : decode cX5_init 1 = .ok (.invokespecial 3, 3) := by decide +kernel
theorem dX5_init_4 : decode cX5_init 4 = .ok (.aload_n 0, 1) := by decide +kernel
theorem dX5_init_5 : decode cX5_init 5 = .ok (.iconst 0, 1) := by decide +kernel
theorem dX5_init_6 : decode cX5_init 6 = .ok (.putfield 9, 3) := by decide +kernel
theorem dX5_init_9 : decode cX5_init 9 = .ok (.aload_n 0, 1) := by decide +kernel
theorem dX5_init_10 : decode cX5_init 10 = .ok (.bipush 10, 2) := by decide +kernel
theorem dX5_init_12 : decode cX5_init 12 = .ok (.newarray .int, 2) := by decide +kernel
theorem dX5_init_14 : decode cX5_init 14 = .ok (.putfield 15, 3) := by decide +kernel
theorem dX5_init_17 : decode cX5_init 17 = .ok (.aload_n 0, 1) := by decide +kernel
theorem dX5_init_18 : decode cX5_init 18 = .ok (.bipush 10, 2) := by decide +kernel
theorem dX5_init_20 : decode cX5_init 20 = .ok (.newarray .int, 2) := by decide +kernel
theorem dX5_init_22 : decode cX5_init 22 = .ok (.putfield 19, 3) := by decide +kernel
theorem dX5_init_25 : decode cX5_init 25 = .ok (.aload_n 0, 1) := by decide +kernel
theorem dX5_init_26 : decode cX5_init 26 = .ok (.bipush 10, 2) := by decide +kernel
theorem dX5_init_28 : decode cX5_init 28 = .ok (.newarray .int, 2) := by decide +kernel
theorem dX5_init_30 : decode cX5_init 30 = .ok (.putfield 22, 3) := by decide +kernel
theorem dX5_init_33 : decode cX5_init 33 = .ok (.aload_n 0, 1) := by decide +kernel
theorem dX5_init_34 : decode cX5_init 34 = .ok (.bipush 10, 2) := by decide +kernel
theorem dX5_init_36 : decode cX5_init 36 = .ok (.newarray .int, 2) := by decide +kernel
theorem dX5_init_38 : decode cX5_init 38 = .ok (.putfield 25, 3) := by decide +kernel
theorem dX5_init_41 : decode cX5_init 41 = .ok (.aload_n 0, 1) := by decide +kernel
theorem dX5_init_42 : decode cX5_init 42 = .ok (.bipush 10, 2) := by decide +kernel
theorem dX5_init_44 : decode cX5_init 44 = .ok (.newarray .int, 2) := by decide +kernel
theorem dX5_init_46 : decode cX5_init 46 = .ok (.putfield 28, 3) := by decide +kernel
theorem dX5_init_49 : decode cX5_init 49 = .ok (.aload_n 0, 1) := by decide +kernel
theorem dX5_init_50 : decode cX5_init 50 = .ok (.bipush 10, 2) := by decide +kernel
theorem dX5_init_52 : decode cX5_init 52 = .ok (.newarray .int, 2) := by decide +kernel
theorem dX5_init_54 : decode cX5_init 54 = .ok (.putfield 31, 3) := by decide +kernel
theorem dX5_init_57 : decode cX5_init 57 = .ok (.return_, 1) := by decide +kernel
theorem dX5_add_0 : decode cX5_add 0 = .ok (.aload_n 0, 1) := by decide +kernel
theorem dX5_add_1 : decode cX5_add 1 = .ok (.getfield 9, 3) := by decide +kernel
theorem dX5_add_4 : decode cX5_add 4 = .ok (.istore 5, 2) := by decide +kernel
theorem dX5_add_6 : decode cX5_add 6 = .ok (.aload_n 0, 1) := by decide +kernel
theorem dX5_add_7 : decode cX5_add 7 = .ok (.getfield 15, 3) := by decide +kernel
theorem dX5_add_10 : decode cX5_add 10 = .ok (.iload 5, 2) := by decide +kernel
theorem dX5_add_12 : decode cX5_add 12 = .ok (.iload_n 1, 1) := by decide +kernel
theorem dX5_add_13 : decode cX5_add 13 = .ok (.iastore, 1) := by decide +kernel
theorem dX5_add_14 : decode cX5_add 14 = .ok (.aload_n 0, 1) := by decide +kernel
theorem dX5_add_15 : decode cX5_add 15 = .ok (.getfield 19, 3) := by decide +kernel
theorem dX5_add_18 : decode cX5_add 18 = .ok (.iload 5, 2) := by decide +kernel
theorem dX5_add_20 : decode cX5_add 20 = .ok (.iload_n 2, 1) := by decide +kernel
theorem dX5_add_21 : decode cX5_add 21 = .ok (.iastore, 1) := by decide +kernel
theorem dX5_add_22 : decode cX5_add 22 = .ok (.aload_n 0, 1) := by decide +kernel
theorem dX5_add_23 : decode cX5_add 23 = .ok (.getfield 22, 3) := by decide +kernel
theorem dX5_add_26 : decode cX5_add 26 = .ok (.iload 5, 2) := by decide +kernel
theorem dX5_add_28 : decode cX5_add 28 = .ok (.iload_n 3, 1) := by decide +kernel
theorem dX5_add_29 : decode cX5_add 29 = .ok (.iastore, 1) := by decide +kernel
theorem dX5_add_30 : decode cX5_add 30 = .ok (.aload_n 0, 1) := by decide +kernel
theorem dX5_add_31 : decode cX5_add 31 = .ok (.getfield 25, 3) := by decide +kernel
theorem dX5_add_34 : decode cX5_add 34 = .ok (.iload 5, 2) := by decide +kernel
theorem dX5_add_36 : decode cX5_add 36 = .ok (.iload 4, 2) := by decide +kernel
theorem dX5_add_38 : decode cX5_add 38 = .ok (.iastore, 1) := by decide +kernel
theorem dX5_add_39 : decode cX5_add 39 = .ok (.aload_n 0, 1) := by decide +kernel
theorem dX5_add_40 : decode cX5_add 40 = .ok (.getfield 31, 3) := by decide +kernel
theorem dX5_add_43 : decode cX5_add 43 = .ok (.iload 5, 2) := by decide +kernel
theorem dX5_add_45 : decode cX5_add 45 = .ok (.iload 5, 2) := by decide +kernel
theorem dX5_add_47 : decode cX5_add 47 = .ok (.iastore, 1) := by decide +kernel
theorem dX5_add_48 : decode cX5_add 48 = .ok (.aload_n 0, 1) := by decide +kernel
theorem dX5_add_49 : decode cX5_add 49 = .ok (.dup, 1) := by decide +kernel
theorem dX5_add_50 : decode cX5_add 50 = .ok (.getfield 9, 3) := by decide +kernel
theorem dX5_add_53 : decode cX5_add 53 = .ok (.iconst 1, 1) := by decide +kernel
theorem dX5_add_54 : decode cX5_add 54 = .ok (.iadd, 1) := by decide +kernel
theorem dX5_add_55 : decode cX5_add 55 = .ok (.putfield 9, 3) := by decide +kernel
theorem dX5_add_58 : decode cX5_add 58 = .ok (.iload 5, 2) := by decide +kernel
theorem dX5_add_60 : decode cX5_add 60 = .ok (.ireturn, 1) := by decide +kernel
theorem dX5_kindOf_0 : decode cX5_kindOf 0 = .ok (.aload_n 0, 1) := by decide +kernel
theorem dX5_kindOf_1 : decode cX5_kindOf 1 = .ok (.getfield 15, 3) := by decide +kernel
theorem dX5_kindOf_4 : decode cX5_kindOf 4 = .ok (.iload_n 1, 1) := by decide +kernel
theorem dX5_kindOf_5 : decode cX5_kindOf 5 = .ok (.iaload, 1) := by decide +kernel
theorem dX5_kindOf_6 : decode cX5_kindOf 6 = .ok (.aload_n 0, 1) := by decide +kernel
theorem dX5_kindOf_7 : decode cX5_kindOf 7 = .ok (.getfield 19, 3) := by decide +kernel
theorem dX5_kindOf_10 : decode cX5_kindOf 10 = .ok (.iload_n 1, 1) := by decide +kernel
theorem dX5_kindOf_11 : decode cX5_kindOf 11 = .ok (.iaload, 1) := by decide +kernel
theorem dX5_kindOf_12 : decode cX5_kindOf 12 = .ok (.if_icmp .le 5, 3) := by decide +kernel
theorem dX5_kindOf_15 : decode cX5_kindOf 15 = .ok (.iconst 3, 1) := by decide +kernel
theorem dX5_kindOf_16 : decode cX5_kindOf 16 = .ok (.ireturn, 1) := by decide +kernel
theorem dX5_kindOf_17 : decode cX5_kindOf 17 = .ok (.aload_n 0, 1) := by decide +kernel
theorem dX5_kindOf_18 : decode cX5_kindOf 18 = .ok (.getfield 22, 3) := by decide +kernel
theorem dX5_kindOf_21 : decode cX5_kindOf 21 = .ok (.iload_n 1, 1) := by decide +kernel
theorem dX5_kindOf_22 : decode cX5_kindOf 22 = .ok (.iaload, 1) := by decide +kernel
theorem dX5_kindOf_23 : decode cX5_kindOf 23 = .ok (.bipush 9, 2) := by decide +kernel
theorem dX5_kindOf_25 : decode cX5_kindOf 25 = .ok (.if_icmp .le 5, 3) := by decide +kernel
theorem dX5_kindOf_28 : decode cX5_kindOf 28 = .ok (.iconst 0, 1) := by decide +kernel
theorem dX5_kindOf_29 : decode cX5_kindOf 29 = .ok (.ireturn, 1) := by decide +kernel
theorem dX5_kindOf_30 : decode cX5_kindOf 30 = .ok (.aload_n 0, 1) := by decide +kernel
theorem dX5_kindOf_31 : decode cX5_kindOf 31 = .ok (.getfield 15, 3) := by decide +kernel
theorem dX5_kindOf_34 : decode cX5_kindOf 34 = .ok (.iload_n 1, 1) := by decide +kernel
theorem dX5_kindOf_35 : decode cX5_kindOf 35 = .ok (.iaload, 1) := by decide +kernel
theorem dX5_kindOf_36 : decode cX5_kindOf 36 = .ok (.aload_n 0, 1) := by decide +kernel
theorem dX5_kindOf_37 : decode cX5_kindOf 37 = .ok (.getfield 19, 3) := by decide +kernel
theorem dX5_kindOf_40 : decode cX5_kindOf 40 = .ok (.iload_n 1, 1) := by decide +kernel
theorem dX5_kindOf_41 : decode cX5_kindOf 41 = .ok (.iaload, 1) := by decide +kernel
theorem dX5_kindOf_42 : decode cX5_kindOf 42 = .ok (.if_icmp .ne 7, 3) := by decide +kernel
theorem dX5_kindOf_45 : decode cX5_kindOf 45 = .ok (.iconst 2, 1) := by decide +kernel
theorem dX5_kindOf_46 : decode cX5_kindOf 46 = .ok (.goto 4, 3) := by decide +kernel
theorem dX5_kindOf_49 : decode cX5_kindOf 49 = .ok (.iconst 1, 1) := by decide +kernel
theorem dX5_kindOf_50 : decode cX5_kindOf 50 = .ok (.ireturn, 1) := by decide +kernel
theorem dX5_isAlso_0 : decode cX5_isAlso 0 = .ok (.aload_n 0, 1) := by decide +kernel
theorem dX5_isAlso_1 : decode cX5_isAlso 1 = .ok (.iload_n 1, 1) := by decide +kernel
theorem dX5_isAlso_2 : decode cX5_isAlso 2 = .ok (.invokevirtual 34, 3) := by decide +kernel
theorem dX5_isAlso_5 : decode cX5_isAlso 5 = .ok (.istore_n 3, 1) := by decide +kernel
theorem dX5_isAlso_6 : decode cX5_isAlso 6 = .ok (.iload_n 2, 1) := by decide +kernel
theorem dX5_isAlso_7 : decode cX5_isAlso 7 = .ok (.ifCond .eq 18, 3) := by decide +kernel
theorem dX5_isAlso_10 : decode cX5_isAlso 10 = .ok (.iload_n 2, 1) := by decide +kernel
theorem dX5_isAlso_11 : decode cX5_isAlso 11 = .ok (.iload_n 3, 1) := by decide +kernel
theorem dX5_isAlso_12 : decode cX5_isAlso 12 = .ok (.if_icmp .eq 13, 3) := by decide +kernel
theorem dX5_isAlso_15 : decode cX5_isAlso 15 = .ok (.iload_n 2, 1) := by decide +kernel
theorem dX5_isAlso_16 : decode cX5_isAlso 16 = .ok (.iconst 1, 1) := by decide +kernel
theorem dX5_isAlso_17 : decode cX5_isAlso 17 = .ok (.if_icmp .ne 12, 3) := by decide +kernel
theorem dX5_isAlso_20 : decode cX5_isAlso 20 = .ok (.iload_n 3, 1) := by decide +kernel
theorem dX5_isAlso_21 : decode cX5_isAlso 21 = .ok (.iconst 2, 1) := by decide +kernel
theorem dX5_isAlso_22 : decode cX5_isAlso 22 = .ok (.if_icmp .ne 7, 3) := by decide +kernel
theorem dX5_isAlso_25 : decode cX5_isAlso 25 = .ok (.iconst 1, 1) := by decide +kernel
theorem dX5_isAlso_26 : decode cX5_isAlso 26 = .ok (.goto 4, 3) := by decide +kernel
theorem dX5_isAlso_29 : decode cX5_isAlso 29 = .ok (.iconst 0, 1) := by decide +kernel
theorem dX5_isAlso_30 : decode cX5_isAlso 30 = .ok (.ireturn, 1) := by decide +kernel
theorem dX5_passes_0 : decode cX5_passes 0 = .ok (.lload_n 2, 1) := by decide +kernel
theorem dX5_passes_1 : decode cX5_passes 1 = .ok (.aload_n 0, 1) := by decide +kernel
theorem dX5_passes_2 : decode cX5_passes 2 = .ok (.getfield 15, 3) := by decide +kernel
theorem dX5_passes_5 : decode cX5_passes 5 = .ok (.iload_n 1, 1) := by decide +kernel
theorem dX5_passes_6 : decode cX5_passes 6 = .ok (.iaload, 1) := by decide +kernel
theorem dX5_passes_7 : decode cX5_passes 7 = .ok (.i2l, 1) := by decide +kernel
theorem dX5_passes_8 : decode cX5_passes 8 = .ok (.lcmp, 1) := by decide +kernel
theorem dX5_passes_9 : decode cX5_passes 9 = .ok (.ifCond .lt 19, 3) := by decide +kernel
theorem dX5_passes_12 : decode cX5_passes 12 = .ok (.lload_n 2, 1) := by decide +kernel
theorem dX5_passes_13 : decode cX5_passes 13 = .ok (.aload_n 0, 1) := by decide +kernel
theorem dX5_passes_14 : decode cX5_passes 14 = .ok (.getfield 19, 3) := by decide +kernel
theorem dX5_passes_17 : decode cX5_passes 17 = .ok (.iload_n 1, 1) := by decide +kernel
theorem dX5_passes_18 : decode cX5_passes 18 = .ok (.iaload, 1) := by decide +kernel
theorem dX5_passes_19 : decode cX5_passes 19 = .ok (.i2l, 1) := by decide +kernel
theorem dX5_passes_20 : decode cX5_passes 20 = .ok (.lcmp, 1) := by decide +kernel
theorem dX5_passes_21 : decode cX5_passes 21 = .ok (.ifCond .gt 7, 3) := by decide +kernel
theorem dX5_passes_24 : decode cX5_passes 24 = .ok (.iconst 1, 1) := by decide +kernel
theorem dX5_passes_25 : decode cX5_passes 25 = .ok (.goto 4, 3) := by decide +kernel
theorem dX5_passes_28 : decode cX5_passes 28 = .ok (.iconst 0, 1) := by decide +kernel
theorem dX5_passes_29 : decode cX5_passes 29 = .ok (.ireturn, 1) := by decide +kernel
theorem dX5_placeOf_0 : decode cX5_placeOf 0 = .ok (.iconst 0, 1) := by decide +kernel
theorem dX5_placeOf_1 : decode cX5_placeOf 1 = .ok (.istore_n 2, 1) := by decide +kernel
theorem dX5_placeOf_2 : decode cX5_placeOf 2 = .ok (.iload_n 2, 1) := by decide +kernel
theorem dX5_placeOf_3 : decode cX5_placeOf 3 = .ok (.aload_n 0, 1) := by decide +kernel
theorem dX5_placeOf_4 : decode cX5_placeOf 4 = .ok (.getfield 9, 3) := by decide +kernel
theorem dX5_placeOf_7 : decode cX5_placeOf 7 = .ok (.if_icmp .ge 21, 3) := by decide +kernel
theorem dX5_placeOf_10 : decode cX5_placeOf 10 = .ok (.aload_n 0, 1) := by decide +kernel
theorem dX5_placeOf_11 : decode cX5_placeOf 11 = .ok (.getfield 31, 3) := by decide +kernel
theorem dX5_placeOf_14 : decode cX5_placeOf 14 = .ok (.iload_n 2, 1) := by decide +kernel
theorem dX5_placeOf_15 : decode cX5_placeOf 15 = .ok (.iaload, 1) := by decide +kernel
theorem dX5_placeOf_16 : decode cX5_placeOf 16 = .ok (.iload_n 1, 1) := by decide +kernel
theorem dX5_placeOf_17 : decode cX5_placeOf 17 = .ok (.if_icmp .ne 5, 3) := by decide +kernel
theorem dX5_placeOf_20 : decode cX5_placeOf 20 = .ok (.iload_n 2, 1) := by decide +kernel
theorem dX5_placeOf_21 : decode cX5_placeOf 21 = .ok (.ireturn, 1) := by decide +kernel
theorem dX5_placeOf_22 : decode cX5_placeOf 22 = .ok (.iinc 2 1, 3) := by decide +kernel
theorem dX5_placeOf_25 : decode cX5_placeOf 25 = .ok (.goto (-23), 3) := by decide +kernel
theorem dX5_placeOf_28 : decode cX5_placeOf 28 = .ok (.ldc 38, 2) := by decide +kernel
theorem dX5_placeOf_30 : decode cX5_placeOf 30 = .ok (.ireturn, 1) := by decide +kernel
theorem dX5_putAt_0 : decode cX5_putAt 0 = .ok (.iload_n 2, 1) := by decide +kernel
theorem dX5_putAt_1 : decode cX5_putAt 1 = .ok (.istore 4, 2) := by decide +kernel
theorem dX5_putAt_3 : decode cX5_putAt 3 = .ok (.iload 4, 2) := by decide +kernel
theorem dX5_putAt_5 : decode cX5_putAt 5 = .ok (.iload_n 3, 1) := by decide +kernel
theorem dX5_putAt_6 : decode cX5_putAt 6 = .ok (.if_icmp .ge 25, 3) := by decide +kernel
theorem dX5_putAt_9 : decode cX5_putAt 9 = .ok (.aload_n 0, 1) := by decide +kernel
theorem dX5_putAt_10 : decode cX5_putAt 10 = .ok (.getfield 31, 3) := by decide +kernel
theorem dX5_putAt_13 : decode cX5_putAt 13 = .ok (.iload 4, 2) := by decide +kernel
theorem dX5_putAt_15 : decode cX5_putAt 15 = .ok (.aload_n 0, 1) := by decide +kernel
theorem dX5_putAt_16 : decode cX5_putAt 16 = .ok (.getfield 31, 3) := by decide +kernel
theorem dX5_putAt_19 : decode cX5_putAt 19 = .ok (.iload 4, 2) := by decide +kernel
theorem dX5_putAt_21 : decode cX5_putAt 21 = .ok (.iconst 1, 1) := by decide +kernel
theorem dX5_putAt_22 : decode cX5_putAt 22 = .ok (.iadd, 1) := by decide +kernel
theorem dX5_putAt_23 : decode cX5_putAt 23 = .ok (.iaload, 1) := by decide +kernel
theorem dX5_putAt_24 : decode cX5_putAt 24 = .ok (.iastore, 1) := by decide +kernel
theorem dX5_putAt_25 : decode cX5_putAt 25 = .ok (.iinc 4 1, 3) := by decide +kernel
theorem dX5_putAt_28 : decode cX5_putAt 28 = .ok (.goto (-25), 3) := by decide +kernel
theorem dX5_putAt_31 : decode cX5_putAt 31 = .ok (.iload_n 2, 1) := by decide +kernel
theorem dX5_putAt_32 : decode cX5_putAt 32 = .ok (.istore 4, 2) := by decide +kernel
theorem dX5_putAt_34 : decode cX5_putAt 34 = .ok (.iload 4, 2) := by decide +kernel
theorem dX5_putAt_36 : decode cX5_putAt 36 = .ok (.iload_n 3, 1) := by decide +kernel
theorem dX5_putAt_37 : decode cX5_putAt 37 = .ok (.if_icmp .le 25, 3) := by decide +kernel
theorem dX5_putAt_40 : decode cX5_putAt 40 = .ok (.aload_n 0, 1) := by decide +kernel
theorem dX5_putAt_41 : decode cX5_putAt 41 = .ok (.getfield 31, 3) := by decide +kernel
theorem dX5_putAt_44 : decode cX5_putAt 44 = .ok (.iload 4, 2) := by decide +kernel
theorem dX5_putAt_46 : decode cX5_putAt 46 = .ok (.aload_n 0, 1) := by decide +kernel
theorem dX5_putAt_47 : decode cX5_putAt 47 = .ok (.getfield 31, 3) := by decide +kernel
theorem dX5_putAt_50 : decode cX5_putAt 50 = .ok (.iload 4, 2) := by decide +kernel
theorem dX5_putAt_52 : decode cX5_putAt 52 = .ok (.iconst 1, 1) := by decide +kernel
theorem dX5_putAt_53 : decode cX5_putAt 53 = .ok (.isub, 1) := by decide +kernel
theorem dX5_putAt_54 : decode cX5_putAt 54 = .ok (.iaload, 1) := by decide +kernel
theorem dX5_putAt_55 : decode cX5_putAt 55 = .ok (.iastore, 1) := by decide +kernel
theorem dX5_putAt_56 : decode cX5_putAt 56 = .ok (.iinc 4 (-1), 3) := by decide +kernel
theorem dX5_putAt_59 : decode cX5_putAt 59 = .ok (.goto (-25), 3) := by decide +kernel
theorem dX5_putAt_62 : decode cX5_putAt 62 = .ok (.aload_n 0, 1) := by decide +kernel
theorem dX5_putAt_63 : decode cX5_putAt 63 = .ok (.getfield 31, 3) := by decide +kernel
theorem dX5_putAt_66 : decode cX5_putAt 66 = .ok (.iload_n 3, 1) := by decide +kernel
theorem dX5_putAt_67 : decode cX5_putAt 67 = .ok (.iload_n 1, 1) := by decide +kernel
theorem dX5_putAt_68 : decode cX5_putAt 68 = .ok (.iastore, 1) := by decide +kernel
theorem dX5_putAt_69 : decode cX5_putAt 69 = .ok (.return_, 1) := by decide +kernel
theorem dX5_binAtEnd_0 : decode cX5_binAtEnd 0 = .ok (.iload_n 1, 1) := by decide +kernel
theorem dX5_binAtEnd_1 : decode cX5_binAtEnd 1 = .ok (.aload_n 0, 1) := by decide +kernel
theorem dX5_binAtEnd_2 : decode cX5_binAtEnd 2 = .ok (.getfield 9, 3) := by decide +kernel
theorem dX5_binAtEnd_5 : decode cX5_binAtEnd 5 = .ok (.if_icmp .ge 17, 3) := by decide +kernel
theorem dX5_binAtEnd_8 : decode cX5_binAtEnd 8 = .ok (.aload_n 0, 1) := by decide +kernel
theorem dX5_binAtEnd_9 : decode cX5_binAtEnd 9 = .ok (.getfield 25, 3) := by decide +kernel
theorem dX5_binAtEnd_12 : decode cX5_binAtEnd 12 = .ok (.aload_n 0, 1) := by decide +kernel
theorem dX5_binAtEnd_13 : decode cX5_binAtEnd 13 = .ok (.getfield 31, 3) := by decide +kernel
theorem dX5_binAtEnd_16 : decode cX5_binAtEnd 16 = .ok (.iload_n 1, 1) := by decide +kernel
theorem dX5_binAtEnd_17 : decode cX5_binAtEnd 17 = .ok (.iaload, 1) := by decide +kernel
theorem dX5_binAtEnd_18 : decode cX5_binAtEnd 18 = .ok (.iaload, 1) := by decide +kernel
theorem dX5_binAtEnd_19 : decode cX5_binAtEnd 19 = .ok (.goto 4, 3) := by decide +kernel
theorem dX5_binAtEnd_22 : decode cX5_binAtEnd 22 = .ok (.iconst 0, 1) := by decide +kernel
theorem dX5_binAtEnd_23 : decode cX5_binAtEnd 23 = .ok (.ireturn, 1) := by decide +kernel
theorem dX5_timeToEnd_0 : decode cX5_timeToEnd 0 = .ok (.iconst 0, 1) := by decide +kernel
theorem dX5_timeToEnd_1 : decode cX5_timeToEnd 1 = .ok (.istore_n 2, 1) := by decide +kernel
theorem dX5_timeToEnd_2 : decode cX5_timeToEnd 2 = .ok (.iconst 0, 1) := by decide +kernel
theorem dX5_timeToEnd_3 : decode cX5_timeToEnd 3 = .ok (.istore_n 3, 1) := by decide +kernel
theorem dX5_timeToEnd_4 : decode cX5_timeToEnd 4 = .ok (.iload_n 3, 1) := by decide +kernel
theorem dX5_timeToEnd_5 : decode cX5_timeToEnd 5 = .ok (.iload_n 1, 1) := by decide +kernel
theorem dX5_timeToEnd_6 : decode cX5_timeToEnd 6 = .ok (.if_icmp .gt 31, 3) := by decide +kernel
theorem dX5_timeToEnd_9 : decode cX5_timeToEnd 9 = .ok (.iload_n 3, 1) := by decide +kernel
theorem dX5_timeToEnd_10 : decode cX5_timeToEnd 10 = .ok (.aload_n 0, 1) := by decide +kernel
theorem dX5_timeToEnd_11 : decode cX5_timeToEnd 11 = .ok (.getfield 9, 3) := by decide +kernel
theorem dX5_timeToEnd_14 : decode cX5_timeToEnd 14 = .ok (.if_icmp .ge 23, 3) := by decide +kernel
theorem dX5_timeToEnd_17 : decode cX5_timeToEnd 17 = .ok (.iload_n 2, 1) := by decide +kernel
theorem dX5_timeToEnd_18 : decode cX5_timeToEnd 18 = .ok (.aload_n 0, 1) := by decide +kernel
theorem dX5_timeToEnd_19 : decode cX5_timeToEnd 19 = .ok (.getfield 22, 3) := by decide +kernel
theorem dX5_timeToEnd_22 : decode cX5_timeToEnd 22 = .ok (.aload_n 0, 1) := by decide +kernel
theorem dX5_timeToEnd_23 : decode cX5_timeToEnd 23 = .ok (.getfield 31, 3) := by decide +kernel
theorem dX5_timeToEnd_26 : decode cX5_timeToEnd 26 = .ok (.iload_n 3, 1) := by decide +kernel
theorem dX5_timeToEnd_27 : decode cX5_timeToEnd 27 = .ok (.iaload, 1) := by decide +kernel
theorem dX5_timeToEnd_28 : decode cX5_timeToEnd 28 = .ok (.iaload, 1) := by decide +kernel
theorem dX5_timeToEnd_29 : decode cX5_timeToEnd 29 = .ok (.iadd, 1) := by decide +kernel
theorem dX5_timeToEnd_30 : decode cX5_timeToEnd 30 = .ok (.istore_n 2, 1) := by decide +kernel
theorem dX5_timeToEnd_31 : decode cX5_timeToEnd 31 = .ok (.iinc 3 1, 3) := by decide +kernel
theorem dX5_timeToEnd_34 : decode cX5_timeToEnd 34 = .ok (.goto (-30), 3) := by decide +kernel
theorem dX5_timeToEnd_37 : decode cX5_timeToEnd 37 = .ok (.iload_n 2, 1) := by decide +kernel
theorem dX5_timeToEnd_38 : decode cX5_timeToEnd 38 = .ok (.ireturn, 1) := by decide +kernel
theorem dX5_meanTime_0 : decode cX5_meanTime 0 = .ok (.lconst 0, 1) := by decide +kernel
theorem dX5_meanTime_1 : decode cX5_meanTime 1 = .ok (.lstore_n 1, 1) := by decide +kernel
theorem dX5_meanTime_2 : decode cX5_meanTime 2 = .ok (.lconst 1, 1) := by decide +kernel
theorem dX5_meanTime_3 : decode cX5_meanTime 3 = .ok (.lstore_n 3, 1) := by decide +kernel
theorem dX5_meanTime_4 : decode cX5_meanTime 4 = .ok (.aload_n 0, 1) := by decide +kernel
theorem dX5_meanTime_5 : decode cX5_meanTime 5 = .ok (.getfield 9, 3) := by decide +kernel
theorem dX5_meanTime_8 : decode cX5_meanTime 8 = .ok (.iconst 1, 1) := by decide +kernel
theorem dX5_meanTime_9 : decode cX5_meanTime 9 = .ok (.isub, 1) := by decide +kernel
theorem dX5_meanTime_10 : decode cX5_meanTime 10 = .ok (.istore 5, 2) := by decide +kernel
theorem dX5_meanTime_12 : decode cX5_meanTime 12 = .ok (.iload 5, 2) := by decide +kernel
theorem dX5_meanTime_14 : decode cX5_meanTime 14 = .ok (.ifCond .lt 49, 3) := by decide +kernel
theorem dX5_meanTime_17 : decode cX5_meanTime 17 = .ok (.aload_n 0, 1) := by decide +kernel
theorem dX5_meanTime_18 : decode cX5_meanTime 18 = .ok (.getfield 31, 3) := by decide +kernel
theorem dX5_meanTime_21 : decode cX5_meanTime 21 = .ok (.iload 5, 2) := by decide +kernel
theorem dX5_meanTime_23 : decode cX5_meanTime 23 = .ok (.iaload, 1) := by decide +kernel
theorem dX5_meanTime_24 : decode cX5_meanTime 24 = .ok (.istore 6, 2) := by decide +kernel
theorem dX5_meanTime_26 : decode cX5_meanTime 26 = .ok (.lload_n 3, 1) := by decide +kernel
theorem dX5_meanTime_27 : decode cX5_meanTime 27 = .ok (.ldc2_w 39, 3) := by decide +kernel
theorem dX5_meanTime_30 : decode cX5_meanTime 30 = .ok (.lmul, 1) := by decide +kernel
theorem dX5_meanTime_31 : decode cX5_meanTime 31 = .ok (.lstore_n 3, 1) := by decide +kernel
theorem dX5_meanTime_32 : decode cX5_meanTime 32 = .ok (.aload_n 0, 1) := by decide +kernel
theorem dX5_meanTime_33 : decode cX5_meanTime 33 = .ok (.getfield 22, 3) := by decide +kernel
theorem dX5_meanTime_36 : decode cX5_meanTime 36 = .ok (.iload 6, 2) := by decide +kernel
theorem dX5_meanTime_38 : decode cX5_meanTime 38 = .ok (.iaload, 1) := by decide +kernel
theorem dX5_meanTime_39 : decode cX5_meanTime 39 = .ok (.i2l, 1) := by decide +kernel
theorem dX5_meanTime_40 : decode cX5_meanTime 40 = .ok (.lload_n 3, 1) := by decide +kernel
theorem dX5_meanTime_41 : decode cX5_meanTime 41 = .ok (.lmul, 1) := by decide +kernel
theorem dX5_meanTime_42 : decode cX5_meanTime 42 = .ok (.bipush 10, 2) := by decide +kernel
theorem dX5_meanTime_44 : decode cX5_meanTime 44 = .ok (.aload_n 0, 1) := by decide +kernel
theorem dX5_meanTime_45 : decode cX5_meanTime 45 = .ok (.getfield 28, 3) := by decide +kernel
theorem dX5_meanTime_48 : decode cX5_meanTime 48 = .ok (.iload 6, 2) := by decide +kernel
theorem dX5_meanTime_50 : decode cX5_meanTime 50 = .ok (.iaload, 1) := by decide +kernel
theorem dX5_meanTime_51 : decode cX5_meanTime 51 = .ok (.isub, 1) := by decide +kernel
theorem dX5_meanTime_52 : decode cX5_meanTime 52 = .ok (.i2l, 1) := by decide +kernel
theorem dX5_meanTime_53 : decode cX5_meanTime 53 = .ok (.lload_n 1, 1) := by decide +kernel
theorem dX5_meanTime_54 : decode cX5_meanTime 54 = .ok (.lmul, 1) := by decide +kernel
theorem dX5_meanTime_55 : decode cX5_meanTime 55 = .ok (.ladd, 1) := by decide +kernel
theorem dX5_meanTime_56 : decode cX5_meanTime 56 = .ok (.lstore_n 1, 1) := by decide +kernel
theorem dX5_meanTime_57 : decode cX5_meanTime 57 = .ok (.iinc 5 (-1), 3) := by decide +kernel
theorem dX5_meanTime_60 : decode cX5_meanTime 60 = .ok (.goto (-48), 3) := by decide +kernel
theorem dX5_meanTime_63 : decode cX5_meanTime 63 = .ok (.lload_n 1, 1) := by decide +kernel
theorem dX5_meanTime_64 : decode cX5_meanTime 64 = .ok (.lreturn, 1) := by decide +kernel
theorem dX5_takeBestOrder_0 : decode cX5_takeBestOrder 0 = .ok (.iconst 1, 1) := by decide +kernel
theorem dX5_takeBestOrder_1 : decode cX5_takeBestOrder 1 = .ok (.istore_n 1, 1) := by decide +kernel
theorem dX5_takeBestOrder_2 : decode cX5_takeBestOrder 2 = .ok (.iconst 1, 1) := by decide +kernel
theorem dX5_takeBestOrder_3 : decode cX5_takeBestOrder 3 = .ok (.aload_n 0, 1) := by decide +kernel
theorem dX5_takeBestOrder_4 : decode cX5_takeBestOrder 4 = .ok (.getfield 9, 3) := by decide +kernel
theorem dX5_takeBestOrder_7 : decode cX5_takeBestOrder 7 = .ok (.ishl, 1) := by decide +kernel
theorem dX5_takeBestOrder_8 : decode cX5_takeBestOrder 8 = .ok (.iconst 1, 1) := by decide +kernel
theorem dX5_takeBestOrder_9 : decode cX5_takeBestOrder 9 = .ok (.isub, 1) := by decide +kernel
theorem dX5_takeBestOrder_10 : decode cX5_takeBestOrder 10 = .ok (.istore_n 2, 1) := by decide +kernel
theorem dX5_takeBestOrder_11 : decode cX5_takeBestOrder 11 = .ok (.iconst 0, 1) := by decide +kernel
theorem dX5_takeBestOrder_12 : decode cX5_takeBestOrder 12 = .ok (.istore_n 3, 1) := by decide +kernel
theorem dX5_takeBestOrder_13 : decode cX5_takeBestOrder 13 = .ok (.iload_n 3, 1) := by decide +kernel
theorem dX5_takeBestOrder_14 : decode cX5_takeBestOrder 14 = .ok (.aload_n 0, 1) := by decide +kernel
theorem dX5_takeBestOrder_15 : decode cX5_takeBestOrder 15 = .ok (.getfield 9, 3) := by decide +kernel
theorem dX5_takeBestOrder_18 : decode cX5_takeBestOrder 18 = .ok (.if_icmp .ge 64, 3) := by decide +kernel
theorem dX5_takeBestOrder_21 : decode cX5_takeBestOrder 21 = .ok (.aload_n 0, 1) := by decide +kernel
theorem dX5_takeBestOrder_22 : decode cX5_takeBestOrder 22 = .ok (.iload_n 2, 1) := by decide +kernel
theorem dX5_takeBestOrder_23 : decode cX5_takeBestOrder 23 = .ok (.iload_n 1, 1) := by decide +kernel
theorem dX5_takeBestOrder_24 : decode cX5_takeBestOrder 24 = .ok (.invokevirtual 41, 3) := by decide +kernel
theorem dX5_takeBestOrder_27 : decode cX5_takeBestOrder 27 = .ok (.istore 4, 2) := by decide +kernel
theorem dX5_takeBestOrder_29 : decode cX5_takeBestOrder 29 = .ok (.iload 4, 2) := by decide +kernel
theorem dX5_takeBestOrder_31 : decode cX5_takeBestOrder 31 = .ok (.ldc 38, 2) := by decide +kernel
theorem dX5_takeBestOrder_33 : decode cX5_takeBestOrder 33 = .ok (.if_icmp .ne 4, 3) := by decide +kernel
theorem dX5_takeBestOrder_36 : decode cX5_takeBestOrder 36 = .ok (.return_, 1) := by decide +kernel
theorem dX5_takeBestOrder_37 : decode cX5_takeBestOrder 37 = .ok (.iload_n 2, 1) := by decide +kernel
theorem dX5_takeBestOrder_38 : decode cX5_takeBestOrder 38 = .ok (.iconst 1, 1) := by decide +kernel
theorem dX5_takeBestOrder_39 : decode cX5_takeBestOrder 39 = .ok (.iload 4, 2) := by decide +kernel
theorem dX5_takeBestOrder_41 : decode cX5_takeBestOrder 41 = .ok (.ishl, 1) := by decide +kernel
theorem dX5_takeBestOrder_42 : decode cX5_takeBestOrder 42 = .ok (.iconst (-1), 1) := by decide +kernel
theorem dX5_takeBestOrder_43 : decode cX5_takeBestOrder 43 = .ok (.ixor, 1) := by decide +kernel
theorem dX5_takeBestOrder_44 : decode cX5_takeBestOrder 44 = .ok (.iand, 1) := by decide +kernel
theorem dX5_takeBestOrder_45 : decode cX5_takeBestOrder 45 = .ok (.istore_n 2, 1) := by decide +kernel
theorem dX5_takeBestOrder_46 : decode cX5_takeBestOrder 46 = .ok (.aload_n 0, 1) := by decide +kernel
theorem dX5_takeBestOrder_47 : decode cX5_takeBestOrder 47 = .ok (.getfield 31, 3) := by decide +kernel
theorem dX5_takeBestOrder_50 : decode cX5_takeBestOrder 50 = .ok (.iload_n 3, 1) := by decide +kernel
theorem dX5_takeBestOrder_51 : decode cX5_takeBestOrder 51 = .ok (.iload 4, 2) := by decide +kernel
theorem dX5_takeBestOrder_53 : decode cX5_takeBestOrder 53 = .ok (.iastore, 1) := by decide +kernel
theorem dX5_takeBestOrder_54 : decode cX5_takeBestOrder 54 = .ok (.iload_n 1, 1) := by decide +kernel
theorem dX5_takeBestOrder_55 : decode cX5_takeBestOrder 55 = .ok (.ifCond .eq 19, 3) := by decide +kernel
theorem dX5_takeBestOrder_58 : decode cX5_takeBestOrder 58 = .ok (.aload_n 0, 1) := by decide +kernel
theorem dX5_takeBestOrder_59 : decode cX5_takeBestOrder 59 = .ok (.getfield 28, 3) := by decide +kernel
theorem dX5_takeBestOrder_62 : decode cX5_takeBestOrder 62 = .ok (.iload 4, 2) := by decide +kernel
theorem dX5_takeBestOrder_64 : decode cX5_takeBestOrder 64 = .ok (.iaload, 1) := by decide +kernel
theorem dX5_takeBestOrder_65 : decode cX5_takeBestOrder 65 = .ok (.bipush 10, 2) := by decide +kernel
theorem dX5_takeBestOrder_67 : decode cX5_takeBestOrder 67 = .ok (.if_icmp .ge 7, 3) := by decide +kernel
theorem dX5_takeBestOrder_70 : decode cX5_takeBestOrder 70 = .ok (.iconst 1, 1) := by decide +kernel
theorem dX5_takeBestOrder_71 : decode cX5_takeBestOrder 71 = .ok (.goto 4, 3) := by decide +kernel
theorem dX5_takeBestOrder_74 : decode cX5_takeBestOrder 74 = .ok (.iconst 0, 1) := by decide +kernel
theorem dX5_takeBestOrder_75 : decode cX5_takeBestOrder 75 = .ok (.istore_n 1, 1) := by decide +kernel
theorem dX5_takeBestOrder_76 : decode cX5_takeBestOrder 76 = .ok (.iinc 3 1, 3) := by decide +kernel
theorem dX5_takeBestOrder_79 : decode cX5_takeBestOrder 79 = .ok (.goto (-66), 3) := by decide +kernel
theorem dX5_takeBestOrder_82 : decode cX5_takeBestOrder 82 = .ok (.return_, 1) := by decide +kernel
theorem dX5_nextOfBest_0 : decode cX5_nextOfBest 0 = .ok (.ldc 38, 2) := by decide +kernel
theorem dX5_nextOfBest_2 : decode cX5_nextOfBest 2 = .ok (.istore_n 3, 1) := by decide +kernel
theorem dX5_nextOfBest_3 : decode cX5_nextOfBest 3 = .ok (.iconst 0, 1) := by decide +kernel
theorem dX5_nextOfBest_4 : decode cX5_nextOfBest 4 = .ok (.istore 4, 2) := by decide +kernel
theorem dX5_nextOfBest_6 : decode cX5_nextOfBest 6 = .ok (.iload 4, 2) := by decide +kernel
theorem dX5_nextOfBest_8 : decode cX5_nextOfBest 8 = .ok (.aload_n 0, 1) := by decide +kernel
theorem dX5_nextOfBest_9 : decode cX5_nextOfBest 9 = .ok (.getfield 9, 3) := by decide +kernel
theorem dX5_nextOfBest_12 : decode cX5_nextOfBest 12 = .ok (.if_icmp .ge 54, 3) := by decide +kernel
theorem dX5_nextOfBest_15 : decode cX5_nextOfBest 15 = .ok (.iload_n 1, 1) := by decide +kernel
theorem dX5_nextOfBest_16 : decode cX5_nextOfBest 16 = .ok (.iload 4, 2) := by decide +kernel
theorem dX5_nextOfBest_18 : decode cX5_nextOfBest 18 = .ok (.ishr, 1) := by decide +kernel
theorem dX5_nextOfBest_19 : decode cX5_nextOfBest 19 = .ok (.iconst 1, 1) := by decide +kernel
theorem dX5_nextOfBest_20 : decode cX5_nextOfBest 20 = .ok (.iand, 1) := by decide +kernel
theorem dX5_nextOfBest_21 : decode cX5_nextOfBest 21 = .ok (.iconst 1, 1) := by decide +kernel
theorem dX5_nextOfBest_22 : decode cX5_nextOfBest 22 = .ok (.if_icmp .ne 7, 3) := by decide +kernel
theorem dX5_nextOfBest_25 : decode cX5_nextOfBest 25 = .ok (.iconst 1, 1) := by decide +kernel
theorem dX5_nextOfBest_26 : decode cX5_nextOfBest 26 = .ok (.goto 4, 3) := by decide +kernel
theorem dX5_nextOfBest_29 : decode cX5_nextOfBest 29 = .ok (.iconst 0, 1) := by decide +kernel
theorem dX5_nextOfBest_30 : decode cX5_nextOfBest 30 = .ok (.istore 5, 2) := by decide +kernel
theorem dX5_nextOfBest_32 : decode cX5_nextOfBest 32 = .ok (.iload 5, 2) := by decide +kernel
theorem dX5_nextOfBest_34 : decode cX5_nextOfBest 34 = .ok (.ifCond .eq 26, 3) := by decide +kernel
theorem dX5_nextOfBest_37 : decode cX5_nextOfBest 37 = .ok (.iload_n 3, 1) := by decide +kernel
theorem dX5_nextOfBest_38 : decode cX5_nextOfBest 38 = .ok (.ldc 38, 2) := by decide +kernel
theorem dX5_nextOfBest_40 : decode cX5_nextOfBest 40 = .ok (.if_icmp .eq 17, 3) := by decide +kernel
theorem dX5_nextOfBest_43 : decode cX5_nextOfBest 43 = .ok (.iload_n 2, 1) := by decide +kernel
theorem dX5_nextOfBest_44 : decode cX5_nextOfBest 44 = .ok (.ifCond .eq 16, 3) := by decide +kernel
theorem dX5_nextOfBest_47 : decode cX5_nextOfBest 47 = .ok (.aload_n 0, 1) := by decide +kernel
theorem dX5_nextOfBest_48 : decode cX5_nextOfBest 48 = .ok (.iload 4, 2) := by decide +kernel
theorem dX5_nextOfBest_50 : decode cX5_nextOfBest 50 = .ok (.iload_n 3, 1) := by decide +kernel
theorem dX5_nextOfBest_51 : decode cX5_nextOfBest 51 = .ok (.invokevirtual 45, 3) := by decide +kernel
theorem dX5_nextOfBest_54 : decode cX5_nextOfBest 54 = .ok (.ifCond .eq 6, 3) := by decide +kernel
theorem dX5_nextOfBest_57 : decode cX5_nextOfBest 57 = .ok (.iload 4, 2) := by decide +kernel
theorem dX5_nextOfBest_59 : decode cX5_nextOfBest 59 = .ok (.istore_n 3, 1) := by decide +kernel
theorem dX5_nextOfBest_60 : decode cX5_nextOfBest 60 = .ok (.iinc 4 1, 3) := by decide +kernel
theorem dX5_nextOfBest_63 : decode cX5_nextOfBest 63 = .ok (.goto (-57), 3) := by decide +kernel
theorem dX5_nextOfBest_66 : decode cX5_nextOfBest 66 = .ok (.iload_n 3, 1) := by decide +kernel
theorem dX5_nextOfBest_67 : decode cX5_nextOfBest 67 = .ok (.ireturn, 1) := by decide +kernel
theorem dX5_hasToBeAhead_0 : decode cX5_hasToBeAhead 0 = .ok (.aload_n 0, 1) := by decide +kernel
theorem dX5_hasToBeAhead_1 : decode cX5_hasToBeAhead 1 = .ok (.getfield 22, 3) := by decide +kernel
theorem dX5_hasToBeAhead_4 : decode cX5_hasToBeAhead 4 = .ok (.iload_n 1, 1) := by decide +kernel
theorem dX5_hasToBeAhead_5 : decode cX5_hasToBeAhead 5 = .ok (.iaload, 1) := by decide +kernel
theorem dX5_hasToBeAhead_6 : decode cX5_hasToBeAhead 6 = .ok (.aload_n 0, 1) := by decide +kernel
theorem dX5_hasToBeAhead_7 : decode cX5_hasToBeAhead 7 = .ok (.getfield 28, 3) := by decide +kernel
theorem dX5_hasToBeAhead_10 : decode cX5_hasToBeAhead 10 = .ok (.iload_n 2, 1) := by decide +kernel
theorem dX5_hasToBeAhead_11 : decode cX5_hasToBeAhead 11 = .ok (.iaload, 1) := by decide +kernel
theorem dX5_hasToBeAhead_12 : decode cX5_hasToBeAhead 12 = .ok (.imul, 1) := by decide +kernel
theorem dX5_hasToBeAhead_13 : decode cX5_hasToBeAhead 13 = .ok (.aload_n 0, 1) := by decide +kernel
theorem dX5_hasToBeAhead_14 : decode cX5_hasToBeAhead 14 = .ok (.getfield 22, 3) := by decide +kernel
theorem dX5_hasToBeAhead_17 : decode cX5_hasToBeAhead 17 = .ok (.iload_n 2, 1) := by decide +kernel
theorem dX5_hasToBeAhead_18 : decode cX5_hasToBeAhead 18 = .ok (.iaload, 1) := by decide +kernel
theorem dX5_hasToBeAhead_19 : decode cX5_hasToBeAhead 19 = .ok (.aload_n 0, 1) := by decide +kernel
theorem dX5_hasToBeAhead_20 : decode cX5_hasToBeAhead 20 = .ok (.getfield 28, 3) := by decide +kernel
theorem dX5_hasToBeAhead_23 : decode cX5_hasToBeAhead 23 = .ok (.iload_n 1, 1) := by decide +kernel
theorem dX5_hasToBeAhead_24 : decode cX5_hasToBeAhead 24 = .ok (.iaload, 1) := by decide +kernel
theorem dX5_hasToBeAhead_25 : decode cX5_hasToBeAhead 25 = .ok (.imul, 1) := by decide +kernel
theorem dX5_hasToBeAhead_26 : decode cX5_hasToBeAhead 26 = .ok (.if_icmp .ge 7, 3) := by decide +kernel
theorem dX5_hasToBeAhead_29 : decode cX5_hasToBeAhead 29 = .ok (.iconst 1, 1) := by decide +kernel
theorem dX5_hasToBeAhead_30 : decode cX5_hasToBeAhead 30 = .ok (.goto 4, 3) := by decide +kernel
theorem dX5_hasToBeAhead_33 : decode cX5_hasToBeAhead 33 = .ok (.iconst 0, 1) := by decide +kernel
theorem dX5_hasToBeAhead_34 : decode cX5_hasToBeAhead 34 = .ok (.ireturn, 1) := by decide +kernel
theorem dX6_init_0 : decode cX6_init 0 = .ok (.aload_n 0, 1) := by decide +kernel
theorem dX6_init_1 : decode cX6_init 1 = .ok (.invokespecial 3, 3) := by decide +kernel
theorem dX6_init_4 : decode cX6_init 4 = .ok (.aload_n 0, 1) := by decide +kernel
theorem dX6_init_5 : decode cX6_init 5 = .ok (.sipush 144, 3) := by decide +kernel
theorem dX6_init_8 : decode cX6_init 8 = .ok (.newarray .int, 2) := by decide +kernel
theorem dX6_init_10 : decode cX6_init 10 = .ok (.putfield 9, 3) := by decide +kernel
theorem dX6_init_13 : decode cX6_init 13 = .ok (.aload_n 0, 1) := by decide +kernel
theorem dX6_init_14 : decode cX6_init 14 = .ok (.getfield 9, 3) := by decide +kernel
theorem dX6_init_17 : decode cX6_init 17 = .ok (.ldc 15, 2) := by decide +kernel
theorem dX6_init_19 : decode cX6_init 19 = .ok (.invokestatic 16, 3) := by decide +kernel
theorem dX6_init_22 : decode cX6_init 22 = .ok (.return_, 1) := by decide +kernel
theorem dX6_isPlace_0 : decode cX6_isPlace 0 = .ok (.iload_n 0, 1) := by decide +kernel
theorem dX6_isPlace_1 : decode cX6_isPlace 1 = .ok (.bipush 12, 2) := by decide +kernel
theorem dX6_isPlace_3 : decode cX6_isPlace 3 = .ok (.invokestatic 22, 3) := by decide +kernel
theorem dX6_isPlace_6 : decode cX6_isPlace 6 = .ok (.ifCond .eq 16, 3) := by decide +kernel
theorem dX6_isPlace_9 : decode cX6_isPlace 9 = .ok (.iload_n 1, 1) := by decide +kernel
theorem dX6_isPlace_10 : decode cX6_isPlace 10 = .ok (.bipush 12, 2) := by decide +kernel
theorem dX6_isPlace_12 : decode cX6_isPlace 12 = .ok (.invokestatic 22, 3) := by decide +kernel
theorem dX6_isPlace_15 : decode cX6_isPlace 15 = .ok (.ifCond .eq 7, 3) := by decide +kernel
theorem dX6_isPlace_18 : decode cX6_isPlace 18 = .ok (.iconst 1, 1) := by decide +kernel
theorem dX6_isPlace_19 : decode cX6_isPlace 19 = .ok (.goto 4, 3) := by decide +kernel
theorem dX6_isPlace_22 : decode cX6_isPlace 22 = .ok (.iconst 0, 1) := by decide +kernel
theorem dX6_isPlace_23 : decode cX6_isPlace 23 = .ok (.ireturn, 1) := by decide +kernel
theorem dX6_binAt_0 : decode cX6_binAt 0 = .ok (.iload_n 1, 1) := by decide +kernel
theorem dX6_binAt_1 : decode cX6_binAt 1 = .ok (.iload_n 2, 1) := by decide +kernel
theorem dX6_binAt_2 : decode cX6_binAt 2 = .ok (.invokestatic 26, 3) := by decide +kernel
theorem dX6_binAt_5 : decode cX6_binAt 5 = .ok (.ifCond .eq 17, 3) := by decide +kernel
theorem dX6_binAt_8 : decode cX6_binAt 8 = .ok (.aload_n 0, 1) := by decide +kernel
theorem dX6_binAt_9 : decode cX6_binAt 9 = .ok (.getfield 9, 3) := by decide +kernel
theorem dX6_binAt_12 : decode cX6_binAt 12 = .ok (.bipush 12, 2) := by decide +kernel
theorem dX6_binAt_14 : decode cX6_binAt 14 = .ok (.iload_n 2, 1) := by decide +kernel
theorem dX6_binAt_15 : decode cX6_binAt 15 = .ok (.imul, 1) := by decide +kernel
theorem dX6_binAt_16 : decode cX6_binAt 16 = .ok (.iload_n 1, 1) := by decide +kernel
theorem dX6_binAt_17 : decode cX6_binAt 17 = .ok (.iadd, 1) := by decide +kernel
theorem dX6_binAt_18 : decode cX6_binAt 18 = .ok (.iaload, 1) := by decide +kernel
theorem dX6_binAt_19 : decode cX6_binAt 19 = .ok (.goto 5, 3) := by decide +kernel
theorem dX6_binAt_22 : decode cX6_binAt 22 = .ok (.ldc 15, 2) := by decide +kernel
theorem dX6_binAt_24 : decode cX6_binAt 24 = .ok (.ireturn, 1) := by decide +kernel
theorem dX6_put_0 : decode cX6_put 0 = .ok (.aload_n 0, 1) := by decide +kernel
theorem dX6_put_1 : decode cX6_put 1 = .ok (.iload_n 1, 1) := by decide +kernel
theorem dX6_put_2 : decode cX6_put 2 = .ok (.iload_n 2, 1) := by decide +kernel
theorem dX6_put_3 : decode cX6_put 3 = .ok (.invokevirtual 29, 3) := by decide +kernel
theorem dX6_put_6 : decode cX6_put 6 = .ok (.istore 4, 2) := by decide +kernel
theorem dX6_put_8 : decode cX6_put 8 = .ok (.aload_n 0, 1) := by decide +kernel
theorem dX6_put_9 : decode cX6_put 9 = .ok (.getfield 9, 3) := by decide +kernel
theorem dX6_put_12 : decode cX6_put 12 = .ok (.bipush 12, 2) := by decide +kernel
theorem dX6_put_14 : decode cX6_put 14 = .ok (.iload_n 2, 1) := by decide +kernel
theorem dX6_put_15 : decode cX6_put 15 = .ok (.imul, 1) := by decide +kernel
theorem dX6_put_16 : decode cX6_put 16 = .ok (.iload_n 1, 1) := by decide +kernel
theorem dX6_put_17 : decode cX6_put 17 = .ok (.iadd, 1) := by decide +kernel
theorem dX6_put_18 : decode cX6_put 18 = .ok (.iload_n 3, 1) := by decide +kernel
theorem dX6_put_19 : decode cX6_put 19 = .ok (.iastore, 1) := by decide +kernel
theorem dX6_put_20 : decode cX6_put 20 = .ok (.iload 4, 2) := by decide +kernel
theorem dX6_put_22 : decode cX6_put 22 = .ok (.ireturn, 1) := by decide +kernel
theorem dX6_filled_0 : decode cX6_filled 0 = .ok (.iconst 0, 1) := by decide +kernel
theorem dX6_filled_1 : decode cX6_filled 1 = .ok (.istore_n 1, 1) := by decide +kernel
theorem dX6_filled_2 : decode cX6_filled 2 = .ok (.iconst 0, 1) := by decide +kernel
theorem dX6_filled_3 : decode cX6_filled 3 = .ok (.istore_n 2, 1) := by decide +kernel
theorem dX6_filled_4 : decode cX6_filled 4 = .ok (.iload_n 2, 1) := by decide +kernel
theorem dX6_filled_5 : decode cX6_filled 5 = .ok (.sipush 144, 3) := by decide +kernel
theorem dX6_filled_8 : decode cX6_filled 8 = .ok (.if_icmp .ge 23, 3) := by decide +kernel
theorem dX6_filled_11 : decode cX6_filled 11 = .ok (.aload_n 0, 1) := by decide +kernel
theorem dX6_filled_12 : decode cX6_filled 12 = .ok (.getfield 9, 3) := by decide +kernel
theorem dX6_filled_15 : decode cX6_filled 15 = .ok (.iload_n 2, 1) := by decide +kernel
theorem dX6_filled_16 : decode cX6_filled 16 = .ok (.iaload, 1) := by decide +kernel
theorem dX6_filled_17 : decode cX6_filled 17 = .ok (.ldc 15, 2) := by decide +kernel
theorem dX6_filled_19 : decode cX6_filled 19 = .ok (.if_icmp .eq 6, 3) := by decide +kernel
theorem dX6_filled_22 : decode cX6_filled 22 = .ok (.iinc 1 1, 3) := by decide +kernel
theorem dX6_filled_25 : decode cX6_filled 25 = .ok (.iinc 2 1, 3) := by decide +kernel
theorem dX6_filled_28 : decode cX6_filled 28 = .ok (.goto (-24), 3) := by decide +kernel
theorem dX6_filled_31 : decode cX6_filled 31 = .ok (.iload_n 1, 1) := by decide +kernel
theorem dX6_filled_32 : decode cX6_filled 32 = .ok (.ireturn, 1) := by decide +kernel
theorem dX6_oddCount_0 : decode cX6_oddCount 0 = .ok (.iconst 0, 1) := by decide +kernel
theorem dX6_oddCount_1 : decode cX6_oddCount 1 = .ok (.istore_n 2, 1) := by decide +kernel
theorem dX6_oddCount_2 : decode cX6_oddCount 2 = .ok (.iconst 0, 1) := by decide +kernel
theorem dX6_oddCount_3 : decode cX6_oddCount 3 = .ok (.istore_n 3, 1) := by decide +kernel
theorem dX6_oddCount_4 : decode cX6_oddCount 4 = .ok (.iload_n 3, 1) := by decide +kernel
theorem dX6_oddCount_5 : decode cX6_oddCount 5 = .ok (.sipush 144, 3) := by decide +kernel
theorem dX6_oddCount_8 : decode cX6_oddCount 8 = .ok (.if_icmp .ge 21, 3) := by decide +kernel
theorem dX6_oddCount_11 : decode cX6_oddCount 11 = .ok (.aload_n 0, 1) := by decide +kernel
theorem dX6_oddCount_12 : decode cX6_oddCount 12 = .ok (.iload_n 3, 1) := by decide +kernel
theorem dX6_oddCount_13 : decode cX6_oddCount 13 = .ok (.iload_n 1, 1) := by decide +kernel
theorem dX6_oddCount_14 : decode cX6_oddCount 14 = .ok (.invokevirtual 33, 3) := by decide +kernel
theorem dX6_oddCount_17 : decode cX6_oddCount 17 = .ok (.ifCond .eq 6, 3) := by decide +kernel
theorem dX6_oddCount_20 : decode cX6_oddCount 20 = .ok (.iinc 2 1, 3) := by decide +kernel
theorem dX6_oddCount_23 : decode cX6_oddCount 23 = .ok (.iinc 3 1, 3) := by decide +kernel
theorem dX6_oddCount_26 : decode cX6_oddCount 26 = .ok (.goto (-22), 3) := by decide +kernel
theorem dX6_oddCount_29 : decode cX6_oddCount 29 = .ok (.iload_n 2, 1) := by decide +kernel
theorem dX6_oddCount_30 : decode cX6_oddCount 30 = .ok (.ireturn, 1) := by decide +kernel
theorem dX6_oddPlace_0 : decode cX6_oddPlace 0 = .ok (.iconst 0, 1) := by decide +kernel
theorem dX6_oddPlace_1 : decode cX6_oddPlace 1 = .ok (.istore_n 3, 1) := by decide +kernel
theorem dX6_oddPlace_2 : decode cX6_oddPlace 2 = .ok (.iconst 0, 1) := by decide +kernel
theorem dX6_oddPlace_3 : decode cX6_oddPlace 3 = .ok (.istore 4, 2) := by decide +kernel
theorem dX6_oddPlace_5 : decode cX6_oddPlace 5 = .ok (.iload 4, 2) := by decide +kernel
theorem dX6_oddPlace_7 : decode cX6_oddPlace 7 = .ok (.sipush 144, 3) := by decide +kernel
theorem dX6_oddPlace_10 : decode cX6_oddPlace 10 = .ok (.if_icmp .ge 30, 3) := by decide +kernel
theorem dX6_oddPlace_13 : decode cX6_oddPlace 13 = .ok (.aload_n 0, 1) := by decide +kernel
theorem dX6_oddPlace_14 : decode cX6_oddPlace 14 = .ok (.iload 4, 2) := by decide +kernel
theorem dX6_oddPlace_16 : decode cX6_oddPlace 16 = .ok (.iload_n 1, 1) := by decide +kernel
theorem dX6_oddPlace_17 : decode cX6_oddPlace 17 = .ok (.invokevirtual 33, 3) := by decide +kernel
theorem dX6_oddPlace_20 : decode cX6_oddPlace 20 = .ok (.ifCond .eq 14, 3) := by decide +kernel
theorem dX6_oddPlace_23 : decode cX6_oddPlace 23 = .ok (.iload_n 3, 1) := by decide +kernel
theorem dX6_oddPlace_24 : decode cX6_oddPlace 24 = .ok (.iload_n 2, 1) := by decide +kernel
theorem dX6_oddPlace_25 : decode cX6_oddPlace 25 = .ok (.if_icmp .ne 6, 3) := by decide +kernel
theorem dX6_oddPlace_28 : decode cX6_oddPlace 28 = .ok (.iload 4, 2) := by decide +kernel
theorem dX6_oddPlace_30 : decode cX6_oddPlace 30 = .ok (.ireturn, 1) := by decide +kernel
theorem dX6_oddPlace_31 : decode cX6_oddPlace 31 = .ok (.iinc 3 1, 3) := by decide +kernel
theorem dX6_oddPlace_34 : decode cX6_oddPlace 34 = .ok (.iinc 4 1, 3) := by decide +kernel
theorem dX6_oddPlace_37 : decode cX6_oddPlace 37 = .ok (.goto (-32), 3) := by decide +kernel
theorem dX6_oddPlace_40 : decode cX6_oddPlace 40 = .ok (.ldc 15, 2) := by decide +kernel
theorem dX6_oddPlace_42 : decode cX6_oddPlace 42 = .ok (.ireturn, 1) := by decide +kernel
theorem dX6_isOdd_0 : decode cX6_isOdd 0 = .ok (.aload_n 0, 1) := by decide +kernel
theorem dX6_isOdd_1 : decode cX6_isOdd 1 = .ok (.getfield 9, 3) := by decide +kernel
theorem dX6_isOdd_4 : decode cX6_isOdd 4 = .ok (.iload_n 1, 1) := by decide +kernel
theorem dX6_isOdd_5 : decode cX6_isOdd 5 = .ok (.iaload, 1) := by decide +kernel
theorem dX6_isOdd_6 : decode cX6_isOdd 6 = .ok (.ifCond .ne 23, 3) := by decide +kernel
theorem dX6_isOdd_9 : decode cX6_isOdd 9 = .ok (.aload_n 0, 1) := by decide +kernel
theorem dX6_isOdd_10 : decode cX6_isOdd 10 = .ok (.iload_n 1, 1) := by decide +kernel
theorem dX6_isOdd_11 : decode cX6_isOdd 11 = .ok (.bipush 12, 2) := by decide +kernel
theorem dX6_isOdd_13 : decode cX6_isOdd 13 = .ok (.irem, 1) := by decide +kernel
theorem dX6_isOdd_14 : decode cX6_isOdd 14 = .ok (.iload_n 1, 1) := by decide +kernel
theorem dX6_isOdd_15 : decode cX6_isOdd 15 = .ok (.bipush 12, 2) := by decide +kernel
theorem dX6_isOdd_17 : decode cX6_isOdd 17 = .ok (.idiv, 1) := by decide +kernel
theorem dX6_isOdd_18 : decode cX6_isOdd 18 = .ok (.invokevirtual 36, 3) := by decide +kernel
theorem dX6_isOdd_21 : decode cX6_isOdd 21 = .ok (.iload_n 2, 1) := by decide +kernel
theorem dX6_isOdd_22 : decode cX6_isOdd 22 = .ok (.if_icmp .lt 7, 3) := by decide +kernel
theorem dX6_isOdd_25 : decode cX6_isOdd 25 = .ok (.iconst 1, 1) := by decide +kernel
theorem dX6_isOdd_26 : decode cX6_isOdd 26 = .ok (.goto 4, 3) := by decide +kernel
theorem dX6_isOdd_29 : decode cX6_isOdd 29 = .ok (.iconst 0, 1) := by decide +kernel
theorem dX6_isOdd_30 : decode cX6_isOdd 30 = .ok (.ireturn, 1) := by decide +kernel
theorem dX6_failedAround_0 : decode cX6_failedAround 0 = .ok (.iconst 0, 1) := by decide +kernel
theorem dX6_failedAround_1 : decode cX6_failedAround 1 = .ok (.istore_n 3, 1) := by decide +kernel
theorem dX6_failedAround_2 : decode cX6_failedAround 2 = .ok (.iload_n 2, 1) := by decide +kernel
theorem dX6_failedAround_3 : decode cX6_failedAround 3 = .ok (.iconst 1, 1) := by decide +kernel
theorem dX6_failedAround_4 : decode cX6_failedAround 4 = .ok (.isub, 1) := by decide +kernel
theorem dX6_failedAround_5 : decode cX6_failedAround 5 = .ok (.istore 4, 2) := by decide +kernel
theorem dX6_failedAround_7 : decode cX6_failedAround 7 = .ok (.iload 4, 2) := by decide +kernel
theorem dX6_failedAround_9 : decode cX6_failedAround 9 = .ok (.iload_n 2, 1) := by decide +kernel
theorem dX6_failedAround_10 : decode cX6_failedAround 10 = .ok (.iconst 1, 1) := by decide +kernel
theorem dX6_failedAround_11 : decode cX6_failedAround 11 = .ok (.iadd, 1) := by decide +kernel
theorem dX6_failedAround_12 : decode cX6_failedAround 12 = .ok (.if_icmp .gt 42, 3) := by decide +kernel
theorem dX6_failedAround_15 : decode cX6_failedAround 15 = .ok (.iload_n 1, 1) := by decide +kernel
theorem dX6_failedAround_16 : decode cX6_failedAround 16 = .ok (.iconst 1, 1) := by decide +kernel
theorem dX6_failedAround_17 : decode cX6_failedAround 17 = .ok (.isub, 1) := by decide +kernel
theorem dX6_failedAround_18 : decode cX6_failedAround 18 = .ok (.istore 5, 2) := by decide +kernel
theorem dX6_failedAround_20 : decode cX6_failedAround 20 = .ok (.iload 5, 2) := by decide +kernel
theorem dX6_failedAround_22 : decode cX6_failedAround 22 = .ok (.iload_n 1, 1) := by decide +kernel
theorem dX6_failedAround_23 : decode cX6_failedAround 23 = .ok (.iconst 1, 1) := by decide +kernel
theorem dX6_failedAround_24 : decode cX6_failedAround 24 = .ok (.iadd, 1) := by decide +kernel
theorem dX6_failedAround_25 : decode cX6_failedAround 25 = .ok (.if_icmp .gt 23, 3) := by decide +kernel
theorem dX6_failedAround_28 : decode cX6_failedAround 28 = .ok (.aload_n 0, 1) := by decide +kernel
theorem dX6_failedAround_29 : decode cX6_failedAround 29 = .ok (.iload 5, 2) := by decide +kernel
theorem dX6_failedAround_31 : decode cX6_failedAround 31 = .ok (.iload 4, 2) := by decide +kernel
theorem dX6_failedAround_33 : decode cX6_failedAround 33 = .ok (.invokevirtual 29, 3) := by decide +kernel
theorem dX6_failedAround_36 : decode cX6_failedAround 36 = .ok (.ifCond .le 6, 3) := by decide +kernel
theorem dX6_failedAround_39 : decode cX6_failedAround 39 = .ok (.iinc 3 1, 3) := by decide +kernel
theorem dX6_failedAround_42 : decode cX6_failedAround 42 = .ok (.iinc 5 1, 3) := by decide +kernel
theorem dX6_failedAround_45 : decode cX6_failedAround 45 = .ok (.goto (-25), 3) := by decide +kernel
theorem dX6_failedAround_48 : decode cX6_failedAround 48 = .ok (.iinc 4 1, 3) := by decide +kernel
theorem dX6_failedAround_51 : decode cX6_failedAround 51 = .ok (.goto (-44), 3) := by decide +kernel
theorem dX6_failedAround_54 : decode cX6_failedAround 54 = .ok (.iload_n 3, 1) := by decide +kernel
theorem dX6_failedAround_55 : decode cX6_failedAround 55 = .ok (.ireturn, 1) := by decide +kernel
theorem dX7_init_0 : decode cX7_init 0 = .ok (.aload_n 0, 1) := by decide +kernel
theorem dX7_init_1 : decode cX7_init 1 = .ok (.invokespecial 1, 3) := by decide +kernel
theorem dX7_init_4 : decode cX7_init 4 = .ok (.aload_n 0, 1) := by decide +kernel
theorem dX7_init_5 : decode cX7_init 5 = .ok (.new 7, 3) := by decide +kernel
theorem dX7_init_8 : decode cX7_init 8 = .ok (.dup, 1) := by decide +kernel
theorem dX7_init_9 : decode cX7_init 9 = .ok (.invokespecial 9, 3) := by decide +kernel
theorem dX7_init_12 : decode cX7_init 12 = .ok (.putfield 10, 3) := by decide +kernel
theorem dX7_init_15 : decode cX7_init 15 = .ok (.aload_n 0, 1) := by decide +kernel
theorem dX7_init_16 : decode cX7_init 16 = .ok (.iconst 0, 1) := by decide +kernel
theorem dX7_init_17 : decode cX7_init 17 = .ok (.putfield 16, 3) := by decide +kernel
theorem dX7_init_20 : decode cX7_init 20 = .ok (.aload_n 0, 1) := by decide +kernel
theorem dX7_init_21 : decode cX7_init 21 = .ok (.sipush 400, 3) := by decide +kernel
theorem dX7_init_24 : decode cX7_init 24 = .ok (.newarray .int, 2) := by decide +kernel
theorem dX7_init_26 : decode cX7_init 26 = .ok (.putfield 20, 3) := by decide +kernel
theorem dX7_init_29 : decode cX7_init 29 = .ok (.aload_n 0, 1) := by decide +kernel
theorem dX7_init_30 : decode cX7_init 30 = .ok (.iconst 0, 1) := by decide +kernel
theorem dX7_init_31 : decode cX7_init 31 = .ok (.putfield 24, 3) := by decide +kernel
theorem dX7_init_34 : decode cX7_init 34 = .ok (.aload_n 0, 1) := by decide +kernel
theorem dX7_init_35 : decode cX7_init 35 = .ok (.new 27, 3) := by decide +kernel
theorem dX7_init_38 : decode cX7_init 38 = .ok (.dup, 1) := by decide +kernel
theorem dX7_init_39 : decode cX7_init 39 = .ok (.invokespecial 29, 3) := by decide +kernel
theorem dX7_init_42 : decode cX7_init 42 = .ok (.putfield 30, 3) := by decide +kernel
theorem dX7_init_45 : decode cX7_init 45 = .ok (.aload_n 0, 1) := by decide +kernel
theorem dX7_init_46 : decode cX7_init 46 = .ok (.new 34, 3) := by decide +kernel
theorem dX7_init_49 : decode cX7_init 49 = .ok (.dup, 1) := by decide +kernel
theorem dX7_init_50 : decode cX7_init 50 = .ok (.invokespecial 36, 3) := by decide +kernel
theorem dX7_init_53 : decode cX7_init 53 = .ok (.putfield 37, 3) := by decide +kernel
theorem dX7_init_56 : decode cX7_init 56 = .ok (.aload_n 0, 1) := by decide +kernel
theorem dX7_init_57 : decode cX7_init 57 = .ok (.iconst 0, 1) := by decide +kernel
theorem dX7_init_58 : decode cX7_init 58 = .ok (.putfield 41, 3) := by decide +kernel
theorem dX7_init_61 : decode cX7_init 61 = .ok (.aload_n 0, 1) := by decide +kernel
theorem dX7_init_62 : decode cX7_init 62 = .ok (.new 44, 3) := by decide +kernel
theorem dX7_init_65 : decode cX7_init 65 = .ok (.dup, 1) := by decide +kernel
theorem dX7_init_66 : decode cX7_init 66 = .ok (.invokespecial 46, 3) := by decide +kernel
theorem dX7_init_69 : decode cX7_init 69 = .ok (.putfield 47, 3) := by decide +kernel
theorem dX7_init_72 : decode cX7_init 72 = .ok (.aload_n 0, 1) := by decide +kernel
theorem dX7_init_73 : decode cX7_init 73 = .ok (.new 51, 3) := by decide +kernel
theorem dX7_init_76 : decode cX7_init 76 = .ok (.dup, 1) := by decide +kernel
theorem dX7_init_77 : decode cX7_init 77 = .ok (.aload_n 0, 1) := by decide +kernel
theorem dX7_init_78 : decode cX7_init 78 = .ok (.getfield 47, 3) := by decide +kernel
theorem dX7_init_81 : decode cX7_init 81 = .ok (.invokespecial 53, 3) := by decide +kernel
theorem dX7_init_84 : decode cX7_init 84 = .ok (.putfield 56, 3) := by decide +kernel
theorem dX7_init_87 : decode cX7_init 87 = .ok (.aload_n 0, 1) := by decide +kernel
theorem dX7_init_88 : decode cX7_init 88 = .ok (.bipush 8, 2) := by decide +kernel
theorem dX7_init_90 : decode cX7_init 90 = .ok (.newarray .int, 2) := by decide +kernel
theorem dX7_init_92 : decode cX7_init 92 = .ok (.putfield 60, 3) := by decide +kernel
theorem dX7_init_95 : decode cX7_init 95 = .ok (.aload_n 0, 1) := by decide +kernel
theorem dX7_init_96 : decode cX7_init 96 = .ok (.bipush 8, 2) := by decide +kernel
theorem dX7_init_98 : decode cX7_init 98 = .ok (.newarray .boolean, 2) := by decide +kernel
theorem dX7_init_100 : decode cX7_init 100 = .ok (.putfield 63, 3) := by decide +kernel
theorem dX7_init_103 : decode cX7_init 103 = .ok (.aload_n 0, 1) := by decide +kernel
theorem dX7_init_104 : decode cX7_init 104 = .ok (.iconst 0, 1) := by decide +kernel
theorem dX7_init_105 : decode cX7_init 105 = .ok (.putfield 67, 3) := by decide +kernel
theorem dX7_init_108 : decode cX7_init 108 = .ok (.aload_n 0, 1) := by decide +kernel
theorem dX7_init_109 : decode cX7_init 109 = .ok (.iconst 1, 1) := by decide +kernel
theorem dX7_init_110 : decode cX7_init 110 = .ok (.putfield 70, 3) := by decide +kernel
theorem dX7_init_113 : decode cX7_init 113 = .ok (.aload_n 0, 1) := by decide +kernel
theorem dX7_init_114 : decode cX7_init 114 = .ok (.new 73, 3) := by decide +kernel
theorem dX7_init_117 : decode cX7_init 117 = .ok (.dup, 1) := by decide +kernel
theorem dX7_init_118 : decode cX7_init 118 = .ok (.invokespecial 75, 3) := by decide +kernel
theorem dX7_init_121 : decode cX7_init 121 = .ok (.putfield 76, 3) := by decide +kernel
theorem dX7_init_124 : decode cX7_init 124 = .ok (.aload_n 0, 1) := by decide +kernel
theorem dX7_init_125 : decode cX7_init 125 = .ok (.new 80, 3) := by decide +kernel
theorem dX7_init_128 : decode cX7_init 128 = .ok (.dup, 1) := by decide +kernel
theorem dX7_init_129 : decode cX7_init 129 = .ok (.invokespecial 82, 3) := by decide +kernel
theorem dX7_init_132 : decode cX7_init 132 = .ok (.putfield 83, 3) := by decide +kernel
theorem dX7_init_135 : decode cX7_init 135 = .ok (.aload_n 0, 1) := by decide +kernel
theorem dX7_init_136 : decode cX7_init 136 = .ok (.new 80, 3) := by decide +kernel
theorem dX7_init_139 : decode cX7_init 139 = .ok (.dup, 1) := by decide +kernel
theorem dX7_init_140 : decode cX7_init 140 = .ok (.invokespecial 82, 3) := by decide +kernel
theorem dX7_init_143 : decode cX7_init 143 = .ok (.putfield 87, 3) := by decide +kernel
theorem dX7_init_146 : decode cX7_init 146 = .ok (.return_, 1) := by decide +kernel
theorem dX7_sheet_0 : decode cX7_sheet 0 = .ok (.iload_n 1, 1) := by decide +kernel
theorem dX7_sheet_1 : decode cX7_sheet 1 = .ok (.bipush 8, 2) := by decide +kernel
theorem dX7_sheet_3 : decode cX7_sheet 3 = .ok (.invokestatic 90, 3) := by decide +kernel
theorem dX7_sheet_6 : decode cX7_sheet 6 = .ok (.ifCond .eq 17, 3) := by decide +kernel
theorem dX7_sheet_9 : decode cX7_sheet 9 = .ok (.iload_n 2, 1) := by decide +kernel
theorem dX7_sheet_10 : decode cX7_sheet 10 = .ok (.iconst 3, 1) := by decide +kernel
theorem dX7_sheet_11 : decode cX7_sheet 11 = .ok (.invokestatic 90, 3) := by decide +kernel
theorem dX7_sheet_14 : decode cX7_sheet 14 = .ok (.ifCond .eq 9, 3) := by decide +kernel
theorem dX7_sheet_17 : decode cX7_sheet 17 = .ok (.iload_n 3, 1) := by decide +kernel
theorem dX7_sheet_18 : decode cX7_sheet 18 = .ok (.bipush 100, 2) := by decide +kernel
theorem dX7_sheet_20 : decode cX7_sheet 20 = .ok (.if_icmp .le 6, 3) := by decide +kernel
theorem dX7_sheet_23 : decode cX7_sheet 23 = .ok (.ldc 94, 2) := by decide +kernel
theorem dX7_sheet_25 : decode cX7_sheet 25 = .ok (.ireturn, 1) := by decide +kernel
theorem dX7_sheet_26 : decode cX7_sheet 26 = .ok (.iload_n 3, 1) := by decide +kernel
theorem dX7_sheet_27 : decode cX7_sheet 27 = .ok (.ifCond .ge 9, 3) := by decide +kernel
theorem dX7_sheet_30 : decode cX7_sheet 30 = .ok (.aload_n 0, 1) := by decide +kernel
theorem dX7_sheet_31 : decode cX7_sheet 31 = .ok (.iconst 4, 1) := by decide +kernel
theorem dX7_sheet_32 : decode cX7_sheet 32 = .ok (.invokevirtual 95, 3) := by decide +kernel
theorem dX7_sheet_35 : decode cX7_sheet 35 = .ok (.ireturn, 1) := by decide +kernel
theorem dX7_sheet_36 : decode cX7_sheet 36 = .ok (.aload_n 0, 1) := by decide +kernel
theorem dX7_sheet_37 : decode cX7_sheet 37 = .ok (.getfield 10, 3) := by decide +kernel
theorem dX7_sheet_40 : decode cX7_sheet 40 = .ok (.iload_n 1, 1) := by decide +kernel
theorem dX7_sheet_41 : decode cX7_sheet 41 = .ok (.iload_n 2, 1) := by decide +kernel
theorem dX7_sheet_42 : decode cX7_sheet 42 = .ok (.iload_n 3, 1) := by decide +kernel
theorem dX7_sheet_43 : decode cX7_sheet 43 = .ok (.invokevirtual 99, 3) := by decide +kernel
theorem dX7_sheet_46 : decode cX7_sheet 46 = .ok (.aload_n 0, 1) := by decide +kernel
theorem dX7_sheet_47 : decode cX7_sheet 47 = .ok (.iload_n 3, 1) := by decide +kernel
theorem dX7_sheet_48 : decode cX7_sheet 48 = .ok (.invokevirtual 103, 3) := by decide +kernel
theorem dX7_sheet_51 : decode cX7_sheet 51 = .ok (.ireturn, 1) := by decide +kernel
theorem dX7_set_0 : decode cX7_set 0 = .ok (.iload_n 1, 1) := by decide +kernel
theorem dX7_set_1 : decode cX7_set 1 = .ok (.bipush 8, 2) := by decide +kernel
theorem dX7_set_3 : decode cX7_set 3 = .ok (.invokestatic 90, 3) := by decide +kernel
theorem dX7_set_6 : decode cX7_set 6 = .ok (.ifCond .ne 6, 3) := by decide +kernel
theorem dX7_set_9 : decode cX7_set 9 = .ok (.ldc 94, 2) := by decide +kernel
theorem dX7_set_11 : decode cX7_set 11 = .ok (.ireturn, 1) := by decide +kernel
theorem dX7_set_12 : decode cX7_set 12 = .ok (.aload_n 0, 1) := by decide +kernel
theorem dX7_set_13 : decode cX7_set 13 = .ok (.getfield 10, 3) := by decide +kernel
theorem dX7_set_16 : decode cX7_set 16 = .ok (.iload_n 1, 1) := by decide +kernel
theorem dX7_set_17 : decode cX7_set 17 = .ok (.invokevirtual 106, 3) := by decide +kernel
theorem dX7_set_20 : decode cX7_set 20 = .ok (.ifCond .eq 9, 3) := by decide +kernel
theorem dX7_set_23 : decode cX7_set 23 = .ok (.aload_n 0, 1) := by decide +kernel
theorem dX7_set_24 : decode cX7_set 24 = .ok (.iconst 1, 1) := by decide +kernel
theorem dX7_set_25 : decode cX7_set 25 = .ok (.invokevirtual 95, 3) := by decide +kernel
theorem dX7_set_28 : decode cX7_set 28 = .ok (.ireturn, 1) := by decide +kernel
theorem dX7_set_29 : decode cX7_set 29 = .ok (.aload_n 0, 1) := by decide +kernel
theorem dX7_set_30 : decode cX7_set 30 = .ok (.getfield 10, 3) := by decide +kernel
theorem dX7_set_33 : decode cX7_set 33 = .ok (.iload_n 1, 1) := by decide +kernel
theorem dX7_set_34 : decode cX7_set 34 = .ok (.iload_n 2, 1) := by decide +kernel
theorem dX7_set_35 : decode cX7_set 35 = .ok (.iconst 1, 1) := by decide +kernel
theorem dX7_set_36 : decode cX7_set 36 = .ok (.invokevirtual 110, 3) := by decide +kernel
theorem dX7_set_39 : decode cX7_set 39 = .ok (.ifCond .ne 9, 3) := by decide +kernel
theorem dX7_set_42 : decode cX7_set 42 = .ok (.aload_n 0, 1) := by decide +kernel
theorem dX7_set_43 : decode cX7_set 43 = .ok (.iconst 2, 1) := by decide +kernel
theorem dX7_set_44 : decode cX7_set 44 = .ok (.invokevirtual 95, 3) := by decide +kernel
theorem dX7_set_47 : decode cX7_set 47 = .ok (.ireturn, 1) := by decide +kernel
theorem dX7_set_48 : decode cX7_set 48 = .ok (.aload_n 0, 1) := by decide +kernel
theorem dX7_set_49 : decode cX7_set 49 = .ok (.aload_n 0, 1) := by decide +kernel
theorem dX7_set_50 : decode cX7_set 50 = .ok (.getfield 10, 3) := by decide +kernel
theorem dX7_set_53 : decode cX7_set 53 = .ok (.iload_n 1, 1) := by decide +kernel
theorem dX7_set_54 : decode cX7_set 54 = .ok (.iload_n 2, 1) := by decide +kernel
theorem dX7_set_55 : decode cX7_set 55 = .ok (.iload_n 3, 1) := by decide +kernel
theorem dX7_set_56 : decode cX7_set 56 = .ok (.invokevirtual 114, 3) := by decide +kernel
theorem dX7_set_59 : decode cX7_set 59 = .ok (.invokevirtual 103, 3) := by decide +kernel
theorem dX7_set_62 : decode cX7_set 62 = .ok (.ireturn, 1) := by decide +kernel
theorem dX7_copy_0 : decode cX7_copy 0 = .ok (.iload_n 1, 1) := by decide +kernel
theorem dX7_copy_1 : decode cX7_copy 1 = .ok (.bipush 8, 2) := by decide +kernel
theorem dX7_copy_3 : decode cX7_copy 3 = .ok (.invokestatic 90, 3) := by decide +kernel
theorem dX7_copy_6 : decode cX7_copy 6 = .ok (.ifCond .eq 12, 3) := by decide +kernel
theorem dX7_copy_9 : decode cX7_copy 9 = .ok (.iload_n 3, 1) := by decide +kernel
theorem dX7_copy_10 : decode cX7_copy 10 = .ok (.bipush 8, 2) := by decide +kernel
theorem dX7_copy_12 : decode cX7_copy 12 = .ok (.invokestatic 90, 3) := by decide +kernel
theorem dX7_copy_15 : decode cX7_copy 15 = .ok (.ifCond .ne 6, 3) := by decide +kernel
theorem dX7_copy_18 : decode cX7_copy 18 = .ok (.ldc 94, 2) := by decide +kernel
theorem dX7_copy_20 : decode cX7_copy 20 = .ok (.ireturn, 1) := by decide +kernel
theorem dX7_copy_21 : decode cX7_copy 21 = .ok (.aload_n 0, 1) := by decide +kernel
theorem dX7_copy_22 : decode cX7_copy 22 = .ok (.getfield 10, 3) := by decide +kernel
theorem dX7_copy_25 : decode cX7_copy 25 = .ok (.iload_n 1, 1) := by decide +kernel
theorem dX7_copy_26 : decode cX7_copy 26 = .ok (.invokevirtual 106, 3) := by decide +kernel
theorem dX7_copy_29 : decode cX7_copy 29 = .ok (.ifCond .ne 14, 3) := by decide +kernel
theorem dX7_copy_32 : decode cX7_copy 32 = .ok (.aload_n 0, 1) := by decide +kernel
theorem dX7_copy_33 : decode cX7_copy 33 = .ok (.getfield 10, 3) := by decide +kernel
theorem dX7_copy_36 : decode cX7_copy 36 = .ok (.iload_n 3, 1) := by decide +kernel
theorem dX7_copy_37 : decode cX7_copy 37 = .ok (.invokevirtual 106, 3) := by decide +kernel
theorem dX7_copy_40 : decode cX7_copy 40 = .ok (.ifCond .eq 9, 3) := by decide +kernel
theorem dX7_copy_43 : decode cX7_copy 43 = .ok (.aload_n 0, 1) := by decide +kernel
theorem dX7_copy_44 : decode cX7_copy 44 = .ok (.iconst 1, 1) := by decide +kernel
theorem dX7_copy_45 : decode cX7_copy 45 = .ok (.invokevirtual 95, 3) := by decide +kernel
theorem dX7_copy_48 : decode cX7_copy 48 = .ok (.ireturn, 1) := by decide +kernel
theorem dX7_copy_49 : decode cX7_copy 49 = .ok (.aload_n 0, 1) := by decide +kernel
theorem dX7_copy_50 : decode cX7_copy 50 = .ok (.getfield 10, 3) := by decide +kernel
theorem dX7_copy_53 : decode cX7_copy 53 = .ok (.getfield 118, 3) := by decide +kernel
theorem dX7_copy_56 : decode cX7_copy 56 = .ok (.iload_n 1, 1) := by decide +kernel
theorem dX7_copy_57 : decode cX7_copy 57 = .ok (.iaload, 1) := by decide +kernel
theorem dX7_copy_58 : decode cX7_copy 58 = .ok (.aload_n 0, 1) := by decide +kernel
theorem dX7_copy_59 : decode cX7_copy 59 = .ok (.getfield 10, 3) := by decide +kernel
theorem dX7_copy_62 : decode cX7_copy 62 = .ok (.getfield 118, 3) := by decide +kernel
theorem dX7_copy_65 : decode cX7_copy 65 = .ok (.iload_n 3, 1) := by decide +kernel
theorem dX7_copy_66 : decode cX7_copy 66 = .ok (.iaload, 1) := by decide +kernel
theorem dX7_copy_67 : decode cX7_copy 67 = .ok (.if_icmp .eq 9, 3) := by decide +kernel
theorem dX7_copy_70 : decode cX7_copy 70 = .ok (.aload_n 0, 1) := by decide +kernel
theorem dX7_copy_71 : decode cX7_copy 71 = .ok (.iconst 5, 1) := by decide +kernel
theorem dX7_copy_72 : decode cX7_copy 72 = .ok (.invokevirtual 95, 3) := by decide +kernel
theorem dX7_copy_75 : decode cX7_copy 75 = .ok (.ireturn, 1) := by decide +kernel
theorem dX7_copy_76 : decode cX7_copy 76 = .ok (.aload_n 0, 1) := by decide +kernel
theorem dX7_copy_77 : decode cX7_copy 77 = .ok (.getfield 10, 3) := by decide +kernel
theorem dX7_copy_80 : decode cX7_copy 80 = .ok (.iload_n 1, 1) := by decide +kernel
theorem dX7_copy_81 : decode cX7_copy 81 = .ok (.iload_n 2, 1) := by decide +kernel
theorem dX7_copy_82 : decode cX7_copy 82 = .ok (.iload 5, 2) := by decide +kernel
theorem dX7_copy_84 : decode cX7_copy 84 = .ok (.invokevirtual 110, 3) := by decide +kernel
theorem dX7_copy_87 : decode cX7_copy 87 = .ok (.ifCond .eq 18, 3) := by decide +kernel
theorem dX7_copy_90 : decode cX7_copy 90 = .ok (.aload_n 0, 1) := by decide +kernel
theorem dX7_copy_91 : decode cX7_copy 91 = .ok (.getfield 10, 3) := by decide +kernel
theorem dX7_copy_94 : decode cX7_copy 94 = .ok (.iload_n 3, 1) := by decide +kernel
theorem dX7_copy_95 : decode cX7_copy 95 = .ok (.iload 4, 2) := by decide +kernel
theorem dX7_copy_97 : decode cX7_copy 97 = .ok (.iload 5, 2) := by decide +kernel
theorem dX7_copy_99 : decode cX7_copy 99 = .ok (.invokevirtual 110, 3) := by decide +kernel
theorem dX7_copy_102 : decode cX7_copy 102 = .ok (.ifCond .ne 9, 3) := by decide +kernel
theorem dX7_copy_105 : decode cX7_copy 105 = .ok (.aload_n 0, 1) := by decide +kernel
theorem dX7_copy_106 : decode cX7_copy 106 = .ok (.iconst 2, 1) := by decide +kernel
theorem dX7_copy_107 : decode cX7_copy 107 = .ok (.invokevirtual 95, 3) := by decide +kernel
theorem dX7_copy_110 : decode cX7_copy 110 = .ok (.ireturn, 1) := by decide +kernel
theorem dX7_copy_111 : decode cX7_copy 111 = .ok (.aload_n 0, 1) := by decide +kernel
theorem dX7_copy_112 : decode cX7_copy 112 = .ok (.getfield 10, 3) := by decide +kernel
theorem dX7_copy_115 : decode cX7_copy 115 = .ok (.getfield 121, 3) := by decide +kernel
theorem dX7_copy_118 : decode cX7_copy 118 = .ok (.aload_n 0, 1) := by decide +kernel
theorem dX7_copy_119 : decode cX7_copy 119 = .ok (.getfield 10, 3) := by decide +kernel
theorem dX7_copy_122 : decode cX7_copy 122 = .ok (.iload_n 1, 1) := by decide +kernel
theorem dX7_copy_123 : decode cX7_copy 123 = .ok (.iload_n 2, 1) := by decide +kernel
theorem dX7_copy_124 : decode cX7_copy 124 = .ok (.invokevirtual 124, 3) := by decide +kernel
theorem dX7_copy_127 : decode cX7_copy 127 = .ok (.aload_n 0, 1) := by decide +kernel
theorem dX7_copy_128 : decode cX7_copy 128 = .ok (.getfield 10, 3) := by decide +kernel
theorem dX7_copy_131 : decode cX7_copy 131 = .ok (.getfield 121, 3) := by decide +kernel
theorem dX7_copy_134 : decode cX7_copy 134 = .ok (.aload_n 0, 1) := by decide +kernel
theorem dX7_copy_135 : decode cX7_copy 135 = .ok (.getfield 10, 3) := by decide +kernel
theorem dX7_copy_138 : decode cX7_copy 138 = .ok (.iload_n 3, 1) := by decide +kernel
theorem dX7_copy_139 : decode cX7_copy 139 = .ok (.iload 4, 2) := by decide +kernel
theorem dX7_copy_141 : decode cX7_copy 141 = .ok (.invokevirtual 124, 3) := by decide +kernel
theorem dX7_copy_144 : decode cX7_copy 144 = .ok (.iload 5, 2) := by decide +kernel
theorem dX7_copy_146 : decode cX7_copy 146 = .ok (.invokestatic 128, 3) := by decide +kernel
theorem dX7_copy_149 : decode cX7_copy 149 = .ok (.aload_n 0, 1) := by decide +kernel
theorem dX7_copy_150 : decode cX7_copy 150 = .ok (.iload 5, 2) := by decide +kernel
theorem dX7_copy_152 : decode cX7_copy 152 = .ok (.invokevirtual 103, 3) := by decide +kernel
theorem dX7_copy_155 : decode cX7_copy 155 = .ok (.ireturn, 1) := by decide +kernel
theorem dX7_drop_0 : decode cX7_drop 0 = .ok (.iload_n 1, 1) := by decide +kernel
theorem dX7_drop_1 : decode cX7_drop 1 = .ok (.bipush 8, 2) := by decide +kernel
theorem dX7_drop_3 : decode cX7_drop 3 = .ok (.invokestatic 90, 3) := by decide +kernel
theorem dX7_drop_6 : decode cX7_drop 6 = .ok (.ifCond .ne 6, 3) := by decide +kernel
theorem dX7_drop_9 : decode cX7_drop 9 = .ok (.ldc 94, 2) := by decide +kernel
theorem dX7_drop_11 : decode cX7_drop 11 = .ok (.ireturn, 1) := by decide +kernel
theorem dX7_drop_12 : decode cX7_drop 12 = .ok (.aload_n 0, 1) := by decide +kernel
theorem dX7_drop_13 : decode cX7_drop 13 = .ok (.getfield 10, 3) := by decide +kernel
theorem dX7_drop_16 : decode cX7_drop 16 = .ok (.iload_n 1, 1) := by decide +kernel
theorem dX7_drop_17 : decode cX7_drop 17 = .ok (.invokevirtual 106, 3) := by decide +kernel
theorem dX7_drop_20 : decode cX7_drop 20 = .ok (.ifCond .eq 9, 3) := by decide +kernel
theorem dX7_drop_23 : decode cX7_drop 23 = .ok (.aload_n 0, 1) := by decide +kernel
theorem dX7_drop_24 : decode cX7_drop 24 = .ok (.iconst 1, 1) := by decide +kernel
theorem dX7_drop_25 : decode cX7_drop 25 = .ok (.invokevirtual 95, 3) := by decide +kernel
theorem dX7_drop_28 : decode cX7_drop 28 = .ok (.ireturn, 1) := by decide +kernel
theorem dX7_drop_29 : decode cX7_drop 29 = .ok (.aload_n 0, 1) := by decide +kernel
theorem dX7_drop_30 : decode cX7_drop 30 = .ok (.getfield 10, 3) := by decide +kernel
theorem dX7_drop_33 : decode cX7_drop 33 = .ok (.getfield 118, 3) := by decide +kernel
theorem dX7_drop_36 : decode cX7_drop 36 = .ok (.iload_n 1, 1) := by decide +kernel
theorem dX7_drop_37 : decode cX7_drop 37 = .ok (.iconst (-1), 1) := by decide +kernel
theorem dX7_drop_38 : decode cX7_drop 38 = .ok (.iastore, 1) := by decide +kernel
theorem dX7_drop_39 : decode cX7_drop 39 = .ok (.aload_n 0, 1) := by decide +kernel
theorem dX7_drop_40 : decode cX7_drop 40 = .ok (.aload_n 0, 1) := by decide +kernel
theorem dX7_drop_41 : decode cX7_drop 41 = .ok (.getfield 10, 3) := by decide +kernel
theorem dX7_drop_44 : decode cX7_drop 44 = .ok (.getfield 134, 3) := by decide +kernel
theorem dX7_drop_47 : decode cX7_drop 47 = .ok (.iload_n 1, 1) := by decide +kernel
theorem dX7_drop_48 : decode cX7_drop 48 = .ok (.iaload, 1) := by decide +kernel
theorem dX7_drop_49 : decode cX7_drop 49 = .ok (.invokevirtual 103, 3) := by decide +kernel
theorem dX7_drop_52 : decode cX7_drop 52 = .ok (.ireturn, 1) := by decide +kernel
theorem dX7_feed_0 : decode cX7_feed 0 = .ok (.iload_n 3, 1) := by decide +kernel
theorem dX7_feed_1 : decode cX7_feed 1 = .ok (.iconst 1, 1) := by decide +kernel
theorem dX7_feed_2 : decode cX7_feed 2 = .ok (.if_icmp .lt 9, 3) := by decide +kernel
theorem dX7_feed_5 : decode cX7_feed 5 = .ok (.iload_n 3, 1) := by decide +kernel
theorem dX7_feed_6 : decode cX7_feed 6 = .ok (.bipush 8, 2) := by decide +kernel
theorem dX7_feed_8 : decode cX7_feed 8 = .ok (.if_icmp .le 6, 3) := by decide +kernel
theorem dX7_feed_11 : decode cX7_feed 11 = .ok (.ldc 94, 2) := by decide +kernel
theorem dX7_feed_13 : decode cX7_feed 13 = .ok (.ireturn, 1) := by decide +kernel
theorem dX7_feed_14 : decode cX7_feed 14 = .ok (.aload_n 0, 1) := by decide +kernel
theorem dX7_feed_15 : decode cX7_feed 15 = .ok (.getfield 24, 3) := by decide +kernel
theorem dX7_feed_18 : decode cX7_feed 18 = .ok (.iload_n 3, 1) := by decide +kernel
theorem dX7_feed_19 : decode cX7_feed 19 = .ok (.iadd, 1) := by decide +kernel
theorem dX7_feed_20 : decode cX7_feed 20 = .ok (.sipush 400, 3) := by decide +kernel
theorem dX7_feed_23 : decode cX7_feed 23 = .ok (.if_icmp .le 6, 3) := by decide +kernel
theorem dX7_feed_26 : decode cX7_feed 26 = .ok (.ldc 137, 2) := by decide +kernel
theorem dX7_feed_28 : decode cX7_feed 28 = .ok (.ireturn, 1) := by decide +kernel
theorem dX7_feed_29 : decode cX7_feed 29 = .ok (.iload_n 3, 1) := by decide +kernel
theorem dX7_feed_30 : decode cX7_feed 30 = .ok (.iconst 1, 1) := by decide +kernel
theorem dX7_feed_31 : decode cX7_feed 31 = .ok (.isub, 1) := by decide +kernel
theorem dX7_feed_32 : decode cX7_feed 32 = .ok (.istore 4, 2) := by decide +kernel
theorem dX7_feed_34 : decode cX7_feed 34 = .ok (.iload 4, 2) := by decide +kernel
theorem dX7_feed_36 : decode cX7_feed 36 = .ok (.ifCond .lt 40, 3) := by decide +kernel
theorem dX7_feed_39 : decode cX7_feed 39 = .ok (.aload_n 0, 1) := by decide +kernel
theorem dX7_feed_40 : decode cX7_feed 40 = .ok (.getfield 20, 3) := by decide +kernel
theorem dX7_feed_43 : decode cX7_feed 43 = .ok (.aload_n 0, 1) := by decide +kernel
theorem dX7_feed_44 : decode cX7_feed 44 = .ok (.getfield 24, 3) := by decide +kernel
theorem dX7_feed_47 : decode cX7_feed 47 = .ok (.lload_n 1, 1) := by decide +kernel
theorem dX7_feed_48 : decode cX7_feed 48 = .ok (.bipush 8, 2) := by decide +kernel
theorem dX7_feed_50 : decode cX7_feed 50 = .ok (.iload 4, 2) := by decide +kernel
theorem dX7_feed_52 : decode cX7_feed 52 = .ok (.imul, 1) := by decide +kernel
theorem dX7_feed_53 : decode cX7_feed 53 = .ok (.lshr, 1) := by decide +kernel
theorem dX7_feed_54 : decode cX7_feed 54 = .ok (.l2i, 1) := by decide +kernel
theorem dX7_feed_55 : decode cX7_feed 55 = .ok (.sipush 255, 3) := by decide +kernel
theorem dX7_feed_58 : decode cX7_feed 58 = .ok (.iand, 1) := by decide +kernel
theorem dX7_feed_59 : decode cX7_feed 59 = .ok (.iastore, 1) := by decide +kernel
theorem dX7_feed_60 : decode cX7_feed 60 = .ok (.aload_n 0, 1) := by decide +kernel
theorem dX7_feed_61 : decode cX7_feed 61 = .ok (.dup, 1) := by decide +kernel
theorem dX7_feed_62 : decode cX7_feed 62 = .ok (.getfield 24, 3) := by decide +kernel
theorem dX7_feed_65 : decode cX7_feed 65 = .ok (.iconst 1, 1) := by decide +kernel
theorem dX7_feed_66 : decode cX7_feed 66 = .ok (.iadd, 1) := by decide +kernel
theorem dX7_feed_67 : decode cX7_feed 67 = .ok (.putfield 24, 3) := by decide +kernel
theorem dX7_feed_70 : decode cX7_feed 70 = .ok (.iinc 4 (-1), 3) := by decide +kernel
theorem dX7_feed_73 : decode cX7_feed 73 = .ok (.goto (-39), 3) := by decide +kernel
theorem dX7_feed_76 : decode cX7_feed 76 = .ok (.aload_n 0, 1) := by decide +kernel
theorem dX7_feed_77 : decode cX7_feed 77 = .ok (.getfield 24, 3) := by decide +kernel
theorem dX7_feed_80 : decode cX7_feed 80 = .ok (.ireturn, 1) := by decide +kernel
theorem dX7_pattern_0 : decode cX7_pattern 0 = .ok (.aload_n 0, 1) := by decide +kernel
theorem dX7_pattern_1 : decode cX7_pattern 1 = .ok (.getfield 30, 3) := by decide +kernel
theorem dX7_pattern_4 : decode cX7_pattern 4 = .ok (.aload_n 0, 1) := by decide +kernel
theorem dX7_pattern_5 : decode cX7_pattern 5 = .ok (.getfield 20, 3) := by decide +kernel
theorem dX7_pattern_8 : decode cX7_pattern 8 = .ok (.aload_n 0, 1) := by decide +kernel
theorem dX7_pattern_9 : decode cX7_pattern 9 = .ok (.getfield 24, 3) := by decide +kernel
theorem dX7_pattern_12 : decode cX7_pattern 12 = .ok (.invokevirtual 138, 3) := by decide +kernel
theorem dX7_pattern_15 : decode cX7_pattern 15 = .ok (.istore_n 1, 1) := by decide +kernel
theorem dX7_pattern_16 : decode cX7_pattern 16 = .ok (.aload_n 0, 1) := by decide +kernel
theorem dX7_pattern_17 : decode cX7_pattern 17 = .ok (.iconst 0, 1) := by decide +kernel
theorem dX7_pattern_18 : decode cX7_pattern 18 = .ok (.putfield 24, 3) := by decide +kernel
theorem dX7_pattern_21 : decode cX7_pattern 21 = .ok (.iload_n 1, 1) := by decide +kernel
theorem dX7_pattern_22 : decode cX7_pattern 22 = .ok (.ifCond .eq 19, 3) := by decide +kernel
theorem dX7_pattern_25 : decode cX7_pattern 25 = .ok (.aload_n 0, 1) := by decide +kernel
theorem dX7_pattern_26 : decode cX7_pattern 26 = .ok (.iload_n 1, 1) := by decide +kernel
theorem dX7_pattern_27 : decode cX7_pattern 27 = .ok (.putfield 41, 3) := by decide +kernel
theorem dX7_pattern_30 : decode cX7_pattern 30 = .ok (.ldc 142, 2) := by decide +kernel
theorem dX7_pattern_32 : decode cX7_pattern 32 = .ok (.aload_n 0, 1) := by decide +kernel
theorem dX7_pattern_33 : decode cX7_pattern 33 = .ok (.getfield 30, 3) := by decide +kernel
theorem dX7_pattern_36 : decode cX7_pattern 36 = .ok (.getfield 143, 3) := by decide +kernel
theorem dX7_pattern_39 : decode cX7_pattern 39 = .ok (.isub, 1) := by decide +kernel
theorem dX7_pattern_40 : decode cX7_pattern 40 = .ok (.ireturn, 1) := by decide +kernel
theorem dX7_pattern_41 : decode cX7_pattern 41 = .ok (.aload_n 0, 1) := by decide +kernel
theorem dX7_pattern_42 : decode cX7_pattern 42 = .ok (.getfield 30, 3) := by decide +kernel
theorem dX7_pattern_45 : decode cX7_pattern 45 = .ok (.getfield 146, 3) := by decide +kernel
theorem dX7_pattern_48 : decode cX7_pattern 48 = .ok (.astore_n 2, 1) := by decide +kernel
theorem dX7_pattern_49 : decode cX7_pattern 49 = .ok (.aload_n 0, 1) := by decide +kernel
theorem dX7_pattern_50 : decode cX7_pattern 50 = .ok (.getfield 30, 3) := by decide +kernel
theorem dX7_pattern_53 : decode cX7_pattern 53 = .ok (.aload_n 0, 1) := by decide +kernel
theorem dX7_pattern_54 : decode cX7_pattern 54 = .ok (.getfield 37, 3) := by decide +kernel
theorem dX7_pattern_57 : decode cX7_pattern 57 = .ok (.putfield 146, 3) := by decide +kernel
theorem dX7_pattern_60 : decode cX7_pattern 60 = .ok (.aload_n 0, 1) := by decide +kernel
theorem dX7_pattern_61 : decode cX7_pattern 61 = .ok (.aload_n 2, 1) := by decide +kernel
theorem dX7_pattern_62 : decode cX7_pattern 62 = .ok (.putfield 37, 3) := by decide +kernel
theorem dX7_pattern_65 : decode cX7_pattern 65 = .ok (.aload_n 0, 1) := by decide +kernel
theorem dX7_pattern_66 : decode cX7_pattern 66 = .ok (.getfield 37, 3) := by decide +kernel
theorem dX7_pattern_69 : decode cX7_pattern 69 = .ok (.getfield 149, 3) := by decide +kernel
theorem dX7_pattern_72 : decode cX7_pattern 72 = .ok (.ireturn, 1) := by decide +kernel
theorem dX7_fault_0 : decode cX7_fault 0 = .ok (.aload_n 0, 1) := by decide +kernel
theorem dX7_fault_1 : decode cX7_fault 1 = .ok (.getfield 41, 3) := by decide +kernel
theorem dX7_fault_4 : decode cX7_fault 4 = .ok (.ireturn, 1) := by decide +kernel
theorem dX7_sign_0 : decode cX7_sign 0 = .ok (.iload_n 1, 1) := by decide +kernel
theorem dX7_sign_1 : decode cX7_sign 1 = .ok (.aload_n 0, 1) := by decide +kernel
theorem dX7_sign_2 : decode cX7_sign 2 = .ok (.getfield 37, 3) := by decide +kernel
theorem dX7_sign_5 : decode cX7_sign 5 = .ok (.getfield 149, 3) := by decide +kernel
theorem dX7_sign_8 : decode cX7_sign 8 = .ok (.invokestatic 90, 3) := by decide +kernel
theorem dX7_sign_11 : decode cX7_sign 11 = .ok (.ifCond .eq 17, 3) := by decide +kernel
theorem dX7_sign_14 : decode cX7_sign 14 = .ok (.iload_n 2, 1) := by decide +kernel
theorem dX7_sign_15 : decode cX7_sign 15 = .ok (.aload_n 0, 1) := by decide +kernel
theorem dX7_sign_16 : decode cX7_sign 16 = .ok (.getfield 37, 3) := by decide +kernel
theorem dX7_sign_19 : decode cX7_sign 19 = .ok (.getfield 152, 3) := by decide +kernel
theorem dX7_sign_22 : decode cX7_sign 22 = .ok (.invokestatic 90, 3) := by decide +kernel
theorem dX7_sign_25 : decode cX7_sign 25 = .ok (.ifCond .ne 6, 3) := by decide +kernel
theorem dX7_sign_28 : decode cX7_sign 28 = .ok (.ldc 155, 2) := by decide +kernel
theorem dX7_sign_30 : decode cX7_sign 30 = .ok (.ireturn, 1) := by decide +kernel
theorem dX7_sign_31 : decode cX7_sign 31 = .ok (.aload_n 0, 1) := by decide +kernel
theorem dX7_sign_32 : decode cX7_sign 32 = .ok (.getfield 37, 3) := by decide +kernel
theorem dX7_sign_35 : decode cX7_sign 35 = .ok (.aload_n 0, 1) := by decide +kernel
theorem dX7_sign_36 : decode cX7_sign 36 = .ok (.getfield 37, 3) := by decide +kernel
theorem dX7_sign_39 : decode cX7_sign 39 = .ok (.iload_n 1, 1) := by decide +kernel
theorem dX7_sign_40 : decode cX7_sign 40 = .ok (.invokevirtual 156, 3) := by decide +kernel
theorem dX7_sign_43 : decode cX7_sign 43 = .ok (.iload_n 2, 1) := by decide +kernel
theorem dX7_sign_44 : decode cX7_sign 44 = .ok (.invokevirtual 159, 3) := by decide +kernel
theorem dX7_sign_47 : decode cX7_sign 47 = .ok (.ireturn, 1) := by decide +kernel
theorem dX7_compare_0 : decode cX7_compare 0 = .ok (.iload_n 1, 1) := by decide +kernel
theorem dX7_compare_1 : decode cX7_compare 1 = .ok (.bipush 8, 2) := by decide +kernel
theorem dX7_compare_3 : decode cX7_compare 3 = .ok (.invokestatic 90, 3) := by decide +kernel
theorem dX7_compare_6 : decode cX7_compare 6 = .ok (.ifCond .eq 11, 3) := by decide +kernel
theorem dX7_compare_9 : decode cX7_compare 9 = .ok (.iload_n 2, 1) := by decide +kernel
theorem dX7_compare_10 : decode cX7_compare 10 = .ok (.iconst 3, 1) := by decide +kernel
theorem dX7_compare_11 : decode cX7_compare 11 = .ok (.invokestatic 90, 3) := by decide +kernel
theorem dX7_compare_14 : decode cX7_compare 14 = .ok (.ifCond .ne 6, 3) := by decide +kernel
theorem dX7_compare_17 : decode cX7_compare 17 = .ok (.ldc 94, 2) := by decide +kernel
theorem dX7_compare_19 : decode cX7_compare 19 = .ok (.ireturn, 1) := by decide +kernel
theorem dX7_compare_20 : decode cX7_compare 20 = .ok (.aload_n 0, 1) := by decide +kernel
theorem dX7_compare_21 : decode cX7_compare 21 = .ok (.getfield 37, 3) := by decide +kernel
theorem dX7_compare_24 : decode cX7_compare 24 = .ok (.getfield 149, 3) := by decide +kernel
theorem dX7_compare_27 : decode cX7_compare 27 = .ok (.ifCond .ne 6, 3) := by decide +kernel
theorem dX7_compare_30 : decode cX7_compare 30 = .ok (.ldc 162, 2) := by decide +kernel
theorem dX7_compare_32 : decode cX7_compare 32 = .ok (.ireturn, 1) := by decide +kernel
theorem dX7_compare_33 : decode cX7_compare 33 = .ok (.aload_n 0, 1) := by decide +kernel
theorem dX7_compare_34 : decode cX7_compare 34 = .ok (.getfield 10, 3) := by decide +kernel
theorem dX7_compare_37 : decode cX7_compare 37 = .ok (.iload_n 1, 1) := by decide +kernel
theorem dX7_compare_38 : decode cX7_compare 38 = .ok (.invokevirtual 106, 3) := by decide +kernel
theorem dX7_compare_41 : decode cX7_compare 41 = .ok (.ifCond .eq 9, 3) := by decide +kernel
theorem dX7_compare_44 : decode cX7_compare 44 = .ok (.aload_n 0, 1) := by decide +kernel
theorem dX7_compare_45 : decode cX7_compare 45 = .ok (.iconst 1, 1) := by decide +kernel
theorem dX7_compare_46 : decode cX7_compare 46 = .ok (.invokevirtual 95, 3) := by decide +kernel
theorem dX7_compare_49 : decode cX7_compare 49 = .ok (.ireturn, 1) := by decide +kernel
theorem dX7_compare_50 : decode cX7_compare 50 = .ok (.aload_n 0, 1) := by decide +kernel
theorem dX7_compare_51 : decode cX7_compare 51 = .ok (.getfield 10, 3) := by decide +kernel
theorem dX7_compare_54 : decode cX7_compare 54 = .ok (.getfield 134, 3) := by decide +kernel
theorem dX7_compare_57 : decode cX7_compare 57 = .ok (.iload_n 1, 1) := by decide +kernel
theorem dX7_compare_58 : decode cX7_compare 58 = .ok (.iaload, 1) := by decide +kernel
theorem dX7_compare_59 : decode cX7_compare 59 = .ok (.ifCond .ne 9, 3) := by decide +kernel
theorem dX7_compare_62 : decode cX7_compare 62 = .ok (.aload_n 0, 1) := by decide +kernel
theorem dX7_compare_63 : decode cX7_compare 63 = .ok (.iconst 2, 1) := by decide +kernel
theorem dX7_compare_64 : decode cX7_compare 64 = .ok (.invokevirtual 95, 3) := by decide +kernel
theorem dX7_compare_67 : decode cX7_compare 67 = .ok (.ireturn, 1) := by decide +kernel
theorem dX7_compare_68 : decode cX7_compare 68 = .ok (.aload_n 0, 1) := by decide +kernel
theorem dX7_compare_69 : decode cX7_compare 69 = .ok (.iload_n 2, 1) := by decide +kernel
theorem dX7_compare_70 : decode cX7_compare 70 = .ok (.iconst 2, 1) := by decide +kernel
theorem dX7_compare_71 : decode cX7_compare 71 = .ok (.if_icmp .ne 11, 3) := by decide +kernel
theorem dX7_compare_74 : decode cX7_compare 74 = .ok (.aload_n 0, 1) := by decide +kernel
theorem dX7_compare_75 : decode cX7_compare 75 = .ok (.iload_n 1, 1) := by decide +kernel
theorem dX7_compare_76 : decode cX7_compare 76 = .ok (.invokevirtual 163, 3) := by decide +kernel
theorem dX7_compare_79 : decode cX7_compare 79 = .ok (.goto 18, 3) := by decide +kernel
theorem dX7_compare_82 : decode cX7_compare 82 = .ok (.aload_n 0, 1) := by decide +kernel
theorem dX7_compare_83 : decode cX7_compare 83 = .ok (.iload_n 1, 1) := by decide +kernel
theorem dX7_compare_84 : decode cX7_compare 84 = .ok (.iload_n 2, 1) := by decide +kernel
theorem dX7_compare_85 : decode cX7_compare 85 = .ok (.iconst 1, 1) := by decide +kernel
theorem dX7_compare_86 : decode cX7_compare 86 = .ok (.if_icmp .ne 7, 3) := by decide +kernel
theorem dX7_compare_89 : decode cX7_compare 89 = .ok (.iconst 1, 1) := by decide +kernel
theorem dX7_compare_90 : decode cX7_compare 90 = .ok (.goto 4, 3) := by decide +kernel
theorem dX7_compare_93 : decode cX7_compare 93 = .ok (.iconst 0, 1) := by decide +kernel
theorem dX7_compare_94 : decode cX7_compare 94 = .ok (.invokevirtual 166, 3) := by decide +kernel
theorem dX7_compare_97 : decode cX7_compare 97 = .ok (.invokevirtual 103, 3) := by decide +kernel
theorem dX7_compare_100 : decode cX7_compare 100 = .ok (.ireturn, 1) := by decide +kernel
theorem dX7_firstWrong_0 : decode cX7_firstWrong 0 = .ok (.aload_n 0, 1) := by decide +kernel
theorem dX7_firstWrong_1 : decode cX7_firstWrong 1 = .ok (.getfield 37, 3) := by decide +kernel
theorem dX7_firstWrong_4 : decode cX7_firstWrong 4 = .ok (.invokevirtual 170, 3) := by decide +kernel
theorem dX7_firstWrong_7 : decode cX7_firstWrong 7 = .ok (.iconst 0, 1) := by decide +kernel
theorem dX7_firstWrong_8 : decode cX7_firstWrong 8 = .ok (.istore_n 3, 1) := by decide +kernel
theorem dX7_firstWrong_9 : decode cX7_firstWrong 9 = .ok (.iload_n 3, 1) := by decide +kernel
theorem dX7_firstWrong_10 : decode cX7_firstWrong 10 = .ok (.aload_n 0, 1) := by decide +kernel
theorem dX7_firstWrong_11 : decode cX7_firstWrong 11 = .ok (.getfield 37, 3) := by decide +kernel
theorem dX7_firstWrong_14 : decode cX7_firstWrong 14 = .ok (.getfield 149, 3) := by decide +kernel
theorem dX7_firstWrong_17 : decode cX7_firstWrong 17 = .ok (.if_icmp .ge 36, 3) := by decide +kernel
theorem dX7_firstWrong_20 : decode cX7_firstWrong 20 = .ok (.aload_n 0, 1) := by decide +kernel
theorem dX7_firstWrong_21 : decode cX7_firstWrong 21 = .ok (.iload_n 1, 1) := by decide +kernel
theorem dX7_firstWrong_22 : decode cX7_firstWrong 22 = .ok (.iload_n 3, 1) := by decide +kernel
theorem dX7_firstWrong_23 : decode cX7_firstWrong 23 = .ok (.invokevirtual 173, 3) := by decide +kernel
theorem dX7_firstWrong_26 : decode cX7_firstWrong 26 = .ok (.istore 4, 2) := by decide +kernel
theorem dX7_firstWrong_28 : decode cX7_firstWrong 28 = .ok (.iload 4, 2) := by decide +kernel
theorem dX7_firstWrong_30 : decode cX7_firstWrong 30 = .ok (.ifCond .eq 17, 3) := by decide +kernel
theorem dX7_firstWrong_33 : decode cX7_firstWrong 33 = .ok (.iload_n 2, 1) := by decide +kernel
theorem dX7_firstWrong_34 : decode cX7_firstWrong 34 = .ok (.ifCond .eq 11, 3) := by decide +kernel
theorem dX7_firstWrong_37 : decode cX7_firstWrong 37 = .ok (.iload 4, 2) := by decide +kernel
theorem dX7_firstWrong_39 : decode cX7_firstWrong 39 = .ok (.invokestatic 176, 3) := by decide +kernel
theorem dX7_firstWrong_42 : decode cX7_firstWrong 42 = .ok (.goto 4, 3) := by decide +kernel
theorem dX7_firstWrong_45 : decode cX7_firstWrong 45 = .ok (.iload_n 3, 1) := by decide +kernel
theorem dX7_firstWrong_46 : decode cX7_firstWrong 46 = .ok (.ireturn, 1) := by decide +kernel
theorem dX7_firstWrong_47 : decode cX7_firstWrong 47 = .ok (.iinc 3 1, 3) := by decide +kernel
theorem dX7_firstWrong_50 : decode cX7_firstWrong 50 = .ok (.goto (-41), 3) := by decide +kernel
theorem dX7_firstWrong_53 : decode cX7_firstWrong 53 = .ok (.ldc 155, 2) := by decide +kernel
theorem dX7_firstWrong_55 : decode cX7_firstWrong 55 = .ok (.ireturn, 1) := by decide +kernel
theorem dX7_wrongSigns_0 : decode cX7_wrongSigns 0 = .ok (.iconst 0, 1) := by decide +kernel
theorem dX7_wrongSigns_1 : decode cX7_wrongSigns 1 = .ok (.istore_n 2, 1) := by decide +kernel
theorem dX7_wrongSigns_2 : decode cX7_wrongSigns 2 = .ok (.aload_n 0, 1) := by decide +kernel
theorem dX7_wrongSigns_3 : decode cX7_wrongSigns 3 = .ok (.getfield 37, 3) := by decide +kernel
theorem dX7_wrongSigns_6 : decode cX7_wrongSigns 6 = .ok (.invokevirtual 170, 3) := by decide +kernel
theorem dX7_wrongSigns_9 : decode cX7_wrongSigns 9 = .ok (.iconst 0, 1) := by decide +kernel
theorem dX7_wrongSigns_10 : decode cX7_wrongSigns 10 = .ok (.istore_n 3, 1) := by decide +kernel
theorem dX7_wrongSigns_11 : decode cX7_wrongSigns 11 = .ok (.iload_n 3, 1) := by decide +kernel
theorem dX7_wrongSigns_12 : decode cX7_wrongSigns 12 = .ok (.aload_n 0, 1) := by decide +kernel
theorem dX7_wrongSigns_13 : decode cX7_wrongSigns 13 = .ok (.getfield 37, 3) := by decide +kernel
theorem dX7_wrongSigns_16 : decode cX7_wrongSigns 16 = .ok (.getfield 149, 3) := by decide +kernel
theorem dX7_wrongSigns_19 : decode cX7_wrongSigns 19 = .ok (.if_icmp .ge 21, 3) := by decide +kernel
theorem dX7_wrongSigns_22 : decode cX7_wrongSigns 22 = .ok (.iload_n 2, 1) := by decide +kernel
theorem dX7_wrongSigns_23 : decode cX7_wrongSigns 23 = .ok (.aload_n 0, 1) := by decide +kernel
theorem dX7_wrongSigns_24 : decode cX7_wrongSigns 24 = .ok (.iload_n 1, 1) := by decide +kernel
theorem dX7_wrongSigns_25 : decode cX7_wrongSigns 25 = .ok (.iload_n 3, 1) := by decide +kernel
theorem dX7_wrongSigns_26 : decode cX7_wrongSigns 26 = .ok (.invokevirtual 173, 3) := by decide +kernel
theorem dX7_wrongSigns_29 : decode cX7_wrongSigns 29 = .ok (.invokestatic 179, 3) := by decide +kernel
theorem dX7_wrongSigns_32 : decode cX7_wrongSigns 32 = .ok (.iadd, 1) := by decide +kernel
theorem dX7_wrongSigns_33 : decode cX7_wrongSigns 33 = .ok (.istore_n 2, 1) := by decide +kernel
theorem dX7_wrongSigns_34 : decode cX7_wrongSigns 34 = .ok (.iinc 3 1, 3) := by decide +kernel
theorem dX7_wrongSigns_37 : decode cX7_wrongSigns 37 = .ok (.goto (-26), 3) := by decide +kernel
theorem dX7_wrongSigns_40 : decode cX7_wrongSigns 40 = .ok (.iload_n 2, 1) := by decide +kernel
theorem dX7_wrongSigns_41 : decode cX7_wrongSigns 41 = .ok (.ireturn, 1) := by decide +kernel
theorem dX7_wrongPinsNext_0 : decode cX7_wrongPinsNext 0 = .ok (.aload_n 0, 1) := by decide +kernel
theorem dX7_wrongPinsNext_1 : decode cX7_wrongPinsNext 1 = .ok (.getfield 10, 3) := by decide +kernel
theorem dX7_wrongPinsNext_4 : decode cX7_wrongPinsNext 4 = .ok (.getfield 134, 3) := by decide +kernel
theorem dX7_wrongPinsNext_7 : decode cX7_wrongPinsNext 7 = .ok (.iload_n 1, 1) := by decide +kernel
theorem dX7_wrongPinsNext_8 : decode cX7_wrongPinsNext 8 = .ok (.iaload, 1) := by decide +kernel
theorem dX7_wrongPinsNext_9 : decode cX7_wrongPinsNext 9 = .ok (.istore_n 3, 1) := by decide +kernel
theorem dX7_wrongPinsNext_10 : decode cX7_wrongPinsNext 10 = .ok (.iload_n 3, 1) := by decide +kernel
theorem dX7_wrongPinsNext_11 : decode cX7_wrongPinsNext 11 = .ok (.ifCond .ne 5, 3) := by decide +kernel
theorem dX7_wrongPinsNext_14 : decode cX7_wrongPinsNext 14 = .ok (.iconst 0, 1) := by decide +kernel
theorem dX7_wrongPinsNext_15 : decode cX7_wrongPinsNext 15 = .ok (.ireturn, 1) := by decide +kernel
theorem dX7_wrongPinsNext_16 : decode cX7_wrongPinsNext 16 = .ok (.aload_n 0, 1) := by decide +kernel
theorem dX7_wrongPinsNext_17 : decode cX7_wrongPinsNext 17 = .ok (.getfield 37, 3) := by decide +kernel
theorem dX7_wrongPinsNext_20 : decode cX7_wrongPinsNext 20 = .ok (.aload_n 0, 1) := by decide +kernel
theorem dX7_wrongPinsNext_21 : decode cX7_wrongPinsNext 21 = .ok (.getfield 37, 3) := by decide +kernel
theorem dX7_wrongPinsNext_24 : decode cX7_wrongPinsNext 24 = .ok (.invokevirtual 184, 3) := by decide +kernel
theorem dX7_wrongPinsNext_27 : decode cX7_wrongPinsNext 27 = .ok (.aload_n 0, 1) := by decide +kernel
theorem dX7_wrongPinsNext_28 : decode cX7_wrongPinsNext 28 = .ok (.getfield 10, 3) := by decide +kernel
theorem dX7_wrongPinsNext_31 : decode cX7_wrongPinsNext 31 = .ok (.iload_n 1, 1) := by decide +kernel
theorem dX7_wrongPinsNext_32 : decode cX7_wrongPinsNext 32 = .ok (.iload_n 2, 1) := by decide +kernel
theorem dX7_wrongPinsNext_33 : decode cX7_wrongPinsNext 33 = .ok (.iload_n 3, 1) := by decide +kernel
theorem dX7_wrongPinsNext_34 : decode cX7_wrongPinsNext 34 = .ok (.irem, 1) := by decide +kernel
theorem dX7_wrongPinsNext_35 : decode cX7_wrongPinsNext 35 = .ok (.invokevirtual 188, 3) := by decide +kernel
theorem dX7_wrongPinsNext_38 : decode cX7_wrongPinsNext 38 = .ok (.invokevirtual 191, 3) := by decide +kernel
theorem dX7_wrongPinsNext_41 : decode cX7_wrongPinsNext 41 = .ok (.ireturn, 1) := by decide +kernel
theorem dX7_lowestBit_0 : decode cX7_lowestBit 0 = .ok (.iconst 0, 1) := by decide +kernel
theorem dX7_lowestBit_1 : decode cX7_lowestBit 1 = .ok (.istore_n 1, 1) := by decide +kernel
theorem dX7_lowestBit_2 : decode cX7_lowestBit 2 = .ok (.iload_n 1, 1) := by decide +kernel
theorem dX7_lowestBit_3 : decode cX7_lowestBit 3 = .ok (.bipush 8, 2) := by decide +kernel
theorem dX7_lowestBit_5 : decode cX7_lowestBit 5 = .ok (.if_icmp .ge 20, 3) := by decide +kernel
theorem dX7_lowestBit_8 : decode cX7_lowestBit 8 = .ok (.iload_n 0, 1) := by decide +kernel
theorem dX7_lowestBit_9 : decode cX7_lowestBit 9 = .ok (.iload_n 1, 1) := by decide +kernel
theorem dX7_lowestBit_10 : decode cX7_lowestBit 10 = .ok (.ishr, 1) := by decide +kernel
theorem dX7_lowestBit_11 : decode cX7_lowestBit 11 = .ok (.iconst 1, 1) := by decide +kernel
theorem dX7_lowestBit_12 : decode cX7_lowestBit 12 = .ok (.iand, 1) := by decide +kernel
theorem dX7_lowestBit_13 : decode cX7_lowestBit 13 = .ok (.iconst 1, 1) := by decide +kernel
theorem dX7_lowestBit_14 : decode cX7_lowestBit 14 = .ok (.if_icmp .ne 5, 3) := by decide +kernel
theorem dX7_lowestBit_17 : decode cX7_lowestBit 17 = .ok (.iload_n 1, 1) := by decide +kernel
theorem dX7_lowestBit_18 : decode cX7_lowestBit 18 = .ok (.ireturn, 1) := by decide +kernel
theorem dX7_lowestBit_19 : decode cX7_lowestBit 19 = .ok (.iinc 1 1, 3) := by decide +kernel
theorem dX7_lowestBit_22 : decode cX7_lowestBit 22 = .ok (.goto (-20), 3) := by decide +kernel
theorem dX7_lowestBit_25 : decode cX7_lowestBit 25 = .ok (.ldc 155, 2) := by decide +kernel
theorem dX7_lowestBit_27 : decode cX7_lowestBit 27 = .ok (.ireturn, 1) := by decide +kernel
theorem dX7_test_0 : decode cX7_test 0 = .ok (.iload_n 3, 1) := by decide +kernel
theorem dX7_test_1 : decode cX7_test 1 = .ok (.iconst 1, 1) := by decide +kernel
theorem dX7_test_2 : decode cX7_test 2 = .ok (.if_icmp .lt 23, 3) := by decide +kernel
theorem dX7_test_5 : decode cX7_test 5 = .ok (.iload_n 3, 1) := by decide +kernel
theorem dX7_test_6 : decode cX7_test 6 = .ok (.sipush 999, 3) := by decide +kernel
theorem dX7_test_9 : decode cX7_test 9 = .ok (.if_icmp .gt 16, 3) := by decide +kernel
theorem dX7_test_12 : decode cX7_test 12 = .ok (.iload 4, 2) := by decide +kernel
theorem dX7_test_14 : decode cX7_test 14 = .ok (.iconst 1, 1) := by decide +kernel
theorem dX7_test_15 : decode cX7_test 15 = .ok (.if_icmp .lt 10, 3) := by decide +kernel
theorem dX7_test_18 : decode cX7_test 18 = .ok (.iload 4, 2) := by decide +kernel
theorem dX7_test_20 : decode cX7_test 20 = .ok (.bipush 16, 2) := by decide +kernel
theorem dX7_test_22 : decode cX7_test 22 = .ok (.if_icmp .lt 6, 3) := by decide +kernel
theorem dX7_test_25 : decode cX7_test 25 = .ok (.ldc 94, 2) := by decide +kernel
theorem dX7_test_27 : decode cX7_test 27 = .ok (.ireturn, 1) := by decide +kernel
theorem dX7_test_28 : decode cX7_test 28 = .ok (.aload_n 0, 1) := by decide +kernel
theorem dX7_test_29 : decode cX7_test 29 = .ok (.getfield 47, 3) := by decide +kernel
theorem dX7_test_32 : decode cX7_test 32 = .ok (.getfield 194, 3) := by decide +kernel
theorem dX7_test_35 : decode cX7_test 35 = .ok (.bipush 10, 2) := by decide +kernel
theorem dX7_test_37 : decode cX7_test 37 = .ok (.if_icmp .ne 6, 3) := by decide +kernel
theorem dX7_test_40 : decode cX7_test 40 = .ok (.ldc 137, 2) := by decide +kernel
theorem dX7_test_42 : decode cX7_test 42 = .ok (.ireturn, 1) := by decide +kernel
theorem dX7_test_43 : decode cX7_test 43 = .ok (.aload_n 0, 1) := by decide +kernel
theorem dX7_test_44 : decode cX7_test 44 = .ok (.getfield 47, 3) := by decide +kernel
theorem dX7_test_47 : decode cX7_test 47 = .ok (.iload_n 1, 1) := by decide +kernel
theorem dX7_test_48 : decode cX7_test 48 = .ok (.iload_n 2, 1) := by decide +kernel
theorem dX7_test_49 : decode cX7_test 49 = .ok (.iload_n 3, 1) := by decide +kernel
theorem dX7_test_50 : decode cX7_test 50 = .ok (.iload 4, 2) := by decide +kernel
theorem dX7_test_52 : decode cX7_test 52 = .ok (.invokevirtual 197, 3) := by decide +kernel
theorem dX7_test_55 : decode cX7_test 55 = .ok (.ireturn, 1) := by decide +kernel
theorem dX7_move_0 : decode cX7_move 0 = .ok (.iload_n 1, 1) := by decide +kernel
theorem dX7_move_1 : decode cX7_move 1 = .ok (.aload_n 0, 1) := by decide +kernel
theorem dX7_move_2 : decode cX7_move 2 = .ok (.getfield 47, 3) := by decide +kernel
theorem dX7_move_5 : decode cX7_move 5 = .ok (.getfield 194, 3) := by decide +kernel
theorem dX7_move_8 : decode cX7_move 8 = .ok (.invokestatic 90, 3) := by decide +kernel
theorem dX7_move_11 : decode cX7_move 11 = .ok (.ifCond .eq 17, 3) := by decide +kernel
theorem dX7_move_14 : decode cX7_move 14 = .ok (.iload_n 2, 1) := by decide +kernel
theorem dX7_move_15 : decode cX7_move 15 = .ok (.aload_n 0, 1) := by decide +kernel
theorem dX7_move_16 : decode cX7_move 16 = .ok (.getfield 47, 3) := by decide +kernel
theorem dX7_move_19 : decode cX7_move 19 = .ok (.getfield 194, 3) := by decide +kernel
theorem dX7_move_22 : decode cX7_move 22 = .ok (.invokestatic 90, 3) := by decide +kernel
theorem dX7_move_25 : decode cX7_move 25 = .ok (.ifCond .ne 6, 3) := by decide +kernel
theorem dX7_move_28 : decode cX7_move 28 = .ok (.ldc 94, 2) := by decide +kernel
theorem dX7_move_30 : decode cX7_move 30 = .ok (.ireturn, 1) := by decide +kernel
theorem dX7_move_31 : decode cX7_move 31 = .ok (.aload_n 0, 1) := by decide +kernel
theorem dX7_move_32 : decode cX7_move 32 = .ok (.getfield 47, 3) := by decide +kernel
theorem dX7_move_35 : decode cX7_move 35 = .ok (.iload_n 1, 1) := by decide +kernel
theorem dX7_move_36 : decode cX7_move 36 = .ok (.invokevirtual 201, 3) := by decide +kernel
theorem dX7_move_39 : decode cX7_move 39 = .ok (.istore_n 3, 1) := by decide +kernel
theorem dX7_move_40 : decode cX7_move 40 = .ok (.iload_n 3, 1) := by decide +kernel
theorem dX7_move_41 : decode cX7_move 41 = .ok (.ldc 155, 2) := by decide +kernel
theorem dX7_move_43 : decode cX7_move 43 = .ok (.if_icmp .ne 6, 3) := by decide +kernel
theorem dX7_move_46 : decode cX7_move 46 = .ok (.ldc 94, 2) := by decide +kernel
theorem dX7_move_48 : decode cX7_move 48 = .ok (.ireturn, 1) := by decide +kernel
theorem dX7_move_49 : decode cX7_move 49 = .ok (.aload_n 0, 1) := by decide +kernel
theorem dX7_move_50 : decode cX7_move 50 = .ok (.getfield 47, 3) := by decide +kernel
theorem dX7_move_53 : decode cX7_move 53 = .ok (.iload_n 1, 1) := by decide +kernel
theorem dX7_move_54 : decode cX7_move 54 = .ok (.iload_n 3, 1) := by decide +kernel
theorem dX7_move_55 : decode cX7_move 55 = .ok (.iload_n 2, 1) := by decide +kernel
theorem dX7_move_56 : decode cX7_move 56 = .ok (.invokevirtual 204, 3) := by decide +kernel
theorem dX7_move_59 : decode cX7_move 59 = .ok (.iload_n 3, 1) := by decide +kernel
theorem dX7_move_60 : decode cX7_move 60 = .ok (.ireturn, 1) := by decide +kernel
theorem dX7_flow_0 : decode cX7_flow 0 = .ok (.iload_n 1, 1) := by decide +kernel
theorem dX7_flow_1 : decode cX7_flow 1 = .ok (.aload_n 0, 1) := by decide +kernel
theorem dX7_flow_2 : decode cX7_flow 2 = .ok (.getfield 47, 3) := by decide +kernel
theorem dX7_flow_5 : decode cX7_flow 5 = .ok (.getfield 194, 3) := by decide +kernel
theorem dX7_flow_8 : decode cX7_flow 8 = .ok (.invokestatic 90, 3) := by decide +kernel
theorem dX7_flow_11 : decode cX7_flow 11 = .ok (.ifCond .eq 15, 3) := by decide +kernel
theorem dX7_flow_14 : decode cX7_flow 14 = .ok (.aload_n 0, 1) := by decide +kernel
theorem dX7_flow_15 : decode cX7_flow 15 = .ok (.getfield 47, 3) := by decide +kernel
theorem dX7_flow_18 : decode cX7_flow 18 = .ok (.getfield 207, 3) := by decide +kernel
theorem dX7_flow_21 : decode cX7_flow 21 = .ok (.iload_n 1, 1) := by decide +kernel
theorem dX7_flow_22 : decode cX7_flow 22 = .ok (.iaload, 1) := by decide +kernel
theorem dX7_flow_23 : decode cX7_flow 23 = .ok (.goto 5, 3) := by decide +kernel
theorem dX7_flow_26 : decode cX7_flow 26 = .ok (.ldc 155, 2) := by decide +kernel
theorem dX7_flow_28 : decode cX7_flow 28 = .ok (.ireturn, 1) := by decide +kernel
theorem dX7_kind_0 : decode cX7_kind 0 = .ok (.iload_n 1, 1) := by decide +kernel
theorem dX7_kind_1 : decode cX7_kind 1 = .ok (.aload_n 0, 1) := by decide +kernel
theorem dX7_kind_2 : decode cX7_kind 2 = .ok (.getfield 47, 3) := by decide +kernel
theorem dX7_kind_5 : decode cX7_kind 5 = .ok (.getfield 194, 3) := by decide +kernel
theorem dX7_kind_8 : decode cX7_kind 8 = .ok (.invokestatic 90, 3) := by decide +kernel
theorem dX7_kind_11 : decode cX7_kind 11 = .ok (.ifCond .eq 14, 3) := by decide +kernel
theorem dX7_kind_14 : decode cX7_kind 14 = .ok (.aload_n 0, 1) := by decide +kernel
theorem dX7_kind_15 : decode cX7_kind 15 = .ok (.getfield 47, 3) := by decide +kernel
theorem dX7_kind_18 : decode cX7_kind 18 = .ok (.iload_n 1, 1) := by decide +kernel
theorem dX7_kind_19 : decode cX7_kind 19 = .ok (.invokevirtual 210, 3) := by decide +kernel
theorem dX7_kind_22 : decode cX7_kind 22 = .ok (.goto 5, 3) := by decide +kernel
theorem dX7_kind_25 : decode cX7_kind 25 = .ok (.ldc 94, 2) := by decide +kernel
theorem dX7_kind_27 : decode cX7_kind 27 = .ok (.ireturn, 1) := by decide +kernel
theorem dX7_as_0 : decode cX7_as 0 = .ok (.iload_n 1, 1) := by decide +kernel
theorem dX7_as_1 : decode cX7_as 1 = .ok (.aload_n 0, 1) := by decide +kernel
theorem dX7_as_2 : decode cX7_as 2 = .ok (.getfield 47, 3) := by decide +kernel
theorem dX7_as_5 : decode cX7_as 5 = .ok (.getfield 194, 3) := by decide +kernel
theorem dX7_as_8 : decode cX7_as 8 = .ok (.invokestatic 90, 3) := by decide +kernel
theorem dX7_as_11 : decode cX7_as 11 = .ok (.ifCond .eq 11, 3) := by decide +kernel
theorem dX7_as_14 : decode cX7_as 14 = .ok (.iload_n 2, 1) := by decide +kernel
theorem dX7_as_15 : decode cX7_as 15 = .ok (.iconst 4, 1) := by decide +kernel
theorem dX7_as_16 : decode cX7_as 16 = .ok (.invokestatic 90, 3) := by decide +kernel
theorem dX7_as_19 : decode cX7_as 19 = .ok (.ifCond .ne 6, 3) := by decide +kernel
theorem dX7_as_22 : decode cX7_as 22 = .ok (.ldc 94, 2) := by decide +kernel
theorem dX7_as_24 : decode cX7_as 24 = .ok (.ireturn, 1) := by decide +kernel
theorem dX7_as_25 : decode cX7_as 25 = .ok (.aload_n 0, 1) := by decide +kernel
theorem dX7_as_26 : decode cX7_as 26 = .ok (.getfield 47, 3) := by decide +kernel
theorem dX7_as_29 : decode cX7_as 29 = .ok (.iload_n 1, 1) := by decide +kernel
theorem dX7_as_30 : decode cX7_as 30 = .ok (.iload_n 2, 1) := by decide +kernel
theorem dX7_as_31 : decode cX7_as 31 = .ok (.invokevirtual 213, 3) := by decide +kernel
theorem dX7_as_34 : decode cX7_as 34 = .ok (.ifCond .eq 19, 3) := by decide +kernel
theorem dX7_as_37 : decode cX7_as 37 = .ok (.aload_n 0, 1) := by decide +kernel
theorem dX7_as_38 : decode cX7_as 38 = .ok (.aload_n 0, 1) := by decide +kernel
theorem dX7_as_39 : decode cX7_as 39 = .ok (.getfield 47, 3) := by decide +kernel
theorem dX7_as_42 : decode cX7_as 42 = .ok (.getfield 216, 3) := by decide +kernel
theorem dX7_as_45 : decode cX7_as 45 = .ok (.iload_n 1, 1) := by decide +kernel
theorem dX7_as_46 : decode cX7_as 46 = .ok (.iaload, 1) := by decide +kernel
theorem dX7_as_47 : decode cX7_as 47 = .ok (.invokevirtual 103, 3) := by decide +kernel
theorem dX7_as_50 : decode cX7_as 50 = .ok (.goto 8, 3) := by decide +kernel
theorem dX7_as_53 : decode cX7_as 53 = .ok (.aload_n 0, 1) := by decide +kernel
theorem dX7_as_54 : decode cX7_as 54 = .ok (.iconst 3, 1) := by decide +kernel
theorem dX7_as_55 : decode cX7_as 55 = .ok (.invokevirtual 95, 3) := by decide +kernel
theorem dX7_as_58 : decode cX7_as 58 = .ok (.ireturn, 1) := by decide +kernel
theorem dX7_ask_0 : decode cX7_ask 0 = .ok (.iload_n 1, 1) := by decide +kernel
theorem dX7_ask_1 : decode cX7_ask 1 = .ok (.aload_n 0, 1) := by decide +kernel
theorem dX7_ask_2 : decode cX7_ask 2 = .ok (.getfield 47, 3) := by decide +kernel
theorem dX7_ask_5 : decode cX7_ask 5 = .ok (.getfield 194, 3) := by decide +kernel
theorem dX7_ask_8 : decode cX7_ask 8 = .ok (.invokestatic 90, 3) := by decide +kernel
theorem dX7_ask_11 : decode cX7_ask 11 = .ok (.ifCond .eq 12, 3) := by decide +kernel
theorem dX7_ask_14 : decode cX7_ask 14 = .ok (.iload_n 2, 1) := by decide +kernel
theorem dX7_ask_15 : decode cX7_ask 15 = .ok (.ifCond .eq 11, 3) := by decide +kernel
theorem dX7_ask_18 : decode cX7_ask 18 = .ok (.iload_n 2, 1) := by decide +kernel
theorem dX7_ask_19 : decode cX7_ask 19 = .ok (.iconst 1, 1) := by decide +kernel
theorem dX7_ask_20 : decode cX7_ask 20 = .ok (.if_icmp .eq 6, 3) := by decide +kernel
theorem dX7_ask_23 : decode cX7_ask 23 = .ok (.ldc 94, 2) := by decide +kernel
theorem dX7_ask_25 : decode cX7_ask 25 = .ok (.ireturn, 1) := by decide +kernel
theorem dX7_ask_26 : decode cX7_ask 26 = .ok (.aload_n 0, 1) := by decide +kernel
theorem dX7_ask_27 : decode cX7_ask 27 = .ok (.getfield 56, 3) := by decide +kernel
theorem dX7_ask_30 : decode cX7_ask 30 = .ok (.iconst 0, 1) := by decide +kernel
theorem dX7_ask_31 : decode cX7_ask 31 = .ok (.putfield 219, 3) := by decide +kernel
theorem dX7_ask_34 : decode cX7_ask 34 = .ok (.iload_n 2, 1) := by decide +kernel
theorem dX7_ask_35 : decode cX7_ask 35 = .ok (.ifCond .ne 14, 3) := by decide +kernel
theorem dX7_ask_38 : decode cX7_ask 38 = .ok (.aload_n 0, 1) := by decide +kernel
theorem dX7_ask_39 : decode cX7_ask 39 = .ok (.getfield 56, 3) := by decide +kernel
theorem dX7_ask_42 : decode cX7_ask 42 = .ok (.iload_n 1, 1) := by decide +kernel
theorem dX7_ask_43 : decode cX7_ask 43 = .ok (.invokevirtual 222, 3) := by decide +kernel
theorem dX7_ask_46 : decode cX7_ask 46 = .ok (.goto 11, 3) := by decide +kernel
theorem dX7_ask_49 : decode cX7_ask 49 = .ok (.aload_n 0, 1) := by decide +kernel
theorem dX7_ask_50 : decode cX7_ask 50 = .ok (.getfield 56, 3) := by decide +kernel
theorem dX7_ask_53 : decode cX7_ask 53 = .ok (.iload_n 1, 1) := by decide +kernel
theorem dX7_ask_54 : decode cX7_ask 54 = .ok (.invokevirtual 225, 3) := by decide +kernel
theorem dX7_ask_57 : decode cX7_ask 57 = .ok (.ireturn, 1) := by decide +kernel
theorem dX7_trace_0 : decode cX7_trace 0 = .ok (.iload_n 1, 1) := by decide +kernel
theorem dX7_trace_1 : decode cX7_trace 1 = .ok (.aload_n 0, 1) := by decide +kernel
theorem dX7_trace_2 : decode cX7_trace 2 = .ok (.getfield 56, 3) := by decide +kernel
theorem dX7_trace_5 : decode cX7_trace 5 = .ok (.getfield 219, 3) := by decide +kernel
theorem dX7_trace_8 : decode cX7_trace 8 = .ok (.invokestatic 90, 3) := by decide +kernel
theorem dX7_trace_11 : decode cX7_trace 11 = .ok (.ifCond .eq 15, 3) := by decide +kernel
theorem dX7_trace_14 : decode cX7_trace 14 = .ok (.aload_n 0, 1) := by decide +kernel
theorem dX7_trace_15 : decode cX7_trace 15 = .ok (.getfield 56, 3) := by decide +kernel
theorem dX7_trace_18 : decode cX7_trace 18 = .ok (.getfield 228, 3) := by decide +kernel
theorem dX7_trace_21 : decode cX7_trace 21 = .ok (.iload_n 1, 1) := by decide +kernel
theorem dX7_trace_22 : decode cX7_trace 22 = .ok (.iaload, 1) := by decide +kernel
theorem dX7_trace_23 : decode cX7_trace 23 = .ok (.goto 5, 3) := by decide +kernel
theorem dX7_trace_26 : decode cX7_trace 26 = .ok (.ldc 155, 2) := by decide +kernel
theorem dX7_trace_28 : decode cX7_trace 28 = .ok (.ireturn, 1) := by decide +kernel
theorem dX7_seat_0 : decode cX7_seat 0 = .ok (.iload_n 1, 1) := by decide +kernel
theorem dX7_seat_1 : decode cX7_seat 1 = .ok (.bipush 8, 2) := by decide +kernel
theorem dX7_seat_3 : decode cX7_seat 3 = .ok (.invokestatic 90, 3) := by decide +kernel
theorem dX7_seat_6 : decode cX7_seat 6 = .ok (.ifCond .eq 17, 3) := by decide +kernel
theorem dX7_seat_9 : decode cX7_seat 9 = .ok (.iload_n 2, 1) := by decide +kernel
theorem dX7_seat_10 : decode cX7_seat 10 = .ok (.sipush (-1000), 3) := by decide +kernel
theorem dX7_seat_13 : decode cX7_seat 13 = .ok (.if_icmp .lt 10, 3) := by decide +kernel
theorem dX7_seat_16 : decode cX7_seat 16 = .ok (.iload_n 2, 1) := by decide +kernel
theorem dX7_seat_17 : decode cX7_seat 17 = .ok (.sipush 1000, 3) := by decide +kernel
theorem dX7_seat_20 : decode cX7_seat 20 = .ok (.if_icmp .le 6, 3) := by decide +kernel
theorem dX7_seat_23 : decode cX7_seat 23 = .ok (.ldc 94, 2) := by decide +kernel
theorem dX7_seat_25 : decode cX7_seat 25 = .ok (.ireturn, 1) := by decide +kernel
theorem dX7_seat_26 : decode cX7_seat 26 = .ok (.aload_n 0, 1) := by decide +kernel
theorem dX7_seat_27 : decode cX7_seat 27 = .ok (.getfield 63, 3) := by decide +kernel
theorem dX7_seat_30 : decode cX7_seat 30 = .ok (.iload_n 1, 1) := by decide +kernel
theorem dX7_seat_31 : decode cX7_seat 31 = .ok (.baload, 1) := by decide +kernel
theorem dX7_seat_32 : decode cX7_seat 32 = .ok (.ifCond .eq 8, 3) := by decide +kernel
theorem dX7_seat_35 : decode cX7_seat 35 = .ok (.ldc 155, 2) := by decide +kernel
theorem dX7_seat_37 : decode cX7_seat 37 = .ok (.goto 9, 3) := by decide +kernel
theorem dX7_seat_40 : decode cX7_seat 40 = .ok (.aload_n 0, 1) := by decide +kernel
theorem dX7_seat_41 : decode cX7_seat 41 = .ok (.getfield 60, 3) := by decide +kernel
theorem dX7_seat_44 : decode cX7_seat 44 = .ok (.iload_n 1, 1) := by decide +kernel
theorem dX7_seat_45 : decode cX7_seat 45 = .ok (.iaload, 1) := by decide +kernel
theorem dX7_seat_46 : decode cX7_seat 46 = .ok (.istore_n 3, 1) := by decide +kernel
theorem dX7_seat_47 : decode cX7_seat 47 = .ok (.aload_n 0, 1) := by decide +kernel
theorem dX7_seat_48 : decode cX7_seat 48 = .ok (.getfield 63, 3) := by decide +kernel
theorem dX7_seat_51 : decode cX7_seat 51 = .ok (.iload_n 1, 1) := by decide +kernel
theorem dX7_seat_52 : decode cX7_seat 52 = .ok (.iconst 0, 1) := by decide +kernel
theorem dX7_seat_53 : decode cX7_seat 53 = .ok (.bastore, 1) := by decide +kernel
theorem dX7_seat_54 : decode cX7_seat 54 = .ok (.aload_n 0, 1) := by decide +kernel
theorem dX7_seat_55 : decode cX7_seat 55 = .ok (.getfield 60, 3) := by decide +kernel
theorem dX7_seat_58 : decode cX7_seat 58 = .ok (.iload_n 1, 1) := by decide +kernel
theorem dX7_seat_59 : decode cX7_seat 59 = .ok (.iload_n 2, 1) := by decide +kernel
theorem dX7_seat_60 : decode cX7_seat 60 = .ok (.iastore, 1) := by decide +kernel
theorem dX7_seat_61 : decode cX7_seat 61 = .ok (.iload_n 3, 1) := by decide +kernel
theorem dX7_seat_62 : decode cX7_seat 62 = .ok (.ireturn, 1) := by decide +kernel
theorem dX7_dead_0 : decode cX7_dead 0 = .ok (.iload_n 1, 1) := by decide +kernel
theorem dX7_dead_1 : decode cX7_dead 1 = .ok (.bipush 8, 2) := by decide +kernel
theorem dX7_dead_3 : decode cX7_dead 3 = .ok (.invokestatic 90, 3) := by decide +kernel
theorem dX7_dead_6 : decode cX7_dead 6 = .ok (.ifCond .ne 6, 3) := by decide +kernel
theorem dX7_dead_9 : decode cX7_dead 9 = .ok (.ldc 94, 2) := by decide +kernel
theorem dX7_dead_11 : decode cX7_dead 11 = .ok (.ireturn, 1) := by decide +kernel
theorem dX7_dead_12 : decode cX7_dead 12 = .ok (.aload_n 0, 1) := by decide +kernel
theorem dX7_dead_13 : decode cX7_dead 13 = .ok (.getfield 63, 3) := by decide +kernel
theorem dX7_dead_16 : decode cX7_dead 16 = .ok (.iload_n 1, 1) := by decide +kernel
theorem dX7_dead_17 : decode cX7_dead 17 = .ok (.baload, 1) := by decide +kernel
theorem dX7_dead_18 : decode cX7_dead 18 = .ok (.ifCond .eq 7, 3) := by decide +kernel
theorem dX7_dead_21 : decode cX7_dead 21 = .ok (.iconst 0, 1) := by decide +kernel
theorem dX7_dead_22 : decode cX7_dead 22 = .ok (.goto 4, 3) := by decide +kernel
theorem dX7_dead_25 : decode cX7_dead 25 = .ok (.iconst 1, 1) := by decide +kernel
theorem dX7_dead_26 : decode cX7_dead 26 = .ok (.istore_n 2, 1) := by decide +kernel
theorem dX7_dead_27 : decode cX7_dead 27 = .ok (.aload_n 0, 1) := by decide +kernel
theorem dX7_dead_28 : decode cX7_dead 28 = .ok (.getfield 63, 3) := by decide +kernel
theorem dX7_dead_31 : decode cX7_dead 31 = .ok (.iload_n 1, 1) := by decide +kernel
theorem dX7_dead_32 : decode cX7_dead 32 = .ok (.iconst 1, 1) := by decide +kernel
theorem dX7_dead_33 : decode cX7_dead 33 = .ok (.bastore, 1) := by decide +kernel
theorem dX7_dead_34 : decode cX7_dead 34 = .ok (.iload_n 2, 1) := by decide +kernel
theorem dX7_dead_35 : decode cX7_dead 35 = .ok (.ireturn, 1) := by decide +kernel
theorem dX7_law_0 : decode cX7_law 0 = .ok (.iload_n 1, 1) := by decide +kernel
theorem dX7_law_1 : decode cX7_law 1 = .ok (.ldc 231, 2) := by decide +kernel
theorem dX7_law_3 : decode cX7_law 3 = .ok (.iand, 1) := by decide +kernel
theorem dX7_law_4 : decode cX7_law 4 = .ok (.ifCond .ne 13, 3) := by decide +kernel
theorem dX7_law_7 : decode cX7_law 7 = .ok (.iload_n 2, 1) := by decide +kernel
theorem dX7_law_8 : decode cX7_law 8 = .ok (.iconst 1, 1) := by decide +kernel
theorem dX7_law_9 : decode cX7_law 9 = .ok (.if_icmp .lt 8, 3) := by decide +kernel
theorem dX7_law_12 : decode cX7_law 12 = .ok (.iload_n 2, 1) := by decide +kernel
theorem dX7_law_13 : decode cX7_law 13 = .ok (.iconst 4, 1) := by decide +kernel
theorem dX7_law_14 : decode cX7_law 14 = .ok (.if_icmp .le 6, 3) := by decide +kernel
theorem dX7_law_17 : decode cX7_law 17 = .ok (.ldc 94, 2) := by decide +kernel
theorem dX7_law_19 : decode cX7_law 19 = .ok (.ireturn, 1) := by decide +kernel
theorem dX7_law_20 : decode cX7_law 20 = .ok (.aload_n 0, 1) := by decide +kernel
theorem dX7_law_21 : decode cX7_law 21 = .ok (.iload_n 1, 1) := by decide +kernel
theorem dX7_law_22 : decode cX7_law 22 = .ok (.putfield 67, 3) := by decide +kernel
theorem dX7_law_25 : decode cX7_law 25 = .ok (.aload_n 0, 1) := by decide +kernel
theorem dX7_law_26 : decode cX7_law 26 = .ok (.iload_n 2, 1) := by decide +kernel
theorem dX7_law_27 : decode cX7_law 27 = .ok (.putfield 70, 3) := by decide +kernel
theorem dX7_law_30 : decode cX7_law 30 = .ok (.iconst 1, 1) := by decide +kernel
theorem dX7_law_31 : decode cX7_law 31 = .ok (.ireturn, 1) := by decide +kernel
theorem dX7_chip_0 : decode cX7_chip 0 = .ok (.iload_n 1, 1) := by decide +kernel
theorem dX7_chip_1 : decode cX7_chip 1 = .ok (.bipush 8, 2) := by decide +kernel
theorem dX7_chip_3 : decode cX7_chip 3 = .ok (.invokestatic 90, 3) := by decide +kernel
theorem dX7_chip_6 : decode cX7_chip 6 = .ok (.ifCond .eq 12, 3) := by decide +kernel
theorem dX7_chip_9 : decode cX7_chip 9 = .ok (.iload_n 2, 1) := by decide +kernel
theorem dX7_chip_10 : decode cX7_chip 10 = .ok (.bipush 8, 2) := by decide +kernel
theorem dX7_chip_12 : decode cX7_chip 12 = .ok (.invokestatic 90, 3) := by decide +kernel
theorem dX7_chip_15 : decode cX7_chip 15 = .ok (.ifCond .ne 6, 3) := by decide +kernel
theorem dX7_chip_18 : decode cX7_chip 18 = .ok (.ldc 94, 2) := by decide +kernel
theorem dX7_chip_20 : decode cX7_chip 20 = .ok (.ireturn, 1) := by decide +kernel
theorem dX7_chip_21 : decode cX7_chip 21 = .ok (.aload_n 0, 1) := by decide +kernel
theorem dX7_chip_22 : decode cX7_chip 22 = .ok (.getfield 47, 3) := by decide +kernel
theorem dX7_chip_25 : decode cX7_chip 25 = .ok (.getfield 194, 3) := by decide +kernel
theorem dX7_chip_28 : decode cX7_chip 28 = .ok (.ifCond .ne 6, 3) := by decide +kernel
theorem dX7_chip_31 : decode cX7_chip 31 = .ok (.ldc 162, 2) := by decide +kernel
theorem dX7_chip_33 : decode cX7_chip 33 = .ok (.ireturn, 1) := by decide +kernel
theorem dX7_chip_34 : decode cX7_chip 34 = .ok (.aload_n 0, 1) := by decide +kernel
theorem dX7_chip_35 : decode cX7_chip 35 = .ok (.getfield 76, 3) := by decide +kernel
theorem dX7_chip_38 : decode cX7_chip 38 = .ok (.getfield 232, 3) := by decide +kernel
theorem dX7_chip_41 : decode cX7_chip 41 = .ok (.sipush 200, 3) := by decide +kernel
theorem dX7_chip_44 : decode cX7_chip 44 = .ok (.if_icmp .ne 6, 3) := by decide +kernel
theorem dX7_chip_47 : decode cX7_chip 47 = .ok (.ldc 137, 2) := by decide +kernel
theorem dX7_chip_49 : decode cX7_chip 49 = .ok (.ireturn, 1) := by decide +kernel
theorem dX7_chip_50 : decode cX7_chip 50 = .ok (.aload_n 0, 1) := by decide +kernel
theorem dX7_chip_51 : decode cX7_chip 51 = .ok (.getfield 10, 3) := by decide +kernel
theorem dX7_chip_54 : decode cX7_chip 54 = .ok (.iload_n 1, 1) := by decide +kernel
theorem dX7_chip_55 : decode cX7_chip 55 = .ok (.invokevirtual 106, 3) := by decide +kernel
theorem dX7_chip_58 : decode cX7_chip 58 = .ok (.ifCond .eq 9, 3) := by decide +kernel
theorem dX7_chip_61 : decode cX7_chip 61 = .ok (.aload_n 0, 1) := by decide +kernel
theorem dX7_chip_62 : decode cX7_chip 62 = .ok (.iconst 1, 1) := by decide +kernel
theorem dX7_chip_63 : decode cX7_chip 63 = .ok (.invokevirtual 95, 3) := by decide +kernel
theorem dX7_chip_66 : decode cX7_chip 66 = .ok (.ireturn, 1) := by decide +kernel
theorem dX7_chip_67 : decode cX7_chip 67 = .ok (.aload_n 0, 1) := by decide +kernel
theorem dX7_chip_68 : decode cX7_chip 68 = .ok (.iload_n 1, 1) := by decide +kernel
theorem dX7_chip_69 : decode cX7_chip 69 = .ok (.iload_n 2, 1) := by decide +kernel
theorem dX7_chip_70 : decode cX7_chip 70 = .ok (.invokevirtual 235, 3) := by decide +kernel
theorem dX7_chip_73 : decode cX7_chip 73 = .ok (.ifCond .ne 9, 3) := by decide +kernel
theorem dX7_chip_76 : decode cX7_chip 76 = .ok (.aload_n 0, 1) := by decide +kernel
theorem dX7_chip_77 : decode cX7_chip 77 = .ok (.iconst 2, 1) := by decide +kernel
theorem dX7_chip_78 : decode cX7_chip 78 = .ok (.invokevirtual 95, 3) := by decide +kernel
theorem dX7_chip_81 : decode cX7_chip 81 = .ok (.ireturn, 1) := by decide +kernel
theorem dX7_chip_82 : decode cX7_chip 82 = .ok (.aload_n 0, 1) := by decide +kernel
theorem dX7_chip_83 : decode cX7_chip 83 = .ok (.aload_n 0, 1) := by decide +kernel
theorem dX7_chip_84 : decode cX7_chip 84 = .ok (.getfield 76, 3) := by decide +kernel
theorem dX7_chip_87 : decode cX7_chip 87 = .ok (.invokevirtual 238, 3) := by decide +kernel
theorem dX7_chip_90 : decode cX7_chip 90 = .ok (.invokevirtual 103, 3) := by decide +kernel
theorem dX7_chip_93 : decode cX7_chip 93 = .ok (.ireturn, 1) := by decide +kernel
theorem dX7_tryByLaw_0 : decode cX7_tryByLaw 0 = .ok (.aload_n 0, 1) := by decide +kernel
theorem dX7_tryByLaw_1 : decode cX7_tryByLaw 1 = .ok (.getfield 76, 3) := by decide +kernel
theorem dX7_tryByLaw_4 : decode cX7_tryByLaw 4 = .ok (.iload_n 2, 1) := by decide +kernel
theorem dX7_tryByLaw_5 : decode cX7_tryByLaw 5 = .ok (.invokevirtual 241, 3) := by decide +kernel
theorem dX7_tryByLaw_8 : decode cX7_tryByLaw 8 = .ok (.iload_n 2, 1) := by decide +kernel
theorem dX7_tryByLaw_9 : decode cX7_tryByLaw 9 = .ok (.istore_n 3, 1) := by decide +kernel
theorem dX7_tryByLaw_10 : decode cX7_tryByLaw 10 = .ok (.iconst 1, 1) := by decide +kernel
theorem dX7_tryByLaw_11 : decode cX7_tryByLaw 11 = .ok (.istore 4, 2) := by decide +kernel
theorem dX7_tryByLaw_13 : decode cX7_tryByLaw 13 = .ok (.iconst 0, 1) := by decide +kernel
theorem dX7_tryByLaw_14 : decode cX7_tryByLaw 14 = .ok (.istore 5, 2) := by decide +kernel
theorem dX7_tryByLaw_16 : decode cX7_tryByLaw 16 = .ok (.iload 4, 2) := by decide +kernel
theorem dX7_tryByLaw_18 : decode cX7_tryByLaw 18 = .ok (.ifCond .eq 62, 3) := by decide +kernel
theorem dX7_tryByLaw_21 : decode cX7_tryByLaw 21 = .ok (.iload 5, 2) := by decide +kernel
theorem dX7_tryByLaw_23 : decode cX7_tryByLaw 23 = .ok (.aload_n 0, 1) := by decide +kernel
theorem dX7_tryByLaw_24 : decode cX7_tryByLaw 24 = .ok (.getfield 70, 3) := by decide +kernel
theorem dX7_tryByLaw_27 : decode cX7_tryByLaw 27 = .ok (.if_icmp .ge 53, 3) := by decide +kernel
theorem dX7_tryByLaw_30 : decode cX7_tryByLaw 30 = .ok (.aload_n 0, 1) := by decide +kernel
theorem dX7_tryByLaw_31 : decode cX7_tryByLaw 31 = .ok (.iload_n 1, 1) := by decide +kernel
theorem dX7_tryByLaw_32 : decode cX7_tryByLaw 32 = .ok (.iload_n 3, 1) := by decide +kernel
theorem dX7_tryByLaw_33 : decode cX7_tryByLaw 33 = .ok (.invokevirtual 245, 3) := by decide +kernel
theorem dX7_tryByLaw_36 : decode cX7_tryByLaw 36 = .ok (.istore 6, 2) := by decide +kernel
theorem dX7_tryByLaw_38 : decode cX7_tryByLaw 38 = .ok (.iload 6, 2) := by decide +kernel
theorem dX7_tryByLaw_40 : decode cX7_tryByLaw 40 = .ok (.ldc 155, 2) := by decide +kernel
theorem dX7_tryByLaw_42 : decode cX7_tryByLaw 42 = .ok (.if_icmp .ne 5, 3) := by decide +kernel
theorem dX7_tryByLaw_45 : decode cX7_tryByLaw 45 = .ok (.iconst 0, 1) := by decide +kernel
theorem dX7_tryByLaw_46 : decode cX7_tryByLaw 46 = .ok (.ireturn, 1) := by decide +kernel
theorem dX7_tryByLaw_47 : decode cX7_tryByLaw 47 = .ok (.aload_n 0, 1) := by decide +kernel
theorem dX7_tryByLaw_48 : decode cX7_tryByLaw 48 = .ok (.getfield 67, 3) := by decide +kernel
theorem dX7_tryByLaw_51 : decode cX7_tryByLaw 51 = .ok (.iload 6, 2) := by decide +kernel
theorem dX7_tryByLaw_53 : decode cX7_tryByLaw 53 = .ok (.ishr, 1) := by decide +kernel
theorem dX7_tryByLaw_54 : decode cX7_tryByLaw 54 = .ok (.iconst 1, 1) := by decide +kernel
theorem dX7_tryByLaw_55 : decode cX7_tryByLaw 55 = .ok (.iand, 1) := by decide +kernel
theorem dX7_tryByLaw_56 : decode cX7_tryByLaw 56 = .ok (.iconst 1, 1) := by decide +kernel
theorem dX7_tryByLaw_57 : decode cX7_tryByLaw 57 = .ok (.if_icmp .ne 7, 3) := by decide +kernel
theorem dX7_tryByLaw_60 : decode cX7_tryByLaw 60 = .ok (.iconst 1, 1) := by decide +kernel
theorem dX7_tryByLaw_61 : decode cX7_tryByLaw 61 = .ok (.goto 4, 3) := by decide +kernel
theorem dX7_tryByLaw_64 : decode cX7_tryByLaw 64 = .ok (.iconst 0, 1) := by decide +kernel
theorem dX7_tryByLaw_65 : decode cX7_tryByLaw 65 = .ok (.istore 4, 2) := by decide +kernel
theorem dX7_tryByLaw_67 : decode cX7_tryByLaw 67 = .ok (.iload_n 3, 1) := by decide +kernel
theorem dX7_tryByLaw_68 : decode cX7_tryByLaw 68 = .ok (.iconst 1, 1) := by decide +kernel
theorem dX7_tryByLaw_69 : decode cX7_tryByLaw 69 = .ok (.iadd, 1) := by decide +kernel
theorem dX7_tryByLaw_70 : decode cX7_tryByLaw 70 = .ok (.bipush 8, 2) := by decide +kernel
theorem dX7_tryByLaw_72 : decode cX7_tryByLaw 72 = .ok (.irem, 1) := by decide +kernel
theorem dX7_tryByLaw_73 : decode cX7_tryByLaw 73 = .ok (.istore_n 3, 1) := by decide +kernel
theorem dX7_tryByLaw_74 : decode cX7_tryByLaw 74 = .ok (.iinc 5 1, 3) := by decide +kernel
theorem dX7_tryByLaw_77 : decode cX7_tryByLaw 77 = .ok (.goto (-61), 3) := by decide +kernel
theorem dX7_tryByLaw_80 : decode cX7_tryByLaw 80 = .ok (.iconst 1, 1) := by decide +kernel
theorem dX7_tryByLaw_81 : decode cX7_tryByLaw 81 = .ok (.ireturn, 1) := by decide +kernel
theorem dX7_tryIn_0 : decode cX7_tryIn 0 = .ok (.aload_n 0, 1) := by decide +kernel
theorem dX7_tryIn_1 : decode cX7_tryIn 1 = .ok (.getfield 63, 3) := by decide +kernel
theorem dX7_tryIn_4 : decode cX7_tryIn 4 = .ok (.iload_n 2, 1) := by decide +kernel
theorem dX7_tryIn_5 : decode cX7_tryIn 5 = .ok (.baload, 1) := by decide +kernel
theorem dX7_tryIn_6 : decode cX7_tryIn 6 = .ok (.ifCond .eq 17, 3) := by decide +kernel
theorem dX7_tryIn_9 : decode cX7_tryIn 9 = .ok (.aload_n 0, 1) := by decide +kernel
theorem dX7_tryIn_10 : decode cX7_tryIn 10 = .ok (.getfield 76, 3) := by decide +kernel
theorem dX7_tryIn_13 : decode cX7_tryIn 13 = .ok (.iload_n 2, 1) := by decide +kernel
theorem dX7_tryIn_14 : decode cX7_tryIn 14 = .ok (.bipush 15, 2) := by decide +kernel
theorem dX7_tryIn_16 : decode cX7_tryIn 16 = .ok (.iconst 0, 1) := by decide +kernel
theorem dX7_tryIn_17 : decode cX7_tryIn 17 = .ok (.invokevirtual 248, 3) := by decide +kernel
theorem dX7_tryIn_20 : decode cX7_tryIn 20 = .ok (.bipush 15, 2) := by decide +kernel
theorem dX7_tryIn_22 : decode cX7_tryIn 22 = .ok (.ireturn, 1) := by decide +kernel
theorem dX7_tryIn_23 : decode cX7_tryIn 23 = .ok (.aload_n 0, 1) := by decide +kernel
theorem dX7_tryIn_24 : decode cX7_tryIn 24 = .ok (.iload_n 1, 1) := by decide +kernel
theorem dX7_tryIn_25 : decode cX7_tryIn 25 = .ok (.aload_n 0, 1) := by decide +kernel
theorem dX7_tryIn_26 : decode cX7_tryIn 26 = .ok (.getfield 60, 3) := by decide +kernel
theorem dX7_tryIn_29 : decode cX7_tryIn 29 = .ok (.iload_n 2, 1) := by decide +kernel
theorem dX7_tryIn_30 : decode cX7_tryIn 30 = .ok (.iaload, 1) := by decide +kernel
theorem dX7_tryIn_31 : decode cX7_tryIn 31 = .ok (.invokevirtual 251, 3) := by decide +kernel
theorem dX7_tryIn_34 : decode cX7_tryIn 34 = .ok (.istore_n 3, 1) := by decide +kernel
theorem dX7_tryIn_35 : decode cX7_tryIn 35 = .ok (.iload_n 3, 1) := by decide +kernel
theorem dX7_tryIn_36 : decode cX7_tryIn 36 = .ok (.ldc 155, 2) := by decide +kernel
theorem dX7_tryIn_38 : decode cX7_tryIn 38 = .ok (.if_icmp .ne 6, 3) := by decide +kernel
theorem dX7_tryIn_41 : decode cX7_tryIn 41 = .ok (.ldc 155, 2) := by decide +kernel
theorem dX7_tryIn_43 : decode cX7_tryIn 43 = .ok (.ireturn, 1) := by decide +kernel
theorem dX7_tryIn_44 : decode cX7_tryIn 44 = .ok (.aload_n 0, 1) := by decide +kernel
theorem dX7_tryIn_45 : decode cX7_tryIn 45 = .ok (.getfield 47, 3) := by decide +kernel
theorem dX7_tryIn_48 : decode cX7_tryIn 48 = .ok (.iload_n 3, 1) := by decide +kernel
theorem dX7_tryIn_49 : decode cX7_tryIn 49 = .ok (.invokevirtual 254, 3) := by decide +kernel
theorem dX7_tryIn_52 : decode cX7_tryIn 52 = .ok (.istore 4, 2) := by decide +kernel
theorem dX7_tryIn_54 : decode cX7_tryIn 54 = .ok (.aload_n 0, 1) := by decide +kernel
theorem dX7_tryIn_55 : decode cX7_tryIn 55 = .ok (.getfield 76, 3) := by decide +kernel
theorem dX7_tryIn_58 : decode cX7_tryIn 58 = .ok (.iload_n 2, 1) := by decide +kernel
theorem dX7_tryIn_59 : decode cX7_tryIn 59 = .ok (.iload 4, 2) := by decide +kernel
theorem dX7_tryIn_61 : decode cX7_tryIn 61 = .ok (.aload_n 0, 1) := by decide +kernel
theorem dX7_tryIn_62 : decode cX7_tryIn 62 = .ok (.getfield 47, 3) := by decide +kernel
theorem dX7_tryIn_65 : decode cX7_tryIn 65 = .ok (.iload_n 3, 1) := by decide +kernel
theorem dX7_tryIn_66 : decode cX7_tryIn 66 = .ok (.invokevirtual 257, 3) := by decide +kernel
theorem dX7_tryIn_69 : decode cX7_tryIn 69 = .ok (.invokevirtual 248, 3) := by decide +kernel
theorem dX7_tryIn_72 : decode cX7_tryIn 72 = .ok (.iload 4, 2) := by decide +kernel
theorem dX7_tryIn_74 : decode cX7_tryIn 74 = .ok (.ireturn, 1) := by decide +kernel
theorem dX7_endOfFlow_0 : decode cX7_endOfFlow 0 = .ok (.iconst 0, 1) := by decide +kernel
theorem dX7_endOfFlow_1 : decode cX7_endOfFlow 1 = .ok (.istore_n 3, 1) := by decide +kernel
theorem dX7_endOfFlow_2 : decode cX7_endOfFlow 2 = .ok (.iload_n 3, 1) := by decide +kernel
theorem dX7_endOfFlow_3 : decode cX7_endOfFlow 3 = .ok (.aload_n 0, 1) := by decide +kernel
theorem dX7_endOfFlow_4 : decode cX7_endOfFlow 4 = .ok (.getfield 47, 3) := by decide +kernel
theorem dX7_endOfFlow_7 : decode cX7_endOfFlow 7 = .ok (.getfield 194, 3) := by decide +kernel
theorem dX7_endOfFlow_10 : decode cX7_endOfFlow 10 = .ok (.if_icmp .ge 65, 3) := by decide +kernel
theorem dX7_endOfFlow_13 : decode cX7_endOfFlow 13 = .ok (.aload_n 0, 1) := by decide +kernel
theorem dX7_endOfFlow_14 : decode cX7_endOfFlow 14 = .ok (.getfield 47, 3) := by decide +kernel
theorem dX7_endOfFlow_17 : decode cX7_endOfFlow 17 = .ok (.getfield 207, 3) := by decide +kernel
theorem dX7_endOfFlow_20 : decode cX7_endOfFlow 20 = .ok (.iload_n 3, 1) := by decide +kernel
theorem dX7_endOfFlow_21 : decode cX7_endOfFlow 21 = .ok (.iaload, 1) := by decide +kernel
theorem dX7_endOfFlow_22 : decode cX7_endOfFlow 22 = .ok (.istore 4, 2) := by decide +kernel
theorem dX7_endOfFlow_24 : decode cX7_endOfFlow 24 = .ok (.aload_n 0, 1) := by decide +kernel
theorem dX7_endOfFlow_25 : decode cX7_endOfFlow 25 = .ok (.getfield 10, 3) := by decide +kernel
theorem dX7_endOfFlow_28 : decode cX7_endOfFlow 28 = .ok (.iload_n 1, 1) := by decide +kernel
theorem dX7_endOfFlow_29 : decode cX7_endOfFlow 29 = .ok (.iload 4, 2) := by decide +kernel
theorem dX7_endOfFlow_31 : decode cX7_endOfFlow 31 = .ok (.iconst 1, 1) := by decide +kernel
theorem dX7_endOfFlow_32 : decode cX7_endOfFlow 32 = .ok (.invokevirtual 110, 3) := by decide +kernel
theorem dX7_endOfFlow_35 : decode cX7_endOfFlow 35 = .ok (.ifCond .ne 6, 3) := by decide +kernel
theorem dX7_endOfFlow_38 : decode cX7_endOfFlow 38 = .ok (.ldc 155, 2) := by decide +kernel
theorem dX7_endOfFlow_40 : decode cX7_endOfFlow 40 = .ok (.ireturn, 1) := by decide +kernel
theorem dX7_endOfFlow_41 : decode cX7_endOfFlow 41 = .ok (.aload_n 0, 1) := by decide +kernel
theorem dX7_endOfFlow_42 : decode cX7_endOfFlow 42 = .ok (.getfield 47, 3) := by decide +kernel
theorem dX7_endOfFlow_45 : decode cX7_endOfFlow 45 = .ok (.iload 4, 2) := by decide +kernel
theorem dX7_endOfFlow_47 : decode cX7_endOfFlow 47 = .ok (.aload_n 0, 1) := by decide +kernel
theorem dX7_endOfFlow_48 : decode cX7_endOfFlow 48 = .ok (.getfield 10, 3) := by decide +kernel
theorem dX7_endOfFlow_51 : decode cX7_endOfFlow 51 = .ok (.iload_n 1, 1) := by decide +kernel
theorem dX7_endOfFlow_52 : decode cX7_endOfFlow 52 = .ok (.iload 4, 2) := by decide +kernel
theorem dX7_endOfFlow_54 : decode cX7_endOfFlow 54 = .ok (.invokevirtual 188, 3) := by decide +kernel
theorem dX7_endOfFlow_57 : decode cX7_endOfFlow 57 = .ok (.i2l, 1) := by decide +kernel
theorem dX7_endOfFlow_58 : decode cX7_endOfFlow 58 = .ok (.iload_n 2, 1) := by decide +kernel
theorem dX7_endOfFlow_59 : decode cX7_endOfFlow 59 = .ok (.i2l, 1) := by decide +kernel
theorem dX7_endOfFlow_60 : decode cX7_endOfFlow 60 = .ok (.ladd, 1) := by decide +kernel
theorem dX7_endOfFlow_61 : decode cX7_endOfFlow 61 = .ok (.invokevirtual 260, 3) := by decide +kernel
theorem dX7_endOfFlow_64 : decode cX7_endOfFlow 64 = .ok (.ifCond .ne 5, 3) := by decide +kernel
theorem dX7_endOfFlow_67 : decode cX7_endOfFlow 67 = .ok (.iload_n 3, 1) := by decide +kernel
theorem dX7_endOfFlow_68 : decode cX7_endOfFlow 68 = .ok (.ireturn, 1) := by decide +kernel
theorem dX7_endOfFlow_69 : decode cX7_endOfFlow 69 = .ok (.iinc 3 1, 3) := by decide +kernel
theorem dX7_endOfFlow_72 : decode cX7_endOfFlow 72 = .ok (.goto (-70), 3) := by decide +kernel
theorem dX7_endOfFlow_75 : decode cX7_endOfFlow 75 = .ok (.aload_n 0, 1) := by decide +kernel
theorem dX7_endOfFlow_76 : decode cX7_endOfFlow 76 = .ok (.getfield 47, 3) := by decide +kernel
theorem dX7_endOfFlow_79 : decode cX7_endOfFlow 79 = .ok (.getfield 194, 3) := by decide +kernel
theorem dX7_endOfFlow_82 : decode cX7_endOfFlow 82 = .ok (.ireturn, 1) := by decide +kernel
theorem dX7_told_0 : decode cX7_told 0 = .ok (.iload_n 1, 1) := by decide +kernel
theorem dX7_told_1 : decode cX7_told 1 = .ok (.aload_n 0, 1) := by decide +kernel
theorem dX7_told_2 : decode cX7_told 2 = .ok (.getfield 76, 3) := by decide +kernel
theorem dX7_told_5 : decode cX7_told 5 = .ok (.getfield 232, 3) := by decide +kernel
theorem dX7_told_8 : decode cX7_told 8 = .ok (.invokestatic 90, 3) := by decide +kernel
theorem dX7_told_11 : decode cX7_told 11 = .ok (.ifCond .eq 12, 3) := by decide +kernel
theorem dX7_told_14 : decode cX7_told 14 = .ok (.iload_n 2, 1) := by decide +kernel
theorem dX7_told_15 : decode cX7_told 15 = .ok (.bipush 6, 2) := by decide +kernel
theorem dX7_told_17 : decode cX7_told 17 = .ok (.invokestatic 90, 3) := by decide +kernel
theorem dX7_told_20 : decode cX7_told 20 = .ok (.ifCond .ne 6, 3) := by decide +kernel
theorem dX7_told_23 : decode cX7_told 23 = .ok (.ldc 94, 2) := by decide +kernel
theorem dX7_told_25 : decode cX7_told 25 = .ok (.ireturn, 1) := by decide +kernel
theorem dX7_told_26 : decode cX7_told 26 = .ok (.aload_n 0, 1) := by decide +kernel
theorem dX7_told_27 : decode cX7_told 27 = .ok (.getfield 76, 3) := by decide +kernel
theorem dX7_told_30 : decode cX7_told 30 = .ok (.iload_n 1, 1) := by decide +kernel
theorem dX7_told_31 : decode cX7_told 31 = .ok (.iload_n 2, 1) := by decide +kernel
theorem dX7_told_32 : decode cX7_told 32 = .ok (.invokevirtual 264, 3) := by decide +kernel
theorem dX7_told_35 : decode cX7_told 35 = .ok (.ireturn, 1) := by decide +kernel
theorem dX7_share_0 : decode cX7_share 0 = .ok (.iload_n 1, 1) := by decide +kernel
theorem dX7_share_1 : decode cX7_share 1 = .ok (.aload_n 0, 1) := by decide +kernel
theorem dX7_share_2 : decode cX7_share 2 = .ok (.getfield 47, 3) := by decide +kernel
theorem dX7_share_5 : decode cX7_share 5 = .ok (.getfield 194, 3) := by decide +kernel
theorem dX7_share_8 : decode cX7_share 8 = .ok (.invokestatic 90, 3) := by decide +kernel
theorem dX7_share_11 : decode cX7_share 11 = .ok (.ifCond .eq 13, 3) := by decide +kernel
theorem dX7_share_14 : decode cX7_share 14 = .ok (.iload_n 2, 1) := by decide +kernel
theorem dX7_share_15 : decode cX7_share 15 = .ok (.ifCond .lt 9, 3) := by decide +kernel
theorem dX7_share_18 : decode cX7_share 18 = .ok (.iload_n 2, 1) := by decide +kernel
theorem dX7_share_19 : decode cX7_share 19 = .ok (.bipush 10, 2) := by decide +kernel
theorem dX7_share_21 : decode cX7_share 21 = .ok (.if_icmp .le 6, 3) := by decide +kernel
theorem dX7_share_24 : decode cX7_share 24 = .ok (.ldc 94, 2) := by decide +kernel
theorem dX7_share_26 : decode cX7_share 26 = .ok (.ireturn, 1) := by decide +kernel
theorem dX7_share_27 : decode cX7_share 27 = .ok (.aload_n 0, 1) := by decide +kernel
theorem dX7_share_28 : decode cX7_share 28 = .ok (.getfield 47, 3) := by decide +kernel
theorem dX7_share_31 : decode cX7_share 31 = .ok (.getfield 267, 3) := by decide +kernel
theorem dX7_share_34 : decode cX7_share 34 = .ok (.iload_n 1, 1) := by decide +kernel
theorem dX7_share_35 : decode cX7_share 35 = .ok (.iaload, 1) := by decide +kernel
theorem dX7_share_36 : decode cX7_share 36 = .ok (.istore_n 3, 1) := by decide +kernel
theorem dX7_share_37 : decode cX7_share 37 = .ok (.aload_n 0, 1) := by decide +kernel
theorem dX7_share_38 : decode cX7_share 38 = .ok (.getfield 47, 3) := by decide +kernel
theorem dX7_share_41 : decode cX7_share 41 = .ok (.getfield 267, 3) := by decide +kernel
theorem dX7_share_44 : decode cX7_share 44 = .ok (.iload_n 1, 1) := by decide +kernel
theorem dX7_share_45 : decode cX7_share 45 = .ok (.iload_n 2, 1) := by decide +kernel
theorem dX7_share_46 : decode cX7_share 46 = .ok (.iastore, 1) := by decide +kernel
theorem dX7_share_47 : decode cX7_share 47 = .ok (.iload_n 3, 1) := by decide +kernel
theorem dX7_share_48 : decode cX7_share 48 = .ok (.ireturn, 1) := by decide +kernel
theorem dX7_mean_0 : decode cX7_mean 0 = .ok (.aload_n 0, 1) := by decide +kernel
theorem dX7_mean_1 : decode cX7_mean 1 = .ok (.getfield 47, 3) := by decide +kernel
theorem dX7_mean_4 : decode cX7_mean 4 = .ok (.invokevirtual 270, 3) := by decide +kernel
theorem dX7_mean_7 : decode cX7_mean 7 = .ok (.lreturn, 1) := by decide +kernel
theorem dX7_order_0 : decode cX7_order 0 = .ok (.aload_n 0, 1) := by decide +kernel
theorem dX7_order_1 : decode cX7_order 1 = .ok (.getfield 47, 3) := by decide +kernel
theorem dX7_order_4 : decode cX7_order 4 = .ok (.invokevirtual 274, 3) := by decide +kernel
theorem dX7_order_7 : decode cX7_order 7 = .ok (.aload_n 0, 1) := by decide +kernel
theorem dX7_order_8 : decode cX7_order 8 = .ok (.getfield 47, 3) := by decide +kernel
theorem dX7_order_11 : decode cX7_order 11 = .ok (.invokevirtual 270, 3) := by decide +kernel
theorem dX7_order_14 : decode cX7_order 14 = .ok (.lreturn, 1) := by decide +kernel
theorem dX7_edge_0 : decode cX7_edge 0 = .ok (.iload_n 1, 1) := by decide +kernel
theorem dX7_edge_1 : decode cX7_edge 1 = .ok (.bipush 8, 2) := by decide +kernel
theorem dX7_edge_3 : decode cX7_edge 3 = .ok (.invokestatic 90, 3) := by decide +kernel
theorem dX7_edge_6 : decode cX7_edge 6 = .ok (.ifCond .eq 23, 3) := by decide +kernel
theorem dX7_edge_9 : decode cX7_edge 9 = .ok (.iload_n 3, 1) := by decide +kernel
theorem dX7_edge_10 : decode cX7_edge 10 = .ok (.iconst 1, 1) := by decide +kernel
theorem dX7_edge_11 : decode cX7_edge 11 = .ok (.if_icmp .lt 18, 3) := by decide +kernel
theorem dX7_edge_14 : decode cX7_edge 14 = .ok (.iload_n 3, 1) := by decide +kernel
theorem dX7_edge_15 : decode cX7_edge 15 = .ok (.bipush 60, 2) := by decide +kernel
theorem dX7_edge_17 : decode cX7_edge 17 = .ok (.if_icmp .gt 12, 3) := by decide +kernel
theorem dX7_edge_20 : decode cX7_edge 20 = .ok (.iload 4, 2) := by decide +kernel
theorem dX7_edge_22 : decode cX7_edge 22 = .ok (.iconst 3, 1) := by decide +kernel
theorem dX7_edge_23 : decode cX7_edge 23 = .ok (.invokestatic 90, 3) := by decide +kernel
theorem dX7_edge_26 : decode cX7_edge 26 = .ok (.ifCond .ne 6, 3) := by decide +kernel
theorem dX7_edge_29 : decode cX7_edge 29 = .ok (.ldc 94, 2) := by decide +kernel
theorem dX7_edge_31 : decode cX7_edge 31 = .ok (.ireturn, 1) := by decide +kernel
theorem dX7_edge_32 : decode cX7_edge 32 = .ok (.aload_n 0, 1) := by decide +kernel
theorem dX7_edge_33 : decode cX7_edge 33 = .ok (.getfield 10, 3) := by decide +kernel
theorem dX7_edge_36 : decode cX7_edge 36 = .ok (.iload_n 1, 1) := by decide +kernel
theorem dX7_edge_37 : decode cX7_edge 37 = .ok (.invokevirtual 106, 3) := by decide +kernel
theorem dX7_edge_40 : decode cX7_edge 40 = .ok (.ifCond .eq 9, 3) := by decide +kernel
theorem dX7_edge_43 : decode cX7_edge 43 = .ok (.aload_n 0, 1) := by decide +kernel
theorem dX7_edge_44 : decode cX7_edge 44 = .ok (.iconst 1, 1) := by decide +kernel
theorem dX7_edge_45 : decode cX7_edge 45 = .ok (.invokevirtual 95, 3) := by decide +kernel
theorem dX7_edge_48 : decode cX7_edge 48 = .ok (.ireturn, 1) := by decide +kernel
theorem dX7_edge_49 : decode cX7_edge 49 = .ok (.aload_n 0, 1) := by decide +kernel
theorem dX7_edge_50 : decode cX7_edge 50 = .ok (.getfield 10, 3) := by decide +kernel
theorem dX7_edge_53 : decode cX7_edge 53 = .ok (.iload_n 1, 1) := by decide +kernel
theorem dX7_edge_54 : decode cX7_edge 54 = .ok (.iload_n 2, 1) := by decide +kernel
theorem dX7_edge_55 : decode cX7_edge 55 = .ok (.iload_n 3, 1) := by decide +kernel
theorem dX7_edge_56 : decode cX7_edge 56 = .ok (.invokevirtual 110, 3) := by decide +kernel
theorem dX7_edge_59 : decode cX7_edge 59 = .ok (.ifCond .ne 9, 3) := by decide +kernel
theorem dX7_edge_62 : decode cX7_edge 62 = .ok (.aload_n 0, 1) := by decide +kernel
theorem dX7_edge_63 : decode cX7_edge 63 = .ok (.iconst 2, 1) := by decide +kernel
theorem dX7_edge_64 : decode cX7_edge 64 = .ok (.invokevirtual 95, 3) := by decide +kernel
theorem dX7_edge_67 : decode cX7_edge 67 = .ok (.ireturn, 1) := by decide +kernel
theorem dX7_edge_68 : decode cX7_edge 68 = .ok (.iload_n 2, 1) := by decide +kernel
theorem dX7_edge_69 : decode cX7_edge 69 = .ok (.istore 5, 2) := by decide +kernel
theorem dX7_edge_71 : decode cX7_edge 71 = .ok (.iload_n 2, 1) := by decide +kernel
theorem dX7_edge_72 : decode cX7_edge 72 = .ok (.iload_n 3, 1) := by decide +kernel
theorem dX7_edge_73 : decode cX7_edge 73 = .ok (.iadd, 1) := by decide +kernel
theorem dX7_edge_74 : decode cX7_edge 74 = .ok (.istore 6, 2) := by decide +kernel
theorem dX7_edge_76 : decode cX7_edge 76 = .ok (.iconst 0, 1) := by decide +kernel
theorem dX7_edge_77 : decode cX7_edge 77 = .ok (.istore 7, 2) := by decide +kernel
theorem dX7_edge_79 : decode cX7_edge 79 = .ok (.iload 5, 2) := by decide +kernel
theorem dX7_edge_81 : decode cX7_edge 81 = .ok (.iload 6, 2) := by decide +kernel
theorem dX7_edge_83 : decode cX7_edge 83 = .ok (.if_icmp .ge 51, 3) := by decide +kernel
theorem dX7_edge_86 : decode cX7_edge 86 = .ok (.iload 7, 2) := by decide +kernel
theorem dX7_edge_88 : decode cX7_edge 88 = .ok (.bipush 60, 2) := by decide +kernel
theorem dX7_edge_90 : decode cX7_edge 90 = .ok (.if_icmp .ge 44, 3) := by decide +kernel
theorem dX7_edge_93 : decode cX7_edge 93 = .ok (.iload 5, 2) := by decide +kernel
theorem dX7_edge_95 : decode cX7_edge 95 = .ok (.iload 6, 2) := by decide +kernel
theorem dX7_edge_97 : decode cX7_edge 97 = .ok (.iadd, 1) := by decide +kernel
theorem dX7_edge_98 : decode cX7_edge 98 = .ok (.iconst 2, 1) := by decide +kernel
theorem dX7_edge_99 : decode cX7_edge 99 = .ok (.idiv, 1) := by decide +kernel
theorem dX7_edge_100 : decode cX7_edge 100 = .ok (.istore 8, 2) := by decide +kernel
theorem dX7_edge_102 : decode cX7_edge 102 = .ok (.iinc 7 1, 3) := by decide +kernel
theorem dX7_edge_105 : decode cX7_edge 105 = .ok (.aload_n 0, 1) := by decide +kernel
theorem dX7_edge_106 : decode cX7_edge 106 = .ok (.getfield 10, 3) := by decide +kernel
theorem dX7_edge_109 : decode cX7_edge 109 = .ok (.iload_n 1, 1) := by decide +kernel
theorem dX7_edge_110 : decode cX7_edge 110 = .ok (.iload 8, 2) := by decide +kernel
theorem dX7_edge_112 : decode cX7_edge 112 = .ok (.invokevirtual 188, 3) := by decide +kernel
theorem dX7_edge_115 : decode cX7_edge 115 = .ok (.ifCond .eq 10, 3) := by decide +kernel
theorem dX7_edge_118 : decode cX7_edge 118 = .ok (.iload 8, 2) := by decide +kernel
theorem dX7_edge_120 : decode cX7_edge 120 = .ok (.istore 6, 2) := by decide +kernel
theorem dX7_edge_122 : decode cX7_edge 122 = .ok (.goto 9, 3) := by decide +kernel
theorem dX7_edge_125 : decode cX7_edge 125 = .ok (.iload 8, 2) := by decide +kernel
theorem dX7_edge_127 : decode cX7_edge 127 = .ok (.iconst 1, 1) := by decide +kernel
theorem dX7_edge_128 : decode cX7_edge 128 = .ok (.iadd, 1) := by decide +kernel
theorem dX7_edge_129 : decode cX7_edge 129 = .ok (.istore 5, 2) := by decide +kernel
theorem dX7_edge_131 : decode cX7_edge 131 = .ok (.goto (-52), 3) := by decide +kernel
theorem dX7_edge_134 : decode cX7_edge 134 = .ok (.iload 4, 2) := by decide +kernel
theorem dX7_edge_136 : decode cX7_edge 136 = .ok (.iconst 2, 1) := by decide +kernel
theorem dX7_edge_137 : decode cX7_edge 137 = .ok (.if_icmp .ne 27, 3) := by decide +kernel
theorem dX7_edge_140 : decode cX7_edge 140 = .ok (.aload_n 0, 1) := by decide +kernel
theorem dX7_edge_141 : decode cX7_edge 141 = .ok (.aload_n 0, 1) := by decide +kernel
theorem dX7_edge_142 : decode cX7_edge 142 = .ok (.iload_n 1, 1) := by decide +kernel
theorem dX7_edge_143 : decode cX7_edge 143 = .ok (.iload_n 2, 1) := by decide +kernel
theorem dX7_edge_144 : decode cX7_edge 144 = .ok (.iload 5, 2) := by decide +kernel
theorem dX7_edge_146 : decode cX7_edge 146 = .ok (.iload_n 2, 1) := by decide +kernel
theorem dX7_edge_147 : decode cX7_edge 147 = .ok (.iload_n 3, 1) := by decide +kernel
theorem dX7_edge_148 : decode cX7_edge 148 = .ok (.iadd, 1) := by decide +kernel
theorem dX7_edge_149 : decode cX7_edge 149 = .ok (.invokevirtual 277, 3) := by decide +kernel
theorem dX7_edge_152 : decode cX7_edge 152 = .ok (.ifCond .eq 7, 3) := by decide +kernel
theorem dX7_edge_155 : decode cX7_edge 155 = .ok (.iconst 1, 1) := by decide +kernel
theorem dX7_edge_156 : decode cX7_edge 156 = .ok (.goto 4, 3) := by decide +kernel
theorem dX7_edge_159 : decode cX7_edge 159 = .ok (.iconst 0, 1) := by decide +kernel
theorem dX7_edge_160 : decode cX7_edge 160 = .ok (.invokevirtual 103, 3) := by decide +kernel
theorem dX7_edge_163 : decode cX7_edge 163 = .ok (.ireturn, 1) := by decide +kernel
theorem dX7_edge_164 : decode cX7_edge 164 = .ok (.aload_n 0, 1) := by decide +kernel
theorem dX7_edge_165 : decode cX7_edge 165 = .ok (.iload 4, 2) := by decide +kernel
theorem dX7_edge_167 : decode cX7_edge 167 = .ok (.iconst 1, 1) := by decide +kernel
theorem dX7_edge_168 : decode cX7_edge 168 = .ok (.if_icmp .ne 8, 3) := by decide +kernel
theorem dX7_edge_171 : decode cX7_edge 171 = .ok (.iload 7, 2) := by decide +kernel
theorem dX7_edge_173 : decode cX7_edge 173 = .ok (.goto 7, 3) := by decide +kernel
theorem dX7_edge_176 : decode cX7_edge 176 = .ok (.iload 5, 2) := by decide +kernel
theorem dX7_edge_178 : decode cX7_edge 178 = .ok (.iload_n 2, 1) := by decide +kernel
theorem dX7_edge_179 : decode cX7_edge 179 = .ok (.isub, 1) := by decide +kernel
theorem dX7_edge_180 : decode cX7_edge 180 = .ok (.invokevirtual 103, 3) := by decide +kernel
theorem dX7_edge_183 : decode cX7_edge 183 = .ok (.ireturn, 1) := by decide +kernel
theorem dX7_isEdge_0 : decode cX7_isEdge 0 = .ok (.iload_n 2, 1) := by decide +kernel
theorem dX7_isEdge_1 : decode cX7_isEdge 1 = .ok (.istore 5, 2) := by decide +kernel
theorem dX7_isEdge_3 : decode cX7_isEdge 3 = .ok (.iload 5, 2) := by decide +kernel
theorem dX7_isEdge_5 : decode cX7_isEdge 5 = .ok (.iload 4, 2) := by decide +kernel
theorem dX7_isEdge_7 : decode cX7_isEdge 7 = .ok (.if_icmp .ge 43, 3) := by decide +kernel
theorem dX7_isEdge_10 : decode cX7_isEdge 10 = .ok (.aload_n 0, 1) := by decide +kernel
theorem dX7_isEdge_11 : decode cX7_isEdge 11 = .ok (.getfield 10, 3) := by decide +kernel
theorem dX7_isEdge_14 : decode cX7_isEdge 14 = .ok (.iload_n 1, 1) := by decide +kernel
theorem dX7_isEdge_15 : decode cX7_isEdge 15 = .ok (.iload 5, 2) := by decide +kernel
theorem dX7_isEdge_17 : decode cX7_isEdge 17 = .ok (.invokevirtual 188, 3) := by decide +kernel
theorem dX7_isEdge_20 : decode cX7_isEdge 20 = .ok (.ifCond .eq 7, 3) := by decide +kernel
theorem dX7_isEdge_23 : decode cX7_isEdge 23 = .ok (.iconst 1, 1) := by decide +kernel
theorem dX7_isEdge_24 : decode cX7_isEdge 24 = .ok (.goto 4, 3) := by decide +kernel
theorem dX7_isEdge_27 : decode cX7_isEdge 27 = .ok (.iconst 0, 1) := by decide +kernel
theorem dX7_isEdge_28 : decode cX7_isEdge 28 = .ok (.iload 5, 2) := by decide +kernel
theorem dX7_isEdge_30 : decode cX7_isEdge 30 = .ok (.iload_n 3, 1) := by decide +kernel
theorem dX7_isEdge_31 : decode cX7_isEdge 31 = .ok (.if_icmp .lt 7, 3) := by decide +kernel
theorem dX7_isEdge_34 : decode cX7_isEdge 34 = .ok (.iconst 1, 1) := by decide +kernel
theorem dX7_isEdge_35 : decode cX7_isEdge 35 = .ok (.goto 4, 3) := by decide +kernel
theorem dX7_isEdge_38 : decode cX7_isEdge 38 = .ok (.iconst 0, 1) := by decide +kernel
theorem dX7_isEdge_39 : decode cX7_isEdge 39 = .ok (.if_icmp .eq 5, 3) := by decide +kernel
theorem dX7_isEdge_42 : decode cX7_isEdge 42 = .ok (.iconst 0, 1) := by decide +kernel
theorem dX7_isEdge_43 : decode cX7_isEdge 43 = .ok (.ireturn, 1) := by decide +kernel
theorem dX7_isEdge_44 : decode cX7_isEdge 44 = .ok (.iinc 5 1, 3) := by decide +kernel
theorem dX7_isEdge_47 : decode cX7_isEdge 47 = .ok (.goto (-44), 3) := by decide +kernel
theorem dX7_isEdge_50 : decode cX7_isEdge 50 = .ok (.iconst 1, 1) := by decide +kernel
theorem dX7_isEdge_51 : decode cX7_isEdge 51 = .ok (.ireturn, 1) := by decide +kernel
theorem dX7_die_0 : decode cX7_die 0 = .ok (.iload_n 1, 1) := by decide +kernel
theorem dX7_die_1 : decode cX7_die 1 = .ok (.iconst 2, 1) := by decide +kernel
theorem dX7_die_2 : decode cX7_die 2 = .ok (.invokestatic 90, 3) := by decide +kernel
theorem dX7_die_5 : decode cX7_die 5 = .ok (.ifCond .eq 28, 3) := by decide +kernel
theorem dX7_die_8 : decode cX7_die 8 = .ok (.iload_n 2, 1) := by decide +kernel
theorem dX7_die_9 : decode cX7_die 9 = .ok (.iload_n 3, 1) := by decide +kernel
theorem dX7_die_10 : decode cX7_die 10 = .ok (.invokestatic 281, 3) := by decide +kernel
theorem dX7_die_13 : decode cX7_die 13 = .ok (.ifCond .eq 20, 3) := by decide +kernel
theorem dX7_die_16 : decode cX7_die 16 = .ok (.iload 4, 2) := by decide +kernel
theorem dX7_die_18 : decode cX7_die 18 = .ok (.bipush 16, 2) := by decide +kernel
theorem dX7_die_20 : decode cX7_die 20 = .ok (.invokestatic 90, 3) := by decide +kernel
theorem dX7_die_23 : decode cX7_die 23 = .ok (.ifCond .ne 13, 3) := by decide +kernel
theorem dX7_die_26 : decode cX7_die 26 = .ok (.iload 4, 2) := by decide +kernel
theorem dX7_die_28 : decode cX7_die 28 = .ok (.ldc 155, 2) := by decide +kernel
theorem dX7_die_30 : decode cX7_die 30 = .ok (.if_icmp .eq 6, 3) := by decide +kernel
theorem dX7_die_33 : decode cX7_die 33 = .ok (.ldc 94, 2) := by decide +kernel
theorem dX7_die_35 : decode cX7_die 35 = .ok (.ireturn, 1) := by decide +kernel
theorem dX7_die_36 : decode cX7_die 36 = .ok (.aload_n 0, 1) := by decide +kernel
theorem dX7_die_37 : decode cX7_die 37 = .ok (.iload_n 1, 1) := by decide +kernel
theorem dX7_die_38 : decode cX7_die 38 = .ok (.invokevirtual 284, 3) := by decide +kernel
theorem dX7_die_41 : decode cX7_die 41 = .ok (.iload_n 2, 1) := by decide +kernel
theorem dX7_die_42 : decode cX7_die 42 = .ok (.iload_n 3, 1) := by decide +kernel
theorem dX7_die_43 : decode cX7_die 43 = .ok (.iload 4, 2) := by decide +kernel
theorem dX7_die_45 : decode cX7_die 45 = .ok (.invokevirtual 288, 3) := by decide +kernel
theorem dX7_die_48 : decode cX7_die 48 = .ok (.ireturn, 1) := by decide +kernel
theorem dX7_odd_0 : decode cX7_odd 0 = .ok (.iload_n 1, 1) := by decide +kernel
theorem dX7_odd_1 : decode cX7_odd 1 = .ok (.iconst 2, 1) := by decide +kernel
theorem dX7_odd_2 : decode cX7_odd 2 = .ok (.invokestatic 90, 3) := by decide +kernel
theorem dX7_odd_5 : decode cX7_odd 5 = .ok (.ifCond .eq 14, 3) := by decide +kernel
theorem dX7_odd_8 : decode cX7_odd 8 = .ok (.iload_n 2, 1) := by decide +kernel
theorem dX7_odd_9 : decode cX7_odd 9 = .ok (.iconst 1, 1) := by decide +kernel
theorem dX7_odd_10 : decode cX7_odd 10 = .ok (.if_icmp .lt 9, 3) := by decide +kernel
theorem dX7_odd_13 : decode cX7_odd 13 = .ok (.iload_n 2, 1) := by decide +kernel
theorem dX7_odd_14 : decode cX7_odd 14 = .ok (.bipush 8, 2) := by decide +kernel
theorem dX7_odd_16 : decode cX7_odd 16 = .ok (.if_icmp .le 6, 3) := by decide +kernel
theorem dX7_odd_19 : decode cX7_odd 19 = .ok (.ldc 94, 2) := by decide +kernel
theorem dX7_odd_21 : decode cX7_odd 21 = .ok (.ireturn, 1) := by decide +kernel
theorem dX7_odd_22 : decode cX7_odd 22 = .ok (.iload_n 3, 1) := by decide +kernel
theorem dX7_odd_23 : decode cX7_odd 23 = .ok (.ldc 155, 2) := by decide +kernel
theorem dX7_odd_25 : decode cX7_odd 25 = .ok (.if_icmp .ne 15, 3) := by decide +kernel
theorem dX7_odd_28 : decode cX7_odd 28 = .ok (.aload_n 0, 1) := by decide +kernel
theorem dX7_odd_29 : decode cX7_odd 29 = .ok (.iload_n 1, 1) := by decide +kernel
theorem dX7_odd_30 : decode cX7_odd 30 = .ok (.invokevirtual 284, 3) := by decide +kernel
theorem dX7_odd_33 : decode cX7_odd 33 = .ok (.iload_n 2, 1) := by decide +kernel
theorem dX7_odd_34 : decode cX7_odd 34 = .ok (.invokevirtual 289, 3) := by decide +kernel
theorem dX7_odd_37 : decode cX7_odd 37 = .ok (.goto 13, 3) := by decide +kernel
theorem dX7_odd_40 : decode cX7_odd 40 = .ok (.aload_n 0, 1) := by decide +kernel
theorem dX7_odd_41 : decode cX7_odd 41 = .ok (.iload_n 1, 1) := by decide +kernel
theorem dX7_odd_42 : decode cX7_odd 42 = .ok (.invokevirtual 284, 3) := by decide +kernel
theorem dX7_odd_45 : decode cX7_odd 45 = .ok (.iload_n 2, 1) := by decide +kernel
theorem dX7_odd_46 : decode cX7_odd 46 = .ok (.iload_n 3, 1) := by decide +kernel
theorem dX7_odd_47 : decode cX7_odd 47 = .ok (.invokevirtual 292, 3) := by decide +kernel
theorem dX7_odd_50 : decode cX7_odd 50 = .ok (.ireturn, 1) := by decide +kernel
theorem dX7_join_0 : decode cX7_join 0 = .ok (.iload_n 1, 1) := by decide +kernel
theorem dX7_join_1 : decode cX7_join 1 = .ok (.bipush (-3), 2) := by decide +kernel
theorem dX7_join_3 : decode cX7_join 3 = .ok (.if_icmp .lt 27, 3) := by decide +kernel
theorem dX7_join_6 : decode cX7_join 6 = .ok (.iload_n 1, 1) := by decide +kernel
theorem dX7_join_7 : decode cX7_join 7 = .ok (.iconst 3, 1) := by decide +kernel
theorem dX7_join_8 : decode cX7_join 8 = .ok (.if_icmp .gt 22, 3) := by decide +kernel
theorem dX7_join_11 : decode cX7_join 11 = .ok (.iload_n 2, 1) := by decide +kernel
theorem dX7_join_12 : decode cX7_join 12 = .ok (.bipush (-3), 2) := by decide +kernel
theorem dX7_join_14 : decode cX7_join 14 = .ok (.if_icmp .lt 16, 3) := by decide +kernel
theorem dX7_join_17 : decode cX7_join 17 = .ok (.iload_n 2, 1) := by decide +kernel
theorem dX7_join_18 : decode cX7_join 18 = .ok (.iconst 3, 1) := by decide +kernel
theorem dX7_join_19 : decode cX7_join 19 = .ok (.if_icmp .gt 11, 3) := by decide +kernel
theorem dX7_join_22 : decode cX7_join 22 = .ok (.iload_n 3, 1) := by decide +kernel
theorem dX7_join_23 : decode cX7_join 23 = .ok (.iconst 4, 1) := by decide +kernel
theorem dX7_join_24 : decode cX7_join 24 = .ok (.invokestatic 90, 3) := by decide +kernel
theorem dX7_join_27 : decode cX7_join 27 = .ok (.ifCond .ne 6, 3) := by decide +kernel
theorem dX7_join_30 : decode cX7_join 30 = .ok (.ldc 94, 2) := by decide +kernel
theorem dX7_join_32 : decode cX7_join 32 = .ok (.ireturn, 1) := by decide +kernel
theorem dX7_join_33 : decode cX7_join 33 = .ok (.iload_n 3, 1) := by decide +kernel
theorem dX7_join_34 : decode cX7_join 34 = .ok (.iconst 1, 1) := by decide +kernel
theorem dX7_join_35 : decode cX7_join 35 = .ok (.if_icmp .ne 10, 3) := by decide +kernel
theorem dX7_join_38 : decode cX7_join 38 = .ok (.aload_n 0, 1) := by decide +kernel
theorem dX7_join_39 : decode cX7_join 39 = .ok (.iload_n 1, 1) := by decide +kernel
theorem dX7_join_40 : decode cX7_join 40 = .ok (.iload_n 2, 1) := by decide +kernel
theorem dX7_join_41 : decode cX7_join 41 = .ok (.invokevirtual 295, 3) := by decide +kernel
theorem dX7_join_44 : decode cX7_join 44 = .ok (.ireturn, 1) := by decide +kernel
theorem dX7_join_45 : decode cX7_join 45 = .ok (.aload_n 0, 1) := by decide +kernel
theorem dX7_join_46 : decode cX7_join 46 = .ok (.iload_n 1, 1) := by decide +kernel
theorem dX7_join_47 : decode cX7_join 47 = .ok (.iload_n 2, 1) := by decide +kernel
theorem dX7_join_48 : decode cX7_join 48 = .ok (.invokevirtual 298, 3) := by decide +kernel
theorem dX7_join_51 : decode cX7_join 51 = .ok (.istore 4, 2) := by decide +kernel
theorem dX7_join_53 : decode cX7_join 53 = .ok (.iload_n 3, 1) := by decide +kernel
theorem dX7_join_54 : decode cX7_join 54 = .ok (.ifCond .ne 6, 3) := by decide +kernel
theorem dX7_join_57 : decode cX7_join 57 = .ok (.iload 4, 2) := by decide +kernel
theorem dX7_join_59 : decode cX7_join 59 = .ok (.ireturn, 1) := by decide +kernel
theorem dX7_join_60 : decode cX7_join 60 = .ok (.iload_n 3, 1) := by decide +kernel
theorem dX7_join_61 : decode cX7_join 61 = .ok (.iconst 2, 1) := by decide +kernel
theorem dX7_join_62 : decode cX7_join 62 = .ok (.if_icmp .ne 10, 3) := by decide +kernel
theorem dX7_join_65 : decode cX7_join 65 = .ok (.aload_n 0, 1) := by decide +kernel
theorem dX7_join_66 : decode cX7_join 66 = .ok (.getfield 83, 3) := by decide +kernel
theorem dX7_join_69 : decode cX7_join 69 = .ok (.goto 7, 3) := by decide +kernel
theorem dX7_join_72 : decode cX7_join 72 = .ok (.aload_n 0, 1) := by decide +kernel
theorem dX7_join_73 : decode cX7_join 73 = .ok (.getfield 87, 3) := by decide +kernel
theorem dX7_join_76 : decode cX7_join 76 = .ok (.invokevirtual 301, 3) := by decide +kernel
theorem dX7_join_79 : decode cX7_join 79 = .ok (.iload 4, 2) := by decide +kernel
theorem dX7_join_81 : decode cX7_join 81 = .ok (.isub, 1) := by decide +kernel
theorem dX7_join_82 : decode cX7_join 82 = .ok (.ireturn, 1) := by decide +kernel
theorem dX7_best_0 : decode cX7_best 0 = .ok (.iload_n 1, 1) := by decide +kernel
theorem dX7_best_1 : decode cX7_best 1 = .ok (.iconst 3, 1) := by decide +kernel
theorem dX7_best_2 : decode cX7_best 2 = .ok (.invokestatic 90, 3) := by decide +kernel
theorem dX7_best_5 : decode cX7_best 5 = .ok (.ifCond .ne 6, 3) := by decide +kernel
theorem dX7_best_8 : decode cX7_best 8 = .ok (.ldc 94, 2) := by decide +kernel
theorem dX7_best_10 : decode cX7_best 10 = .ok (.ireturn, 1) := by decide +kernel
theorem dX7_best_11 : decode cX7_best 11 = .ok (.ldc 155, 2) := by decide +kernel
theorem dX7_best_13 : decode cX7_best 13 = .ok (.istore_n 2, 1) := by decide +kernel
theorem dX7_best_14 : decode cX7_best 14 = .ok (.ldc 155, 2) := by decide +kernel
theorem dX7_best_16 : decode cX7_best 16 = .ok (.istore_n 3, 1) := by decide +kernel
theorem dX7_best_17 : decode cX7_best 17 = .ok (.iconst (-1), 1) := by decide +kernel
theorem dX7_best_18 : decode cX7_best 18 = .ok (.istore 4, 2) := by decide +kernel
theorem dX7_best_20 : decode cX7_best 20 = .ok (.iconst (-1), 1) := by decide +kernel
theorem dX7_best_21 : decode cX7_best 21 = .ok (.istore 5, 2) := by decide +kernel
theorem dX7_best_23 : decode cX7_best 23 = .ok (.bipush (-3), 2) := by decide +kernel
theorem dX7_best_25 : decode cX7_best 25 = .ok (.istore 6, 2) := by decide +kernel
theorem dX7_best_27 : decode cX7_best 27 = .ok (.iload 6, 2) := by decide +kernel
theorem dX7_best_29 : decode cX7_best 29 = .ok (.iconst 3, 1) := by decide +kernel
theorem dX7_best_30 : decode cX7_best 30 = .ok (.if_icmp .gt 80, 3) := by decide +kernel
theorem dX7_best_33 : decode cX7_best 33 = .ok (.bipush (-3), 2) := by decide +kernel
theorem dX7_best_35 : decode cX7_best 35 = .ok (.istore 7, 2) := by decide +kernel
theorem dX7_best_37 : decode cX7_best 37 = .ok (.iload 7, 2) := by decide +kernel
theorem dX7_best_39 : decode cX7_best 39 = .ok (.iconst 3, 1) := by decide +kernel
theorem dX7_best_40 : decode cX7_best 40 = .ok (.if_icmp .gt 64, 3) := by decide +kernel
theorem dX7_best_43 : decode cX7_best 43 = .ok (.aload_n 0, 1) := by decide +kernel
theorem dX7_best_44 : decode cX7_best 44 = .ok (.iload 6, 2) := by decide +kernel
theorem dX7_best_46 : decode cX7_best 46 = .ok (.iload 7, 2) := by decide +kernel
theorem dX7_best_48 : decode cX7_best 48 = .ok (.invokevirtual 295, 3) := by decide +kernel
theorem dX7_best_51 : decode cX7_best 51 = .ok (.istore 8, 2) := by decide +kernel
theorem dX7_best_53 : decode cX7_best 53 = .ok (.aload_n 0, 1) := by decide +kernel
theorem dX7_best_54 : decode cX7_best 54 = .ok (.iload 6, 2) := by decide +kernel
theorem dX7_best_56 : decode cX7_best 56 = .ok (.iload 7, 2) := by decide +kernel
theorem dX7_best_58 : decode cX7_best 58 = .ok (.invokevirtual 298, 3) := by decide +kernel
theorem dX7_best_61 : decode cX7_best 61 = .ok (.istore 9, 2) := by decide +kernel
theorem dX7_best_63 : decode cX7_best 63 = .ok (.iload 8, 2) := by decide +kernel
theorem dX7_best_65 : decode cX7_best 65 = .ok (.iload 4, 2) := by decide +kernel
theorem dX7_best_67 : decode cX7_best 67 = .ok (.if_icmp .gt 17, 3) := by decide +kernel
theorem dX7_best_70 : decode cX7_best 70 = .ok (.iload 8, 2) := by decide +kernel
theorem dX7_best_72 : decode cX7_best 72 = .ok (.iload 4, 2) := by decide +kernel
theorem dX7_best_74 : decode cX7_best 74 = .ok (.if_icmp .ne 24, 3) := by decide +kernel
theorem dX7_best_77 : decode cX7_best 77 = .ok (.iload 9, 2) := by decide +kernel
theorem dX7_best_79 : decode cX7_best 79 = .ok (.iload 5, 2) := by decide +kernel
theorem dX7_best_81 : decode cX7_best 81 = .ok (.if_icmp .ge 17, 3) := by decide +kernel
theorem dX7_best_84 : decode cX7_best 84 = .ok (.iload 6, 2) := by decide +kernel
theorem dX7_best_86 : decode cX7_best 86 = .ok (.istore_n 2, 1) := by decide +kernel
theorem dX7_best_87 : decode cX7_best 87 = .ok (.iload 7, 2) := by decide +kernel
theorem dX7_best_89 : decode cX7_best 89 = .ok (.istore_n 3, 1) := by decide +kernel
theorem dX7_best_90 : decode cX7_best 90 = .ok (.iload 8, 2) := by decide +kernel
theorem dX7_best_92 : decode cX7_best 92 = .ok (.istore 4, 2) := by decide +kernel
theorem dX7_best_94 : decode cX7_best 94 = .ok (.iload 9, 2) := by decide +kernel
theorem dX7_best_96 : decode cX7_best 96 = .ok (.istore 5, 2) := by decide +kernel
theorem dX7_best_98 : decode cX7_best 98 = .ok (.iinc 7 1, 3) := by decide +kernel
theorem dX7_best_101 : decode cX7_best 101 = .ok (.goto (-64), 3) := by decide +kernel
theorem dX7_best_104 : decode cX7_best 104 = .ok (.iinc 6 1, 3) := by decide +kernel
theorem dX7_best_107 : decode cX7_best 107 = .ok (.goto (-80), 3) := by decide +kernel
theorem dX7_best_110 : decode cX7_best 110 = .ok (.iload_n 1, 1) := by decide +kernel
theorem dX7_best_111 : decode cX7_best 111 = .ok (.iconst 2, 1) := by decide +kernel
theorem dX7_best_112 : decode cX7_best 112 = .ok (.if_icmp .ne 6, 3) := by decide +kernel
theorem dX7_best_115 : decode cX7_best 115 = .ok (.iload 4, 2) := by decide +kernel
theorem dX7_best_117 : decode cX7_best 117 = .ok (.ireturn, 1) := by decide +kernel
theorem dX7_best_118 : decode cX7_best 118 = .ok (.iload_n 1, 1) := by decide +kernel
theorem dX7_best_119 : decode cX7_best 119 = .ok (.ifCond .ne 7, 3) := by decide +kernel
theorem dX7_best_122 : decode cX7_best 122 = .ok (.iload_n 2, 1) := by decide +kernel
theorem dX7_best_123 : decode cX7_best 123 = .ok (.goto 4, 3) := by decide +kernel
theorem dX7_best_126 : decode cX7_best 126 = .ok (.iload_n 3, 1) := by decide +kernel
theorem dX7_best_127 : decode cX7_best 127 = .ok (.ireturn, 1) := by decide +kernel
theorem dX7_twice_0 : decode cX7_twice 0 = .ok (.iconst 0, 1) := by decide +kernel
theorem dX7_twice_1 : decode cX7_twice 1 = .ok (.istore_n 3, 1) := by decide +kernel
theorem dX7_twice_2 : decode cX7_twice 2 = .ok (.iconst 0, 1) := by decide +kernel
theorem dX7_twice_3 : decode cX7_twice 3 = .ok (.istore 4, 2) := by decide +kernel
theorem dX7_twice_5 : decode cX7_twice 5 = .ok (.iload 4, 2) := by decide +kernel
theorem dX7_twice_7 : decode cX7_twice 7 = .ok (.bipush 12, 2) := by decide +kernel
theorem dX7_twice_9 : decode cX7_twice 9 = .ok (.if_icmp .ge 64, 3) := by decide +kernel
theorem dX7_twice_12 : decode cX7_twice 12 = .ok (.iconst 0, 1) := by decide +kernel
theorem dX7_twice_13 : decode cX7_twice 13 = .ok (.istore 5, 2) := by decide +kernel
theorem dX7_twice_15 : decode cX7_twice 15 = .ok (.iload 5, 2) := by decide +kernel
theorem dX7_twice_17 : decode cX7_twice 17 = .ok (.bipush 12, 2) := by decide +kernel
theorem dX7_twice_19 : decode cX7_twice 19 = .ok (.if_icmp .ge 48, 3) := by decide +kernel
theorem dX7_twice_22 : decode cX7_twice 22 = .ok (.aload_n 0, 1) := by decide +kernel
theorem dX7_twice_23 : decode cX7_twice 23 = .ok (.getfield 87, 3) := by decide +kernel
theorem dX7_twice_26 : decode cX7_twice 26 = .ok (.iload 5, 2) := by decide +kernel
theorem dX7_twice_28 : decode cX7_twice 28 = .ok (.iload 4, 2) := by decide +kernel
theorem dX7_twice_30 : decode cX7_twice 30 = .ok (.invokevirtual 304, 3) := by decide +kernel
theorem dX7_twice_33 : decode cX7_twice 33 = .ok (.ldc 155, 2) := by decide +kernel
theorem dX7_twice_35 : decode cX7_twice 35 = .ok (.if_icmp .eq 26, 3) := by decide +kernel
theorem dX7_twice_38 : decode cX7_twice 38 = .ok (.aload_n 0, 1) := by decide +kernel
theorem dX7_twice_39 : decode cX7_twice 39 = .ok (.getfield 83, 3) := by decide +kernel
theorem dX7_twice_42 : decode cX7_twice 42 = .ok (.iload 5, 2) := by decide +kernel
theorem dX7_twice_44 : decode cX7_twice 44 = .ok (.iload_n 1, 1) := by decide +kernel
theorem dX7_twice_45 : decode cX7_twice 45 = .ok (.iadd, 1) := by decide +kernel
theorem dX7_twice_46 : decode cX7_twice 46 = .ok (.iload 4, 2) := by decide +kernel
theorem dX7_twice_48 : decode cX7_twice 48 = .ok (.iload_n 2, 1) := by decide +kernel
theorem dX7_twice_49 : decode cX7_twice 49 = .ok (.iadd, 1) := by decide +kernel
theorem dX7_twice_50 : decode cX7_twice 50 = .ok (.invokevirtual 304, 3) := by decide +kernel
theorem dX7_twice_53 : decode cX7_twice 53 = .ok (.ldc 155, 2) := by decide +kernel
theorem dX7_twice_55 : decode cX7_twice 55 = .ok (.if_icmp .eq 6, 3) := by decide +kernel
theorem dX7_twice_58 : decode cX7_twice 58 = .ok (.iinc 3 1, 3) := by decide +kernel
theorem dX7_twice_61 : decode cX7_twice 61 = .ok (.iinc 5 1, 3) := by decide +kernel
theorem dX7_twice_64 : decode cX7_twice 64 = .ok (.goto (-49), 3) := by decide +kernel
theorem dX7_twice_67 : decode cX7_twice 67 = .ok (.iinc 4 1, 3) := by decide +kernel
theorem dX7_twice_70 : decode cX7_twice 70 = .ok (.goto (-65), 3) := by decide +kernel
theorem dX7_twice_73 : decode cX7_twice 73 = .ok (.iload_n 3, 1) := by decide +kernel
theorem dX7_twice_74 : decode cX7_twice 74 = .ok (.ireturn, 1) := by decide +kernel
theorem dX7_same_0 : decode cX7_same 0 = .ok (.iconst 0, 1) := by decide +kernel
theorem dX7_same_1 : decode cX7_same 1 = .ok (.istore_n 3, 1) := by decide +kernel
theorem dX7_same_2 : decode cX7_same 2 = .ok (.iconst 0, 1) := by decide +kernel
theorem dX7_same_3 : decode cX7_same 3 = .ok (.istore 4, 2) := by decide +kernel
theorem dX7_same_5 : decode cX7_same 5 = .ok (.iload 4, 2) := by decide +kernel
theorem dX7_same_7 : decode cX7_same 7 = .ok (.bipush 12, 2) := by decide +kernel
theorem dX7_same_9 : decode cX7_same 9 = .ok (.if_icmp .ge 68, 3) := by decide +kernel
theorem dX7_same_12 : decode cX7_same 12 = .ok (.iconst 0, 1) := by decide +kernel
theorem dX7_same_13 : decode cX7_same 13 = .ok (.istore 5, 2) := by decide +kernel
theorem dX7_same_15 : decode cX7_same 15 = .ok (.iload 5, 2) := by decide +kernel
theorem dX7_same_17 : decode cX7_same 17 = .ok (.bipush 12, 2) := by decide +kernel
theorem dX7_same_19 : decode cX7_same 19 = .ok (.if_icmp .ge 52, 3) := by decide +kernel
theorem dX7_same_22 : decode cX7_same 22 = .ok (.aload_n 0, 1) := by decide +kernel
theorem dX7_same_23 : decode cX7_same 23 = .ok (.getfield 87, 3) := by decide +kernel
theorem dX7_same_26 : decode cX7_same 26 = .ok (.iload 5, 2) := by decide +kernel
theorem dX7_same_28 : decode cX7_same 28 = .ok (.iload 4, 2) := by decide +kernel
theorem dX7_same_30 : decode cX7_same 30 = .ok (.invokevirtual 304, 3) := by decide +kernel
theorem dX7_same_33 : decode cX7_same 33 = .ok (.istore 6, 2) := by decide +kernel
theorem dX7_same_35 : decode cX7_same 35 = .ok (.iload 6, 2) := by decide +kernel
theorem dX7_same_37 : decode cX7_same 37 = .ok (.ldc 155, 2) := by decide +kernel
theorem dX7_same_39 : decode cX7_same 39 = .ok (.if_icmp .eq 26, 3) := by decide +kernel
theorem dX7_same_42 : decode cX7_same 42 = .ok (.aload_n 0, 1) := by decide +kernel
theorem dX7_same_43 : decode cX7_same 43 = .ok (.getfield 83, 3) := by decide +kernel
theorem dX7_same_46 : decode cX7_same 46 = .ok (.iload 5, 2) := by decide +kernel
theorem dX7_same_48 : decode cX7_same 48 = .ok (.iload_n 1, 1) := by decide +kernel
theorem dX7_same_49 : decode cX7_same 49 = .ok (.iadd, 1) := by decide +kernel
theorem dX7_same_50 : decode cX7_same 50 = .ok (.iload 4, 2) := by decide +kernel
theorem dX7_same_52 : decode cX7_same 52 = .ok (.iload_n 2, 1) := by decide +kernel
theorem dX7_same_53 : decode cX7_same 53 = .ok (.iadd, 1) := by decide +kernel
theorem dX7_same_54 : decode cX7_same 54 = .ok (.invokevirtual 304, 3) := by decide +kernel
theorem dX7_same_57 : decode cX7_same 57 = .ok (.iload 6, 2) := by decide +kernel
theorem dX7_same_59 : decode cX7_same 59 = .ok (.if_icmp .ne 6, 3) := by decide +kernel
theorem dX7_same_62 : decode cX7_same 62 = .ok (.iinc 3 1, 3) := by decide +kernel
theorem dX7_same_65 : decode cX7_same 65 = .ok (.iinc 5 1, 3) := by decide +kernel
theorem dX7_same_68 : decode cX7_same 68 = .ok (.goto (-53), 3) := by decide +kernel
theorem dX7_same_71 : decode cX7_same 71 = .ok (.iinc 4 1, 3) := by decide +kernel
theorem dX7_same_74 : decode cX7_same 74 = .ok (.goto (-69), 3) := by decide +kernel
theorem dX7_same_77 : decode cX7_same 77 = .ok (.iload_n 3, 1) := by decide +kernel
theorem dX7_same_78 : decode cX7_same 78 = .ok (.ireturn, 1) := by decide +kernel
theorem dX7_waferOf_0 : decode cX7_waferOf 0 = .ok (.iload_n 1, 1) := by decide +kernel
theorem dX7_waferOf_1 : decode cX7_waferOf 1 = .ok (.ifCond .ne 10, 3) := by decide +kernel
theorem dX7_waferOf_4 : decode cX7_waferOf 4 = .ok (.aload_n 0, 1) := by decide +kernel
theorem dX7_waferOf_5 : decode cX7_waferOf 5 = .ok (.getfield 83, 3) := by decide +kernel
theorem dX7_waferOf_8 : decode cX7_waferOf 8 = .ok (.goto 7, 3) := by decide +kernel
theorem dX7_waferOf_11 : decode cX7_waferOf 11 = .ok (.aload_n 0, 1) := by decide +kernel
theorem dX7_waferOf_12 : decode cX7_waferOf 12 = .ok (.getfield 87, 3) := by decide +kernel
theorem dX7_waferOf_15 : decode cX7_waferOf 15 = .ok (.areturn, 1) := by decide +kernel
theorem dX7_lot_0 : decode cX7_lot 0 = .ok (.aload_n 0, 1) := by decide +kernel
theorem dX7_lot_1 : decode cX7_lot 1 = .ok (.getfield 76, 3) := by decide +kernel
theorem dX7_lot_4 : decode cX7_lot 4 = .ok (.invokevirtual 307, 3) := by decide +kernel
theorem dX7_lot_7 : decode cX7_lot 7 = .ok (.istore_n 1, 1) := by decide +kernel
theorem dX7_lot_8 : decode cX7_lot 8 = .ok (.aload_n 0, 1) := by decide +kernel
theorem dX7_lot_9 : decode cX7_lot 9 = .ok (.getfield 76, 3) := by decide +kernel
theorem dX7_lot_12 : decode cX7_lot 12 = .ok (.aload_n 0, 1) := by decide +kernel
theorem dX7_lot_13 : decode cX7_lot 13 = .ok (.getfield 76, 3) := by decide +kernel
theorem dX7_lot_16 : decode cX7_lot 16 = .ok (.getfield 232, 3) := by decide +kernel
theorem dX7_lot_19 : decode cX7_lot 19 = .ok (.putfield 310, 3) := by decide +kernel
theorem dX7_lot_22 : decode cX7_lot 22 = .ok (.iload_n 1, 1) := by decide +kernel
theorem dX7_lot_23 : decode cX7_lot 23 = .ok (.ireturn, 1) := by decide +kernel
theorem dX7_bins_0 : decode cX7_bins 0 = .ok (.iload_n 1, 1) := by decide +kernel
theorem dX7_bins_1 : decode cX7_bins 1 = .ok (.bipush 16, 2) := by decide +kernel
theorem dX7_bins_3 : decode cX7_bins 3 = .ok (.invokestatic 90, 3) := by decide +kernel
theorem dX7_bins_6 : decode cX7_bins 6 = .ok (.ifCond .eq 14, 3) := by decide +kernel
theorem dX7_bins_9 : decode cX7_bins 9 = .ok (.aload_n 0, 1) := by decide +kernel
theorem dX7_bins_10 : decode cX7_bins 10 = .ok (.getfield 76, 3) := by decide +kernel
theorem dX7_bins_13 : decode cX7_bins 13 = .ok (.iload_n 1, 1) := by decide +kernel
theorem dX7_bins_14 : decode cX7_bins 14 = .ok (.invokevirtual 313, 3) := by decide +kernel
theorem dX7_bins_17 : decode cX7_bins 17 = .ok (.goto 5, 3) := by decide +kernel
theorem dX7_bins_20 : decode cX7_bins 20 = .ok (.ldc 94, 2) := by decide +kernel
theorem dX7_bins_22 : decode cX7_bins 22 = .ok (.ireturn, 1) := by decide +kernel
theorem dX7_held_0 : decode cX7_held 0 = .ok (.iload_n 1, 1) := by decide +kernel
theorem dX7_held_1 : decode cX7_held 1 = .ok (.ifCond .lt 13, 3) := by decide +kernel
theorem dX7_held_4 : decode cX7_held 4 = .ok (.iload_n 1, 1) := by decide +kernel
theorem dX7_held_5 : decode cX7_held 5 = .ok (.bipush 100, 2) := by decide +kernel
theorem dX7_held_7 : decode cX7_held 7 = .ok (.if_icmp .gt 7, 3) := by decide +kernel
theorem dX7_held_10 : decode cX7_held 10 = .ok (.iload_n 2, 1) := by decide +kernel
theorem dX7_held_11 : decode cX7_held 11 = .ok (.ifCond .ge 6, 3) := by decide +kernel
theorem dX7_held_14 : decode cX7_held 14 = .ok (.ldc 94, 2) := by decide +kernel
theorem dX7_held_16 : decode cX7_held 16 = .ok (.ireturn, 1) := by decide +kernel
theorem dX7_held_17 : decode cX7_held 17 = .ok (.aload_n 0, 1) := by decide +kernel
theorem dX7_held_18 : decode cX7_held 18 = .ok (.getfield 76, 3) := by decide +kernel
theorem dX7_held_21 : decode cX7_held 21 = .ok (.invokevirtual 307, 3) := by decide +kernel
theorem dX7_held_24 : decode cX7_held 24 = .ok (.ifCond .ne 6, 3) := by decide +kernel
theorem dX7_held_27 : decode cX7_held 27 = .ok (.ldc 162, 2) := by decide +kernel
theorem dX7_held_29 : decode cX7_held 29 = .ok (.ireturn, 1) := by decide +kernel
theorem dX7_held_30 : decode cX7_held 30 = .ok (.aload_n 0, 1) := by decide +kernel
theorem dX7_held_31 : decode cX7_held 31 = .ok (.getfield 76, 3) := by decide +kernel
theorem dX7_held_34 : decode cX7_held 34 = .ok (.iload_n 1, 1) := by decide +kernel
theorem dX7_held_35 : decode cX7_held 35 = .ok (.iload_n 2, 1) := by decide +kernel
theorem dX7_held_36 : decode cX7_held 36 = .ok (.invokevirtual 316, 3) := by decide +kernel
theorem dX7_held_39 : decode cX7_held 39 = .ok (.ifCond .eq 7, 3) := by decide +kernel
theorem dX7_held_42 : decode cX7_held 42 = .ok (.iconst 1, 1) := by decide +kernel
theorem dX7_held_43 : decode cX7_held 43 = .ok (.goto 4, 3) := by decide +kernel
theorem dX7_held_46 : decode cX7_held 46 = .ok (.iconst 0, 1) := by decide +kernel
theorem dX7_held_47 : decode cX7_held 47 = .ok (.ireturn, 1) := by decide +kernel
theorem dX7_chance_0 : decode cX7_chance 0 = .ok (.iload_n 1, 1) := by decide +kernel
theorem dX7_chance_1 : decode cX7_chance 1 = .ok (.bipush 8, 2) := by decide +kernel
theorem dX7_chance_3 : decode cX7_chance 3 = .ok (.invokestatic 90, 3) := by decide +kernel
theorem dX7_chance_6 : decode cX7_chance 6 = .ok (.ifCond .eq 11, 3) := by decide +kernel
theorem dX7_chance_9 : decode cX7_chance 9 = .ok (.iload_n 2, 1) := by decide +kernel
theorem dX7_chance_10 : decode cX7_chance 10 = .ok (.iconst 2, 1) := by decide +kernel
theorem dX7_chance_11 : decode cX7_chance 11 = .ok (.invokestatic 90, 3) := by decide +kernel
theorem dX7_chance_14 : decode cX7_chance 14 = .ok (.ifCond .ne 7, 3) := by decide +kernel
theorem dX7_chance_17 : decode cX7_chance 17 = .ok (.ldc2_w 319, 3) := by decide +kernel
theorem dX7_chance_20 : decode cX7_chance 20 = .ok (.lreturn, 1) := by decide +kernel
theorem dX7_chance_21 : decode cX7_chance 21 = .ok (.aload_n 0, 1) := by decide +kernel
theorem dX7_chance_22 : decode cX7_chance 22 = .ok (.getfield 76, 3) := by decide +kernel
theorem dX7_chance_25 : decode cX7_chance 25 = .ok (.iload_n 1, 1) := by decide +kernel
theorem dX7_chance_26 : decode cX7_chance 26 = .ok (.invokevirtual 321, 3) := by decide +kernel
theorem dX7_chance_29 : decode cX7_chance 29 = .ok (.ifCond .eq 15, 3) := by decide +kernel
theorem dX7_chance_32 : decode cX7_chance 32 = .ok (.aload_n 0, 1) := by decide +kernel
theorem dX7_chance_33 : decode cX7_chance 33 = .ok (.getfield 76, 3) := by decide +kernel
theorem dX7_chance_36 : decode cX7_chance 36 = .ok (.invokevirtual 307, 3) := by decide +kernel
theorem dX7_chance_39 : decode cX7_chance 39 = .ok (.bipush 40, 2) := by decide +kernel
theorem dX7_chance_41 : decode cX7_chance 41 = .ok (.if_icmp .le 7, 3) := by decide +kernel
theorem dX7_chance_44 : decode cX7_chance 44 = .ok (.ldc2_w 324, 3) := by decide +kernel
theorem dX7_chance_47 : decode cX7_chance 47 = .ok (.lreturn, 1) := by decide +kernel
theorem dX7_chance_48 : decode cX7_chance 48 = .ok (.iload_n 2, 1) := by decide +kernel
theorem dX7_chance_49 : decode cX7_chance 49 = .ok (.ifCond .ne 14, 3) := by decide +kernel
theorem dX7_chance_52 : decode cX7_chance 52 = .ok (.aload_n 0, 1) := by decide +kernel
theorem dX7_chance_53 : decode cX7_chance 53 = .ok (.getfield 76, 3) := by decide +kernel
theorem dX7_chance_56 : decode cX7_chance 56 = .ok (.iload_n 1, 1) := by decide +kernel
theorem dX7_chance_57 : decode cX7_chance 57 = .ok (.invokevirtual 326, 3) := by decide +kernel
theorem dX7_chance_60 : decode cX7_chance 60 = .ok (.goto 21, 3) := by decide +kernel
theorem dX7_chance_63 : decode cX7_chance 63 = .ok (.aload_n 0, 1) := by decide +kernel
theorem dX7_chance_64 : decode cX7_chance 64 = .ok (.getfield 76, 3) := by decide +kernel
theorem dX7_chance_67 : decode cX7_chance 67 = .ok (.invokevirtual 307, 3) := by decide +kernel
theorem dX7_chance_70 : decode cX7_chance 70 = .ok (.aload_n 0, 1) := by decide +kernel
theorem dX7_chance_71 : decode cX7_chance 71 = .ok (.getfield 76, 3) := by decide +kernel
theorem dX7_chance_74 : decode cX7_chance 74 = .ok (.iload_n 1, 1) := by decide +kernel
theorem dX7_chance_75 : decode cX7_chance 75 = .ok (.invokevirtual 321, 3) := by decide +kernel
theorem dX7_chance_78 : decode cX7_chance 78 = .ok (.invokestatic 330, 3) := by decide +kernel
theorem dX7_chance_81 : decode cX7_chance 81 = .ok (.lreturn, 1) := by decide +kernel
theorem dX7_count_0 : decode cX7_count 0 = .ok (.iload_n 1, 1) := by decide +kernel
theorem dX7_count_1 : decode cX7_count 1 = .ok (.tableswitch 105 0 7 #[47, 55, 63, 71, 79, 84, 92, 100], 47) := by decide +kernel
theorem dX7_count_48 : decode cX7_count 48 = .ok (.aload_n 0, 1) := by decide +kernel
theorem dX7_count_49 : decode cX7_count 49 = .ok (.getfield 10, 3) := by decide +kernel
theorem dX7_count_52 : decode cX7_count 52 = .ok (.invokevirtual 334, 3) := by decide +kernel
theorem dX7_count_55 : decode cX7_count 55 = .ok (.ireturn, 1) := by decide +kernel
theorem dX7_count_56 : decode cX7_count 56 = .ok (.aload_n 0, 1) := by decide +kernel
theorem dX7_count_57 : decode cX7_count 57 = .ok (.getfield 47, 3) := by decide +kernel
theorem dX7_count_60 : decode cX7_count 60 = .ok (.getfield 194, 3) := by decide +kernel
theorem dX7_count_63 : decode cX7_count 63 = .ok (.ireturn, 1) := by decide +kernel
theorem dX7_count_64 : decode cX7_count 64 = .ok (.aload_n 0, 1) := by decide +kernel
theorem dX7_count_65 : decode cX7_count 65 = .ok (.getfield 76, 3) := by decide +kernel
theorem dX7_count_68 : decode cX7_count 68 = .ok (.getfield 232, 3) := by decide +kernel
theorem dX7_count_71 : decode cX7_count 71 = .ok (.ireturn, 1) := by decide +kernel
theorem dX7_count_72 : decode cX7_count 72 = .ok (.aload_n 0, 1) := by decide +kernel
theorem dX7_count_73 : decode cX7_count 73 = .ok (.getfield 76, 3) := by decide +kernel
theorem dX7_count_76 : decode cX7_count 76 = .ok (.invokevirtual 307, 3) := by decide +kernel
theorem dX7_count_79 : decode cX7_count 79 = .ok (.ireturn, 1) := by decide +kernel
theorem dX7_count_80 : decode cX7_count 80 = .ok (.aload_n 0, 1) := by decide +kernel
theorem dX7_count_81 : decode cX7_count 81 = .ok (.invokevirtual 337, 3) := by decide +kernel
theorem dX7_count_84 : decode cX7_count 84 = .ok (.ireturn, 1) := by decide +kernel
theorem dX7_count_85 : decode cX7_count 85 = .ok (.aload_n 0, 1) := by decide +kernel
theorem dX7_count_86 : decode cX7_count 86 = .ok (.getfield 37, 3) := by decide +kernel
theorem dX7_count_89 : decode cX7_count 89 = .ok (.getfield 152, 3) := by decide +kernel
theorem dX7_count_92 : decode cX7_count 92 = .ok (.ireturn, 1) := by decide +kernel
theorem dX7_count_93 : decode cX7_count 93 = .ok (.aload_n 0, 1) := by decide +kernel
theorem dX7_count_94 : decode cX7_count 94 = .ok (.getfield 37, 3) := by decide +kernel
theorem dX7_count_97 : decode cX7_count 97 = .ok (.getfield 340, 3) := by decide +kernel
theorem dX7_count_100 : decode cX7_count 100 = .ok (.ireturn, 1) := by decide +kernel
theorem dX7_count_101 : decode cX7_count 101 = .ok (.aload_n 0, 1) := by decide +kernel
theorem dX7_count_102 : decode cX7_count 102 = .ok (.getfield 24, 3) := by decide +kernel
theorem dX7_count_105 : decode cX7_count 105 = .ok (.ireturn, 1) := by decide +kernel
theorem dX7_count_106 : decode cX7_count 106 = .ok (.ldc 94, 2) := by decide +kernel
theorem dX7_count_108 : decode cX7_count 108 = .ok (.ireturn, 1) := by decide +kernel
theorem dX7_status_0 : decode cX7_status 0 = .ok (.aload_n 0, 1) := by decide +kernel
theorem dX7_status_1 : decode cX7_status 1 = .ok (.getfield 16, 3) := by decide +kernel
theorem dX7_status_4 : decode cX7_status 4 = .ok (.ireturn, 1) := by decide +kernel
theorem dX7_deadSeats_0 : decode cX7_deadSeats 0 = .ok (.iconst 0, 1) := by decide +kernel
theorem dX7_deadSeats_1 : decode cX7_deadSeats 1 = .ok (.istore_n 1, 1) := by decide +kernel
theorem dX7_deadSeats_2 : decode cX7_deadSeats 2 = .ok (.iconst 0, 1) := by decide +kernel
theorem dX7_deadSeats_3 : decode cX7_deadSeats 3 = .ok (.istore_n 2, 1) := by decide +kernel
theorem dX7_deadSeats_4 : decode cX7_deadSeats 4 = .ok (.iload_n 2, 1) := by decide +kernel
theorem dX7_deadSeats_5 : decode cX7_deadSeats 5 = .ok (.bipush 8, 2) := by decide +kernel
theorem dX7_deadSeats_7 : decode cX7_deadSeats 7 = .ok (.if_icmp .ge 21, 3) := by decide +kernel
theorem dX7_deadSeats_10 : decode cX7_deadSeats 10 = .ok (.aload_n 0, 1) := by decide +kernel
theorem dX7_deadSeats_11 : decode cX7_deadSeats 11 = .ok (.getfield 63, 3) := by decide +kernel
theorem dX7_deadSeats_14 : decode cX7_deadSeats 14 = .ok (.iload_n 2, 1) := by decide +kernel
theorem dX7_deadSeats_15 : decode cX7_deadSeats 15 = .ok (.baload, 1) := by decide +kernel
theorem dX7_deadSeats_16 : decode cX7_deadSeats 16 = .ok (.ifCond .eq 6, 3) := by decide +kernel
theorem dX7_deadSeats_19 : decode cX7_deadSeats 19 = .ok (.iinc 1 1, 3) := by decide +kernel
theorem dX7_deadSeats_22 : decode cX7_deadSeats 22 = .ok (.iinc 2 1, 3) := by decide +kernel
theorem dX7_deadSeats_25 : decode cX7_deadSeats 25 = .ok (.goto (-21), 3) := by decide +kernel
theorem dX7_deadSeats_28 : decode cX7_deadSeats 28 = .ok (.iload_n 1, 1) := by decide +kernel
theorem dX7_deadSeats_29 : decode cX7_deadSeats 29 = .ok (.ireturn, 1) := by decide +kernel
theorem dX7_isWithin_0 : decode cX7_isWithin 0 = .ok (.iload_n 0, 1) := by decide +kernel
theorem dX7_isWithin_1 : decode cX7_isWithin 1 = .ok (.ifCond .lt 12, 3) := by decide +kernel
theorem dX7_isWithin_4 : decode cX7_isWithin 4 = .ok (.iload_n 0, 1) := by decide +kernel
theorem dX7_isWithin_5 : decode cX7_isWithin 5 = .ok (.iload_n 1, 1) := by decide +kernel
theorem dX7_isWithin_6 : decode cX7_isWithin 6 = .ok (.if_icmp .ge 7, 3) := by decide +kernel
theorem dX7_isWithin_9 : decode cX7_isWithin 9 = .ok (.iconst 1, 1) := by decide +kernel
theorem dX7_isWithin_10 : decode cX7_isWithin 10 = .ok (.goto 4, 3) := by decide +kernel
theorem dX7_isWithin_13 : decode cX7_isWithin 13 = .ok (.iconst 0, 1) := by decide +kernel
theorem dX7_isWithin_14 : decode cX7_isWithin 14 = .ok (.ireturn, 1) := by decide +kernel
theorem dX7_found_0 : decode cX7_found 0 = .ok (.aload_n 0, 1) := by decide +kernel
theorem dX7_found_1 : decode cX7_found 1 = .ok (.iload_n 1, 1) := by decide +kernel
theorem dX7_found_2 : decode cX7_found 2 = .ok (.putfield 16, 3) := by decide +kernel
theorem dX7_found_5 : decode cX7_found 5 = .ok (.ldc_w 343, 3) := by decide +kernel
theorem dX7_found_8 : decode cX7_found 8 = .ok (.iload_n 1, 1) := by decide +kernel
theorem dX7_found_9 : decode cX7_found 9 = .ok (.isub, 1) := by decide +kernel
theorem dX7_found_10 : decode cX7_found 10 = .ok (.ireturn, 1) := by decide +kernel
theorem dX7_fine_0 : decode cX7_fine 0 = .ok (.aload_n 0, 1) := by decide +kernel
theorem dX7_fine_1 : decode cX7_fine 1 = .ok (.iconst 0, 1) := by decide +kernel
theorem dX7_fine_2 : decode cX7_fine 2 = .ok (.putfield 16, 3) := by decide +kernel
theorem dX7_fine_5 : decode cX7_fine 5 = .ok (.iload_n 1, 1) := by decide +kernel
theorem dX7_fine_6 : decode cX7_fine 6 = .ok (.ireturn, 1) := by decide +kernel
theorem dX7_choose_0 : decode cX7_choose 0 = .ok (.iload_n 1, 1) := by decide +kernel
theorem dX7_choose_1 : decode cX7_choose 1 = .ok (.ifCond .lt 8, 3) := by decide +kernel
theorem dX7_choose_4 : decode cX7_choose 4 = .ok (.iload_n 1, 1) := by decide +kernel
theorem dX7_choose_5 : decode cX7_choose 5 = .ok (.iload_n 0, 1) := by decide +kernel
theorem dX7_choose_6 : decode cX7_choose 6 = .ok (.if_icmp .le 5, 3) := by decide +kernel
theorem dX7_choose_9 : decode cX7_choose 9 = .ok (.lconst 0, 1) := by decide +kernel
theorem dX7_choose_10 : decode cX7_choose 10 = .ok (.lreturn, 1) := by decide +kernel
theorem dX7_choose_11 : decode cX7_choose 11 = .ok (.lconst 1, 1) := by decide +kernel
theorem dX7_choose_12 : decode cX7_choose 12 = .ok (.lstore_n 2, 1) := by decide +kernel
theorem dX7_choose_13 : decode cX7_choose 13 = .ok (.iconst 0, 1) := by decide +kernel
theorem dX7_choose_14 : decode cX7_choose 14 = .ok (.istore 4, 2) := by decide +kernel
theorem dX7_choose_16 : decode cX7_choose 16 = .ok (.iload 4, 2) := by decide +kernel
theorem dX7_choose_18 : decode cX7_choose 18 = .ok (.iload_n 1, 1) := by decide +kernel
theorem dX7_choose_19 : decode cX7_choose 19 = .ok (.if_icmp .ge 23, 3) := by decide +kernel
theorem dX7_choose_22 : decode cX7_choose 22 = .ok (.lload_n 2, 1) := by decide +kernel
theorem dX7_choose_23 : decode cX7_choose 23 = .ok (.iload_n 0, 1) := by decide +kernel
theorem dX7_choose_24 : decode cX7_choose 24 = .ok (.iload 4, 2) := by decide +kernel
theorem dX7_choose_26 : decode cX7_choose 26 = .ok (.isub, 1) := by decide +kernel
theorem dX7_choose_27 : decode cX7_choose 27 = .ok (.i2l, 1) := by decide +kernel
theorem dX7_choose_28 : decode cX7_choose 28 = .ok (.lmul, 1) := by decide +kernel
theorem dX7_choose_29 : decode cX7_choose 29 = .ok (.iload 4, 2) := by decide +kernel
theorem dX7_choose_31 : decode cX7_choose 31 = .ok (.iconst 1, 1) := by decide +kernel
theorem dX7_choose_32 : decode cX7_choose 32 = .ok (.iadd, 1) := by decide +kernel
theorem dX7_choose_33 : decode cX7_choose 33 = .ok (.i2l, 1) := by decide +kernel
theorem dX7_choose_34 : decode cX7_choose 34 = .ok (.ldiv, 1) := by decide +kernel
theorem dX7_choose_35 : decode cX7_choose 35 = .ok (.lstore_n 2, 1) := by decide +kernel
theorem dX7_choose_36 : decode cX7_choose 36 = .ok (.iinc 4 1, 3) := by decide +kernel
theorem dX7_choose_39 : decode cX7_choose 39 = .ok (.goto (-23), 3) := by decide +kernel
theorem dX7_choose_42 : decode cX7_choose 42 = .ok (.lload_n 2, 1) := by decide +kernel
theorem dX7_choose_43 : decode cX7_choose 43 = .ok (.lreturn, 1) := by decide +kernel
theorem dJ6_bitCount_0f7a4_0 : decode cJ6_bitCount_0f7a4 0 = .ok (.iload_n 0, 1) := by decide +kernel
theorem dJ6_bitCount_0f7a4_1 : decode cJ6_bitCount_0f7a4 1 = .ok (.iload_n 0, 1) := by decide +kernel
theorem dJ6_bitCount_0f7a4_2 : decode cJ6_bitCount_0f7a4 2 = .ok (.iconst 1, 1) := by decide +kernel
theorem dJ6_bitCount_0f7a4_3 : decode cJ6_bitCount_0f7a4 3 = .ok (.iushr, 1) := by decide +kernel
theorem dJ6_bitCount_0f7a4_4 : decode cJ6_bitCount_0f7a4 4 = .ok (.ldc_w 265, 3) := by decide +kernel
theorem dJ6_bitCount_0f7a4_7 : decode cJ6_bitCount_0f7a4 7 = .ok (.iand, 1) := by decide +kernel
theorem dJ6_bitCount_0f7a4_8 : decode cJ6_bitCount_0f7a4 8 = .ok (.isub, 1) := by decide +kernel
theorem dJ6_bitCount_0f7a4_9 : decode cJ6_bitCount_0f7a4 9 = .ok (.istore_n 0, 1) := by decide +kernel
theorem dJ6_bitCount_0f7a4_10 : decode cJ6_bitCount_0f7a4 10 = .ok (.iload_n 0, 1) := by decide +kernel
theorem dJ6_bitCount_0f7a4_11 : decode cJ6_bitCount_0f7a4 11 = .ok (.ldc_w 266, 3) := by decide +kernel
theorem dJ6_bitCount_0f7a4_14 : decode cJ6_bitCount_0f7a4 14 = .ok (.iand, 1) := by decide +kernel
theorem dJ6_bitCount_0f7a4_15 : decode cJ6_bitCount_0f7a4 15 = .ok (.iload_n 0, 1) := by decide +kernel
theorem dJ6_bitCount_0f7a4_16 : decode cJ6_bitCount_0f7a4 16 = .ok (.iconst 2, 1) := by decide +kernel
theorem dJ6_bitCount_0f7a4_17 : decode cJ6_bitCount_0f7a4 17 = .ok (.iushr, 1) := by decide +kernel
theorem dJ6_bitCount_0f7a4_18 : decode cJ6_bitCount_0f7a4 18 = .ok (.ldc_w 266, 3) := by decide +kernel
theorem dJ6_bitCount_0f7a4_21 : decode cJ6_bitCount_0f7a4 21 = .ok (.iand, 1) := by decide +kernel
theorem dJ6_bitCount_0f7a4_22 : decode cJ6_bitCount_0f7a4 22 = .ok (.iadd, 1) := by decide +kernel
theorem dJ6_bitCount_0f7a4_23 : decode cJ6_bitCount_0f7a4 23 = .ok (.istore_n 0, 1) := by decide +kernel
theorem dJ6_bitCount_0f7a4_24 : decode cJ6_bitCount_0f7a4 24 = .ok (.iload_n 0, 1) := by decide +kernel
theorem dJ6_bitCount_0f7a4_25 : decode cJ6_bitCount_0f7a4 25 = .ok (.iload_n 0, 1) := by decide +kernel
theorem dJ6_bitCount_0f7a4_26 : decode cJ6_bitCount_0f7a4 26 = .ok (.iconst 4, 1) := by decide +kernel
theorem dJ6_bitCount_0f7a4_27 : decode cJ6_bitCount_0f7a4 27 = .ok (.iushr, 1) := by decide +kernel
theorem dJ6_bitCount_0f7a4_28 : decode cJ6_bitCount_0f7a4 28 = .ok (.iadd, 1) := by decide +kernel
theorem dJ6_bitCount_0f7a4_29 : decode cJ6_bitCount_0f7a4 29 = .ok (.ldc_w 267, 3) := by decide +kernel
theorem dJ6_bitCount_0f7a4_32 : decode cJ6_bitCount_0f7a4 32 = .ok (.iand, 1) := by decide +kernel
theorem dJ6_bitCount_0f7a4_33 : decode cJ6_bitCount_0f7a4 33 = .ok (.istore_n 0, 1) := by decide +kernel
theorem dJ6_bitCount_0f7a4_34 : decode cJ6_bitCount_0f7a4 34 = .ok (.iload_n 0, 1) := by decide +kernel
theorem dJ6_bitCount_0f7a4_35 : decode cJ6_bitCount_0f7a4 35 = .ok (.iload_n 0, 1) := by decide +kernel
theorem dJ6_bitCount_0f7a4_36 : decode cJ6_bitCount_0f7a4 36 = .ok (.bipush 8, 2) := by decide +kernel
theorem dJ6_bitCount_0f7a4_38 : decode cJ6_bitCount_0f7a4 38 = .ok (.iushr, 1) := by decide +kernel
theorem dJ6_bitCount_0f7a4_39 : decode cJ6_bitCount_0f7a4 39 = .ok (.iadd, 1) := by decide +kernel
theorem dJ6_bitCount_0f7a4_40 : decode cJ6_bitCount_0f7a4 40 = .ok (.istore_n 0, 1) := by decide +kernel
theorem dJ6_bitCount_0f7a4_41 : decode cJ6_bitCount_0f7a4 41 = .ok (.iload_n 0, 1) := by decide +kernel
theorem dJ6_bitCount_0f7a4_42 : decode cJ6_bitCount_0f7a4 42 = .ok (.iload_n 0, 1) := by decide +kernel
theorem dJ6_bitCount_0f7a4_43 : decode cJ6_bitCount_0f7a4 43 = .ok (.bipush 16, 2) := by decide +kernel
theorem dJ6_bitCount_0f7a4_45 : decode cJ6_bitCount_0f7a4 45 = .ok (.iushr, 1) := by decide +kernel
theorem dJ6_bitCount_0f7a4_46 : decode cJ6_bitCount_0f7a4 46 = .ok (.iadd, 1) := by decide +kernel
theorem dJ6_bitCount_0f7a4_47 : decode cJ6_bitCount_0f7a4 47 = .ok (.istore_n 0, 1) := by decide +kernel
theorem dJ6_bitCount_0f7a4_48 : decode cJ6_bitCount_0f7a4 48 = .ok (.iload_n 0, 1) := by decide +kernel
theorem dJ6_bitCount_0f7a4_49 : decode cJ6_bitCount_0f7a4 49 = .ok (.bipush 63, 2) := by decide +kernel
theorem dJ6_bitCount_0f7a4_51 : decode cJ6_bitCount_0f7a4 51 = .ok (.iand, 1) := by decide +kernel
theorem dJ6_bitCount_0f7a4_52 : decode cJ6_bitCount_0f7a4 52 = .ok (.ireturn, 1) := by decide +kernel
theorem dJ7_fill_53178_0 : decode cJ7_fill_53178 0 = .ok (.iconst 0, 1) := by decide +kernel
theorem dJ7_fill_53178_1 : decode cJ7_fill_53178 1 = .ok (.istore_n 2, 1) := by decide +kernel
theorem dJ7_fill_53178_2 : decode cJ7_fill_53178 2 = .ok (.aload_n 0, 1) := by decide +kernel
theorem dJ7_fill_53178_3 : decode cJ7_fill_53178 3 = .ok (.arraylength, 1) := by decide +kernel
theorem dJ7_fill_53178_4 : decode cJ7_fill_53178 4 = .ok (.istore_n 3, 1) := by decide +kernel
theorem dJ7_fill_53178_5 : decode cJ7_fill_53178 5 = .ok (.iload_n 2, 1) := by decide +kernel
theorem dJ7_fill_53178_6 : decode cJ7_fill_53178 6 = .ok (.iload_n 3, 1) := by decide +kernel
theorem dJ7_fill_53178_7 : decode cJ7_fill_53178 7 = .ok (.if_icmp .ge 13, 3) := by decide +kernel
theorem dJ7_fill_53178_10 : decode cJ7_fill_53178 10 = .ok (.aload_n 0, 1) := by decide +kernel
theorem dJ7_fill_53178_11 : decode cJ7_fill_53178 11 = .ok (.iload_n 2, 1) := by decide +kernel
theorem dJ7_fill_53178_12 : decode cJ7_fill_53178 12 = .ok (.iload_n 1, 1) := by decide +kernel
theorem dJ7_fill_53178_13 : decode cJ7_fill_53178 13 = .ok (.iastore, 1) := by decide +kernel
theorem dJ7_fill_53178_14 : decode cJ7_fill_53178 14 = .ok (.iinc 2 1, 3) := by decide +kernel
theorem dJ7_fill_53178_17 : decode cJ7_fill_53178 17 = .ok (.goto (-12), 3) := by decide +kernel
theorem dJ7_fill_53178_20 : decode cJ7_fill_53178 20 = .ok (.return_, 1) := by decide +kernel
