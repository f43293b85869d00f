theorem d_Schema_init_0 : decode prog_9_method_1_code 0 = .ok (.aload_n 0, 1) := by decide +kernel
theorem d_Schema_init_1 : decode prog_9_method_1_code 1 = .ok (.invokespecial 3, 3) := by decide +kernel
theorem d_Schema_init_4 : decode prog_9_method_1_code 4 = .ok (.aload_n 0, 1) := by decide +kernel
theorem d_Schema_init_5 : decode prog_9_method_1_code 5 = .ok (.bipush 6, 2) := by decide +kernel
theorem d_Schema_init_7 : decode prog_9_method_1_code 7 = .ok (.newarray .int, 2) := by decide +kernel
theorem d_Schema_init_9 : decode prog_9_method_1_code 9 = .ok (.putfield 9, 3) := by decide +kernel
theorem d_Schema_init_12 : decode prog_9_method_1_code 12 = .ok (.aload_n 0, 1) := by decide +kernel
theorem d_Schema_init_13 : decode prog_9_method_1_code 13 = .ok (.bipush 6, 2) := by decide +kernel
theorem d_Schema_init_15 : decode prog_9_method_1_code 15 = .ok (.newarray .int, 2) := by decide +kernel
theorem d_Schema_init_17 : decode prog_9_method_1_code 17 = .ok (.putfield 15, 3) := by decide +kernel
theorem d_Schema_init_20 : decode prog_9_method_1_code 20 = .ok (.aload_n 0, 1) := by decide +kernel
theorem d_Schema_init_21 : decode prog_9_method_1_code 21 = .ok (.bipush 72, 2) := by decide +kernel
theorem d_Schema_init_23 : decode prog_9_method_1_code 23 = .ok (.newarray .int, 2) := by decide +kernel
theorem d_Schema_init_25 : decode prog_9_method_1_code 25 = .ok (.putfield 18, 3) := by decide +kernel
theorem d_Schema_init_28 : decode prog_9_method_1_code 28 = .ok (.aload_n 0, 1) := by decide +kernel
theorem d_Schema_init_29 : decode prog_9_method_1_code 29 = .ok (.bipush 24, 2) := by decide +kernel
theorem d_Schema_init_31 : decode prog_9_method_1_code 31 = .ok (.newarray .int, 2) := by decide +kernel
theorem d_Schema_init_33 : decode prog_9_method_1_code 33 = .ok (.putfield 21, 3) := by decide +kernel
theorem d_Schema_init_36 : decode prog_9_method_1_code 36 = .ok (.aload_n 0, 1) := by decide +kernel
theorem d_Schema_init_37 : decode prog_9_method_1_code 37 = .ok (.bipush 24, 2) := by decide +kernel
theorem d_Schema_init_39 : decode prog_9_method_1_code 39 = .ok (.newarray .int, 2) := by decide +kernel
theorem d_Schema_init_41 : decode prog_9_method_1_code 41 = .ok (.putfield 24, 3) := by decide +kernel
theorem d_Schema_init_44 : decode prog_9_method_1_code 44 = .ok (.aload_n 0, 1) := by decide +kernel
theorem d_Schema_init_45 : decode prog_9_method_1_code 45 = .ok (.bipush 60, 2) := by decide +kernel
theorem d_Schema_init_47 : decode prog_9_method_1_code 47 = .ok (.newarray .int, 2) := by decide +kernel
theorem d_Schema_init_49 : decode prog_9_method_1_code 49 = .ok (.putfield 27, 3) := by decide +kernel
theorem d_Schema_init_52 : decode prog_9_method_1_code 52 = .ok (.aload_n 0, 1) := by decide +kernel
theorem d_Schema_init_53 : decode prog_9_method_1_code 53 = .ok (.getfield 21, 3) := by decide +kernel
theorem d_Schema_init_56 : decode prog_9_method_1_code 56 = .ok (.iconst (-1), 1) := by decide +kernel
theorem d_Schema_init_57 : decode prog_9_method_1_code 57 = .ok (.invokestatic 30, 3) := by decide +kernel
theorem d_Schema_init_60 : decode prog_9_method_1_code 60 = .ok (.return_, 1) := by decide +kernel
theorem d_Rows_init_0 : decode prog_8_method_1_code 0 = .ok (.aload_n 0, 1) := by decide +kernel
theorem d_Rows_init_1 : decode prog_8_method_1_code 1 = .ok (.invokespecial 3, 3) := by decide +kernel
theorem d_Rows_init_4 : decode prog_8_method_1_code 4 = .ok (.aload_n 0, 1) := by decide +kernel
theorem d_Rows_init_5 : decode prog_8_method_1_code 5 = .ok (.sipush 192, 3) := by decide +kernel
theorem d_Rows_init_8 : decode prog_8_method_1_code 8 = .ok (.newarray .int, 2) := by decide +kernel
theorem d_Rows_init_10 : decode prog_8_method_1_code 10 = .ok (.putfield 9, 3) := by decide +kernel
theorem d_Rows_init_13 : decode prog_8_method_1_code 13 = .ok (.aload_n 0, 1) := by decide +kernel
theorem d_Rows_init_14 : decode prog_8_method_1_code 14 = .ok (.getfield 9, 3) := by decide +kernel
theorem d_Rows_init_17 : decode prog_8_method_1_code 17 = .ok (.ldc 15, 2) := by decide +kernel
theorem d_Rows_init_19 : decode prog_8_method_1_code 19 = .ok (.invokestatic 16, 3) := by decide +kernel
theorem d_Rows_init_22 : decode prog_8_method_1_code 22 = .ok (.return_, 1) := by decide +kernel
theorem d_Log_init_0 : decode prog_4_method_1_code 0 = .ok (.aload_n 0, 1) := by decide +kernel
theorem d_Log_init_1 : decode prog_4_method_1_code 1 = .ok (.invokespecial 5, 3) := by decide +kernel
theorem d_Log_init_4 : decode prog_4_method_1_code 4 = .ok (.aload_n 0, 1) := by decide +kernel
theorem d_Log_init_5 : decode prog_4_method_1_code 5 = .ok (.sipush 512, 3) := by decide +kernel
theorem d_Log_init_8 : decode prog_4_method_1_code 8 = .ok (.newarray .int, 2) := by decide +kernel
theorem d_Log_init_10 : decode prog_4_method_1_code 10 = .ok (.putfield 11, 3) := by decide +kernel
theorem d_Log_init_13 : decode prog_4_method_1_code 13 = .ok (.aload_n 0, 1) := by decide +kernel
theorem d_Log_init_14 : decode prog_4_method_1_code 14 = .ok (.bipush 60, 2) := by decide +kernel
theorem d_Log_init_16 : decode prog_4_method_1_code 16 = .ok (.newarray .boolean, 2) := by decide +kernel
theorem d_Log_init_18 : decode prog_4_method_1_code 18 = .ok (.putfield 15, 3) := by decide +kernel
theorem d_Log_init_21 : decode prog_4_method_1_code 21 = .ok (.aload_n 0, 1) := by decide +kernel
theorem d_Log_init_22 : decode prog_4_method_1_code 22 = .ok (.bipush 60, 2) := by decide +kernel
theorem d_Log_init_24 : decode prog_4_method_1_code 24 = .ok (.newarray .boolean, 2) := by decide +kernel
theorem d_Log_init_26 : decode prog_4_method_1_code 26 = .ok (.putfield 19, 3) := by decide +kernel
theorem d_Log_init_29 : decode prog_4_method_1_code 29 = .ok (.return_, 1) := by decide +kernel
theorem d_Relation_init_0 : decode prog_7_method_1_code 0 = .ok (.aload_n 0, 1) := by decide +kernel
theorem d_Relation_init_1 : decode prog_7_method_1_code 1 = .ok (.invokespecial 3, 3) := by decide +kernel
theorem d_Relation_init_4 : decode prog_7_method_1_code 4 = .ok (.aload_n 0, 1) := by decide +kernel
theorem d_Relation_init_5 : decode prog_7_method_1_code 5 = .ok (.sipush 5120, 3) := by decide +kernel
theorem d_Relation_init_8 : decode prog_7_method_1_code 8 = .ok (.newarray .int, 2) := by decide +kernel
theorem d_Relation_init_10 : decode prog_7_method_1_code 10 = .ok (.putfield 9, 3) := by decide +kernel
theorem d_Relation_init_13 : decode prog_7_method_1_code 13 = .ok (.return_, 1) := by decide +kernel
theorem d_Planner_init_0 : decode prog_5_method_1_code 0 = .ok (.aload_n 0, 1) := by decide +kernel
theorem d_Planner_init_1 : decode prog_5_method_1_code 1 = .ok (.invokespecial 3, 3) := by decide +kernel
theorem d_Planner_init_4 : decode prog_5_method_1_code 4 = .ok (.aload_n 0, 1) := by decide +kernel
theorem d_Planner_init_5 : decode prog_5_method_1_code 5 = .ok (.bipush 6, 2) := by decide +kernel
theorem d_Planner_init_7 : decode prog_5_method_1_code 7 = .ok (.newarray .int, 2) := by decide +kernel
theorem d_Planner_init_9 : decode prog_5_method_1_code 9 = .ok (.putfield 9, 3) := by decide +kernel
theorem d_Planner_init_12 : decode prog_5_method_1_code 12 = .ok (.aload_n 0, 1) := by decide +kernel
theorem d_Planner_init_13 : decode prog_5_method_1_code 13 = .ok (.bipush 24, 2) := by decide +kernel
theorem d_Planner_init_15 : decode prog_5_method_1_code 15 = .ok (.newarray .int, 2) := by decide +kernel
theorem d_Planner_init_17 : decode prog_5_method_1_code 17 = .ok (.putfield 15, 3) := by decide +kernel
theorem d_Planner_init_20 : decode prog_5_method_1_code 20 = .ok (.aload_n 0, 1) := by decide +kernel
theorem d_Planner_init_21 : decode prog_5_method_1_code 21 = .ok (.bipush 12, 2) := by decide +kernel
theorem d_Planner_init_23 : decode prog_5_method_1_code 23 = .ok (.newarray .boolean, 2) := by decide +kernel
theorem d_Planner_init_25 : decode prog_5_method_1_code 25 = .ok (.putfield 18, 3) := by decide +kernel
theorem d_Planner_init_28 : decode prog_5_method_1_code 28 = .ok (.aload_n 0, 1) := by decide +kernel
theorem d_Planner_init_29 : decode prog_5_method_1_code 29 = .ok (.bipush 12, 2) := by decide +kernel
theorem d_Planner_init_31 : decode prog_5_method_1_code 31 = .ok (.newarray .int, 2) := by decide +kernel
theorem d_Planner_init_33 : decode prog_5_method_1_code 33 = .ok (.putfield 22, 3) := by decide +kernel
theorem d_Planner_init_36 : decode prog_5_method_1_code 36 = .ok (.aload_n 0, 1) := by decide +kernel
theorem d_Planner_init_37 : decode prog_5_method_1_code 37 = .ok (.iconst 3, 1) := by decide +kernel
theorem d_Planner_init_38 : decode prog_5_method_1_code 38 = .ok (.newarray .int, 2) := by decide +kernel
theorem d_Planner_init_40 : decode prog_5_method_1_code 40 = .ok (.putfield 25, 3) := by decide +kernel
theorem d_Planner_init_43 : decode prog_5_method_1_code 43 = .ok (.aload_n 0, 1) := by decide +kernel
theorem d_Planner_init_44 : decode prog_5_method_1_code 44 = .ok (.iconst 3, 1) := by decide +kernel
theorem d_Planner_init_45 : decode prog_5_method_1_code 45 = .ok (.newarray .boolean, 2) := by decide +kernel
theorem d_Planner_init_47 : decode prog_5_method_1_code 47 = .ok (.putfield 28, 3) := by decide +kernel
theorem d_Planner_init_50 : decode prog_5_method_1_code 50 = .ok (.aload_n 0, 1) := by decide +kernel
theorem d_Planner_init_51 : decode prog_5_method_1_code 51 = .ok (.bipush 10, 2) := by decide +kernel
theorem d_Planner_init_53 : decode prog_5_method_1_code 53 = .ok (.newarray .int, 2) := by decide +kernel
theorem d_Planner_init_55 : decode prog_5_method_1_code 55 = .ok (.putfield 31, 3) := by decide +kernel
theorem d_Planner_init_58 : decode prog_5_method_1_code 58 = .ok (.aload_n 0, 1) := by decide +kernel
theorem d_Planner_init_59 : decode prog_5_method_1_code 59 = .ok (.bipush 10, 2) := by decide +kernel
theorem d_Planner_init_61 : decode prog_5_method_1_code 61 = .ok (.newarray .int, 2) := by decide +kernel
theorem d_Planner_init_63 : decode prog_5_method_1_code 63 = .ok (.putfield 34, 3) := by decide +kernel
theorem d_Planner_init_66 : decode prog_5_method_1_code 66 = .ok (.aload_n 0, 1) := by decide +kernel
theorem d_Planner_init_67 : decode prog_5_method_1_code 67 = .ok (.bipush 12, 2) := by decide +kernel
theorem d_Planner_init_69 : decode prog_5_method_1_code 69 = .ok (.newarray .int, 2) := by decide +kernel
theorem d_Planner_init_71 : decode prog_5_method_1_code 71 = .ok (.putfield 37, 3) := by decide +kernel
theorem d_Planner_init_74 : decode prog_5_method_1_code 74 = .ok (.aload_n 0, 1) := by decide +kernel
theorem d_Planner_init_75 : decode prog_5_method_1_code 75 = .ok (.bipush 12, 2) := by decide +kernel
theorem d_Planner_init_77 : decode prog_5_method_1_code 77 = .ok (.newarray .int, 2) := by decide +kernel
theorem d_Planner_init_79 : decode prog_5_method_1_code 79 = .ok (.putfield 40, 3) := by decide +kernel
theorem d_Planner_init_82 : decode prog_5_method_1_code 82 = .ok (.aload_n 0, 1) := by decide +kernel
theorem d_Planner_init_83 : decode prog_5_method_1_code 83 = .ok (.iconst 3, 1) := by decide +kernel
theorem d_Planner_init_84 : decode prog_5_method_1_code 84 = .ok (.newarray .int, 2) := by decide +kernel
theorem d_Planner_init_86 : decode prog_5_method_1_code 86 = .ok (.putfield 43, 3) := by decide +kernel
theorem d_Planner_init_89 : decode prog_5_method_1_code 89 = .ok (.return_, 1) := by decide +kernel
theorem d_Query_init_0 : decode prog_6_method_1_code 0 = .ok (.aload_n 0, 1) := by decide +kernel
theorem d_Query_init_1 : decode prog_6_method_1_code 1 = .ok (.invokespecial 3, 3) := by decide +kernel
theorem d_Query_init_4 : decode prog_6_method_1_code 4 = .ok (.aload_n 0, 1) := by decide +kernel
theorem d_Query_init_5 : decode prog_6_method_1_code 5 = .ok (.bipush 12, 2) := by decide +kernel
theorem d_Query_init_7 : decode prog_6_method_1_code 7 = .ok (.newarray .int, 2) := by decide +kernel
theorem d_Query_init_9 : decode prog_6_method_1_code 9 = .ok (.putfield 9, 3) := by decide +kernel
theorem d_Query_init_12 : decode prog_6_method_1_code 12 = .ok (.aload_n 0, 1) := by decide +kernel
theorem d_Query_init_13 : decode prog_6_method_1_code 13 = .ok (.bipush 48, 2) := by decide +kernel
theorem d_Query_init_15 : decode prog_6_method_1_code 15 = .ok (.newarray .int, 2) := by decide +kernel
theorem d_Query_init_17 : decode prog_6_method_1_code 17 = .ok (.putfield 15, 3) := by decide +kernel
theorem d_Query_init_20 : decode prog_6_method_1_code 20 = .ok (.aload_n 0, 1) := by decide +kernel
theorem d_Query_init_21 : decode prog_6_method_1_code 21 = .ok (.bipush 12, 2) := by decide +kernel
theorem d_Query_init_23 : decode prog_6_method_1_code 23 = .ok (.newarray .int, 2) := by decide +kernel
theorem d_Query_init_25 : decode prog_6_method_1_code 25 = .ok (.putfield 18, 3) := by decide +kernel
theorem d_Query_init_28 : decode prog_6_method_1_code 28 = .ok (.aload_n 0, 1) := by decide +kernel
theorem d_Query_init_29 : decode prog_6_method_1_code 29 = .ok (.bipush 12, 2) := by decide +kernel
theorem d_Query_init_31 : decode prog_6_method_1_code 31 = .ok (.newarray .int, 2) := by decide +kernel
theorem d_Query_init_33 : decode prog_6_method_1_code 33 = .ok (.putfield 21, 3) := by decide +kernel
theorem d_Query_init_36 : decode prog_6_method_1_code 36 = .ok (.aload_n 0, 1) := by decide +kernel
theorem d_Query_init_37 : decode prog_6_method_1_code 37 = .ok (.bipush 12, 2) := by decide +kernel
theorem d_Query_init_39 : decode prog_6_method_1_code 39 = .ok (.newarray .int, 2) := by decide +kernel
theorem d_Query_init_41 : decode prog_6_method_1_code 41 = .ok (.putfield 24, 3) := by decide +kernel
theorem d_Query_init_44 : decode prog_6_method_1_code 44 = .ok (.aload_n 0, 1) := by decide +kernel
theorem d_Query_init_45 : decode prog_6_method_1_code 45 = .ok (.bipush 6, 2) := by decide +kernel
theorem d_Query_init_47 : decode prog_6_method_1_code 47 = .ok (.newarray .int, 2) := by decide +kernel
theorem d_Query_init_49 : decode prog_6_method_1_code 49 = .ok (.putfield 27, 3) := by decide +kernel
theorem d_Query_init_52 : decode prog_6_method_1_code 52 = .ok (.aload_n 0, 1) := by decide +kernel
theorem d_Query_init_53 : decode prog_6_method_1_code 53 = .ok (.iconst 3, 1) := by decide +kernel
theorem d_Query_init_54 : decode prog_6_method_1_code 54 = .ok (.newarray .int, 2) := by decide +kernel
theorem d_Query_init_56 : decode prog_6_method_1_code 56 = .ok (.putfield 30, 3) := by decide +kernel
theorem d_Query_init_59 : decode prog_6_method_1_code 59 = .ok (.return_, 1) := by decide +kernel
theorem d_Query_clear_0 : decode prog_6_method_2_code 0 = .ok (.aload_n 0, 1) := by decide +kernel
theorem d_Query_clear_1 : decode prog_6_method_2_code 1 = .ok (.iconst 0, 1) := by decide +kernel
theorem d_Query_clear_2 : decode prog_6_method_2_code 2 = .ok (.putfield 33, 3) := by decide +kernel
theorem d_Query_clear_5 : decode prog_6_method_2_code 5 = .ok (.aload_n 0, 1) := by decide +kernel
theorem d_Query_clear_6 : decode prog_6_method_2_code 6 = .ok (.iconst 0, 1) := by decide +kernel
theorem d_Query_clear_7 : decode prog_6_method_2_code 7 = .ok (.putfield 37, 3) := by decide +kernel
theorem d_Query_clear_10 : decode prog_6_method_2_code 10 = .ok (.aload_n 0, 1) := by decide +kernel
theorem d_Query_clear_11 : decode prog_6_method_2_code 11 = .ok (.iconst 0, 1) := by decide +kernel
theorem d_Query_clear_12 : decode prog_6_method_2_code 12 = .ok (.putfield 40, 3) := by decide +kernel
theorem d_Query_clear_15 : decode prog_6_method_2_code 15 = .ok (.return_, 1) := by decide +kernel
theorem d_Planner_takeStatistics_0 : decode prog_5_method_2_code 0 = .ok (.iconst 0, 1) := by decide +kernel
theorem d_Planner_takeStatistics_1 : decode prog_5_method_2_code 1 = .ok (.istore_n 3, 1) := by decide +kernel
theorem d_Planner_takeStatistics_2 : decode prog_5_method_2_code 2 = .ok (.iload_n 3, 1) := by decide +kernel
theorem d_Planner_takeStatistics_3 : decode prog_5_method_2_code 3 = .ok (.aload_n 1, 1) := by decide +kernel
theorem d_Planner_takeStatistics_4 : decode prog_5_method_2_code 4 = .ok (.getfield 46, 3) := by decide +kernel
theorem d_Planner_takeStatistics_7 : decode prog_5_method_2_code 7 = .ok (.if_icmp .ge 58, 3) := by decide +kernel
theorem d_Planner_takeStatistics_10 : decode prog_5_method_2_code 10 = .ok (.aload_n 0, 1) := by decide +kernel
theorem d_Planner_takeStatistics_11 : decode prog_5_method_2_code 11 = .ok (.getfield 9, 3) := by decide +kernel
theorem d_Planner_takeStatistics_14 : decode prog_5_method_2_code 14 = .ok (.iload_n 3, 1) := by decide +kernel
theorem d_Planner_takeStatistics_15 : decode prog_5_method_2_code 15 = .ok (.aload_n 2, 1) := by decide +kernel
theorem d_Planner_takeStatistics_16 : decode prog_5_method_2_code 16 = .ok (.iload_n 3, 1) := by decide +kernel
theorem d_Planner_takeStatistics_17 : decode prog_5_method_2_code 17 = .ok (.invokevirtual 52, 3) := by decide +kernel
theorem d_Planner_takeStatistics_20 : decode prog_5_method_2_code 20 = .ok (.iastore, 1) := by decide +kernel
theorem d_Planner_takeStatistics_21 : decode prog_5_method_2_code 21 = .ok (.iconst 0, 1) := by decide +kernel
theorem d_Planner_takeStatistics_22 : decode prog_5_method_2_code 22 = .ok (.istore 4, 2) := by decide +kernel
theorem d_Planner_takeStatistics_24 : decode prog_5_method_2_code 24 = .ok (.iload 4, 2) := by decide +kernel
theorem d_Planner_takeStatistics_26 : decode prog_5_method_2_code 26 = .ok (.aload_n 1, 1) := by decide +kernel
theorem d_Planner_takeStatistics_27 : decode prog_5_method_2_code 27 = .ok (.getfield 58, 3) := by decide +kernel
theorem d_Planner_takeStatistics_30 : decode prog_5_method_2_code 30 = .ok (.iload_n 3, 1) := by decide +kernel
theorem d_Planner_takeStatistics_31 : decode prog_5_method_2_code 31 = .ok (.iaload, 1) := by decide +kernel
theorem d_Planner_takeStatistics_32 : decode prog_5_method_2_code 32 = .ok (.if_icmp .ge 27, 3) := by decide +kernel
theorem d_Planner_takeStatistics_35 : decode prog_5_method_2_code 35 = .ok (.aload_n 0, 1) := by decide +kernel
theorem d_Planner_takeStatistics_36 : decode prog_5_method_2_code 36 = .ok (.getfield 15, 3) := by decide +kernel
theorem d_Planner_takeStatistics_39 : decode prog_5_method_2_code 39 = .ok (.iload_n 3, 1) := by decide +kernel
theorem d_Planner_takeStatistics_40 : decode prog_5_method_2_code 40 = .ok (.iconst 4, 1) := by decide +kernel
theorem d_Planner_takeStatistics_41 : decode prog_5_method_2_code 41 = .ok (.imul, 1) := by decide +kernel
theorem d_Planner_takeStatistics_42 : decode prog_5_method_2_code 42 = .ok (.iload 4, 2) := by decide +kernel
theorem d_Planner_takeStatistics_44 : decode prog_5_method_2_code 44 = .ok (.iadd, 1) := by decide +kernel
theorem d_Planner_takeStatistics_45 : decode prog_5_method_2_code 45 = .ok (.aload_n 2, 1) := by decide +kernel
theorem d_Planner_takeStatistics_46 : decode prog_5_method_2_code 46 = .ok (.iload_n 3, 1) := by decide +kernel
theorem d_Planner_takeStatistics_47 : decode prog_5_method_2_code 47 = .ok (.iload 4, 2) := by decide +kernel
theorem d_Planner_takeStatistics_49 : decode prog_5_method_2_code 49 = .ok (.invokestatic 61, 3) := by decide +kernel
theorem d_Planner_takeStatistics_52 : decode prog_5_method_2_code 52 = .ok (.iastore, 1) := by decide +kernel
theorem d_Planner_takeStatistics_53 : decode prog_5_method_2_code 53 = .ok (.iinc 4 1, 3) := by decide +kernel
theorem d_Planner_takeStatistics_56 : decode prog_5_method_2_code 56 = .ok (.goto (-32), 3) := by decide +kernel
theorem d_Planner_takeStatistics_59 : decode prog_5_method_2_code 59 = .ok (.iinc 3 1, 3) := by decide +kernel
theorem d_Planner_takeStatistics_62 : decode prog_5_method_2_code 62 = .ok (.goto (-60), 3) := by decide +kernel
theorem d_Planner_takeStatistics_65 : decode prog_5_method_2_code 65 = .ok (.return_, 1) := by decide +kernel
theorem d_Rows_count_0 : decode prog_8_method_8_code 0 = .ok (.iconst 0, 1) := by decide +kernel
theorem d_Rows_count_1 : decode prog_8_method_8_code 1 = .ok (.istore_n 2, 1) := by decide +kernel
theorem d_Rows_count_2 : decode prog_8_method_8_code 2 = .ok (.iconst 0, 1) := by decide +kernel
theorem d_Rows_count_3 : decode prog_8_method_8_code 3 = .ok (.istore_n 3, 1) := by decide +kernel
theorem d_Rows_count_4 : decode prog_8_method_8_code 4 = .ok (.iload_n 3, 1) := by decide +kernel
theorem d_Rows_count_5 : decode prog_8_method_8_code 5 = .ok (.bipush 8, 2) := by decide +kernel
theorem d_Rows_count_7 : decode prog_8_method_8_code 7 = .ok (.if_icmp .ge 27, 3) := by decide +kernel
theorem d_Rows_count_10 : decode prog_8_method_8_code 10 = .ok (.aload_n 0, 1) := by decide +kernel
theorem d_Rows_count_11 : decode prog_8_method_8_code 11 = .ok (.iload_n 1, 1) := by decide +kernel
theorem d_Rows_count_12 : decode prog_8_method_8_code 12 = .ok (.bipush 8, 2) := by decide +kernel
theorem d_Rows_count_14 : decode prog_8_method_8_code 14 = .ok (.imul, 1) := by decide +kernel
theorem d_Rows_count_15 : decode prog_8_method_8_code 15 = .ok (.iload_n 3, 1) := by decide +kernel
theorem d_Rows_count_16 : decode prog_8_method_8_code 16 = .ok (.iadd, 1) := by decide +kernel
theorem d_Rows_count_17 : decode prog_8_method_8_code 17 = .ok (.invokevirtual 32, 3) := by decide +kernel
theorem d_Rows_count_20 : decode prog_8_method_8_code 20 = .ok (.ldc 15, 2) := by decide +kernel
theorem d_Rows_count_22 : decode prog_8_method_8_code 22 = .ok (.if_icmp .eq 6, 3) := by decide +kernel
theorem d_Rows_count_25 : decode prog_8_method_8_code 25 = .ok (.iinc 2 1, 3) := by decide +kernel
theorem d_Rows_count_28 : decode prog_8_method_8_code 28 = .ok (.iinc 3 1, 3) := by decide +kernel
theorem d_Rows_count_31 : decode prog_8_method_8_code 31 = .ok (.goto (-27), 3) := by decide +kernel
theorem d_Rows_count_34 : decode prog_8_method_8_code 34 = .ok (.iload_n 2, 1) := by decide +kernel
theorem d_Rows_count_35 : decode prog_8_method_8_code 35 = .ok (.ireturn, 1) := by decide +kernel
theorem d_Rows_keyAt_0 : decode prog_8_method_4_code 0 = .ok (.aload_n 0, 1) := by decide +kernel
theorem d_Rows_keyAt_1 : decode prog_8_method_4_code 1 = .ok (.getfield 9, 3) := by decide +kernel
theorem d_Rows_keyAt_4 : decode prog_8_method_4_code 4 = .ok (.iload_n 1, 1) := by decide +kernel
theorem d_Rows_keyAt_5 : decode prog_8_method_4_code 5 = .ok (.iconst 4, 1) := by decide +kernel
theorem d_Rows_keyAt_6 : decode prog_8_method_4_code 6 = .ok (.imul, 1) := by decide +kernel
theorem d_Rows_keyAt_7 : decode prog_8_method_4_code 7 = .ok (.iaload, 1) := by decide +kernel
theorem d_Rows_keyAt_8 : decode prog_8_method_4_code 8 = .ok (.ireturn, 1) := by decide +kernel
theorem d_Planner_countDistinct_0 : decode prog_5_method_3_code 0 = .ok (.iconst 0, 1) := by decide +kernel
theorem d_Planner_countDistinct_1 : decode prog_5_method_3_code 1 = .ok (.istore_n 3, 1) := by decide +kernel
theorem d_Planner_countDistinct_2 : decode prog_5_method_3_code 2 = .ok (.iconst 0, 1) := by decide +kernel
theorem d_Planner_countDistinct_3 : decode prog_5_method_3_code 3 = .ok (.istore 4, 2) := by decide +kernel
theorem d_Planner_countDistinct_5 : decode prog_5_method_3_code 5 = .ok (.iload 4, 2) := by decide +kernel
theorem d_Planner_countDistinct_7 : decode prog_5_method_3_code 7 = .ok (.bipush 8, 2) := by decide +kernel
theorem d_Planner_countDistinct_9 : decode prog_5_method_3_code 9 = .ok (.if_icmp .ge 98, 3) := by decide +kernel
theorem d_Planner_countDistinct_12 : decode prog_5_method_3_code 12 = .ok (.aload_n 0, 1) := by decide +kernel
theorem d_Planner_countDistinct_13 : decode prog_5_method_3_code 13 = .ok (.getfield 65, 3) := by decide +kernel
theorem d_Planner_countDistinct_16 : decode prog_5_method_3_code 16 = .ok (.iload_n 1, 1) := by decide +kernel
theorem d_Planner_countDistinct_17 : decode prog_5_method_3_code 17 = .ok (.bipush 8, 2) := by decide +kernel
theorem d_Planner_countDistinct_19 : decode prog_5_method_3_code 19 = .ok (.imul, 1) := by decide +kernel
theorem d_Planner_countDistinct_20 : decode prog_5_method_3_code 20 = .ok (.iload 4, 2) := by decide +kernel
theorem d_Planner_countDistinct_22 : decode prog_5_method_3_code 22 = .ok (.iadd, 1) := by decide +kernel
theorem d_Planner_countDistinct_23 : decode prog_5_method_3_code 23 = .ok (.invokestatic 68, 3) := by decide +kernel
theorem d_Planner_countDistinct_26 : decode prog_5_method_3_code 26 = .ok (.iload_n 2, 1) := by decide +kernel
theorem d_Planner_countDistinct_27 : decode prog_5_method_3_code 27 = .ok (.iadd, 1) := by decide +kernel
theorem d_Planner_countDistinct_28 : decode prog_5_method_3_code 28 = .ok (.iaload, 1) := by decide +kernel
theorem d_Planner_countDistinct_29 : decode prog_5_method_3_code 29 = .ok (.istore 5, 2) := by decide +kernel
theorem d_Planner_countDistinct_31 : decode prog_5_method_3_code 31 = .ok (.iload 5, 2) := by decide +kernel
theorem d_Planner_countDistinct_33 : decode prog_5_method_3_code 33 = .ok (.ldc 71, 2) := by decide +kernel
theorem d_Planner_countDistinct_35 : decode prog_5_method_3_code 35 = .ok (.if_icmp .eq 7, 3) := by decide +kernel
theorem d_Planner_countDistinct_38 : decode prog_5_method_3_code 38 = .ok (.iconst 1, 1) := by decide +kernel
theorem d_Planner_countDistinct_39 : decode prog_5_method_3_code 39 = .ok (.goto 4, 3) := by decide +kernel
theorem d_Planner_countDistinct_42 : decode prog_5_method_3_code 42 = .ok (.iconst 0, 1) := by decide +kernel
theorem d_Planner_countDistinct_43 : decode prog_5_method_3_code 43 = .ok (.istore 6, 2) := by decide +kernel
theorem d_Planner_countDistinct_45 : decode prog_5_method_3_code 45 = .ok (.iconst 0, 1) := by decide +kernel
theorem d_Planner_countDistinct_46 : decode prog_5_method_3_code 46 = .ok (.istore 7, 2) := by decide +kernel
theorem d_Planner_countDistinct_48 : decode prog_5_method_3_code 48 = .ok (.iload 7, 2) := by decide +kernel
theorem d_Planner_countDistinct_50 : decode prog_5_method_3_code 50 = .ok (.iload 4, 2) := by decide +kernel
theorem d_Planner_countDistinct_52 : decode prog_5_method_3_code 52 = .ok (.if_icmp .ge 41, 3) := by decide +kernel
theorem d_Planner_countDistinct_55 : decode prog_5_method_3_code 55 = .ok (.iload 6, 2) := by decide +kernel
theorem d_Planner_countDistinct_57 : decode prog_5_method_3_code 57 = .ok (.aload_n 0, 1) := by decide +kernel
theorem d_Planner_countDistinct_58 : decode prog_5_method_3_code 58 = .ok (.getfield 65, 3) := by decide +kernel
theorem d_Planner_countDistinct_61 : decode prog_5_method_3_code 61 = .ok (.iload_n 1, 1) := by decide +kernel
theorem d_Planner_countDistinct_62 : decode prog_5_method_3_code 62 = .ok (.bipush 8, 2) := by decide +kernel
theorem d_Planner_countDistinct_64 : decode prog_5_method_3_code 64 = .ok (.imul, 1) := by decide +kernel
theorem d_Planner_countDistinct_65 : decode prog_5_method_3_code 65 = .ok (.iload 7, 2) := by decide +kernel
theorem d_Planner_countDistinct_67 : decode prog_5_method_3_code 67 = .ok (.iadd, 1) := by decide +kernel
theorem d_Planner_countDistinct_68 : decode prog_5_method_3_code 68 = .ok (.invokestatic 68, 3) := by decide +kernel
theorem d_Planner_countDistinct_71 : decode prog_5_method_3_code 71 = .ok (.iload_n 2, 1) := by decide +kernel
theorem d_Planner_countDistinct_72 : decode prog_5_method_3_code 72 = .ok (.iadd, 1) := by decide +kernel
theorem d_Planner_countDistinct_73 : decode prog_5_method_3_code 73 = .ok (.iaload, 1) := by decide +kernel
theorem d_Planner_countDistinct_74 : decode prog_5_method_3_code 74 = .ok (.iload 5, 2) := by decide +kernel
theorem d_Planner_countDistinct_76 : decode prog_5_method_3_code 76 = .ok (.if_icmp .eq 7, 3) := by decide +kernel
theorem d_Planner_countDistinct_79 : decode prog_5_method_3_code 79 = .ok (.iconst 1, 1) := by decide +kernel
theorem d_Planner_countDistinct_80 : decode prog_5_method_3_code 80 = .ok (.goto 4, 3) := by decide +kernel
theorem d_Planner_countDistinct_83 : decode prog_5_method_3_code 83 = .ok (.iconst 0, 1) := by decide +kernel
theorem d_Planner_countDistinct_84 : decode prog_5_method_3_code 84 = .ok (.iand, 1) := by decide +kernel
theorem d_Planner_countDistinct_85 : decode prog_5_method_3_code 85 = .ok (.istore 6, 2) := by decide +kernel
theorem d_Planner_countDistinct_87 : decode prog_5_method_3_code 87 = .ok (.iinc 7 1, 3) := by decide +kernel
theorem d_Planner_countDistinct_90 : decode prog_5_method_3_code 90 = .ok (.goto (-42), 3) := by decide +kernel
theorem d_Planner_countDistinct_93 : decode prog_5_method_3_code 93 = .ok (.iload 6, 2) := by decide +kernel
theorem d_Planner_countDistinct_95 : decode prog_5_method_3_code 95 = .ok (.ifCond .eq 6, 3) := by decide +kernel
theorem d_Planner_countDistinct_98 : decode prog_5_method_3_code 98 = .ok (.iinc 3 1, 3) := by decide +kernel
theorem d_Planner_countDistinct_101 : decode prog_5_method_3_code 101 = .ok (.iinc 4 1, 3) := by decide +kernel
theorem d_Planner_countDistinct_104 : decode prog_5_method_3_code 104 = .ok (.goto (-99), 3) := by decide +kernel
theorem d_Planner_countDistinct_107 : decode prog_5_method_3_code 107 = .ok (.iload_n 3, 1) := by decide +kernel
theorem d_Planner_countDistinct_108 : decode prog_5_method_3_code 108 = .ok (.ireturn, 1) := by decide +kernel
theorem d_Rows_startOf_0 : decode prog_8_method_3_code 0 = .ok (.iload_n 0, 1) := by decide +kernel
theorem d_Rows_startOf_1 : decode prog_8_method_3_code 1 = .ok (.iconst 4, 1) := by decide +kernel
theorem d_Rows_startOf_2 : decode prog_8_method_3_code 2 = .ok (.imul, 1) := by decide +kernel
theorem d_Rows_startOf_3 : decode prog_8_method_3_code 3 = .ok (.ireturn, 1) := by decide +kernel
theorem d_Log_add_0 : decode prog_4_method_2_code 0 = .ok (.aload_n 0, 1) := by decide +kernel
theorem d_Log_add_1 : decode prog_4_method_2_code 1 = .ok (.getfield 22, 3) := by decide +kernel
theorem d_Log_add_4 : decode prog_4_method_2_code 4 = .ok (.bipush 8, 2) := by decide +kernel
theorem d_Log_add_6 : decode prog_4_method_2_code 6 = .ok (.imul, 1) := by decide +kernel
theorem d_Log_add_7 : decode prog_4_method_2_code 7 = .ok (.istore 5, 2) := by decide +kernel
theorem d_Log_add_9 : decode prog_4_method_2_code 9 = .ok (.iload 5, 2) := by decide +kernel
theorem d_Log_add_11 : decode prog_4_method_2_code 11 = .ok (.bipush 8, 2) := by decide +kernel
theorem d_Log_add_13 : decode prog_4_method_2_code 13 = .ok (.iadd, 1) := by decide +kernel
theorem d_Log_add_14 : decode prog_4_method_2_code 14 = .ok (.aload_n 0, 1) := by decide +kernel
theorem d_Log_add_15 : decode prog_4_method_2_code 15 = .ok (.getfield 11, 3) := by decide +kernel
theorem d_Log_add_18 : decode prog_4_method_2_code 18 = .ok (.arraylength, 1) := by decide +kernel
theorem d_Log_add_19 : decode prog_4_method_2_code 19 = .ok (.if_icmp .le 21, 3) := by decide +kernel
theorem d_Log_add_22 : decode prog_4_method_2_code 22 = .ok (.aload_n 0, 1) := by decide +kernel
theorem d_Log_add_23 : decode prog_4_method_2_code 23 = .ok (.aload_n 0, 1) := by decide +kernel
theorem d_Log_add_24 : decode prog_4_method_2_code 24 = .ok (.getfield 11, 3) := by decide +kernel
theorem d_Log_add_27 : decode prog_4_method_2_code 27 = .ok (.iconst 2, 1) := by decide +kernel
theorem d_Log_add_28 : decode prog_4_method_2_code 28 = .ok (.aload_n 0, 1) := by decide +kernel
theorem d_Log_add_29 : decode prog_4_method_2_code 29 = .ok (.getfield 11, 3) := by decide +kernel
theorem d_Log_add_32 : decode prog_4_method_2_code 32 = .ok (.arraylength, 1) := by decide +kernel
theorem d_Log_add_33 : decode prog_4_method_2_code 33 = .ok (.imul, 1) := by decide +kernel
theorem d_Log_add_34 : decode prog_4_method_2_code 34 = .ok (.invokestatic 26, 3) := by decide +kernel
theorem d_Log_add_37 : decode prog_4_method_2_code 37 = .ok (.putfield 11, 3) := by decide +kernel
theorem d_Log_add_40 : decode prog_4_method_2_code 40 = .ok (.aload_n 0, 1) := by decide +kernel
theorem d_Log_add_41 : decode prog_4_method_2_code 41 = .ok (.getfield 11, 3) := by decide +kernel
theorem d_Log_add_44 : decode prog_4_method_2_code 44 = .ok (.iload 5, 2) := by decide +kernel
theorem d_Log_add_46 : decode prog_4_method_2_code 46 = .ok (.iload_n 1, 1) := by decide +kernel
theorem d_Log_add_47 : decode prog_4_method_2_code 47 = .ok (.iastore, 1) := by decide +kernel
theorem d_Log_add_48 : decode prog_4_method_2_code 48 = .ok (.aload_n 0, 1) := by decide +kernel
theorem d_Log_add_49 : decode prog_4_method_2_code 49 = .ok (.getfield 11, 3) := by decide +kernel
theorem d_Log_add_52 : decode prog_4_method_2_code 52 = .ok (.iload 5, 2) := by decide +kernel
theorem d_Log_add_54 : decode prog_4_method_2_code 54 = .ok (.iconst 1, 1) := by decide +kernel
theorem d_Log_add_55 : decode prog_4_method_2_code 55 = .ok (.iadd, 1) := by decide +kernel
theorem d_Log_add_56 : decode prog_4_method_2_code 56 = .ok (.iload_n 2, 1) := by decide +kernel
theorem d_Log_add_57 : decode prog_4_method_2_code 57 = .ok (.iastore, 1) := by decide +kernel
theorem d_Log_add_58 : decode prog_4_method_2_code 58 = .ok (.aload_n 0, 1) := by decide +kernel
theorem d_Log_add_59 : decode prog_4_method_2_code 59 = .ok (.getfield 11, 3) := by decide +kernel
theorem d_Log_add_62 : decode prog_4_method_2_code 62 = .ok (.iload 5, 2) := by decide +kernel
theorem d_Log_add_64 : decode prog_4_method_2_code 64 = .ok (.iconst 2, 1) := by decide +kernel
theorem d_Log_add_65 : decode prog_4_method_2_code 65 = .ok (.iadd, 1) := by decide +kernel
theorem d_Log_add_66 : decode prog_4_method_2_code 66 = .ok (.iload_n 3, 1) := by decide +kernel
theorem d_Log_add_67 : decode prog_4_method_2_code 67 = .ok (.iastore, 1) := by decide +kernel
theorem d_Log_add_68 : decode prog_4_method_2_code 68 = .ok (.aload_n 0, 1) := by decide +kernel
theorem d_Log_add_69 : decode prog_4_method_2_code 69 = .ok (.getfield 11, 3) := by decide +kernel
theorem d_Log_add_72 : decode prog_4_method_2_code 72 = .ok (.iload 5, 2) := by decide +kernel
theorem d_Log_add_74 : decode prog_4_method_2_code 74 = .ok (.iconst 3, 1) := by decide +kernel
theorem d_Log_add_75 : decode prog_4_method_2_code 75 = .ok (.iadd, 1) := by decide +kernel
theorem d_Log_add_76 : decode prog_4_method_2_code 76 = .ok (.iload 4, 2) := by decide +kernel
theorem d_Log_add_78 : decode prog_4_method_2_code 78 = .ok (.iastore, 1) := by decide +kernel
theorem d_Log_add_79 : decode prog_4_method_2_code 79 = .ok (.aload_n 0, 1) := by decide +kernel
theorem d_Log_add_80 : decode prog_4_method_2_code 80 = .ok (.getfield 11, 3) := by decide +kernel
theorem d_Log_add_83 : decode prog_4_method_2_code 83 = .ok (.iload 5, 2) := by decide +kernel
theorem d_Log_add_85 : decode prog_4_method_2_code 85 = .ok (.iconst 4, 1) := by decide +kernel
theorem d_Log_add_86 : decode prog_4_method_2_code 86 = .ok (.iadd, 1) := by decide +kernel
theorem d_Log_add_87 : decode prog_4_method_2_code 87 = .ok (.iload 5, 2) := by decide +kernel
theorem d_Log_add_89 : decode prog_4_method_2_code 89 = .ok (.bipush 8, 2) := by decide +kernel
theorem d_Log_add_91 : decode prog_4_method_2_code 91 = .ok (.iadd, 1) := by decide +kernel
theorem d_Log_add_92 : decode prog_4_method_2_code 92 = .ok (.ldc 32, 2) := by decide +kernel
theorem d_Log_add_94 : decode prog_4_method_2_code 94 = .ok (.invokestatic 33, 3) := by decide +kernel
theorem d_Log_add_97 : decode prog_4_method_2_code 97 = .ok (.aload_n 0, 1) := by decide +kernel
theorem d_Log_add_98 : decode prog_4_method_2_code 98 = .ok (.dup, 1) := by decide +kernel
theorem d_Log_add_99 : decode prog_4_method_2_code 99 = .ok (.getfield 22, 3) := by decide +kernel
theorem d_Log_add_102 : decode prog_4_method_2_code 102 = .ok (.iconst 1, 1) := by decide +kernel
theorem d_Log_add_103 : decode prog_4_method_2_code 103 = .ok (.iadd, 1) := by decide +kernel
theorem d_Log_add_104 : decode prog_4_method_2_code 104 = .ok (.putfield 22, 3) := by decide +kernel
theorem d_Log_add_107 : decode prog_4_method_2_code 107 = .ok (.return_, 1) := by decide +kernel
theorem d_Log_flush_0 : decode prog_4_method_4_code 0 = .ok (.aload_n 0, 1) := by decide +kernel
theorem d_Log_flush_1 : decode prog_4_method_4_code 1 = .ok (.aload_n 0, 1) := by decide +kernel
theorem d_Log_flush_2 : decode prog_4_method_4_code 2 = .ok (.getfield 22, 3) := by decide +kernel
theorem d_Log_flush_5 : decode prog_4_method_4_code 5 = .ok (.putfield 60, 3) := by decide +kernel
theorem d_Log_flush_8 : decode prog_4_method_4_code 8 = .ok (.return_, 1) := by decide +kernel
theorem d_Transaction_isOpen_0 : decode prog_10_method_2_code 0 = .ok (.aload_n 0, 1) := by decide +kernel
theorem d_Transaction_isOpen_1 : decode prog_10_method_2_code 1 = .ok (.getfield 18, 3) := by decide +kernel
theorem d_Transaction_isOpen_4 : decode prog_10_method_2_code 4 = .ok (.ifCond .eq 11, 3) := by decide +kernel
theorem d_Transaction_isOpen_7 : decode prog_10_method_2_code 7 = .ok (.aload_n 0, 1) := by decide +kernel
theorem d_Transaction_isOpen_8 : decode prog_10_method_2_code 8 = .ok (.getfield 18, 3) := by decide +kernel
theorem d_Transaction_isOpen_11 : decode prog_10_method_2_code 11 = .ok (.iconst 1, 1) := by decide +kernel
theorem d_Transaction_isOpen_12 : decode prog_10_method_2_code 12 = .ok (.if_icmp .ne 7, 3) := by decide +kernel
theorem d_Transaction_isOpen_15 : decode prog_10_method_2_code 15 = .ok (.iconst 1, 1) := by decide +kernel
theorem d_Transaction_isOpen_16 : decode prog_10_method_2_code 16 = .ok (.goto 4, 3) := by decide +kernel
theorem d_Transaction_isOpen_19 : decode prog_10_method_2_code 19 = .ok (.iconst 0, 1) := by decide +kernel
theorem d_Transaction_isOpen_20 : decode prog_10_method_2_code 20 = .ok (.ireturn, 1) := by decide +kernel
theorem d_Schema_addTable_0 : decode prog_9_method_4_code 0 = .ok (.aload_n 0, 1) := by decide +kernel
theorem d_Schema_addTable_1 : decode prog_9_method_4_code 1 = .ok (.getfield 9, 3) := by decide +kernel
theorem d_Schema_addTable_4 : decode prog_9_method_4_code 4 = .ok (.aload_n 0, 1) := by decide +kernel
theorem d_Schema_addTable_5 : decode prog_9_method_4_code 5 = .ok (.getfield 36, 3) := by decide +kernel
theorem d_Schema_addTable_8 : decode prog_9_method_4_code 8 = .ok (.iload_n 1, 1) := by decide +kernel
theorem d_Schema_addTable_9 : decode prog_9_method_4_code 9 = .ok (.iastore, 1) := by decide +kernel
theorem d_Schema_addTable_10 : decode prog_9_method_4_code 10 = .ok (.aload_n 0, 1) := by decide +kernel
theorem d_Schema_addTable_11 : decode prog_9_method_4_code 11 = .ok (.dup, 1) := by decide +kernel
theorem d_Schema_addTable_12 : decode prog_9_method_4_code 12 = .ok (.getfield 36, 3) := by decide +kernel
theorem d_Schema_addTable_15 : decode prog_9_method_4_code 15 = .ok (.iconst 1, 1) := by decide +kernel
theorem d_Schema_addTable_16 : decode prog_9_method_4_code 16 = .ok (.iadd, 1) := by decide +kernel
theorem d_Schema_addTable_17 : decode prog_9_method_4_code 17 = .ok (.putfield 36, 3) := by decide +kernel
theorem d_Schema_addTable_20 : decode prog_9_method_4_code 20 = .ok (.aload_n 0, 1) := by decide +kernel
theorem d_Schema_addTable_21 : decode prog_9_method_4_code 21 = .ok (.getfield 36, 3) := by decide +kernel
theorem d_Schema_addTable_24 : decode prog_9_method_4_code 24 = .ok (.iconst 1, 1) := by decide +kernel
theorem d_Schema_addTable_25 : decode prog_9_method_4_code 25 = .ok (.isub, 1) := by decide +kernel
theorem d_Schema_addTable_26 : decode prog_9_method_4_code 26 = .ok (.ireturn, 1) := by decide +kernel
theorem d_Schema_hasColumn_0 : decode prog_9_method_3_code 0 = .ok (.aload_n 0, 1) := by decide +kernel
theorem d_Schema_hasColumn_1 : decode prog_9_method_3_code 1 = .ok (.iload_n 1, 1) := by decide +kernel
theorem d_Schema_hasColumn_2 : decode prog_9_method_3_code 2 = .ok (.invokevirtual 40, 3) := by decide +kernel
theorem d_Schema_hasColumn_5 : decode prog_9_method_3_code 5 = .ok (.ifCond .eq 21, 3) := by decide +kernel
theorem d_Schema_hasColumn_8 : decode prog_9_method_3_code 8 = .ok (.iload_n 2, 1) := by decide +kernel
theorem d_Schema_hasColumn_9 : decode prog_9_method_3_code 9 = .ok (.ifCond .lt 17, 3) := by decide +kernel
theorem d_Schema_hasColumn_12 : decode prog_9_method_3_code 12 = .ok (.iload_n 2, 1) := by decide +kernel
theorem d_Schema_hasColumn_13 : decode prog_9_method_3_code 13 = .ok (.aload_n 0, 1) := by decide +kernel
theorem d_Schema_hasColumn_14 : decode prog_9_method_3_code 14 = .ok (.getfield 9, 3) := by decide +kernel
theorem d_Schema_hasColumn_17 : decode prog_9_method_3_code 17 = .ok (.iload_n 1, 1) := by decide +kernel
theorem d_Schema_hasColumn_18 : decode prog_9_method_3_code 18 = .ok (.iaload, 1) := by decide +kernel
theorem d_Schema_hasColumn_19 : decode prog_9_method_3_code 19 = .ok (.if_icmp .ge 7, 3) := by decide +kernel
theorem d_Schema_hasColumn_22 : decode prog_9_method_3_code 22 = .ok (.iconst 1, 1) := by decide +kernel
theorem d_Schema_hasColumn_23 : decode prog_9_method_3_code 23 = .ok (.goto 4, 3) := by decide +kernel
theorem d_Schema_hasColumn_26 : decode prog_9_method_3_code 26 = .ok (.iconst 0, 1) := by decide +kernel
theorem d_Schema_hasColumn_27 : decode prog_9_method_3_code 27 = .ok (.ireturn, 1) := by decide +kernel
theorem d_Schema_hasTable_0 : decode prog_9_method_2_code 0 = .ok (.iload_n 1, 1) := by decide +kernel
theorem d_Schema_hasTable_1 : decode prog_9_method_2_code 1 = .ok (.ifCond .lt 15, 3) := by decide +kernel
theorem d_Schema_hasTable_4 : decode prog_9_method_2_code 4 = .ok (.iload_n 1, 1) := by decide +kernel
theorem d_Schema_hasTable_5 : decode prog_9_method_2_code 5 = .ok (.aload_n 0, 1) := by decide +kernel
theorem d_Schema_hasTable_6 : decode prog_9_method_2_code 6 = .ok (.getfield 36, 3) := by decide +kernel
theorem d_Schema_hasTable_9 : decode prog_9_method_2_code 9 = .ok (.if_icmp .ge 7, 3) := by decide +kernel
theorem d_Schema_hasTable_12 : decode prog_9_method_2_code 12 = .ok (.iconst 1, 1) := by decide +kernel
theorem d_Schema_hasTable_13 : decode prog_9_method_2_code 13 = .ok (.goto 4, 3) := by decide +kernel
theorem d_Schema_hasTable_16 : decode prog_9_method_2_code 16 = .ok (.iconst 0, 1) := by decide +kernel
theorem d_Schema_hasTable_17 : decode prog_9_method_2_code 17 = .ok (.ireturn, 1) := by decide +kernel
theorem d_Schema_addCheck_0 : decode prog_9_method_5_code 0 = .ok (.iload_n 1, 1) := by decide +kernel
theorem d_Schema_addCheck_1 : decode prog_9_method_5_code 1 = .ok (.iconst 4, 1) := by decide +kernel
theorem d_Schema_addCheck_2 : decode prog_9_method_5_code 2 = .ok (.imul, 1) := by decide +kernel
theorem d_Schema_addCheck_3 : decode prog_9_method_5_code 3 = .ok (.aload_n 0, 1) := by decide +kernel
theorem d_Schema_addCheck_4 : decode prog_9_method_5_code 4 = .ok (.getfield 15, 3) := by decide +kernel
theorem d_Schema_addCheck_7 : decode prog_9_method_5_code 7 = .ok (.iload_n 1, 1) := by decide +kernel
theorem d_Schema_addCheck_8 : decode prog_9_method_5_code 8 = .ok (.iaload, 1) := by decide +kernel
theorem d_Schema_addCheck_9 : decode prog_9_method_5_code 9 = .ok (.iadd, 1) := by decide +kernel
theorem d_Schema_addCheck_10 : decode prog_9_method_5_code 10 = .ok (.iconst 3, 1) := by decide +kernel
theorem d_Schema_addCheck_11 : decode prog_9_method_5_code 11 = .ok (.imul, 1) := by decide +kernel
theorem d_Schema_addCheck_12 : decode prog_9_method_5_code 12 = .ok (.istore 5, 2) := by decide +kernel
theorem d_Schema_addCheck_14 : decode prog_9_method_5_code 14 = .ok (.aload_n 0, 1) := by decide +kernel
theorem d_Schema_addCheck_15 : decode prog_9_method_5_code 15 = .ok (.getfield 18, 3) := by decide +kernel
theorem d_Schema_addCheck_18 : decode prog_9_method_5_code 18 = .ok (.iload 5, 2) := by decide +kernel
theorem d_Schema_addCheck_20 : decode prog_9_method_5_code 20 = .ok (.iload_n 2, 1) := by decide +kernel
theorem d_Schema_addCheck_21 : decode prog_9_method_5_code 21 = .ok (.iastore, 1) := by decide +kernel
theorem d_Schema_addCheck_22 : decode prog_9_method_5_code 22 = .ok (.aload_n 0, 1) := by decide +kernel
theorem d_Schema_addCheck_23 : decode prog_9_method_5_code 23 = .ok (.getfield 18, 3) := by decide +kernel
theorem d_Schema_addCheck_26 : decode prog_9_method_5_code 26 = .ok (.iload 5, 2) := by decide +kernel
theorem d_Schema_addCheck_28 : decode prog_9_method_5_code 28 = .ok (.iconst 1, 1) := by decide +kernel
theorem d_Schema_addCheck_29 : decode prog_9_method_5_code 29 = .ok (.iadd, 1) := by decide +kernel
theorem d_Schema_addCheck_30 : decode prog_9_method_5_code 30 = .ok (.iload_n 3, 1) := by decide +kernel
theorem d_Schema_addCheck_31 : decode prog_9_method_5_code 31 = .ok (.iastore, 1) := by decide +kernel
theorem d_Schema_addCheck_32 : decode prog_9_method_5_code 32 = .ok (.aload_n 0, 1) := by decide +kernel
theorem d_Schema_addCheck_33 : decode prog_9_method_5_code 33 = .ok (.getfield 18, 3) := by decide +kernel
theorem d_Schema_addCheck_36 : decode prog_9_method_5_code 36 = .ok (.iload 5, 2) := by decide +kernel
theorem d_Schema_addCheck_38 : decode prog_9_method_5_code 38 = .ok (.iconst 2, 1) := by decide +kernel
theorem d_Schema_addCheck_39 : decode prog_9_method_5_code 39 = .ok (.iadd, 1) := by decide +kernel
theorem d_Schema_addCheck_40 : decode prog_9_method_5_code 40 = .ok (.iload 4, 2) := by decide +kernel
theorem d_Schema_addCheck_42 : decode prog_9_method_5_code 42 = .ok (.iastore, 1) := by decide +kernel
theorem d_Schema_addCheck_43 : decode prog_9_method_5_code 43 = .ok (.aload_n 0, 1) := by decide +kernel
theorem d_Schema_addCheck_44 : decode prog_9_method_5_code 44 = .ok (.getfield 15, 3) := by decide +kernel
theorem d_Schema_addCheck_47 : decode prog_9_method_5_code 47 = .ok (.iload_n 1, 1) := by decide +kernel
theorem d_Schema_addCheck_48 : decode prog_9_method_5_code 48 = .ok (.dup2, 1) := by decide +kernel
theorem d_Schema_addCheck_49 : decode prog_9_method_5_code 49 = .ok (.iaload, 1) := by decide +kernel
theorem d_Schema_addCheck_50 : decode prog_9_method_5_code 50 = .ok (.iconst 1, 1) := by decide +kernel
theorem d_Schema_addCheck_51 : decode prog_9_method_5_code 51 = .ok (.iadd, 1) := by decide +kernel
theorem d_Schema_addCheck_52 : decode prog_9_method_5_code 52 = .ok (.iastore, 1) := by decide +kernel
theorem d_Schema_addCheck_53 : decode prog_9_method_5_code 53 = .ok (.aload_n 0, 1) := by decide +kernel
theorem d_Schema_addCheck_54 : decode prog_9_method_5_code 54 = .ok (.getfield 15, 3) := by decide +kernel
theorem d_Schema_addCheck_57 : decode prog_9_method_5_code 57 = .ok (.iload_n 1, 1) := by decide +kernel
theorem d_Schema_addCheck_58 : decode prog_9_method_5_code 58 = .ok (.iaload, 1) := by decide +kernel
theorem d_Schema_addCheck_59 : decode prog_9_method_5_code 59 = .ok (.ireturn, 1) := by decide +kernel
theorem d_Schema_target_0 : decode prog_9_method_8_code 0 = .ok (.aload_n 0, 1) := by decide +kernel
theorem d_Schema_target_1 : decode prog_9_method_8_code 1 = .ok (.getfield 21, 3) := by decide +kernel
theorem d_Schema_target_4 : decode prog_9_method_8_code 4 = .ok (.iload_n 1, 1) := by decide +kernel
theorem d_Schema_target_5 : decode prog_9_method_8_code 5 = .ok (.iconst 4, 1) := by decide +kernel
theorem d_Schema_target_6 : decode prog_9_method_8_code 6 = .ok (.imul, 1) := by decide +kernel
theorem d_Schema_target_7 : decode prog_9_method_8_code 7 = .ok (.iload_n 2, 1) := by decide +kernel
theorem d_Schema_target_8 : decode prog_9_method_8_code 8 = .ok (.iadd, 1) := by decide +kernel
theorem d_Schema_target_9 : decode prog_9_method_8_code 9 = .ok (.iaload, 1) := by decide +kernel
theorem d_Schema_target_10 : decode prog_9_method_8_code 10 = .ok (.ireturn, 1) := by decide +kernel
theorem d_Schema_addReference_0 : decode prog_9_method_6_code 0 = .ok (.aload_n 0, 1) := by decide +kernel
theorem d_Schema_addReference_1 : decode prog_9_method_6_code 1 = .ok (.getfield 21, 3) := by decide +kernel
theorem d_Schema_addReference_4 : decode prog_9_method_6_code 4 = .ok (.iload_n 1, 1) := by decide +kernel
theorem d_Schema_addReference_5 : decode prog_9_method_6_code 5 = .ok (.iconst 4, 1) := by decide +kernel
theorem d_Schema_addReference_6 : decode prog_9_method_6_code 6 = .ok (.imul, 1) := by decide +kernel
theorem d_Schema_addReference_7 : decode prog_9_method_6_code 7 = .ok (.iload_n 2, 1) := by decide +kernel
theorem d_Schema_addReference_8 : decode prog_9_method_6_code 8 = .ok (.iadd, 1) := by decide +kernel
theorem d_Schema_addReference_9 : decode prog_9_method_6_code 9 = .ok (.iload_n 3, 1) := by decide +kernel
theorem d_Schema_addReference_10 : decode prog_9_method_6_code 10 = .ok (.iastore, 1) := by decide +kernel
theorem d_Schema_addReference_11 : decode prog_9_method_6_code 11 = .ok (.aload_n 0, 1) := by decide +kernel
theorem d_Schema_addReference_12 : decode prog_9_method_6_code 12 = .ok (.getfield 24, 3) := by decide +kernel
theorem d_Schema_addReference_15 : decode prog_9_method_6_code 15 = .ok (.iload_n 1, 1) := by decide +kernel
theorem d_Schema_addReference_16 : decode prog_9_method_6_code 16 = .ok (.iconst 4, 1) := by decide +kernel
theorem d_Schema_addReference_17 : decode prog_9_method_6_code 17 = .ok (.imul, 1) := by decide +kernel
theorem d_Schema_addReference_18 : decode prog_9_method_6_code 18 = .ok (.iload_n 2, 1) := by decide +kernel
theorem d_Schema_addReference_19 : decode prog_9_method_6_code 19 = .ok (.iadd, 1) := by decide +kernel
theorem d_Schema_addReference_20 : decode prog_9_method_6_code 20 = .ok (.iload 4, 2) := by decide +kernel
theorem d_Schema_addReference_22 : decode prog_9_method_6_code 22 = .ok (.iastore, 1) := by decide +kernel
theorem d_Schema_addReference_23 : decode prog_9_method_6_code 23 = .ok (.return_, 1) := by decide +kernel
theorem d_Schema_addVeil_0 : decode prog_9_method_7_code 0 = .ok (.aload_n 0, 1) := by decide +kernel
theorem d_Schema_addVeil_1 : decode prog_9_method_7_code 1 = .ok (.getfield 44, 3) := by decide +kernel
theorem d_Schema_addVeil_4 : decode prog_9_method_7_code 4 = .ok (.iconst 5, 1) := by decide +kernel
theorem d_Schema_addVeil_5 : decode prog_9_method_7_code 5 = .ok (.imul, 1) := by decide +kernel
theorem d_Schema_addVeil_6 : decode prog_9_method_7_code 6 = .ok (.istore 6, 2) := by decide +kernel
theorem d_Schema_addVeil_8 : decode prog_9_method_7_code 8 = .ok (.aload_n 0, 1) := by decide +kernel
theorem d_Schema_addVeil_9 : decode prog_9_method_7_code 9 = .ok (.getfield 27, 3) := by decide +kernel
theorem d_Schema_addVeil_12 : decode prog_9_method_7_code 12 = .ok (.iload 6, 2) := by decide +kernel
theorem d_Schema_addVeil_14 : decode prog_9_method_7_code 14 = .ok (.iload_n 1, 1) := by decide +kernel
theorem d_Schema_addVeil_15 : decode prog_9_method_7_code 15 = .ok (.iastore, 1) := by decide +kernel
theorem d_Schema_addVeil_16 : decode prog_9_method_7_code 16 = .ok (.aload_n 0, 1) := by decide +kernel
theorem d_Schema_addVeil_17 : decode prog_9_method_7_code 17 = .ok (.getfield 27, 3) := by decide +kernel
theorem d_Schema_addVeil_20 : decode prog_9_method_7_code 20 = .ok (.iload 6, 2) := by decide +kernel
theorem d_Schema_addVeil_22 : decode prog_9_method_7_code 22 = .ok (.iconst 1, 1) := by decide +kernel
theorem d_Schema_addVeil_23 : decode prog_9_method_7_code 23 = .ok (.iadd, 1) := by decide +kernel
theorem d_Schema_addVeil_24 : decode prog_9_method_7_code 24 = .ok (.iload_n 2, 1) := by decide +kernel
theorem d_Schema_addVeil_25 : decode prog_9_method_7_code 25 = .ok (.iastore, 1) := by decide +kernel
theorem d_Schema_addVeil_26 : decode prog_9_method_7_code 26 = .ok (.aload_n 0, 1) := by decide +kernel
theorem d_Schema_addVeil_27 : decode prog_9_method_7_code 27 = .ok (.getfield 27, 3) := by decide +kernel
theorem d_Schema_addVeil_30 : decode prog_9_method_7_code 30 = .ok (.iload 6, 2) := by decide +kernel
theorem d_Schema_addVeil_32 : decode prog_9_method_7_code 32 = .ok (.iconst 2, 1) := by decide +kernel
theorem d_Schema_addVeil_33 : decode prog_9_method_7_code 33 = .ok (.iadd, 1) := by decide +kernel
theorem d_Schema_addVeil_34 : decode prog_9_method_7_code 34 = .ok (.iload_n 3, 1) := by decide +kernel
theorem d_Schema_addVeil_35 : decode prog_9_method_7_code 35 = .ok (.iastore, 1) := by decide +kernel
theorem d_Schema_addVeil_36 : decode prog_9_method_7_code 36 = .ok (.aload_n 0, 1) := by decide +kernel
theorem d_Schema_addVeil_37 : decode prog_9_method_7_code 37 = .ok (.getfield 27, 3) := by decide +kernel
theorem d_Schema_addVeil_40 : decode prog_9_method_7_code 40 = .ok (.iload 6, 2) := by decide +kernel
theorem d_Schema_addVeil_42 : decode prog_9_method_7_code 42 = .ok (.iconst 3, 1) := by decide +kernel
theorem d_Schema_addVeil_43 : decode prog_9_method_7_code 43 = .ok (.iadd, 1) := by decide +kernel
theorem d_Schema_addVeil_44 : decode prog_9_method_7_code 44 = .ok (.iload 4, 2) := by decide +kernel
theorem d_Schema_addVeil_46 : decode prog_9_method_7_code 46 = .ok (.iastore, 1) := by decide +kernel
theorem d_Schema_addVeil_47 : decode prog_9_method_7_code 47 = .ok (.aload_n 0, 1) := by decide +kernel
theorem d_Schema_addVeil_48 : decode prog_9_method_7_code 48 = .ok (.getfield 27, 3) := by decide +kernel
theorem d_Schema_addVeil_51 : decode prog_9_method_7_code 51 = .ok (.iload 6, 2) := by decide +kernel
theorem d_Schema_addVeil_53 : decode prog_9_method_7_code 53 = .ok (.iconst 4, 1) := by decide +kernel
theorem d_Schema_addVeil_54 : decode prog_9_method_7_code 54 = .ok (.iadd, 1) := by decide +kernel
theorem d_Schema_addVeil_55 : decode prog_9_method_7_code 55 = .ok (.iload 5, 2) := by decide +kernel
theorem d_Schema_addVeil_57 : decode prog_9_method_7_code 57 = .ok (.iastore, 1) := by decide +kernel
theorem d_Schema_addVeil_58 : decode prog_9_method_7_code 58 = .ok (.aload_n 0, 1) := by decide +kernel
theorem d_Schema_addVeil_59 : decode prog_9_method_7_code 59 = .ok (.dup, 1) := by decide +kernel
theorem d_Schema_addVeil_60 : decode prog_9_method_7_code 60 = .ok (.getfield 44, 3) := by decide +kernel
theorem d_Schema_addVeil_63 : decode prog_9_method_7_code 63 = .ok (.iconst 1, 1) := by decide +kernel
theorem d_Schema_addVeil_64 : decode prog_9_method_7_code 64 = .ok (.iadd, 1) := by decide +kernel
theorem d_Schema_addVeil_65 : decode prog_9_method_7_code 65 = .ok (.putfield 44, 3) := by decide +kernel
theorem d_Schema_addVeil_68 : decode prog_9_method_7_code 68 = .ok (.aload_n 0, 1) := by decide +kernel
theorem d_Schema_addVeil_69 : decode prog_9_method_7_code 69 = .ok (.getfield 44, 3) := by decide +kernel
theorem d_Schema_addVeil_72 : decode prog_9_method_7_code 72 = .ok (.ireturn, 1) := by decide +kernel
theorem d_Transaction_init_0 : decode prog_10_method_1_code 0 = .ok (.aload_n 0, 1) := by decide +kernel
theorem d_Transaction_init_1 : decode prog_10_method_1_code 1 = .ok (.invokespecial 3, 3) := by decide +kernel
theorem d_Transaction_init_4 : decode prog_10_method_1_code 4 = .ok (.aload_n 0, 1) := by decide +kernel
theorem d_Transaction_init_5 : decode prog_10_method_1_code 5 = .ok (.new 9, 3) := by decide +kernel
theorem d_Transaction_init_8 : decode prog_10_method_1_code 8 = .ok (.dup, 1) := by decide +kernel
theorem d_Transaction_init_9 : decode prog_10_method_1_code 9 = .ok (.invokespecial 11, 3) := by decide +kernel
theorem d_Transaction_init_12 : decode prog_10_method_1_code 12 = .ok (.putfield 12, 3) := by decide +kernel
theorem d_Transaction_init_15 : decode prog_10_method_1_code 15 = .ok (.aload_n 0, 1) := by decide +kernel
theorem d_Transaction_init_16 : decode prog_10_method_1_code 16 = .ok (.iconst 0, 1) := by decide +kernel
theorem d_Transaction_init_17 : decode prog_10_method_1_code 17 = .ok (.putfield 18, 3) := by decide +kernel
theorem d_Transaction_init_20 : decode prog_10_method_1_code 20 = .ok (.aload_n 0, 1) := by decide +kernel
theorem d_Transaction_init_21 : decode prog_10_method_1_code 21 = .ok (.iconst (-1), 1) := by decide +kernel
theorem d_Transaction_init_22 : decode prog_10_method_1_code 22 = .ok (.putfield 22, 3) := by decide +kernel
theorem d_Transaction_init_25 : decode prog_10_method_1_code 25 = .ok (.aload_n 0, 1) := by decide +kernel
theorem d_Transaction_init_26 : decode prog_10_method_1_code 26 = .ok (.iconst (-1), 1) := by decide +kernel
theorem d_Transaction_init_27 : decode prog_10_method_1_code 27 = .ok (.putfield 25, 3) := by decide +kernel
theorem d_Transaction_init_30 : decode prog_10_method_1_code 30 = .ok (.aload_n 0, 1) := by decide +kernel
theorem d_Transaction_init_31 : decode prog_10_method_1_code 31 = .ok (.iconst 4, 1) := by decide +kernel
theorem d_Transaction_init_32 : decode prog_10_method_1_code 32 = .ok (.newarray .int, 2) := by decide +kernel
theorem d_Transaction_init_34 : decode prog_10_method_1_code 34 = .ok (.putfield 28, 3) := by decide +kernel
theorem d_Transaction_init_37 : decode prog_10_method_1_code 37 = .ok (.aload_n 0, 1) := by decide +kernel
theorem d_Transaction_init_38 : decode prog_10_method_1_code 38 = .ok (.bipush 8, 2) := by decide +kernel
theorem d_Transaction_init_40 : decode prog_10_method_1_code 40 = .ok (.newarray .int, 2) := by decide +kernel
theorem d_Transaction_init_42 : decode prog_10_method_1_code 42 = .ok (.putfield 32, 3) := by decide +kernel
theorem d_Transaction_init_45 : decode prog_10_method_1_code 45 = .ok (.aload_n 0, 1) := by decide +kernel
theorem d_Transaction_init_46 : decode prog_10_method_1_code 46 = .ok (.bipush 8, 2) := by decide +kernel
theorem d_Transaction_init_48 : decode prog_10_method_1_code 48 = .ok (.newarray .int, 2) := by decide +kernel
theorem d_Transaction_init_50 : decode prog_10_method_1_code 50 = .ok (.putfield 35, 3) := by decide +kernel
theorem d_Transaction_init_53 : decode prog_10_method_1_code 53 = .ok (.aload_n 0, 1) := by decide +kernel
theorem d_Transaction_init_54 : decode prog_10_method_1_code 54 = .ok (.bipush 8, 2) := by decide +kernel
theorem d_Transaction_init_56 : decode prog_10_method_1_code 56 = .ok (.newarray .int, 2) := by decide +kernel
theorem d_Transaction_init_58 : decode prog_10_method_1_code 58 = .ok (.putfield 38, 3) := by decide +kernel
theorem d_Transaction_init_61 : decode prog_10_method_1_code 61 = .ok (.aload_n 0, 1) := by decide +kernel
theorem d_Transaction_init_62 : decode prog_10_method_1_code 62 = .ok (.iload_n 1, 1) := by decide +kernel
theorem d_Transaction_init_63 : decode prog_10_method_1_code 63 = .ok (.putfield 41, 3) := by decide +kernel
theorem d_Transaction_init_66 : decode prog_10_method_1_code 66 = .ok (.aload_n 0, 1) := by decide +kernel
theorem d_Transaction_init_67 : decode prog_10_method_1_code 67 = .ok (.iload_n 2, 1) := by decide +kernel
theorem d_Transaction_init_68 : decode prog_10_method_1_code 68 = .ok (.putfield 44, 3) := by decide +kernel
theorem d_Transaction_init_71 : decode prog_10_method_1_code 71 = .ok (.aload_n 0, 1) := by decide +kernel
theorem d_Transaction_init_72 : decode prog_10_method_1_code 72 = .ok (.iload_n 3, 1) := by decide +kernel
theorem d_Transaction_init_73 : decode prog_10_method_1_code 73 = .ok (.putfield 47, 3) := by decide +kernel
theorem d_Transaction_init_76 : decode prog_10_method_1_code 76 = .ok (.return_, 1) := by decide +kernel
theorem d_Rows_copyFrom_0 : decode prog_8_method_2_code 0 = .ok (.aload_n 1, 1) := by decide +kernel
theorem d_Rows_copyFrom_1 : decode prog_8_method_2_code 1 = .ok (.getfield 9, 3) := by decide +kernel
theorem d_Rows_copyFrom_4 : decode prog_8_method_2_code 4 = .ok (.iconst 0, 1) := by decide +kernel
theorem d_Rows_copyFrom_5 : decode prog_8_method_2_code 5 = .ok (.aload_n 0, 1) := by decide +kernel
theorem d_Rows_copyFrom_6 : decode prog_8_method_2_code 6 = .ok (.getfield 9, 3) := by decide +kernel
theorem d_Rows_copyFrom_9 : decode prog_8_method_2_code 9 = .ok (.iconst 0, 1) := by decide +kernel
theorem d_Rows_copyFrom_10 : decode prog_8_method_2_code 10 = .ok (.aload_n 0, 1) := by decide +kernel
theorem d_Rows_copyFrom_11 : decode prog_8_method_2_code 11 = .ok (.getfield 9, 3) := by decide +kernel
theorem d_Rows_copyFrom_14 : decode prog_8_method_2_code 14 = .ok (.arraylength, 1) := by decide +kernel
theorem d_Rows_copyFrom_15 : decode prog_8_method_2_code 15 = .ok (.invokestatic 22, 3) := by decide +kernel
theorem d_Rows_copyFrom_18 : decode prog_8_method_2_code 18 = .ok (.return_, 1) := by decide +kernel
theorem d_Transaction_planInsert_0 : decode prog_10_method_3_code 0 = .ok (.aload_n 0, 1) := by decide +kernel
theorem d_Transaction_planInsert_1 : decode prog_10_method_3_code 1 = .ok (.iconst 0, 1) := by decide +kernel
theorem d_Transaction_planInsert_2 : decode prog_10_method_3_code 2 = .ok (.putfield 50, 3) := by decide +kernel
theorem d_Transaction_planInsert_5 : decode prog_10_method_3_code 5 = .ok (.aload_n 0, 1) := by decide +kernel
theorem d_Transaction_planInsert_6 : decode prog_10_method_3_code 6 = .ok (.iload_n 1, 1) := by decide +kernel
theorem d_Transaction_planInsert_7 : decode prog_10_method_3_code 7 = .ok (.putfield 53, 3) := by decide +kernel
theorem d_Transaction_planInsert_10 : decode prog_10_method_3_code 10 = .ok (.aload_n 0, 1) := by decide +kernel
theorem d_Transaction_planInsert_11 : decode prog_10_method_3_code 11 = .ok (.getfield 28, 3) := by decide +kernel
theorem d_Transaction_planInsert_14 : decode prog_10_method_3_code 14 = .ok (.ldc 56, 2) := by decide +kernel
theorem d_Transaction_planInsert_16 : decode prog_10_method_3_code 16 = .ok (.invokestatic 57, 3) := by decide +kernel
theorem d_Transaction_planInsert_19 : decode prog_10_method_3_code 19 = .ok (.aload_n 2, 1) := by decide +kernel
theorem d_Transaction_planInsert_20 : decode prog_10_method_3_code 20 = .ok (.iconst 0, 1) := by decide +kernel
theorem d_Transaction_planInsert_21 : decode prog_10_method_3_code 21 = .ok (.aload_n 0, 1) := by decide +kernel
theorem d_Transaction_planInsert_22 : decode prog_10_method_3_code 22 = .ok (.getfield 28, 3) := by decide +kernel
theorem d_Transaction_planInsert_25 : decode prog_10_method_3_code 25 = .ok (.iconst 0, 1) := by decide +kernel
theorem d_Transaction_planInsert_26 : decode prog_10_method_3_code 26 = .ok (.iload_n 3, 1) := by decide +kernel
theorem d_Transaction_planInsert_27 : decode prog_10_method_3_code 27 = .ok (.invokestatic 63, 3) := by decide +kernel
theorem d_Transaction_planInsert_30 : decode prog_10_method_3_code 30 = .ok (.aload_n 0, 1) := by decide +kernel
theorem d_Transaction_planInsert_31 : decode prog_10_method_3_code 31 = .ok (.aload_n 0, 1) := by decide +kernel
theorem d_Transaction_planInsert_32 : decode prog_10_method_3_code 32 = .ok (.getfield 28, 3) := by decide +kernel
theorem d_Transaction_planInsert_35 : decode prog_10_method_3_code 35 = .ok (.iconst 0, 1) := by decide +kernel
theorem d_Transaction_planInsert_36 : decode prog_10_method_3_code 36 = .ok (.iaload, 1) := by decide +kernel
theorem d_Transaction_planInsert_37 : decode prog_10_method_3_code 37 = .ok (.putfield 69, 3) := by decide +kernel
theorem d_Transaction_planInsert_40 : decode prog_10_method_3_code 40 = .ok (.return_, 1) := by decide +kernel
theorem d_Transaction_readKey_0 : decode prog_10_method_8_code 0 = .ok (.aload_n 0, 1) := by decide +kernel
theorem d_Transaction_readKey_1 : decode prog_10_method_8_code 1 = .ok (.iload_n 1, 1) := by decide +kernel
theorem d_Transaction_readKey_2 : decode prog_10_method_8_code 2 = .ok (.iload_n 2, 1) := by decide +kernel
theorem d_Transaction_readKey_3 : decode prog_10_method_8_code 3 = .ok (.invokevirtual 81, 3) := by decide +kernel
theorem d_Transaction_readKey_6 : decode prog_10_method_8_code 6 = .ok (.ifCond .eq 4, 3) := by decide +kernel
theorem d_Transaction_readKey_9 : decode prog_10_method_8_code 9 = .ok (.return_, 1) := by decide +kernel
theorem d_Transaction_readKey_10 : decode prog_10_method_8_code 10 = .ok (.aload_n 0, 1) := by decide +kernel
theorem d_Transaction_readKey_11 : decode prog_10_method_8_code 11 = .ok (.getfield 85, 3) := by decide +kernel
theorem d_Transaction_readKey_14 : decode prog_10_method_8_code 14 = .ok (.aload_n 0, 1) := by decide +kernel
theorem d_Transaction_readKey_15 : decode prog_10_method_8_code 15 = .ok (.getfield 35, 3) := by decide +kernel
theorem d_Transaction_readKey_18 : decode prog_10_method_8_code 18 = .ok (.arraylength, 1) := by decide +kernel
theorem d_Transaction_readKey_19 : decode prog_10_method_8_code 19 = .ok (.if_icmp .ne 37, 3) := by decide +kernel
theorem d_Transaction_readKey_22 : decode prog_10_method_8_code 22 = .ok (.aload_n 0, 1) := by decide +kernel
theorem d_Transaction_readKey_23 : decode prog_10_method_8_code 23 = .ok (.aload_n 0, 1) := by decide +kernel
theorem d_Transaction_readKey_24 : decode prog_10_method_8_code 24 = .ok (.getfield 32, 3) := by decide +kernel
theorem d_Transaction_readKey_27 : decode prog_10_method_8_code 27 = .ok (.iconst 2, 1) := by decide +kernel
theorem d_Transaction_readKey_28 : decode prog_10_method_8_code 28 = .ok (.aload_n 0, 1) := by decide +kernel
theorem d_Transaction_readKey_29 : decode prog_10_method_8_code 29 = .ok (.getfield 85, 3) := by decide +kernel
theorem d_Transaction_readKey_32 : decode prog_10_method_8_code 32 = .ok (.imul, 1) := by decide +kernel
theorem d_Transaction_readKey_33 : decode prog_10_method_8_code 33 = .ok (.invokestatic 88, 3) := by decide +kernel
theorem d_Transaction_readKey_36 : decode prog_10_method_8_code 36 = .ok (.putfield 32, 3) := by decide +kernel
theorem d_Transaction_readKey_39 : decode prog_10_method_8_code 39 = .ok (.aload_n 0, 1) := by decide +kernel
theorem d_Transaction_readKey_40 : decode prog_10_method_8_code 40 = .ok (.aload_n 0, 1) := by decide +kernel
theorem d_Transaction_readKey_41 : decode prog_10_method_8_code 41 = .ok (.getfield 35, 3) := by decide +kernel
theorem d_Transaction_readKey_44 : decode prog_10_method_8_code 44 = .ok (.iconst 2, 1) := by decide +kernel
theorem d_Transaction_readKey_45 : decode prog_10_method_8_code 45 = .ok (.aload_n 0, 1) := by decide +kernel
theorem d_Transaction_readKey_46 : decode prog_10_method_8_code 46 = .ok (.getfield 85, 3) := by decide +kernel
theorem d_Transaction_readKey_49 : decode prog_10_method_8_code 49 = .ok (.imul, 1) := by decide +kernel
theorem d_Transaction_readKey_50 : decode prog_10_method_8_code 50 = .ok (.invokestatic 88, 3) := by decide +kernel
theorem d_Transaction_readKey_53 : decode prog_10_method_8_code 53 = .ok (.putfield 35, 3) := by decide +kernel
theorem d_Transaction_readKey_56 : decode prog_10_method_8_code 56 = .ok (.aload_n 0, 1) := by decide +kernel
theorem d_Transaction_readKey_57 : decode prog_10_method_8_code 57 = .ok (.getfield 32, 3) := by decide +kernel
theorem d_Transaction_readKey_60 : decode prog_10_method_8_code 60 = .ok (.aload_n 0, 1) := by decide +kernel
theorem d_Transaction_readKey_61 : decode prog_10_method_8_code 61 = .ok (.getfield 85, 3) := by decide +kernel
theorem d_Transaction_readKey_64 : decode prog_10_method_8_code 64 = .ok (.iload_n 1, 1) := by decide +kernel
theorem d_Transaction_readKey_65 : decode prog_10_method_8_code 65 = .ok (.iastore, 1) := by decide +kernel
theorem d_Transaction_readKey_66 : decode prog_10_method_8_code 66 = .ok (.aload_n 0, 1) := by decide +kernel
theorem d_Transaction_readKey_67 : decode prog_10_method_8_code 67 = .ok (.getfield 35, 3) := by decide +kernel
theorem d_Transaction_readKey_70 : decode prog_10_method_8_code 70 = .ok (.aload_n 0, 1) := by decide +kernel
theorem d_Transaction_readKey_71 : decode prog_10_method_8_code 71 = .ok (.getfield 85, 3) := by decide +kernel
theorem d_Transaction_readKey_74 : decode prog_10_method_8_code 74 = .ok (.iload_n 2, 1) := by decide +kernel
theorem d_Transaction_readKey_75 : decode prog_10_method_8_code 75 = .ok (.iastore, 1) := by decide +kernel
theorem d_Transaction_readKey_76 : decode prog_10_method_8_code 76 = .ok (.aload_n 0, 1) := by decide +kernel
theorem d_Transaction_readKey_77 : decode prog_10_method_8_code 77 = .ok (.dup, 1) := by decide +kernel
theorem d_Transaction_readKey_78 : decode prog_10_method_8_code 78 = .ok (.getfield 85, 3) := by decide +kernel
theorem d_Transaction_readKey_81 : decode prog_10_method_8_code 81 = .ok (.iconst 1, 1) := by decide +kernel
theorem d_Transaction_readKey_82 : decode prog_10_method_8_code 82 = .ok (.iadd, 1) := by decide +kernel
theorem d_Transaction_readKey_83 : decode prog_10_method_8_code 83 = .ok (.putfield 85, 3) := by decide +kernel
theorem d_Transaction_readKey_86 : decode prog_10_method_8_code 86 = .ok (.return_, 1) := by decide +kernel
theorem d_Transaction_hasReadKey_0 : decode prog_10_method_9_code 0 = .ok (.iconst 0, 1) := by decide +kernel
theorem d_Transaction_hasReadKey_1 : decode prog_10_method_9_code 1 = .ok (.istore_n 3, 1) := by decide +kernel
theorem d_Transaction_hasReadKey_2 : decode prog_10_method_9_code 2 = .ok (.iload_n 3, 1) := by decide +kernel
theorem d_Transaction_hasReadKey_3 : decode prog_10_method_9_code 3 = .ok (.aload_n 0, 1) := by decide +kernel
theorem d_Transaction_hasReadKey_4 : decode prog_10_method_9_code 4 = .ok (.getfield 85, 3) := by decide +kernel
theorem d_Transaction_hasReadKey_7 : decode prog_10_method_9_code 7 = .ok (.if_icmp .ge 31, 3) := by decide +kernel
theorem d_Transaction_hasReadKey_10 : decode prog_10_method_9_code 10 = .ok (.aload_n 0, 1) := by decide +kernel
theorem d_Transaction_hasReadKey_11 : decode prog_10_method_9_code 11 = .ok (.getfield 32, 3) := by decide +kernel
theorem d_Transaction_hasReadKey_14 : decode prog_10_method_9_code 14 = .ok (.iload_n 3, 1) := by decide +kernel
theorem d_Transaction_hasReadKey_15 : decode prog_10_method_9_code 15 = .ok (.iaload, 1) := by decide +kernel
theorem d_Transaction_hasReadKey_16 : decode prog_10_method_9_code 16 = .ok (.iload_n 1, 1) := by decide +kernel
theorem d_Transaction_hasReadKey_17 : decode prog_10_method_9_code 17 = .ok (.if_icmp .ne 15, 3) := by decide +kernel
theorem d_Transaction_hasReadKey_20 : decode prog_10_method_9_code 20 = .ok (.aload_n 0, 1) := by decide +kernel
theorem d_Transaction_hasReadKey_21 : decode prog_10_method_9_code 21 = .ok (.getfield 35, 3) := by decide +kernel
theorem d_Transaction_hasReadKey_24 : decode prog_10_method_9_code 24 = .ok (.iload_n 3, 1) := by decide +kernel
theorem d_Transaction_hasReadKey_25 : decode prog_10_method_9_code 25 = .ok (.iaload, 1) := by decide +kernel
theorem d_Transaction_hasReadKey_26 : decode prog_10_method_9_code 26 = .ok (.iload_n 2, 1) := by decide +kernel
theorem d_Transaction_hasReadKey_27 : decode prog_10_method_9_code 27 = .ok (.if_icmp .ne 5, 3) := by decide +kernel
theorem d_Transaction_hasReadKey_30 : decode prog_10_method_9_code 30 = .ok (.iconst 1, 1) := by decide +kernel
theorem d_Transaction_hasReadKey_31 : decode prog_10_method_9_code 31 = .ok (.ireturn, 1) := by decide +kernel
theorem d_Transaction_hasReadKey_32 : decode prog_10_method_9_code 32 = .ok (.iinc 3 1, 3) := by decide +kernel
theorem d_Transaction_hasReadKey_35 : decode prog_10_method_9_code 35 = .ok (.goto (-33), 3) := by decide +kernel
theorem d_Transaction_hasReadKey_38 : decode prog_10_method_9_code 38 = .ok (.iconst 0, 1) := by decide +kernel
theorem d_Transaction_hasReadKey_39 : decode prog_10_method_9_code 39 = .ok (.ireturn, 1) := by decide +kernel
theorem d_Rows_find_0 : decode prog_8_method_5_code 0 = .ok (.iload_n 2, 1) := by decide +kernel
theorem d_Rows_find_1 : decode prog_8_method_5_code 1 = .ok (.ldc 15, 2) := by decide +kernel
theorem d_Rows_find_3 : decode prog_8_method_5_code 3 = .ok (.if_icmp .ne 7, 3) := by decide +kernel
theorem d_Rows_find_6 : decode prog_8_method_5_code 6 = .ok (.iconst (-1), 1) := by decide +kernel
theorem d_Rows_find_7 : decode prog_8_method_5_code 7 = .ok (.goto 9, 3) := by decide +kernel
theorem d_Rows_find_10 : decode prog_8_method_5_code 10 = .ok (.aload_n 0, 1) := by decide +kernel
theorem d_Rows_find_11 : decode prog_8_method_5_code 11 = .ok (.iload_n 1, 1) := by decide +kernel
theorem d_Rows_find_12 : decode prog_8_method_5_code 12 = .ok (.iload_n 2, 1) := by decide +kernel
theorem d_Rows_find_13 : decode prog_8_method_5_code 13 = .ok (.invokevirtual 28, 3) := by decide +kernel
theorem d_Rows_find_16 : decode prog_8_method_5_code 16 = .ok (.ireturn, 1) := by decide +kernel
theorem d_Rows_firstWith_0 : decode prog_8_method_7_code 0 = .ok (.iload_n 1, 1) := by decide +kernel
theorem d_Rows_firstWith_1 : decode prog_8_method_7_code 1 = .ok (.bipush 8, 2) := by decide +kernel
theorem d_Rows_firstWith_3 : decode prog_8_method_7_code 3 = .ok (.imul, 1) := by decide +kernel
theorem d_Rows_firstWith_4 : decode prog_8_method_7_code 4 = .ok (.istore_n 3, 1) := by decide +kernel
theorem d_Rows_firstWith_5 : decode prog_8_method_7_code 5 = .ok (.iload_n 3, 1) := by decide +kernel
theorem d_Rows_firstWith_6 : decode prog_8_method_7_code 6 = .ok (.iload_n 1, 1) := by decide +kernel
theorem d_Rows_firstWith_7 : decode prog_8_method_7_code 7 = .ok (.iconst 1, 1) := by decide +kernel
theorem d_Rows_firstWith_8 : decode prog_8_method_7_code 8 = .ok (.iadd, 1) := by decide +kernel
theorem d_Rows_firstWith_9 : decode prog_8_method_7_code 9 = .ok (.bipush 8, 2) := by decide +kernel
theorem d_Rows_firstWith_11 : decode prog_8_method_7_code 11 = .ok (.imul, 1) := by decide +kernel
theorem d_Rows_firstWith_12 : decode prog_8_method_7_code 12 = .ok (.if_icmp .ge 23, 3) := by decide +kernel
theorem d_Rows_firstWith_15 : decode prog_8_method_7_code 15 = .ok (.aload_n 0, 1) := by decide +kernel
theorem d_Rows_firstWith_16 : decode prog_8_method_7_code 16 = .ok (.getfield 9, 3) := by decide +kernel
theorem d_Rows_firstWith_19 : decode prog_8_method_7_code 19 = .ok (.iload_n 3, 1) := by decide +kernel
theorem d_Rows_firstWith_20 : decode prog_8_method_7_code 20 = .ok (.iconst 4, 1) := by decide +kernel
theorem d_Rows_firstWith_21 : decode prog_8_method_7_code 21 = .ok (.imul, 1) := by decide +kernel
theorem d_Rows_firstWith_22 : decode prog_8_method_7_code 22 = .ok (.iaload, 1) := by decide +kernel
theorem d_Rows_firstWith_23 : decode prog_8_method_7_code 23 = .ok (.iload_n 2, 1) := by decide +kernel
theorem d_Rows_firstWith_24 : decode prog_8_method_7_code 24 = .ok (.if_icmp .ne 5, 3) := by decide +kernel
theorem d_Rows_firstWith_27 : decode prog_8_method_7_code 27 = .ok (.iload_n 3, 1) := by decide +kernel
theorem d_Rows_firstWith_28 : decode prog_8_method_7_code 28 = .ok (.ireturn, 1) := by decide +kernel
theorem d_Rows_firstWith_29 : decode prog_8_method_7_code 29 = .ok (.iinc 3 1, 3) := by decide +kernel
theorem d_Rows_firstWith_32 : decode prog_8_method_7_code 32 = .ok (.goto (-27), 3) := by decide +kernel
theorem d_Rows_firstWith_35 : decode prog_8_method_7_code 35 = .ok (.iconst (-1), 1) := by decide +kernel
theorem d_Rows_firstWith_36 : decode prog_8_method_7_code 36 = .ok (.ireturn, 1) := by decide +kernel
theorem d_Rows_findFree_0 : decode prog_8_method_6_code 0 = .ok (.aload_n 0, 1) := by decide +kernel
theorem d_Rows_findFree_1 : decode prog_8_method_6_code 1 = .ok (.iload_n 1, 1) := by decide +kernel
theorem d_Rows_findFree_2 : decode prog_8_method_6_code 2 = .ok (.ldc 15, 2) := by decide +kernel
theorem d_Rows_findFree_4 : decode prog_8_method_6_code 4 = .ok (.invokevirtual 28, 3) := by decide +kernel
theorem d_Rows_findFree_7 : decode prog_8_method_6_code 7 = .ok (.ireturn, 1) := by decide +kernel
theorem d_Schema_passesChecks_0 : decode prog_9_method_10_code 0 = .ok (.iconst 0, 1) := by decide +kernel
theorem d_Schema_passesChecks_1 : decode prog_9_method_10_code 1 = .ok (.istore 4, 2) := by decide +kernel
theorem d_Schema_passesChecks_3 : decode prog_9_method_10_code 3 = .ok (.iload 4, 2) := by decide +kernel
theorem d_Schema_passesChecks_5 : decode prog_9_method_10_code 5 = .ok (.aload_n 0, 1) := by decide +kernel
theorem d_Schema_passesChecks_6 : decode prog_9_method_10_code 6 = .ok (.getfield 15, 3) := by decide +kernel
theorem d_Schema_passesChecks_9 : decode prog_9_method_10_code 9 = .ok (.iload_n 1, 1) := by decide +kernel
theorem d_Schema_passesChecks_10 : decode prog_9_method_10_code 10 = .ok (.iaload, 1) := by decide +kernel
theorem d_Schema_passesChecks_11 : decode prog_9_method_10_code 11 = .ok (.if_icmp .ge 56, 3) := by decide +kernel
theorem d_Schema_passesChecks_14 : decode prog_9_method_10_code 14 = .ok (.iload_n 1, 1) := by decide +kernel
theorem d_Schema_passesChecks_15 : decode prog_9_method_10_code 15 = .ok (.iconst 4, 1) := by decide +kernel
theorem d_Schema_passesChecks_16 : decode prog_9_method_10_code 16 = .ok (.imul, 1) := by decide +kernel
theorem d_Schema_passesChecks_17 : decode prog_9_method_10_code 17 = .ok (.iload 4, 2) := by decide +kernel
theorem d_Schema_passesChecks_19 : decode prog_9_method_10_code 19 = .ok (.iadd, 1) := by decide +kernel
theorem d_Schema_passesChecks_20 : decode prog_9_method_10_code 20 = .ok (.iconst 3, 1) := by decide +kernel
theorem d_Schema_passesChecks_21 : decode prog_9_method_10_code 21 = .ok (.imul, 1) := by decide +kernel
theorem d_Schema_passesChecks_22 : decode prog_9_method_10_code 22 = .ok (.istore 5, 2) := by decide +kernel
theorem d_Schema_passesChecks_24 : decode prog_9_method_10_code 24 = .ok (.aload_n 2, 1) := by decide +kernel
theorem d_Schema_passesChecks_25 : decode prog_9_method_10_code 25 = .ok (.iload_n 3, 1) := by decide +kernel
theorem d_Schema_passesChecks_26 : decode prog_9_method_10_code 26 = .ok (.aload_n 0, 1) := by decide +kernel
theorem d_Schema_passesChecks_27 : decode prog_9_method_10_code 27 = .ok (.getfield 18, 3) := by decide +kernel
theorem d_Schema_passesChecks_30 : decode prog_9_method_10_code 30 = .ok (.iload 5, 2) := by decide +kernel
theorem d_Schema_passesChecks_32 : decode prog_9_method_10_code 32 = .ok (.iaload, 1) := by decide +kernel
theorem d_Schema_passesChecks_33 : decode prog_9_method_10_code 33 = .ok (.iadd, 1) := by decide +kernel
theorem d_Schema_passesChecks_34 : decode prog_9_method_10_code 34 = .ok (.iaload, 1) := by decide +kernel
theorem d_Schema_passesChecks_35 : decode prog_9_method_10_code 35 = .ok (.aload_n 0, 1) := by decide +kernel
theorem d_Schema_passesChecks_36 : decode prog_9_method_10_code 36 = .ok (.getfield 18, 3) := by decide +kernel
theorem d_Schema_passesChecks_39 : decode prog_9_method_10_code 39 = .ok (.iload 5, 2) := by decide +kernel
theorem d_Schema_passesChecks_41 : decode prog_9_method_10_code 41 = .ok (.iconst 1, 1) := by decide +kernel
theorem d_Schema_passesChecks_42 : decode prog_9_method_10_code 42 = .ok (.iadd, 1) := by decide +kernel
theorem d_Schema_passesChecks_43 : decode prog_9_method_10_code 43 = .ok (.iaload, 1) := by decide +kernel
theorem d_Schema_passesChecks_44 : decode prog_9_method_10_code 44 = .ok (.aload_n 0, 1) := by decide +kernel
theorem d_Schema_passesChecks_45 : decode prog_9_method_10_code 45 = .ok (.getfield 18, 3) := by decide +kernel
theorem d_Schema_passesChecks_48 : decode prog_9_method_10_code 48 = .ok (.iload 5, 2) := by decide +kernel
theorem d_Schema_passesChecks_50 : decode prog_9_method_10_code 50 = .ok (.iconst 2, 1) := by decide +kernel
theorem d_Schema_passesChecks_51 : decode prog_9_method_10_code 51 = .ok (.iadd, 1) := by decide +kernel
theorem d_Schema_passesChecks_52 : decode prog_9_method_10_code 52 = .ok (.iaload, 1) := by decide +kernel
theorem d_Schema_passesChecks_53 : decode prog_9_method_10_code 53 = .ok (.invokestatic 51, 3) := by decide +kernel
theorem d_Schema_passesChecks_56 : decode prog_9_method_10_code 56 = .ok (.ifCond .ne 5, 3) := by decide +kernel
theorem d_Schema_passesChecks_59 : decode prog_9_method_10_code 59 = .ok (.iconst 0, 1) := by decide +kernel
theorem d_Schema_passesChecks_60 : decode prog_9_method_10_code 60 = .ok (.ireturn, 1) := by decide +kernel
theorem d_Schema_passesChecks_61 : decode prog_9_method_10_code 61 = .ok (.iinc 4 1, 3) := by decide +kernel
theorem d_Schema_passesChecks_64 : decode prog_9_method_10_code 64 = .ok (.goto (-61), 3) := by decide +kernel
theorem d_Schema_passesChecks_67 : decode prog_9_method_10_code 67 = .ok (.iconst 1, 1) := by decide +kernel
theorem d_Schema_passesChecks_68 : decode prog_9_method_10_code 68 = .ok (.ireturn, 1) := by decide +kernel
theorem d_Rows_put_0 : decode prog_8_method_10_code 0 = .ok (.aload_n 2, 1) := by decide +kernel
theorem d_Rows_put_1 : decode prog_8_method_10_code 1 = .ok (.iload_n 3, 1) := by decide +kernel
theorem d_Rows_put_2 : decode prog_8_method_10_code 2 = .ok (.aload_n 0, 1) := by decide +kernel
theorem d_Rows_put_3 : decode prog_8_method_10_code 3 = .ok (.getfield 9, 3) := by decide +kernel
theorem d_Rows_put_6 : decode prog_8_method_10_code 6 = .ok (.iload_n 1, 1) := by decide +kernel
theorem d_Rows_put_7 : decode prog_8_method_10_code 7 = .ok (.invokestatic 39, 3) := by decide +kernel
theorem d_Rows_put_10 : decode prog_8_method_10_code 10 = .ok (.iconst 4, 1) := by decide +kernel
theorem d_Rows_put_11 : decode prog_8_method_10_code 11 = .ok (.invokestatic 22, 3) := by decide +kernel
theorem d_Rows_put_14 : decode prog_8_method_10_code 14 = .ok (.return_, 1) := by decide +kernel
theorem d_Schema_isSeen_0 : decode prog_9_method_11_code 0 = .ok (.iconst 0, 1) := by decide +kernel
theorem d_Schema_isSeen_1 : decode prog_9_method_11_code 1 = .ok (.istore 5, 2) := by decide +kernel
theorem d_Schema_isSeen_3 : decode prog_9_method_11_code 3 = .ok (.iload 5, 2) := by decide +kernel
theorem d_Schema_isSeen_5 : decode prog_9_method_11_code 5 = .ok (.aload_n 0, 1) := by decide +kernel
theorem d_Schema_isSeen_6 : decode prog_9_method_11_code 6 = .ok (.getfield 44, 3) := by decide +kernel
theorem d_Schema_isSeen_9 : decode prog_9_method_11_code 9 = .ok (.if_icmp .ge 80, 3) := by decide +kernel
theorem d_Schema_isSeen_12 : decode prog_9_method_11_code 12 = .ok (.iload 5, 2) := by decide +kernel
theorem d_Schema_isSeen_14 : decode prog_9_method_11_code 14 = .ok (.iconst 5, 1) := by decide +kernel
theorem d_Schema_isSeen_15 : decode prog_9_method_11_code 15 = .ok (.imul, 1) := by decide +kernel
theorem d_Schema_isSeen_16 : decode prog_9_method_11_code 16 = .ok (.istore 6, 2) := by decide +kernel
theorem d_Schema_isSeen_18 : decode prog_9_method_11_code 18 = .ok (.aload_n 0, 1) := by decide +kernel
theorem d_Schema_isSeen_19 : decode prog_9_method_11_code 19 = .ok (.getfield 27, 3) := by decide +kernel
theorem d_Schema_isSeen_22 : decode prog_9_method_11_code 22 = .ok (.iload 6, 2) := by decide +kernel
theorem d_Schema_isSeen_24 : decode prog_9_method_11_code 24 = .ok (.iaload, 1) := by decide +kernel
theorem d_Schema_isSeen_25 : decode prog_9_method_11_code 25 = .ok (.iload_n 1, 1) := by decide +kernel
theorem d_Schema_isSeen_26 : decode prog_9_method_11_code 26 = .ok (.if_icmp .ne 57, 3) := by decide +kernel
theorem d_Schema_isSeen_29 : decode prog_9_method_11_code 29 = .ok (.aload_n 0, 1) := by decide +kernel
theorem d_Schema_isSeen_30 : decode prog_9_method_11_code 30 = .ok (.getfield 27, 3) := by decide +kernel
theorem d_Schema_isSeen_33 : decode prog_9_method_11_code 33 = .ok (.iload 6, 2) := by decide +kernel
theorem d_Schema_isSeen_35 : decode prog_9_method_11_code 35 = .ok (.iconst 1, 1) := by decide +kernel
theorem d_Schema_isSeen_36 : decode prog_9_method_11_code 36 = .ok (.iadd, 1) := by decide +kernel
theorem d_Schema_isSeen_37 : decode prog_9_method_11_code 37 = .ok (.iaload, 1) := by decide +kernel
theorem d_Schema_isSeen_38 : decode prog_9_method_11_code 38 = .ok (.iload_n 2, 1) := by decide +kernel
theorem d_Schema_isSeen_39 : decode prog_9_method_11_code 39 = .ok (.if_icmp .ne 44, 3) := by decide +kernel
theorem d_Schema_isSeen_42 : decode prog_9_method_11_code 42 = .ok (.aload_n 3, 1) := by decide +kernel
theorem d_Schema_isSeen_43 : decode prog_9_method_11_code 43 = .ok (.iload 4, 2) := by decide +kernel
theorem d_Schema_isSeen_45 : decode prog_9_method_11_code 45 = .ok (.aload_n 0, 1) := by decide +kernel
theorem d_Schema_isSeen_46 : decode prog_9_method_11_code 46 = .ok (.getfield 27, 3) := by decide +kernel
theorem d_Schema_isSeen_49 : decode prog_9_method_11_code 49 = .ok (.iload 6, 2) := by decide +kernel
theorem d_Schema_isSeen_51 : decode prog_9_method_11_code 51 = .ok (.iconst 2, 1) := by decide +kernel
theorem d_Schema_isSeen_52 : decode prog_9_method_11_code 52 = .ok (.iadd, 1) := by decide +kernel
theorem d_Schema_isSeen_53 : decode prog_9_method_11_code 53 = .ok (.iaload, 1) := by decide +kernel
theorem d_Schema_isSeen_54 : decode prog_9_method_11_code 54 = .ok (.iadd, 1) := by decide +kernel
theorem d_Schema_isSeen_55 : decode prog_9_method_11_code 55 = .ok (.iaload, 1) := by decide +kernel
theorem d_Schema_isSeen_56 : decode prog_9_method_11_code 56 = .ok (.aload_n 0, 1) := by decide +kernel
theorem d_Schema_isSeen_57 : decode prog_9_method_11_code 57 = .ok (.getfield 27, 3) := by decide +kernel
theorem d_Schema_isSeen_60 : decode prog_9_method_11_code 60 = .ok (.iload 6, 2) := by decide +kernel
theorem d_Schema_isSeen_62 : decode prog_9_method_11_code 62 = .ok (.iconst 3, 1) := by decide +kernel
theorem d_Schema_isSeen_63 : decode prog_9_method_11_code 63 = .ok (.iadd, 1) := by decide +kernel
theorem d_Schema_isSeen_64 : decode prog_9_method_11_code 64 = .ok (.iaload, 1) := by decide +kernel
theorem d_Schema_isSeen_65 : decode prog_9_method_11_code 65 = .ok (.aload_n 0, 1) := by decide +kernel
theorem d_Schema_isSeen_66 : decode prog_9_method_11_code 66 = .ok (.getfield 27, 3) := by decide +kernel
theorem d_Schema_isSeen_69 : decode prog_9_method_11_code 69 = .ok (.iload 6, 2) := by decide +kernel
theorem d_Schema_isSeen_71 : decode prog_9_method_11_code 71 = .ok (.iconst 4, 1) := by decide +kernel
theorem d_Schema_isSeen_72 : decode prog_9_method_11_code 72 = .ok (.iadd, 1) := by decide +kernel
theorem d_Schema_isSeen_73 : decode prog_9_method_11_code 73 = .ok (.iaload, 1) := by decide +kernel
theorem d_Schema_isSeen_74 : decode prog_9_method_11_code 74 = .ok (.invokestatic 51, 3) := by decide +kernel
theorem d_Schema_isSeen_77 : decode prog_9_method_11_code 77 = .ok (.iconst 1, 1) := by decide +kernel
theorem d_Schema_isSeen_78 : decode prog_9_method_11_code 78 = .ok (.if_icmp .eq 5, 3) := by decide +kernel
theorem d_Schema_isSeen_81 : decode prog_9_method_11_code 81 = .ok (.iconst 0, 1) := by decide +kernel
theorem d_Schema_isSeen_82 : decode prog_9_method_11_code 82 = .ok (.ireturn, 1) := by decide +kernel
theorem d_Schema_isSeen_83 : decode prog_9_method_11_code 83 = .ok (.iinc 5 1, 3) := by decide +kernel
theorem d_Schema_isSeen_86 : decode prog_9_method_11_code 86 = .ok (.goto (-83), 3) := by decide +kernel
theorem d_Schema_isSeen_89 : decode prog_9_method_11_code 89 = .ok (.iconst 1, 1) := by decide +kernel
theorem d_Schema_isSeen_90 : decode prog_9_method_11_code 90 = .ok (.ireturn, 1) := by decide +kernel
theorem d_Schema_refersTo_0 : decode prog_9_method_9_code 0 = .ok (.iconst 1, 1) := by decide +kernel
theorem d_Schema_refersTo_1 : decode prog_9_method_9_code 1 = .ok (.istore_n 3, 1) := by decide +kernel
theorem d_Schema_refersTo_2 : decode prog_9_method_9_code 2 = .ok (.iload_n 3, 1) := by decide +kernel
theorem d_Schema_refersTo_3 : decode prog_9_method_9_code 3 = .ok (.aload_n 0, 1) := by decide +kernel
theorem d_Schema_refersTo_4 : decode prog_9_method_9_code 4 = .ok (.getfield 9, 3) := by decide +kernel
theorem d_Schema_refersTo_7 : decode prog_9_method_9_code 7 = .ok (.iload_n 1, 1) := by decide +kernel
theorem d_Schema_refersTo_8 : decode prog_9_method_9_code 8 = .ok (.iaload, 1) := by decide +kernel
theorem d_Schema_refersTo_9 : decode prog_9_method_9_code 9 = .ok (.if_icmp .ge 21, 3) := by decide +kernel
theorem d_Schema_refersTo_12 : decode prog_9_method_9_code 12 = .ok (.aload_n 0, 1) := by decide +kernel
theorem d_Schema_refersTo_13 : decode prog_9_method_9_code 13 = .ok (.iload_n 1, 1) := by decide +kernel
theorem d_Schema_refersTo_14 : decode prog_9_method_9_code 14 = .ok (.iload_n 3, 1) := by decide +kernel
theorem d_Schema_refersTo_15 : decode prog_9_method_9_code 15 = .ok (.invokevirtual 47, 3) := by decide +kernel
theorem d_Schema_refersTo_18 : decode prog_9_method_9_code 18 = .ok (.iload_n 2, 1) := by decide +kernel
theorem d_Schema_refersTo_19 : decode prog_9_method_9_code 19 = .ok (.if_icmp .ne 5, 3) := by decide +kernel
theorem d_Schema_refersTo_22 : decode prog_9_method_9_code 22 = .ok (.iconst 1, 1) := by decide +kernel
theorem d_Schema_refersTo_23 : decode prog_9_method_9_code 23 = .ok (.ireturn, 1) := by decide +kernel
theorem d_Schema_refersTo_24 : decode prog_9_method_9_code 24 = .ok (.iinc 3 1, 3) := by decide +kernel
theorem d_Schema_refersTo_27 : decode prog_9_method_9_code 27 = .ok (.goto (-25), 3) := by decide +kernel
theorem d_Schema_refersTo_30 : decode prog_9_method_9_code 30 = .ok (.iconst 0, 1) := by decide +kernel
theorem d_Schema_refersTo_31 : decode prog_9_method_9_code 31 = .ok (.ireturn, 1) := by decide +kernel
theorem d_Transaction_readWhole_0 : decode prog_10_method_6_code 0 = .ok (.aload_n 0, 1) := by decide +kernel
theorem d_Transaction_readWhole_1 : decode prog_10_method_6_code 1 = .ok (.dup, 1) := by decide +kernel
theorem d_Transaction_readWhole_2 : decode prog_10_method_6_code 2 = .ok (.getfield 78, 3) := by decide +kernel
theorem d_Transaction_readWhole_5 : decode prog_10_method_6_code 5 = .ok (.iconst 1, 1) := by decide +kernel
theorem d_Transaction_readWhole_6 : decode prog_10_method_6_code 6 = .ok (.iload_n 1, 1) := by decide +kernel
theorem d_Transaction_readWhole_7 : decode prog_10_method_6_code 7 = .ok (.ishl, 1) := by decide +kernel
theorem d_Transaction_readWhole_8 : decode prog_10_method_6_code 8 = .ok (.ior, 1) := by decide +kernel
theorem d_Transaction_readWhole_9 : decode prog_10_method_6_code 9 = .ok (.putfield 78, 3) := by decide +kernel
theorem d_Transaction_readWhole_12 : decode prog_10_method_6_code 12 = .ok (.return_, 1) := by decide +kernel
theorem d_Rows_remove_0 : decode prog_8_method_11_code 0 = .ok (.aload_n 0, 1) := by decide +kernel
theorem d_Rows_remove_1 : decode prog_8_method_11_code 1 = .ok (.getfield 9, 3) := by decide +kernel
theorem d_Rows_remove_4 : decode prog_8_method_11_code 4 = .ok (.iload_n 1, 1) := by decide +kernel
theorem d_Rows_remove_5 : decode prog_8_method_11_code 5 = .ok (.invokestatic 39, 3) := by decide +kernel
theorem d_Rows_remove_8 : decode prog_8_method_11_code 8 = .ok (.iload_n 1, 1) := by decide +kernel
theorem d_Rows_remove_9 : decode prog_8_method_11_code 9 = .ok (.invokestatic 39, 3) := by decide +kernel
theorem d_Rows_remove_12 : decode prog_8_method_11_code 12 = .ok (.iconst 4, 1) := by decide +kernel
theorem d_Rows_remove_13 : decode prog_8_method_11_code 13 = .ok (.iadd, 1) := by decide +kernel
theorem d_Rows_remove_14 : decode prog_8_method_11_code 14 = .ok (.ldc 15, 2) := by decide +kernel
theorem d_Rows_remove_16 : decode prog_8_method_11_code 16 = .ok (.invokestatic 42, 3) := by decide +kernel
theorem d_Rows_remove_19 : decode prog_8_method_11_code 19 = .ok (.return_, 1) := by decide +kernel
theorem d_Log_undoWrites_0 : decode prog_4_method_13_code 0 = .ok (.aload_n 0, 1) := by decide +kernel
theorem d_Log_undoWrites_1 : decode prog_4_method_13_code 1 = .ok (.iload_n 1, 1) := by decide +kernel
theorem d_Log_undoWrites_2 : decode prog_4_method_13_code 2 = .ok (.invokevirtual 69, 3) := by decide +kernel
theorem d_Log_undoWrites_5 : decode prog_4_method_13_code 5 = .ok (.istore_n 2, 1) := by decide +kernel
theorem d_Log_undoWrites_6 : decode prog_4_method_13_code 6 = .ok (.iconst 0, 1) := by decide +kernel
theorem d_Log_undoWrites_7 : decode prog_4_method_13_code 7 = .ok (.istore_n 3, 1) := by decide +kernel
theorem d_Log_undoWrites_8 : decode prog_4_method_13_code 8 = .ok (.aload_n 0, 1) := by decide +kernel
theorem d_Log_undoWrites_9 : decode prog_4_method_13_code 9 = .ok (.getfield 22, 3) := by decide +kernel
theorem d_Log_undoWrites_12 : decode prog_4_method_13_code 12 = .ok (.iconst 1, 1) := by decide +kernel
theorem d_Log_undoWrites_13 : decode prog_4_method_13_code 13 = .ok (.isub, 1) := by decide +kernel
theorem d_Log_undoWrites_14 : decode prog_4_method_13_code 14 = .ok (.istore 4, 2) := by decide +kernel
theorem d_Log_undoWrites_16 : decode prog_4_method_13_code 16 = .ok (.iload 4, 2) := by decide +kernel
theorem d_Log_undoWrites_18 : decode prog_4_method_13_code 18 = .ok (.ifCond .lt 62, 3) := by decide +kernel
theorem d_Log_undoWrites_21 : decode prog_4_method_13_code 21 = .ok (.aload_n 0, 1) := by decide +kernel
theorem d_Log_undoWrites_22 : decode prog_4_method_13_code 22 = .ok (.iload 4, 2) := by decide +kernel
theorem d_Log_undoWrites_24 : decode prog_4_method_13_code 24 = .ok (.invokevirtual 63, 3) := by decide +kernel
theorem d_Log_undoWrites_27 : decode prog_4_method_13_code 27 = .ok (.ifCond .ne 47, 3) := by decide +kernel
theorem d_Log_undoWrites_30 : decode prog_4_method_13_code 30 = .ok (.aload_n 0, 1) := by decide +kernel
theorem d_Log_undoWrites_31 : decode prog_4_method_13_code 31 = .ok (.iload 4, 2) := by decide +kernel
theorem d_Log_undoWrites_33 : decode prog_4_method_13_code 33 = .ok (.invokevirtual 66, 3) := by decide +kernel
theorem d_Log_undoWrites_36 : decode prog_4_method_13_code 36 = .ok (.iload_n 1, 1) := by decide +kernel
theorem d_Log_undoWrites_37 : decode prog_4_method_13_code 37 = .ok (.if_icmp .eq 6, 3) := by decide +kernel
theorem d_Log_undoWrites_40 : decode prog_4_method_13_code 40 = .ok (.goto 34, 3) := by decide +kernel
theorem d_Log_undoWrites_43 : decode prog_4_method_13_code 43 = .ok (.iload_n 2, 1) := by decide +kernel
theorem d_Log_undoWrites_44 : decode prog_4_method_13_code 44 = .ok (.ifCond .le 9, 3) := by decide +kernel
theorem d_Log_undoWrites_47 : decode prog_4_method_13_code 47 = .ok (.iinc 2 (-1), 3) := by decide +kernel
theorem d_Log_undoWrites_50 : decode prog_4_method_13_code 50 = .ok (.goto 24, 3) := by decide +kernel
theorem d_Log_undoWrites_53 : decode prog_4_method_13_code 53 = .ok (.aload_n 0, 1) := by decide +kernel
theorem d_Log_undoWrites_54 : decode prog_4_method_13_code 54 = .ok (.iconst 2, 1) := by decide +kernel
theorem d_Log_undoWrites_55 : decode prog_4_method_13_code 55 = .ok (.iload_n 1, 1) := by decide +kernel
theorem d_Log_undoWrites_56 : decode prog_4_method_13_code 56 = .ok (.aload_n 0, 1) := by decide +kernel
theorem d_Log_undoWrites_57 : decode prog_4_method_13_code 57 = .ok (.iload 4, 2) := by decide +kernel
theorem d_Log_undoWrites_59 : decode prog_4_method_13_code 59 = .ok (.invokevirtual 72, 3) := by decide +kernel
theorem d_Log_undoWrites_62 : decode prog_4_method_13_code 62 = .ok (.aload_n 0, 1) := by decide +kernel
theorem d_Log_undoWrites_63 : decode prog_4_method_13_code 63 = .ok (.iload 4, 2) := by decide +kernel
theorem d_Log_undoWrites_65 : decode prog_4_method_13_code 65 = .ok (.invokevirtual 75, 3) := by decide +kernel
theorem d_Log_undoWrites_68 : decode prog_4_method_13_code 68 = .ok (.invokevirtual 37, 3) := by decide +kernel
theorem d_Log_undoWrites_71 : decode prog_4_method_13_code 71 = .ok (.iinc 3 1, 3) := by decide +kernel
theorem d_Log_undoWrites_74 : decode prog_4_method_13_code 74 = .ok (.iinc 4 (-1), 3) := by decide +kernel
theorem d_Log_undoWrites_77 : decode prog_4_method_13_code 77 = .ok (.goto (-61), 3) := by decide +kernel
theorem d_Log_undoWrites_80 : decode prog_4_method_13_code 80 = .ok (.aload_n 0, 1) := by decide +kernel
theorem d_Log_undoWrites_81 : decode prog_4_method_13_code 81 = .ok (.iconst 3, 1) := by decide +kernel
theorem d_Log_undoWrites_82 : decode prog_4_method_13_code 82 = .ok (.iload_n 1, 1) := by decide +kernel
theorem d_Log_undoWrites_83 : decode prog_4_method_13_code 83 = .ok (.ldc 32, 2) := by decide +kernel
theorem d_Log_undoWrites_85 : decode prog_4_method_13_code 85 = .ok (.ldc 32, 2) := by decide +kernel
theorem d_Log_undoWrites_87 : decode prog_4_method_13_code 87 = .ok (.invokevirtual 37, 3) := by decide +kernel
theorem d_Log_undoWrites_90 : decode prog_4_method_13_code 90 = .ok (.iload_n 3, 1) := by decide +kernel
theorem d_Log_undoWrites_91 : decode prog_4_method_13_code 91 = .ok (.ireturn, 1) := by decide +kernel
theorem d_Log_countUndone_0 : decode prog_4_method_11_code 0 = .ok (.iconst 0, 1) := by decide +kernel
theorem d_Log_countUndone_1 : decode prog_4_method_11_code 1 = .ok (.istore_n 2, 1) := by decide +kernel
theorem d_Log_countUndone_2 : decode prog_4_method_11_code 2 = .ok (.iconst 0, 1) := by decide +kernel
theorem d_Log_countUndone_3 : decode prog_4_method_11_code 3 = .ok (.istore_n 3, 1) := by decide +kernel
theorem d_Log_countUndone_4 : decode prog_4_method_11_code 4 = .ok (.iload_n 3, 1) := by decide +kernel
theorem d_Log_countUndone_5 : decode prog_4_method_11_code 5 = .ok (.aload_n 0, 1) := by decide +kernel
theorem d_Log_countUndone_6 : decode prog_4_method_11_code 6 = .ok (.getfield 22, 3) := by decide +kernel
theorem d_Log_countUndone_9 : decode prog_4_method_11_code 9 = .ok (.if_icmp .ge 30, 3) := by decide +kernel
theorem d_Log_countUndone_12 : decode prog_4_method_11_code 12 = .ok (.aload_n 0, 1) := by decide +kernel
theorem d_Log_countUndone_13 : decode prog_4_method_11_code 13 = .ok (.iload_n 3, 1) := by decide +kernel
theorem d_Log_countUndone_14 : decode prog_4_method_11_code 14 = .ok (.invokevirtual 63, 3) := by decide +kernel
theorem d_Log_countUndone_17 : decode prog_4_method_11_code 17 = .ok (.iconst 2, 1) := by decide +kernel
theorem d_Log_countUndone_18 : decode prog_4_method_11_code 18 = .ok (.if_icmp .ne 15, 3) := by decide +kernel
theorem d_Log_countUndone_21 : decode prog_4_method_11_code 21 = .ok (.aload_n 0, 1) := by decide +kernel
theorem d_Log_countUndone_22 : decode prog_4_method_11_code 22 = .ok (.iload_n 3, 1) := by decide +kernel
theorem d_Log_countUndone_23 : decode prog_4_method_11_code 23 = .ok (.invokevirtual 66, 3) := by decide +kernel
theorem d_Log_countUndone_26 : decode prog_4_method_11_code 26 = .ok (.iload_n 1, 1) := by decide +kernel
theorem d_Log_countUndone_27 : decode prog_4_method_11_code 27 = .ok (.if_icmp .ne 6, 3) := by decide +kernel
theorem d_Log_countUndone_30 : decode prog_4_method_11_code 30 = .ok (.iinc 2 1, 3) := by decide +kernel
theorem d_Log_countUndone_33 : decode prog_4_method_11_code 33 = .ok (.iinc 3 1, 3) := by decide +kernel
theorem d_Log_countUndone_36 : decode prog_4_method_11_code 36 = .ok (.goto (-32), 3) := by decide +kernel
theorem d_Log_countUndone_39 : decode prog_4_method_11_code 39 = .ok (.iload_n 2, 1) := by decide +kernel
theorem d_Log_countUndone_40 : decode prog_4_method_11_code 40 = .ok (.ireturn, 1) := by decide +kernel
theorem d_Log_kindOf_0 : decode prog_4_method_7_code 0 = .ok (.aload_n 0, 1) := by decide +kernel
theorem d_Log_kindOf_1 : decode prog_4_method_7_code 1 = .ok (.getfield 11, 3) := by decide +kernel
theorem d_Log_kindOf_4 : decode prog_4_method_7_code 4 = .ok (.iload_n 1, 1) := by decide +kernel
theorem d_Log_kindOf_5 : decode prog_4_method_7_code 5 = .ok (.bipush 8, 2) := by decide +kernel
theorem d_Log_kindOf_7 : decode prog_4_method_7_code 7 = .ok (.imul, 1) := by decide +kernel
theorem d_Log_kindOf_8 : decode prog_4_method_7_code 8 = .ok (.iaload, 1) := by decide +kernel
theorem d_Log_kindOf_9 : decode prog_4_method_7_code 9 = .ok (.ireturn, 1) := by decide +kernel
theorem d_Log_writerOf_0 : decode prog_4_method_8_code 0 = .ok (.aload_n 0, 1) := by decide +kernel
theorem d_Log_writerOf_1 : decode prog_4_method_8_code 1 = .ok (.getfield 11, 3) := by decide +kernel
theorem d_Log_writerOf_4 : decode prog_4_method_8_code 4 = .ok (.iload_n 1, 1) := by decide +kernel
theorem d_Log_writerOf_5 : decode prog_4_method_8_code 5 = .ok (.bipush 8, 2) := by decide +kernel
theorem d_Log_writerOf_7 : decode prog_4_method_8_code 7 = .ok (.imul, 1) := by decide +kernel
theorem d_Log_writerOf_8 : decode prog_4_method_8_code 8 = .ok (.iconst 1, 1) := by decide +kernel
theorem d_Log_writerOf_9 : decode prog_4_method_8_code 9 = .ok (.iadd, 1) := by decide +kernel
theorem d_Log_writerOf_10 : decode prog_4_method_8_code 10 = .ok (.iaload, 1) := by decide +kernel
theorem d_Log_writerOf_11 : decode prog_4_method_8_code 11 = .ok (.ireturn, 1) := by decide +kernel
theorem d_Log_tableOf_0 : decode prog_4_method_9_code 0 = .ok (.aload_n 0, 1) := by decide +kernel
theorem d_Log_tableOf_1 : decode prog_4_method_9_code 1 = .ok (.getfield 11, 3) := by decide +kernel
theorem d_Log_tableOf_4 : decode prog_4_method_9_code 4 = .ok (.iload_n 1, 1) := by decide +kernel
theorem d_Log_tableOf_5 : decode prog_4_method_9_code 5 = .ok (.bipush 8, 2) := by decide +kernel
theorem d_Log_tableOf_7 : decode prog_4_method_9_code 7 = .ok (.imul, 1) := by decide +kernel
theorem d_Log_tableOf_8 : decode prog_4_method_9_code 8 = .ok (.iconst 2, 1) := by decide +kernel
theorem d_Log_tableOf_9 : decode prog_4_method_9_code 9 = .ok (.iadd, 1) := by decide +kernel
theorem d_Log_tableOf_10 : decode prog_4_method_9_code 10 = .ok (.iaload, 1) := by decide +kernel
theorem d_Log_tableOf_11 : decode prog_4_method_9_code 11 = .ok (.ireturn, 1) := by decide +kernel
theorem d_Log_keyOf_0 : decode prog_4_method_10_code 0 = .ok (.aload_n 0, 1) := by decide +kernel
theorem d_Log_keyOf_1 : decode prog_4_method_10_code 1 = .ok (.getfield 11, 3) := by decide +kernel
theorem d_Log_keyOf_4 : decode prog_4_method_10_code 4 = .ok (.iload_n 1, 1) := by decide +kernel
theorem d_Log_keyOf_5 : decode prog_4_method_10_code 5 = .ok (.bipush 8, 2) := by decide +kernel
theorem d_Log_keyOf_7 : decode prog_4_method_10_code 7 = .ok (.imul, 1) := by decide +kernel
theorem d_Log_keyOf_8 : decode prog_4_method_10_code 8 = .ok (.iconst 3, 1) := by decide +kernel
theorem d_Log_keyOf_9 : decode prog_4_method_10_code 9 = .ok (.iadd, 1) := by decide +kernel
theorem d_Log_keyOf_10 : decode prog_4_method_10_code 10 = .ok (.iaload, 1) := by decide +kernel
theorem d_Log_keyOf_11 : decode prog_4_method_10_code 11 = .ok (.ireturn, 1) := by decide +kernel
theorem d_Transaction_noteFootprint_0 : decode prog_10_method_11_code 0 = .ok (.aload_n 0, 1) := by decide +kernel
theorem d_Transaction_noteFootprint_1 : decode prog_10_method_11_code 1 = .ok (.getfield 96, 3) := by decide +kernel
theorem d_Transaction_noteFootprint_4 : decode prog_10_method_11_code 4 = .ok (.aload_n 0, 1) := by decide +kernel
theorem d_Transaction_noteFootprint_5 : decode prog_10_method_11_code 5 = .ok (.getfield 38, 3) := by decide +kernel
theorem d_Transaction_noteFootprint_8 : decode prog_10_method_11_code 8 = .ok (.arraylength, 1) := by decide +kernel
theorem d_Transaction_noteFootprint_9 : decode prog_10_method_11_code 9 = .ok (.if_icmp .ne 20, 3) := by decide +kernel
theorem d_Transaction_noteFootprint_12 : decode prog_10_method_11_code 12 = .ok (.aload_n 0, 1) := by decide +kernel
theorem d_Transaction_noteFootprint_13 : decode prog_10_method_11_code 13 = .ok (.aload_n 0, 1) := by decide +kernel
theorem d_Transaction_noteFootprint_14 : decode prog_10_method_11_code 14 = .ok (.getfield 38, 3) := by decide +kernel
theorem d_Transaction_noteFootprint_17 : decode prog_10_method_11_code 17 = .ok (.iconst 2, 1) := by decide +kernel
theorem d_Transaction_noteFootprint_18 : decode prog_10_method_11_code 18 = .ok (.aload_n 0, 1) := by decide +kernel
theorem d_Transaction_noteFootprint_19 : decode prog_10_method_11_code 19 = .ok (.getfield 96, 3) := by decide +kernel
theorem d_Transaction_noteFootprint_22 : decode prog_10_method_11_code 22 = .ok (.imul, 1) := by decide +kernel
theorem d_Transaction_noteFootprint_23 : decode prog_10_method_11_code 23 = .ok (.invokestatic 88, 3) := by decide +kernel
theorem d_Transaction_noteFootprint_26 : decode prog_10_method_11_code 26 = .ok (.putfield 38, 3) := by decide +kernel
theorem d_Transaction_noteFootprint_29 : decode prog_10_method_11_code 29 = .ok (.aload_n 0, 1) := by decide +kernel
theorem d_Transaction_noteFootprint_30 : decode prog_10_method_11_code 30 = .ok (.getfield 38, 3) := by decide +kernel
theorem d_Transaction_noteFootprint_33 : decode prog_10_method_11_code 33 = .ok (.aload_n 0, 1) := by decide +kernel
theorem d_Transaction_noteFootprint_34 : decode prog_10_method_11_code 34 = .ok (.getfield 96, 3) := by decide +kernel
theorem d_Transaction_noteFootprint_37 : decode prog_10_method_11_code 37 = .ok (.iload_n 1, 1) := by decide +kernel
theorem d_Transaction_noteFootprint_38 : decode prog_10_method_11_code 38 = .ok (.iastore, 1) := by decide +kernel
theorem d_Transaction_noteFootprint_39 : decode prog_10_method_11_code 39 = .ok (.aload_n 0, 1) := by decide +kernel
theorem d_Transaction_noteFootprint_40 : decode prog_10_method_11_code 40 = .ok (.dup, 1) := by decide +kernel
theorem d_Transaction_noteFootprint_41 : decode prog_10_method_11_code 41 = .ok (.getfield 96, 3) := by decide +kernel
theorem d_Transaction_noteFootprint_44 : decode prog_10_method_11_code 44 = .ok (.iconst 1, 1) := by decide +kernel
theorem d_Transaction_noteFootprint_45 : decode prog_10_method_11_code 45 = .ok (.iadd, 1) := by decide +kernel
theorem d_Transaction_noteFootprint_46 : decode prog_10_method_11_code 46 = .ok (.putfield 96, 3) := by decide +kernel
theorem d_Transaction_noteFootprint_49 : decode prog_10_method_11_code 49 = .ok (.return_, 1) := by decide +kernel
theorem d_Log_addWrite_0 : decode prog_4_method_3_code 0 = .ok (.aload_n 0, 1) := by decide +kernel
theorem d_Log_addWrite_1 : decode prog_4_method_3_code 1 = .ok (.iconst 0, 1) := by decide +kernel
theorem d_Log_addWrite_2 : decode prog_4_method_3_code 2 = .ok (.iload_n 1, 1) := by decide +kernel
theorem d_Log_addWrite_3 : decode prog_4_method_3_code 3 = .ok (.iload_n 2, 1) := by decide +kernel
theorem d_Log_addWrite_4 : decode prog_4_method_3_code 4 = .ok (.iload_n 3, 1) := by decide +kernel
theorem d_Log_addWrite_5 : decode prog_4_method_3_code 5 = .ok (.invokevirtual 37, 3) := by decide +kernel
theorem d_Log_addWrite_8 : decode prog_4_method_3_code 8 = .ok (.aload 4, 2) := by decide +kernel
theorem d_Log_addWrite_10 : decode prog_4_method_3_code 10 = .ok (.iload_n 2, 1) := by decide +kernel
theorem d_Log_addWrite_11 : decode prog_4_method_3_code 11 = .ok (.iload_n 3, 1) := by decide +kernel
theorem d_Log_addWrite_12 : decode prog_4_method_3_code 12 = .ok (.invokevirtual 41, 3) := by decide +kernel
theorem d_Log_addWrite_15 : decode prog_4_method_3_code 15 = .ok (.istore 5, 2) := by decide +kernel
theorem d_Log_addWrite_17 : decode prog_4_method_3_code 17 = .ok (.iload 5, 2) := by decide +kernel
theorem d_Log_addWrite_19 : decode prog_4_method_3_code 19 = .ok (.iconst (-1), 1) := by decide +kernel
theorem d_Log_addWrite_20 : decode prog_4_method_3_code 20 = .ok (.if_icmp .eq 32, 3) := by decide +kernel
theorem d_Log_addWrite_23 : decode prog_4_method_3_code 23 = .ok (.aload 4, 2) := by decide +kernel
theorem d_Log_addWrite_25 : decode prog_4_method_3_code 25 = .ok (.getfield 47, 3) := by decide +kernel
theorem d_Log_addWrite_28 : decode prog_4_method_3_code 28 = .ok (.iload 5, 2) := by decide +kernel
theorem d_Log_addWrite_30 : decode prog_4_method_3_code 30 = .ok (.invokestatic 50, 3) := by decide +kernel
theorem d_Log_addWrite_33 : decode prog_4_method_3_code 33 = .ok (.aload_n 0, 1) := by decide +kernel
theorem d_Log_addWrite_34 : decode prog_4_method_3_code 34 = .ok (.getfield 11, 3) := by decide +kernel
theorem d_Log_addWrite_37 : decode prog_4_method_3_code 37 = .ok (.aload_n 0, 1) := by decide +kernel
theorem d_Log_addWrite_38 : decode prog_4_method_3_code 38 = .ok (.getfield 22, 3) := by decide +kernel
theorem d_Log_addWrite_41 : decode prog_4_method_3_code 41 = .ok (.iconst 1, 1) := by decide +kernel
theorem d_Log_addWrite_42 : decode prog_4_method_3_code 42 = .ok (.isub, 1) := by decide +kernel
theorem d_Log_addWrite_43 : decode prog_4_method_3_code 43 = .ok (.bipush 8, 2) := by decide +kernel
theorem d_Log_addWrite_45 : decode prog_4_method_3_code 45 = .ok (.imul, 1) := by decide +kernel
theorem d_Log_addWrite_46 : decode prog_4_method_3_code 46 = .ok (.iconst 4, 1) := by decide +kernel
theorem d_Log_addWrite_47 : decode prog_4_method_3_code 47 = .ok (.iadd, 1) := by decide +kernel
theorem d_Log_addWrite_48 : decode prog_4_method_3_code 48 = .ok (.iconst 4, 1) := by decide +kernel
theorem d_Log_addWrite_49 : decode prog_4_method_3_code 49 = .ok (.invokestatic 54, 3) := by decide +kernel
theorem d_Log_addWrite_52 : decode prog_4_method_3_code 52 = .ok (.return_, 1) := by decide +kernel
theorem d_Transaction_planUpdate_0 : decode prog_10_method_4_code 0 = .ok (.aload_n 0, 1) := by decide +kernel
theorem d_Transaction_planUpdate_1 : decode prog_10_method_4_code 1 = .ok (.iconst 1, 1) := by decide +kernel
theorem d_Transaction_planUpdate_2 : decode prog_10_method_4_code 2 = .ok (.putfield 50, 3) := by decide +kernel
theorem d_Transaction_planUpdate_5 : decode prog_10_method_4_code 5 = .ok (.aload_n 0, 1) := by decide +kernel
theorem d_Transaction_planUpdate_6 : decode prog_10_method_4_code 6 = .ok (.iload_n 1, 1) := by decide +kernel
theorem d_Transaction_planUpdate_7 : decode prog_10_method_4_code 7 = .ok (.putfield 53, 3) := by decide +kernel
theorem d_Transaction_planUpdate_10 : decode prog_10_method_4_code 10 = .ok (.aload_n 0, 1) := by decide +kernel
theorem d_Transaction_planUpdate_11 : decode prog_10_method_4_code 11 = .ok (.iload_n 2, 1) := by decide +kernel
theorem d_Transaction_planUpdate_12 : decode prog_10_method_4_code 12 = .ok (.putfield 69, 3) := by decide +kernel
theorem d_Transaction_planUpdate_15 : decode prog_10_method_4_code 15 = .ok (.aload_n 0, 1) := by decide +kernel
theorem d_Transaction_planUpdate_16 : decode prog_10_method_4_code 16 = .ok (.iload_n 3, 1) := by decide +kernel
theorem d_Transaction_planUpdate_17 : decode prog_10_method_4_code 17 = .ok (.putfield 72, 3) := by decide +kernel
theorem d_Transaction_planUpdate_20 : decode prog_10_method_4_code 20 = .ok (.aload_n 0, 1) := by decide +kernel
theorem d_Transaction_planUpdate_21 : decode prog_10_method_4_code 21 = .ok (.iload 4, 2) := by decide +kernel
theorem d_Transaction_planUpdate_23 : decode prog_10_method_4_code 23 = .ok (.putfield 75, 3) := by decide +kernel
theorem d_Transaction_planUpdate_26 : decode prog_10_method_4_code 26 = .ok (.return_, 1) := by decide +kernel
theorem d_Transaction_planDelete_0 : decode prog_10_method_5_code 0 = .ok (.aload_n 0, 1) := by decide +kernel
theorem d_Transaction_planDelete_1 : decode prog_10_method_5_code 1 = .ok (.iconst 2, 1) := by decide +kernel
theorem d_Transaction_planDelete_2 : decode prog_10_method_5_code 2 = .ok (.putfield 50, 3) := by decide +kernel
theorem d_Transaction_planDelete_5 : decode prog_10_method_5_code 5 = .ok (.aload_n 0, 1) := by decide +kernel
theorem d_Transaction_planDelete_6 : decode prog_10_method_5_code 6 = .ok (.iload_n 1, 1) := by decide +kernel
theorem d_Transaction_planDelete_7 : decode prog_10_method_5_code 7 = .ok (.putfield 53, 3) := by decide +kernel
theorem d_Transaction_planDelete_10 : decode prog_10_method_5_code 10 = .ok (.aload_n 0, 1) := by decide +kernel
theorem d_Transaction_planDelete_11 : decode prog_10_method_5_code 11 = .ok (.iload_n 2, 1) := by decide +kernel
theorem d_Transaction_planDelete_12 : decode prog_10_method_5_code 12 = .ok (.putfield 69, 3) := by decide +kernel
theorem d_Transaction_planDelete_15 : decode prog_10_method_5_code 15 = .ok (.return_, 1) := by decide +kernel
theorem d_Transaction_hasReadWhole_0 : decode prog_10_method_7_code 0 = .ok (.aload_n 0, 1) := by decide +kernel
theorem d_Transaction_hasReadWhole_1 : decode prog_10_method_7_code 1 = .ok (.getfield 78, 3) := by decide +kernel
theorem d_Transaction_hasReadWhole_4 : decode prog_10_method_7_code 4 = .ok (.iload_n 1, 1) := by decide +kernel
theorem d_Transaction_hasReadWhole_5 : decode prog_10_method_7_code 5 = .ok (.ishr, 1) := by decide +kernel
theorem d_Transaction_hasReadWhole_6 : decode prog_10_method_7_code 6 = .ok (.iconst 1, 1) := by decide +kernel
theorem d_Transaction_hasReadWhole_7 : decode prog_10_method_7_code 7 = .ok (.iand, 1) := by decide +kernel
theorem d_Transaction_hasReadWhole_8 : decode prog_10_method_7_code 8 = .ok (.ifCond .eq 7, 3) := by decide +kernel
theorem d_Transaction_hasReadWhole_11 : decode prog_10_method_7_code 11 = .ok (.iconst 1, 1) := by decide +kernel
theorem d_Transaction_hasReadWhole_12 : decode prog_10_method_7_code 12 = .ok (.goto 4, 3) := by decide +kernel
theorem d_Transaction_hasReadWhole_15 : decode prog_10_method_7_code 15 = .ok (.iconst 0, 1) := by decide +kernel
theorem d_Transaction_hasReadWhole_16 : decode prog_10_method_7_code 16 = .ok (.ireturn, 1) := by decide +kernel
theorem d_Relation_reset_0 : decode prog_7_method_2_code 0 = .ok (.aload_n 0, 1) := by decide +kernel
theorem d_Relation_reset_1 : decode prog_7_method_2_code 1 = .ok (.iconst 0, 1) := by decide +kernel
theorem d_Relation_reset_2 : decode prog_7_method_2_code 2 = .ok (.putfield 15, 3) := by decide +kernel
theorem d_Relation_reset_5 : decode prog_7_method_2_code 5 = .ok (.aload_n 0, 1) := by decide +kernel
theorem d_Relation_reset_6 : decode prog_7_method_2_code 6 = .ok (.iload_n 1, 1) := by decide +kernel
theorem d_Relation_reset_7 : decode prog_7_method_2_code 7 = .ok (.putfield 19, 3) := by decide +kernel
theorem d_Relation_reset_10 : decode prog_7_method_2_code 10 = .ok (.return_, 1) := by decide +kernel
theorem d_Query_parameter_0 : decode prog_6_method_6_code 0 = .ok (.aload_n 0, 1) := by decide +kernel
theorem d_Query_parameter_1 : decode prog_6_method_6_code 1 = .ok (.getfield 15, 3) := by decide +kernel
theorem d_Query_parameter_4 : decode prog_6_method_6_code 4 = .ok (.iload_n 1, 1) := by decide +kernel
theorem d_Query_parameter_5 : decode prog_6_method_6_code 5 = .ok (.iconst 4, 1) := by decide +kernel
theorem d_Query_parameter_6 : decode prog_6_method_6_code 6 = .ok (.imul, 1) := by decide +kernel
theorem d_Query_parameter_7 : decode prog_6_method_6_code 7 = .ok (.iload_n 2, 1) := by decide +kernel
theorem d_Query_parameter_8 : decode prog_6_method_6_code 8 = .ok (.iadd, 1) := by decide +kernel
theorem d_Query_parameter_9 : decode prog_6_method_6_code 9 = .ok (.iaload, 1) := by decide +kernel
theorem d_Query_parameter_10 : decode prog_6_method_6_code 10 = .ok (.ireturn, 1) := by decide +kernel
theorem d_Relation_add_0 : decode prog_7_method_6_code 0 = .ok (.aload_n 0, 1) := by decide +kernel
theorem d_Relation_add_1 : decode prog_7_method_6_code 1 = .ok (.getfield 15, 3) := by decide +kernel
theorem d_Relation_add_4 : decode prog_7_method_6_code 4 = .ok (.sipush 512, 3) := by decide +kernel
theorem d_Relation_add_7 : decode prog_7_method_6_code 7 = .ok (.if_icmp .ge 35, 3) := by decide +kernel
theorem d_Relation_add_10 : decode prog_7_method_6_code 10 = .ok (.aload_n 1, 1) := by decide +kernel
theorem d_Relation_add_11 : decode prog_7_method_6_code 11 = .ok (.iload_n 2, 1) := by decide +kernel
theorem d_Relation_add_12 : decode prog_7_method_6_code 12 = .ok (.aload_n 0, 1) := by decide +kernel
theorem d_Relation_add_13 : decode prog_7_method_6_code 13 = .ok (.getfield 9, 3) := by decide +kernel
theorem d_Relation_add_16 : decode prog_7_method_6_code 16 = .ok (.aload_n 0, 1) := by decide +kernel
theorem d_Relation_add_17 : decode prog_7_method_6_code 17 = .ok (.getfield 15, 3) := by decide +kernel
theorem d_Relation_add_20 : decode prog_7_method_6_code 20 = .ok (.aload_n 0, 1) := by decide +kernel
theorem d_Relation_add_21 : decode prog_7_method_6_code 21 = .ok (.getfield 19, 3) := by decide +kernel
theorem d_Relation_add_24 : decode prog_7_method_6_code 24 = .ok (.imul, 1) := by decide +kernel
theorem d_Relation_add_25 : decode prog_7_method_6_code 25 = .ok (.aload_n 0, 1) := by decide +kernel
theorem d_Relation_add_26 : decode prog_7_method_6_code 26 = .ok (.getfield 19, 3) := by decide +kernel
theorem d_Relation_add_29 : decode prog_7_method_6_code 29 = .ok (.invokestatic 22, 3) := by decide +kernel
theorem d_Relation_add_32 : decode prog_7_method_6_code 32 = .ok (.aload_n 0, 1) := by decide +kernel
theorem d_Relation_add_33 : decode prog_7_method_6_code 33 = .ok (.dup, 1) := by decide +kernel
theorem d_Relation_add_34 : decode prog_7_method_6_code 34 = .ok (.getfield 15, 3) := by decide +kernel
theorem d_Relation_add_37 : decode prog_7_method_6_code 37 = .ok (.iconst 1, 1) := by decide +kernel
theorem d_Relation_add_38 : decode prog_7_method_6_code 38 = .ok (.iadd, 1) := by decide +kernel
theorem d_Relation_add_39 : decode prog_7_method_6_code 39 = .ok (.putfield 15, 3) := by decide +kernel
theorem d_Relation_add_42 : decode prog_7_method_6_code 42 = .ok (.return_, 1) := by decide +kernel
theorem d_Relation_cell_0 : decode prog_7_method_5_code 0 = .ok (.aload_n 0, 1) := by decide +kernel
theorem d_Relation_cell_1 : decode prog_7_method_5_code 1 = .ok (.getfield 9, 3) := by decide +kernel
theorem d_Relation_cell_4 : decode prog_7_method_5_code 4 = .ok (.iload_n 1, 1) := by decide +kernel
theorem d_Relation_cell_5 : decode prog_7_method_5_code 5 = .ok (.aload_n 0, 1) := by decide +kernel
theorem d_Relation_cell_6 : decode prog_7_method_5_code 6 = .ok (.getfield 19, 3) := by decide +kernel
theorem d_Relation_cell_9 : decode prog_7_method_5_code 9 = .ok (.imul, 1) := by decide +kernel
theorem d_Relation_cell_10 : decode prog_7_method_5_code 10 = .ok (.iload_n 2, 1) := by decide +kernel
theorem d_Relation_cell_11 : decode prog_7_method_5_code 11 = .ok (.iadd, 1) := by decide +kernel
theorem d_Relation_cell_12 : decode prog_7_method_5_code 12 = .ok (.iaload, 1) := by decide +kernel
theorem d_Relation_cell_13 : decode prog_7_method_5_code 13 = .ok (.ireturn, 1) := by decide +kernel
theorem d_Relation_addRow_0 : decode prog_7_method_7_code 0 = .ok (.aload_n 0, 1) := by decide +kernel
theorem d_Relation_addRow_1 : decode prog_7_method_7_code 1 = .ok (.aload_n 1, 1) := by decide +kernel
theorem d_Relation_addRow_2 : decode prog_7_method_7_code 2 = .ok (.getfield 9, 3) := by decide +kernel
theorem d_Relation_addRow_5 : decode prog_7_method_7_code 5 = .ok (.iload_n 2, 1) := by decide +kernel
theorem d_Relation_addRow_6 : decode prog_7_method_7_code 6 = .ok (.aload_n 1, 1) := by decide +kernel
theorem d_Relation_addRow_7 : decode prog_7_method_7_code 7 = .ok (.getfield 19, 3) := by decide +kernel
theorem d_Relation_addRow_10 : decode prog_7_method_7_code 10 = .ok (.imul, 1) := by decide +kernel
theorem d_Relation_addRow_11 : decode prog_7_method_7_code 11 = .ok (.invokevirtual 28, 3) := by decide +kernel
theorem d_Relation_addRow_14 : decode prog_7_method_7_code 14 = .ok (.return_, 1) := by decide +kernel
theorem d_Relation_addPair_0 : decode prog_7_method_8_code 0 = .ok (.aload_n 0, 1) := by decide +kernel
theorem d_Relation_addPair_1 : decode prog_7_method_8_code 1 = .ok (.getfield 15, 3) := by decide +kernel
theorem d_Relation_addPair_4 : decode prog_7_method_8_code 4 = .ok (.sipush 512, 3) := by decide +kernel
theorem d_Relation_addPair_7 : decode prog_7_method_8_code 7 = .ok (.if_icmp .ge 31, 3) := by decide +kernel
theorem d_Relation_addPair_10 : decode prog_7_method_8_code 10 = .ok (.aload_n 0, 1) := by decide +kernel
theorem d_Relation_addPair_11 : decode prog_7_method_8_code 11 = .ok (.iconst 0, 1) := by decide +kernel
theorem d_Relation_addPair_12 : decode prog_7_method_8_code 12 = .ok (.aload_n 1, 1) := by decide +kernel
theorem d_Relation_addPair_13 : decode prog_7_method_8_code 13 = .ok (.iload_n 2, 1) := by decide +kernel
theorem d_Relation_addPair_14 : decode prog_7_method_8_code 14 = .ok (.invokevirtual 32, 3) := by decide +kernel
theorem d_Relation_addPair_17 : decode prog_7_method_8_code 17 = .ok (.aload_n 0, 1) := by decide +kernel
theorem d_Relation_addPair_18 : decode prog_7_method_8_code 18 = .ok (.aload_n 1, 1) := by decide +kernel
theorem d_Relation_addPair_19 : decode prog_7_method_8_code 19 = .ok (.getfield 19, 3) := by decide +kernel
theorem d_Relation_addPair_22 : decode prog_7_method_8_code 22 = .ok (.aload_n 3, 1) := by decide +kernel
theorem d_Relation_addPair_23 : decode prog_7_method_8_code 23 = .ok (.iload 4, 2) := by decide +kernel
theorem d_Relation_addPair_25 : decode prog_7_method_8_code 25 = .ok (.invokevirtual 32, 3) := by decide +kernel
theorem d_Relation_addPair_28 : decode prog_7_method_8_code 28 = .ok (.aload_n 0, 1) := by decide +kernel
theorem d_Relation_addPair_29 : decode prog_7_method_8_code 29 = .ok (.dup, 1) := by decide +kernel
theorem d_Relation_addPair_30 : decode prog_7_method_8_code 30 = .ok (.getfield 15, 3) := by decide +kernel
theorem d_Relation_addPair_33 : decode prog_7_method_8_code 33 = .ok (.iconst 1, 1) := by decide +kernel
theorem d_Relation_addPair_34 : decode prog_7_method_8_code 34 = .ok (.iadd, 1) := by decide +kernel
theorem d_Relation_addPair_35 : decode prog_7_method_8_code 35 = .ok (.putfield 15, 3) := by decide +kernel
theorem d_Relation_addPair_38 : decode prog_7_method_8_code 38 = .ok (.return_, 1) := by decide +kernel
theorem d_Relation_fillPart_0 : decode prog_7_method_9_code 0 = .ok (.aload_n 0, 1) := by decide +kernel
theorem d_Relation_fillPart_1 : decode prog_7_method_9_code 1 = .ok (.getfield 15, 3) := by decide +kernel
theorem d_Relation_fillPart_4 : decode prog_7_method_9_code 4 = .ok (.aload_n 0, 1) := by decide +kernel
theorem d_Relation_fillPart_5 : decode prog_7_method_9_code 5 = .ok (.getfield 19, 3) := by decide +kernel
theorem d_Relation_fillPart_8 : decode prog_7_method_9_code 8 = .ok (.imul, 1) := by decide +kernel
theorem d_Relation_fillPart_9 : decode prog_7_method_9_code 9 = .ok (.iload_n 1, 1) := by decide +kernel
theorem d_Relation_fillPart_10 : decode prog_7_method_9_code 10 = .ok (.iadd, 1) := by decide +kernel
theorem d_Relation_fillPart_11 : decode prog_7_method_9_code 11 = .ok (.istore 4, 2) := by decide +kernel
theorem d_Relation_fillPart_13 : decode prog_7_method_9_code 13 = .ok (.iload_n 3, 1) := by decide +kernel
theorem d_Relation_fillPart_14 : decode prog_7_method_9_code 14 = .ok (.iconst (-1), 1) := by decide +kernel
theorem d_Relation_fillPart_15 : decode prog_7_method_9_code 15 = .ok (.if_icmp .ne 24, 3) := by decide +kernel
theorem d_Relation_fillPart_18 : decode prog_7_method_9_code 18 = .ok (.aload_n 0, 1) := by decide +kernel
theorem d_Relation_fillPart_19 : decode prog_7_method_9_code 19 = .ok (.getfield 9, 3) := by decide +kernel
theorem d_Relation_fillPart_22 : decode prog_7_method_9_code 22 = .ok (.iload 4, 2) := by decide +kernel
theorem d_Relation_fillPart_24 : decode prog_7_method_9_code 24 = .ok (.iload 4, 2) := by decide +kernel
theorem d_Relation_fillPart_26 : decode prog_7_method_9_code 26 = .ok (.aload_n 2, 1) := by decide +kernel
theorem d_Relation_fillPart_27 : decode prog_7_method_9_code 27 = .ok (.getfield 19, 3) := by decide +kernel
theorem d_Relation_fillPart_30 : decode prog_7_method_9_code 30 = .ok (.iadd, 1) := by decide +kernel
theorem d_Relation_fillPart_31 : decode prog_7_method_9_code 31 = .ok (.ldc 36, 2) := by decide +kernel
theorem d_Relation_fillPart_33 : decode prog_7_method_9_code 33 = .ok (.invokestatic 37, 3) := by decide +kernel
theorem d_Relation_fillPart_36 : decode prog_7_method_9_code 36 = .ok (.goto 26, 3) := by decide +kernel
theorem d_Relation_fillPart_39 : decode prog_7_method_9_code 39 = .ok (.aload_n 2, 1) := by decide +kernel
theorem d_Relation_fillPart_40 : decode prog_7_method_9_code 40 = .ok (.getfield 9, 3) := by decide +kernel
theorem d_Relation_fillPart_43 : decode prog_7_method_9_code 43 = .ok (.iload_n 3, 1) := by decide +kernel
theorem d_Relation_fillPart_44 : decode prog_7_method_9_code 44 = .ok (.aload_n 2, 1) := by decide +kernel
theorem d_Relation_fillPart_45 : decode prog_7_method_9_code 45 = .ok (.getfield 19, 3) := by decide +kernel
theorem d_Relation_fillPart_48 : decode prog_7_method_9_code 48 = .ok (.imul, 1) := by decide +kernel
theorem d_Relation_fillPart_49 : decode prog_7_method_9_code 49 = .ok (.aload_n 0, 1) := by decide +kernel
theorem d_Relation_fillPart_50 : decode prog_7_method_9_code 50 = .ok (.getfield 9, 3) := by decide +kernel
theorem d_Relation_fillPart_53 : decode prog_7_method_9_code 53 = .ok (.iload 4, 2) := by decide +kernel
theorem d_Relation_fillPart_55 : decode prog_7_method_9_code 55 = .ok (.aload_n 2, 1) := by decide +kernel
theorem d_Relation_fillPart_56 : decode prog_7_method_9_code 56 = .ok (.getfield 19, 3) := by decide +kernel
theorem d_Relation_fillPart_59 : decode prog_7_method_9_code 59 = .ok (.invokestatic 22, 3) := by decide +kernel
theorem d_Relation_fillPart_62 : decode prog_7_method_9_code 62 = .ok (.return_, 1) := by decide +kernel
theorem d_Relation_holds_0 : decode prog_7_method_11_code 0 = .ok (.iconst 0, 1) := by decide +kernel
theorem d_Relation_holds_1 : decode prog_7_method_11_code 1 = .ok (.istore_n 3, 1) := by decide +kernel
theorem d_Relation_holds_2 : decode prog_7_method_11_code 2 = .ok (.iload_n 3, 1) := by decide +kernel
theorem d_Relation_holds_3 : decode prog_7_method_11_code 3 = .ok (.aload_n 0, 1) := by decide +kernel
theorem d_Relation_holds_4 : decode prog_7_method_11_code 4 = .ok (.getfield 15, 3) := by decide +kernel
theorem d_Relation_holds_7 : decode prog_7_method_11_code 7 = .ok (.if_icmp .ge 21, 3) := by decide +kernel
theorem d_Relation_holds_10 : decode prog_7_method_11_code 10 = .ok (.aload_n 0, 1) := by decide +kernel
theorem d_Relation_holds_11 : decode prog_7_method_11_code 11 = .ok (.iload_n 3, 1) := by decide +kernel
theorem d_Relation_holds_12 : decode prog_7_method_11_code 12 = .ok (.aload_n 1, 1) := by decide +kernel
theorem d_Relation_holds_13 : decode prog_7_method_11_code 13 = .ok (.iload_n 2, 1) := by decide +kernel
theorem d_Relation_holds_14 : decode prog_7_method_11_code 14 = .ok (.invokevirtual 51, 3) := by decide +kernel
theorem d_Relation_holds_17 : decode prog_7_method_11_code 17 = .ok (.ifCond .ne 5, 3) := by decide +kernel
theorem d_Relation_holds_20 : decode prog_7_method_11_code 20 = .ok (.iconst 1, 1) := by decide +kernel
theorem d_Relation_holds_21 : decode prog_7_method_11_code 21 = .ok (.ireturn, 1) := by decide +kernel
theorem d_Relation_holds_22 : decode prog_7_method_11_code 22 = .ok (.iinc 3 1, 3) := by decide +kernel
theorem d_Relation_holds_25 : decode prog_7_method_11_code 25 = .ok (.goto (-23), 3) := by decide +kernel
theorem d_Relation_holds_28 : decode prog_7_method_11_code 28 = .ok (.iconst 0, 1) := by decide +kernel
theorem d_Relation_holds_29 : decode prog_7_method_11_code 29 = .ok (.ireturn, 1) := by decide +kernel
theorem d_Relation_compareRows_0 : decode prog_7_method_12_code 0 = .ok (.iconst 0, 1) := by decide +kernel
theorem d_Relation_compareRows_1 : decode prog_7_method_12_code 1 = .ok (.istore 4, 2) := by decide +kernel
theorem d_Relation_compareRows_3 : decode prog_7_method_12_code 3 = .ok (.iload 4, 2) := by decide +kernel
theorem d_Relation_compareRows_5 : decode prog_7_method_12_code 5 = .ok (.aload_n 0, 1) := by decide +kernel
theorem d_Relation_compareRows_6 : decode prog_7_method_12_code 6 = .ok (.getfield 19, 3) := by decide +kernel
theorem d_Relation_compareRows_9 : decode prog_7_method_12_code 9 = .ok (.if_icmp .ge 50, 3) := by decide +kernel
theorem d_Relation_compareRows_12 : decode prog_7_method_12_code 12 = .ok (.aload_n 0, 1) := by decide +kernel
theorem d_Relation_compareRows_13 : decode prog_7_method_12_code 13 = .ok (.getfield 9, 3) := by decide +kernel
theorem d_Relation_compareRows_16 : decode prog_7_method_12_code 16 = .ok (.iload_n 1, 1) := by decide +kernel
theorem d_Relation_compareRows_17 : decode prog_7_method_12_code 17 = .ok (.aload_n 0, 1) := by decide +kernel
theorem d_Relation_compareRows_18 : decode prog_7_method_12_code 18 = .ok (.getfield 19, 3) := by decide +kernel
theorem d_Relation_compareRows_21 : decode prog_7_method_12_code 21 = .ok (.imul, 1) := by decide +kernel
theorem d_Relation_compareRows_22 : decode prog_7_method_12_code 22 = .ok (.iload 4, 2) := by decide +kernel
theorem d_Relation_compareRows_24 : decode prog_7_method_12_code 24 = .ok (.iadd, 1) := by decide +kernel
theorem d_Relation_compareRows_25 : decode prog_7_method_12_code 25 = .ok (.iaload, 1) := by decide +kernel
theorem d_Relation_compareRows_26 : decode prog_7_method_12_code 26 = .ok (.aload_n 2, 1) := by decide +kernel
theorem d_Relation_compareRows_27 : decode prog_7_method_12_code 27 = .ok (.getfield 9, 3) := by decide +kernel
theorem d_Relation_compareRows_30 : decode prog_7_method_12_code 30 = .ok (.iload_n 3, 1) := by decide +kernel
theorem d_Relation_compareRows_31 : decode prog_7_method_12_code 31 = .ok (.aload_n 0, 1) := by decide +kernel
theorem d_Relation_compareRows_32 : decode prog_7_method_12_code 32 = .ok (.getfield 19, 3) := by decide +kernel
theorem d_Relation_compareRows_35 : decode prog_7_method_12_code 35 = .ok (.imul, 1) := by decide +kernel
theorem d_Relation_compareRows_36 : decode prog_7_method_12_code 36 = .ok (.iload 4, 2) := by decide +kernel
theorem d_Relation_compareRows_38 : decode prog_7_method_12_code 38 = .ok (.iadd, 1) := by decide +kernel
theorem d_Relation_compareRows_39 : decode prog_7_method_12_code 39 = .ok (.iaload, 1) := by decide +kernel
theorem d_Relation_compareRows_40 : decode prog_7_method_12_code 40 = .ok (.invokestatic 55, 3) := by decide +kernel
theorem d_Relation_compareRows_43 : decode prog_7_method_12_code 43 = .ok (.istore 5, 2) := by decide +kernel
theorem d_Relation_compareRows_45 : decode prog_7_method_12_code 45 = .ok (.iload 5, 2) := by decide +kernel
theorem d_Relation_compareRows_47 : decode prog_7_method_12_code 47 = .ok (.ifCond .eq 6, 3) := by decide +kernel
theorem d_Relation_compareRows_50 : decode prog_7_method_12_code 50 = .ok (.iload 5, 2) := by decide +kernel
theorem d_Relation_compareRows_52 : decode prog_7_method_12_code 52 = .ok (.ireturn, 1) := by decide +kernel
theorem d_Relation_compareRows_53 : decode prog_7_method_12_code 53 = .ok (.iinc 4 1, 3) := by decide +kernel
theorem d_Relation_compareRows_56 : decode prog_7_method_12_code 56 = .ok (.goto (-53), 3) := by decide +kernel
theorem d_Relation_compareRows_59 : decode prog_7_method_12_code 59 = .ok (.iconst 0, 1) := by decide +kernel
theorem d_Relation_compareRows_60 : decode prog_7_method_12_code 60 = .ok (.ireturn, 1) := by decide +kernel
theorem d_Relation_addOnce_0 : decode prog_7_method_10_code 0 = .ok (.aload_n 0, 1) := by decide +kernel
theorem d_Relation_addOnce_1 : decode prog_7_method_10_code 1 = .ok (.aload_n 1, 1) := by decide +kernel
theorem d_Relation_addOnce_2 : decode prog_7_method_10_code 2 = .ok (.iload_n 2, 1) := by decide +kernel
theorem d_Relation_addOnce_3 : decode prog_7_method_10_code 3 = .ok (.invokevirtual 43, 3) := by decide +kernel
theorem d_Relation_addOnce_6 : decode prog_7_method_10_code 6 = .ok (.ifCond .ne 9, 3) := by decide +kernel
theorem d_Relation_addOnce_9 : decode prog_7_method_10_code 9 = .ok (.aload_n 0, 1) := by decide +kernel
theorem d_Relation_addOnce_10 : decode prog_7_method_10_code 10 = .ok (.aload_n 1, 1) := by decide +kernel
theorem d_Relation_addOnce_11 : decode prog_7_method_10_code 11 = .ok (.iload_n 2, 1) := by decide +kernel
theorem d_Relation_addOnce_12 : decode prog_7_method_10_code 12 = .ok (.invokevirtual 47, 3) := by decide +kernel
theorem d_Relation_addOnce_15 : decode prog_7_method_10_code 15 = .ok (.return_, 1) := by decide +kernel
theorem d_Relation_orderInto_0 : decode prog_7_method_13_code 0 = .ok (.iconst 0, 1) := by decide +kernel
theorem d_Relation_orderInto_1 : decode prog_7_method_13_code 1 = .ok (.istore_n 3, 1) := by decide +kernel
theorem d_Relation_orderInto_2 : decode prog_7_method_13_code 2 = .ok (.iload_n 3, 1) := by decide +kernel
theorem d_Relation_orderInto_3 : decode prog_7_method_13_code 3 = .ok (.aload_n 0, 1) := by decide +kernel
theorem d_Relation_orderInto_4 : decode prog_7_method_13_code 4 = .ok (.getfield 15, 3) := by decide +kernel
theorem d_Relation_orderInto_7 : decode prog_7_method_13_code 7 = .ok (.if_icmp .ge 13, 3) := by decide +kernel
theorem d_Relation_orderInto_10 : decode prog_7_method_13_code 10 = .ok (.aload_n 1, 1) := by decide +kernel
theorem d_Relation_orderInto_11 : decode prog_7_method_13_code 11 = .ok (.iload_n 3, 1) := by decide +kernel
theorem d_Relation_orderInto_12 : decode prog_7_method_13_code 12 = .ok (.iload_n 3, 1) := by decide +kernel
theorem d_Relation_orderInto_13 : decode prog_7_method_13_code 13 = .ok (.iastore, 1) := by decide +kernel
theorem d_Relation_orderInto_14 : decode prog_7_method_13_code 14 = .ok (.iinc 3 1, 3) := by decide +kernel
theorem d_Relation_orderInto_17 : decode prog_7_method_13_code 17 = .ok (.goto (-15), 3) := by decide +kernel
theorem d_Relation_orderInto_20 : decode prog_7_method_13_code 20 = .ok (.iconst 1, 1) := by decide +kernel
theorem d_Relation_orderInto_21 : decode prog_7_method_13_code 21 = .ok (.istore_n 3, 1) := by decide +kernel
theorem d_Relation_orderInto_22 : decode prog_7_method_13_code 22 = .ok (.iload_n 3, 1) := by decide +kernel
theorem d_Relation_orderInto_23 : decode prog_7_method_13_code 23 = .ok (.aload_n 0, 1) := by decide +kernel
theorem d_Relation_orderInto_24 : decode prog_7_method_13_code 24 = .ok (.getfield 15, 3) := by decide +kernel
theorem d_Relation_orderInto_27 : decode prog_7_method_13_code 27 = .ok (.if_icmp .ge 76, 3) := by decide +kernel
theorem d_Relation_orderInto_30 : decode prog_7_method_13_code 30 = .ok (.iconst 0, 1) := by decide +kernel
theorem d_Relation_orderInto_31 : decode prog_7_method_13_code 31 = .ok (.istore 4, 2) := by decide +kernel
theorem d_Relation_orderInto_33 : decode prog_7_method_13_code 33 = .ok (.iload 4, 2) := by decide +kernel
theorem d_Relation_orderInto_35 : decode prog_7_method_13_code 35 = .ok (.aload_n 0, 1) := by decide +kernel
theorem d_Relation_orderInto_36 : decode prog_7_method_13_code 36 = .ok (.getfield 15, 3) := by decide +kernel
theorem d_Relation_orderInto_39 : decode prog_7_method_13_code 39 = .ok (.if_icmp .ge 46, 3) := by decide +kernel
theorem d_Relation_orderInto_42 : decode prog_7_method_13_code 42 = .ok (.aload_n 0, 1) := by decide +kernel
theorem d_Relation_orderInto_43 : decode prog_7_method_13_code 43 = .ok (.aload_n 1, 1) := by decide +kernel
theorem d_Relation_orderInto_44 : decode prog_7_method_13_code 44 = .ok (.aload_n 2, 1) := by decide +kernel
theorem d_Relation_orderInto_45 : decode prog_7_method_13_code 45 = .ok (.iload 4, 2) := by decide +kernel
theorem d_Relation_orderInto_47 : decode prog_7_method_13_code 47 = .ok (.iload 4, 2) := by decide +kernel
theorem d_Relation_orderInto_49 : decode prog_7_method_13_code 49 = .ok (.iload_n 3, 1) := by decide +kernel
theorem d_Relation_orderInto_50 : decode prog_7_method_13_code 50 = .ok (.iadd, 1) := by decide +kernel
theorem d_Relation_orderInto_51 : decode prog_7_method_13_code 51 = .ok (.aload_n 0, 1) := by decide +kernel
theorem d_Relation_orderInto_52 : decode prog_7_method_13_code 52 = .ok (.getfield 15, 3) := by decide +kernel
theorem d_Relation_orderInto_55 : decode prog_7_method_13_code 55 = .ok (.invokestatic 61, 3) := by decide +kernel
theorem d_Relation_orderInto_58 : decode prog_7_method_13_code 58 = .ok (.iload 4, 2) := by decide +kernel
theorem d_Relation_orderInto_60 : decode prog_7_method_13_code 60 = .ok (.iconst 2, 1) := by decide +kernel
theorem d_Relation_orderInto_61 : decode prog_7_method_13_code 61 = .ok (.iload_n 3, 1) := by decide +kernel
theorem d_Relation_orderInto_62 : decode prog_7_method_13_code 62 = .ok (.imul, 1) := by decide +kernel
theorem d_Relation_orderInto_63 : decode prog_7_method_13_code 63 = .ok (.iadd, 1) := by decide +kernel
theorem d_Relation_orderInto_64 : decode prog_7_method_13_code 64 = .ok (.aload_n 0, 1) := by decide +kernel
theorem d_Relation_orderInto_65 : decode prog_7_method_13_code 65 = .ok (.getfield 15, 3) := by decide +kernel
theorem d_Relation_orderInto_68 : decode prog_7_method_13_code 68 = .ok (.invokestatic 61, 3) := by decide +kernel
theorem d_Relation_orderInto_71 : decode prog_7_method_13_code 71 = .ok (.invokevirtual 66, 3) := by decide +kernel
theorem d_Relation_orderInto_74 : decode prog_7_method_13_code 74 = .ok (.iload 4, 2) := by decide +kernel
theorem d_Relation_orderInto_76 : decode prog_7_method_13_code 76 = .ok (.iconst 2, 1) := by decide +kernel
theorem d_Relation_orderInto_77 : decode prog_7_method_13_code 77 = .ok (.iload_n 3, 1) := by decide +kernel
theorem d_Relation_orderInto_78 : decode prog_7_method_13_code 78 = .ok (.imul, 1) := by decide +kernel
theorem d_Relation_orderInto_79 : decode prog_7_method_13_code 79 = .ok (.iadd, 1) := by decide +kernel
theorem d_Relation_orderInto_80 : decode prog_7_method_13_code 80 = .ok (.istore 4, 2) := by decide +kernel
theorem d_Relation_orderInto_82 : decode prog_7_method_13_code 82 = .ok (.goto (-49), 3) := by decide +kernel
theorem d_Relation_orderInto_85 : decode prog_7_method_13_code 85 = .ok (.aload_n 2, 1) := by decide +kernel
theorem d_Relation_orderInto_86 : decode prog_7_method_13_code 86 = .ok (.iconst 0, 1) := by decide +kernel
theorem d_Relation_orderInto_87 : decode prog_7_method_13_code 87 = .ok (.aload_n 1, 1) := by decide +kernel
theorem d_Relation_orderInto_88 : decode prog_7_method_13_code 88 = .ok (.iconst 0, 1) := by decide +kernel
theorem d_Relation_orderInto_89 : decode prog_7_method_13_code 89 = .ok (.aload_n 0, 1) := by decide +kernel
theorem d_Relation_orderInto_90 : decode prog_7_method_13_code 90 = .ok (.getfield 15, 3) := by decide +kernel
theorem d_Relation_orderInto_93 : decode prog_7_method_13_code 93 = .ok (.invokestatic 22, 3) := by decide +kernel
theorem d_Relation_orderInto_96 : decode prog_7_method_13_code 96 = .ok (.iload_n 3, 1) := by decide +kernel
theorem d_Relation_orderInto_97 : decode prog_7_method_13_code 97 = .ok (.iconst 2, 1) := by decide +kernel
theorem d_Relation_orderInto_98 : decode prog_7_method_13_code 98 = .ok (.imul, 1) := by decide +kernel
theorem d_Relation_orderInto_99 : decode prog_7_method_13_code 99 = .ok (.istore_n 3, 1) := by decide +kernel
theorem d_Relation_orderInto_100 : decode prog_7_method_13_code 100 = .ok (.goto (-78), 3) := by decide +kernel
theorem d_Relation_orderInto_103 : decode prog_7_method_13_code 103 = .ok (.return_, 1) := by decide +kernel
theorem d_Relation_merge_0 : decode prog_7_method_14_code 0 = .ok (.iload_n 3, 1) := by decide +kernel
theorem d_Relation_merge_1 : decode prog_7_method_14_code 1 = .ok (.istore 6, 2) := by decide +kernel
theorem d_Relation_merge_3 : decode prog_7_method_14_code 3 = .ok (.iload 4, 2) := by decide +kernel
theorem d_Relation_merge_5 : decode prog_7_method_14_code 5 = .ok (.istore 7, 2) := by decide +kernel
theorem d_Relation_merge_7 : decode prog_7_method_14_code 7 = .ok (.iload_n 3, 1) := by decide +kernel
theorem d_Relation_merge_8 : decode prog_7_method_14_code 8 = .ok (.istore 8, 2) := by decide +kernel
theorem d_Relation_merge_10 : decode prog_7_method_14_code 10 = .ok (.iload 8, 2) := by decide +kernel
theorem d_Relation_merge_12 : decode prog_7_method_14_code 12 = .ok (.iload 5, 2) := by decide +kernel
theorem d_Relation_merge_14 : decode prog_7_method_14_code 14 = .ok (.if_icmp .ge 64, 3) := by decide +kernel
theorem d_Relation_merge_17 : decode prog_7_method_14_code 17 = .ok (.iload 7, 2) := by decide +kernel
theorem d_Relation_merge_19 : decode prog_7_method_14_code 19 = .ok (.iload 5, 2) := by decide +kernel
theorem d_Relation_merge_21 : decode prog_7_method_14_code 21 = .ok (.if_icmp .ge 26, 3) := by decide +kernel
theorem d_Relation_merge_24 : decode prog_7_method_14_code 24 = .ok (.iload 6, 2) := by decide +kernel
theorem d_Relation_merge_26 : decode prog_7_method_14_code 26 = .ok (.iload 4, 2) := by decide +kernel
theorem d_Relation_merge_28 : decode prog_7_method_14_code 28 = .ok (.if_icmp .ge 33, 3) := by decide +kernel
theorem d_Relation_merge_31 : decode prog_7_method_14_code 31 = .ok (.aload_n 0, 1) := by decide +kernel
theorem d_Relation_merge_32 : decode prog_7_method_14_code 32 = .ok (.aload_n 1, 1) := by decide +kernel
theorem d_Relation_merge_33 : decode prog_7_method_14_code 33 = .ok (.iload 6, 2) := by decide +kernel
theorem d_Relation_merge_35 : decode prog_7_method_14_code 35 = .ok (.iaload, 1) := by decide +kernel
theorem d_Relation_merge_36 : decode prog_7_method_14_code 36 = .ok (.aload_n 0, 1) := by decide +kernel
theorem d_Relation_merge_37 : decode prog_7_method_14_code 37 = .ok (.aload_n 1, 1) := by decide +kernel
theorem d_Relation_merge_38 : decode prog_7_method_14_code 38 = .ok (.iload 7, 2) := by decide +kernel
theorem d_Relation_merge_40 : decode prog_7_method_14_code 40 = .ok (.iaload, 1) := by decide +kernel
theorem d_Relation_merge_41 : decode prog_7_method_14_code 41 = .ok (.invokevirtual 51, 3) := by decide +kernel
theorem d_Relation_merge_44 : decode prog_7_method_14_code 44 = .ok (.ifCond .gt 17, 3) := by decide +kernel
theorem d_Relation_merge_47 : decode prog_7_method_14_code 47 = .ok (.aload_n 2, 1) := by decide +kernel
theorem d_Relation_merge_48 : decode prog_7_method_14_code 48 = .ok (.iload 8, 2) := by decide +kernel
theorem d_Relation_merge_50 : decode prog_7_method_14_code 50 = .ok (.aload_n 1, 1) := by decide +kernel
theorem d_Relation_merge_51 : decode prog_7_method_14_code 51 = .ok (.iload 6, 2) := by decide +kernel
theorem d_Relation_merge_53 : decode prog_7_method_14_code 53 = .ok (.iaload, 1) := by decide +kernel
theorem d_Relation_merge_54 : decode prog_7_method_14_code 54 = .ok (.iastore, 1) := by decide +kernel
theorem d_Relation_merge_55 : decode prog_7_method_14_code 55 = .ok (.iinc 6 1, 3) := by decide +kernel
theorem d_Relation_merge_58 : decode prog_7_method_14_code 58 = .ok (.goto 14, 3) := by decide +kernel
theorem d_Relation_merge_61 : decode prog_7_method_14_code 61 = .ok (.aload_n 2, 1) := by decide +kernel
theorem d_Relation_merge_62 : decode prog_7_method_14_code 62 = .ok (.iload 8, 2) := by decide +kernel
theorem d_Relation_merge_64 : decode prog_7_method_14_code 64 = .ok (.aload_n 1, 1) := by decide +kernel
theorem d_Relation_merge_65 : decode prog_7_method_14_code 65 = .ok (.iload 7, 2) := by decide +kernel
theorem d_Relation_merge_67 : decode prog_7_method_14_code 67 = .ok (.iaload, 1) := by decide +kernel
theorem d_Relation_merge_68 : decode prog_7_method_14_code 68 = .ok (.iastore, 1) := by decide +kernel
theorem d_Relation_merge_69 : decode prog_7_method_14_code 69 = .ok (.iinc 7 1, 3) := by decide +kernel
theorem d_Relation_merge_72 : decode prog_7_method_14_code 72 = .ok (.iinc 8 1, 3) := by decide +kernel
theorem d_Relation_merge_75 : decode prog_7_method_14_code 75 = .ok (.goto (-65), 3) := by decide +kernel
theorem d_Relation_merge_78 : decode prog_7_method_14_code 78 = .ok (.return_, 1) := by decide +kernel
theorem d_Relation_copyFrom_0 : decode prog_7_method_3_code 0 = .ok (.aload_n 1, 1) := by decide +kernel
theorem d_Relation_copyFrom_1 : decode prog_7_method_3_code 1 = .ok (.ifnonnull 4, 3) := by decide +kernel
theorem d_Relation_copyFrom_4 : decode prog_7_method_3_code 4 = .ok (.return_, 1) := by decide +kernel
theorem d_Relation_copyFrom_5 : decode prog_7_method_3_code 5 = .ok (.aload_n 0, 1) := by decide +kernel
theorem d_Relation_copyFrom_6 : decode prog_7_method_3_code 6 = .ok (.aload_n 1, 1) := by decide +kernel
theorem d_Relation_copyFrom_7 : decode prog_7_method_3_code 7 = .ok (.getfield 15, 3) := by decide +kernel
theorem d_Relation_copyFrom_10 : decode prog_7_method_3_code 10 = .ok (.putfield 15, 3) := by decide +kernel
theorem d_Relation_copyFrom_13 : decode prog_7_method_3_code 13 = .ok (.aload_n 0, 1) := by decide +kernel
theorem d_Relation_copyFrom_14 : decode prog_7_method_3_code 14 = .ok (.aload_n 1, 1) := by decide +kernel
theorem d_Relation_copyFrom_15 : decode prog_7_method_3_code 15 = .ok (.getfield 19, 3) := by decide +kernel
theorem d_Relation_copyFrom_18 : decode prog_7_method_3_code 18 = .ok (.putfield 19, 3) := by decide +kernel
theorem d_Relation_copyFrom_21 : decode prog_7_method_3_code 21 = .ok (.aload_n 1, 1) := by decide +kernel
theorem d_Relation_copyFrom_22 : decode prog_7_method_3_code 22 = .ok (.getfield 9, 3) := by decide +kernel
theorem d_Relation_copyFrom_25 : decode prog_7_method_3_code 25 = .ok (.iconst 0, 1) := by decide +kernel
theorem d_Relation_copyFrom_26 : decode prog_7_method_3_code 26 = .ok (.aload_n 0, 1) := by decide +kernel
theorem d_Relation_copyFrom_27 : decode prog_7_method_3_code 27 = .ok (.getfield 9, 3) := by decide +kernel
theorem d_Relation_copyFrom_30 : decode prog_7_method_3_code 30 = .ok (.iconst 0, 1) := by decide +kernel
theorem d_Relation_copyFrom_31 : decode prog_7_method_3_code 31 = .ok (.aload_n 0, 1) := by decide +kernel
theorem d_Relation_copyFrom_32 : decode prog_7_method_3_code 32 = .ok (.getfield 15, 3) := by decide +kernel
theorem d_Relation_copyFrom_35 : decode prog_7_method_3_code 35 = .ok (.aload_n 0, 1) := by decide +kernel
theorem d_Relation_copyFrom_36 : decode prog_7_method_3_code 36 = .ok (.getfield 19, 3) := by decide +kernel
theorem d_Relation_copyFrom_39 : decode prog_7_method_3_code 39 = .ok (.imul, 1) := by decide +kernel
theorem d_Relation_copyFrom_40 : decode prog_7_method_3_code 40 = .ok (.invokestatic 22, 3) := by decide +kernel
theorem d_Relation_copyFrom_43 : decode prog_7_method_3_code 43 = .ok (.return_, 1) := by decide +kernel
theorem d_Transaction_knows_0 : decode prog_10_method_10_code 0 = .ok (.aload_n 0, 1) := by decide +kernel
theorem d_Transaction_knows_1 : decode prog_10_method_10_code 1 = .ok (.iload_n 1, 1) := by decide +kernel
theorem d_Transaction_knows_2 : decode prog_10_method_10_code 2 = .ok (.invokevirtual 92, 3) := by decide +kernel
theorem d_Transaction_knows_5 : decode prog_10_method_10_code 5 = .ok (.ifCond .ne 12, 3) := by decide +kernel
theorem d_Transaction_knows_8 : decode prog_10_method_10_code 8 = .ok (.aload_n 0, 1) := by decide +kernel
theorem d_Transaction_knows_9 : decode prog_10_method_10_code 9 = .ok (.iload_n 1, 1) := by decide +kernel
theorem d_Transaction_knows_10 : decode prog_10_method_10_code 10 = .ok (.iload_n 2, 1) := by decide +kernel
theorem d_Transaction_knows_11 : decode prog_10_method_10_code 11 = .ok (.invokevirtual 81, 3) := by decide +kernel
theorem d_Transaction_knows_14 : decode prog_10_method_10_code 14 = .ok (.ifCond .eq 7, 3) := by decide +kernel
theorem d_Transaction_knows_17 : decode prog_10_method_10_code 17 = .ok (.iconst 1, 1) := by decide +kernel
theorem d_Transaction_knows_18 : decode prog_10_method_10_code 18 = .ok (.goto 4, 3) := by decide +kernel
theorem d_Transaction_knows_21 : decode prog_10_method_10_code 21 = .ok (.iconst 0, 1) := by decide +kernel
theorem d_Transaction_knows_22 : decode prog_10_method_10_code 22 = .ok (.ireturn, 1) := by decide +kernel
theorem d_Rows_cellOf_0 : decode prog_8_method_9_code 0 = .ok (.aload_n 0, 1) := by decide +kernel
theorem d_Rows_cellOf_1 : decode prog_8_method_9_code 1 = .ok (.iload_n 1, 1) := by decide +kernel
theorem d_Rows_cellOf_2 : decode prog_8_method_9_code 2 = .ok (.iload_n 2, 1) := by decide +kernel
theorem d_Rows_cellOf_3 : decode prog_8_method_9_code 3 = .ok (.invokevirtual 36, 3) := by decide +kernel
theorem d_Rows_cellOf_6 : decode prog_8_method_9_code 6 = .ok (.istore 4, 2) := by decide +kernel
theorem d_Rows_cellOf_8 : decode prog_8_method_9_code 8 = .ok (.iload 4, 2) := by decide +kernel
theorem d_Rows_cellOf_10 : decode prog_8_method_9_code 10 = .ok (.iconst (-1), 1) := by decide +kernel
theorem d_Rows_cellOf_11 : decode prog_8_method_9_code 11 = .ok (.if_icmp .ne 8, 3) := by decide +kernel
theorem d_Rows_cellOf_14 : decode prog_8_method_9_code 14 = .ok (.ldc 15, 2) := by decide +kernel
theorem d_Rows_cellOf_16 : decode prog_8_method_9_code 16 = .ok (.goto 15, 3) := by decide +kernel
theorem d_Rows_cellOf_19 : decode prog_8_method_9_code 19 = .ok (.aload_n 0, 1) := by decide +kernel
theorem d_Rows_cellOf_20 : decode prog_8_method_9_code 20 = .ok (.getfield 9, 3) := by decide +kernel
theorem d_Rows_cellOf_23 : decode prog_8_method_9_code 23 = .ok (.iload 4, 2) := by decide +kernel
theorem d_Rows_cellOf_25 : decode prog_8_method_9_code 25 = .ok (.invokestatic 39, 3) := by decide +kernel
theorem d_Rows_cellOf_28 : decode prog_8_method_9_code 28 = .ok (.iload_n 3, 1) := by decide +kernel
theorem d_Rows_cellOf_29 : decode prog_8_method_9_code 29 = .ok (.iadd, 1) := by decide +kernel
theorem d_Rows_cellOf_30 : decode prog_8_method_9_code 30 = .ok (.iaload, 1) := by decide +kernel
theorem d_Rows_cellOf_31 : decode prog_8_method_9_code 31 = .ok (.ireturn, 1) := by decide +kernel
theorem d_Log_lastCommittedCell_0 : decode prog_4_method_14_code 0 = .ok (.iconst 0, 1) := by decide +kernel
theorem d_Log_lastCommittedCell_1 : decode prog_4_method_14_code 1 = .ok (.istore 4, 2) := by decide +kernel
theorem d_Log_lastCommittedCell_3 : decode prog_4_method_14_code 3 = .ok (.iload 4, 2) := by decide +kernel
theorem d_Log_lastCommittedCell_5 : decode prog_4_method_14_code 5 = .ok (.aload_n 0, 1) := by decide +kernel
theorem d_Log_lastCommittedCell_6 : decode prog_4_method_14_code 6 = .ok (.getfield 15, 3) := by decide +kernel
theorem d_Log_lastCommittedCell_9 : decode prog_4_method_14_code 9 = .ok (.arraylength, 1) := by decide +kernel
theorem d_Log_lastCommittedCell_10 : decode prog_4_method_14_code 10 = .ok (.if_icmp .ge 17, 3) := by decide +kernel
theorem d_Log_lastCommittedCell_13 : decode prog_4_method_14_code 13 = .ok (.aload_n 0, 1) := by decide +kernel
theorem d_Log_lastCommittedCell_14 : decode prog_4_method_14_code 14 = .ok (.getfield 15, 3) := by decide +kernel
theorem d_Log_lastCommittedCell_17 : decode prog_4_method_14_code 17 = .ok (.iload 4, 2) := by decide +kernel
theorem d_Log_lastCommittedCell_19 : decode prog_4_method_14_code 19 = .ok (.iconst 0, 1) := by decide +kernel
theorem d_Log_lastCommittedCell_20 : decode prog_4_method_14_code 20 = .ok (.bastore, 1) := by decide +kernel
theorem d_Log_lastCommittedCell_21 : decode prog_4_method_14_code 21 = .ok (.iinc 4 1, 3) := by decide +kernel
theorem d_Log_lastCommittedCell_24 : decode prog_4_method_14_code 24 = .ok (.goto (-21), 3) := by decide +kernel
theorem d_Log_lastCommittedCell_27 : decode prog_4_method_14_code 27 = .ok (.iconst 0, 1) := by decide +kernel
theorem d_Log_lastCommittedCell_28 : decode prog_4_method_14_code 28 = .ok (.istore 4, 2) := by decide +kernel
theorem d_Log_lastCommittedCell_30 : decode prog_4_method_14_code 30 = .ok (.iload 4, 2) := by decide +kernel
theorem d_Log_lastCommittedCell_32 : decode prog_4_method_14_code 32 = .ok (.aload_n 0, 1) := by decide +kernel
theorem d_Log_lastCommittedCell_33 : decode prog_4_method_14_code 33 = .ok (.getfield 22, 3) := by decide +kernel
theorem d_Log_lastCommittedCell_36 : decode prog_4_method_14_code 36 = .ok (.if_icmp .ge 31, 3) := by decide +kernel
theorem d_Log_lastCommittedCell_39 : decode prog_4_method_14_code 39 = .ok (.aload_n 0, 1) := by decide +kernel
theorem d_Log_lastCommittedCell_40 : decode prog_4_method_14_code 40 = .ok (.iload 4, 2) := by decide +kernel
theorem d_Log_lastCommittedCell_42 : decode prog_4_method_14_code 42 = .ok (.invokevirtual 63, 3) := by decide +kernel
theorem d_Log_lastCommittedCell_45 : decode prog_4_method_14_code 45 = .ok (.iconst 1, 1) := by decide +kernel
theorem d_Log_lastCommittedCell_46 : decode prog_4_method_14_code 46 = .ok (.if_icmp .ne 15, 3) := by decide +kernel
theorem d_Log_lastCommittedCell_49 : decode prog_4_method_14_code 49 = .ok (.aload_n 0, 1) := by decide +kernel
theorem d_Log_lastCommittedCell_50 : decode prog_4_method_14_code 50 = .ok (.getfield 15, 3) := by decide +kernel
theorem d_Log_lastCommittedCell_53 : decode prog_4_method_14_code 53 = .ok (.aload_n 0, 1) := by decide +kernel
theorem d_Log_lastCommittedCell_54 : decode prog_4_method_14_code 54 = .ok (.iload 4, 2) := by decide +kernel
theorem d_Log_lastCommittedCell_56 : decode prog_4_method_14_code 56 = .ok (.invokevirtual 66, 3) := by decide +kernel
theorem d_Log_lastCommittedCell_59 : decode prog_4_method_14_code 59 = .ok (.iconst 1, 1) := by decide +kernel
theorem d_Log_lastCommittedCell_60 : decode prog_4_method_14_code 60 = .ok (.bastore, 1) := by decide +kernel
theorem d_Log_lastCommittedCell_61 : decode prog_4_method_14_code 61 = .ok (.iinc 4 1, 3) := by decide +kernel
theorem d_Log_lastCommittedCell_64 : decode prog_4_method_14_code 64 = .ok (.goto (-34), 3) := by decide +kernel
theorem d_Log_lastCommittedCell_67 : decode prog_4_method_14_code 67 = .ok (.aload_n 0, 1) := by decide +kernel
theorem d_Log_lastCommittedCell_68 : decode prog_4_method_14_code 68 = .ok (.getfield 22, 3) := by decide +kernel
theorem d_Log_lastCommittedCell_71 : decode prog_4_method_14_code 71 = .ok (.iconst 1, 1) := by decide +kernel
theorem d_Log_lastCommittedCell_72 : decode prog_4_method_14_code 72 = .ok (.isub, 1) := by decide +kernel
theorem d_Log_lastCommittedCell_73 : decode prog_4_method_14_code 73 = .ok (.istore 4, 2) := by decide +kernel
theorem d_Log_lastCommittedCell_75 : decode prog_4_method_14_code 75 = .ok (.iload 4, 2) := by decide +kernel
theorem d_Log_lastCommittedCell_77 : decode prog_4_method_14_code 77 = .ok (.ifCond .lt 67, 3) := by decide +kernel
theorem d_Log_lastCommittedCell_80 : decode prog_4_method_14_code 80 = .ok (.aload_n 0, 1) := by decide +kernel
theorem d_Log_lastCommittedCell_81 : decode prog_4_method_14_code 81 = .ok (.iload 4, 2) := by decide +kernel
theorem d_Log_lastCommittedCell_83 : decode prog_4_method_14_code 83 = .ok (.invokevirtual 63, 3) := by decide +kernel
theorem d_Log_lastCommittedCell_86 : decode prog_4_method_14_code 86 = .ok (.ifCond .ne 52, 3) := by decide +kernel
theorem d_Log_lastCommittedCell_89 : decode prog_4_method_14_code 89 = .ok (.aload_n 0, 1) := by decide +kernel
theorem d_Log_lastCommittedCell_90 : decode prog_4_method_14_code 90 = .ok (.iload 4, 2) := by decide +kernel
theorem d_Log_lastCommittedCell_92 : decode prog_4_method_14_code 92 = .ok (.invokevirtual 72, 3) := by decide +kernel
theorem d_Log_lastCommittedCell_95 : decode prog_4_method_14_code 95 = .ok (.iload_n 1, 1) := by decide +kernel
theorem d_Log_lastCommittedCell_96 : decode prog_4_method_14_code 96 = .ok (.if_icmp .ne 42, 3) := by decide +kernel
theorem d_Log_lastCommittedCell_99 : decode prog_4_method_14_code 99 = .ok (.aload_n 0, 1) := by decide +kernel
theorem d_Log_lastCommittedCell_100 : decode prog_4_method_14_code 100 = .ok (.iload 4, 2) := by decide +kernel
theorem d_Log_lastCommittedCell_102 : decode prog_4_method_14_code 102 = .ok (.invokevirtual 75, 3) := by decide +kernel
theorem d_Log_lastCommittedCell_105 : decode prog_4_method_14_code 105 = .ok (.iload_n 2, 1) := by decide +kernel
theorem d_Log_lastCommittedCell_106 : decode prog_4_method_14_code 106 = .ok (.if_icmp .ne 32, 3) := by decide +kernel
theorem d_Log_lastCommittedCell_109 : decode prog_4_method_14_code 109 = .ok (.aload_n 0, 1) := by decide +kernel
theorem d_Log_lastCommittedCell_110 : decode prog_4_method_14_code 110 = .ok (.getfield 15, 3) := by decide +kernel
theorem d_Log_lastCommittedCell_113 : decode prog_4_method_14_code 113 = .ok (.aload_n 0, 1) := by decide +kernel
theorem d_Log_lastCommittedCell_114 : decode prog_4_method_14_code 114 = .ok (.iload 4, 2) := by decide +kernel
theorem d_Log_lastCommittedCell_116 : decode prog_4_method_14_code 116 = .ok (.invokevirtual 66, 3) := by decide +kernel
theorem d_Log_lastCommittedCell_119 : decode prog_4_method_14_code 119 = .ok (.baload, 1) := by decide +kernel
theorem d_Log_lastCommittedCell_120 : decode prog_4_method_14_code 120 = .ok (.ifCond .eq 18, 3) := by decide +kernel
theorem d_Log_lastCommittedCell_123 : decode prog_4_method_14_code 123 = .ok (.aload_n 0, 1) := by decide +kernel
theorem d_Log_lastCommittedCell_124 : decode prog_4_method_14_code 124 = .ok (.getfield 11, 3) := by decide +kernel
theorem d_Log_lastCommittedCell_127 : decode prog_4_method_14_code 127 = .ok (.iload 4, 2) := by decide +kernel
theorem d_Log_lastCommittedCell_129 : decode prog_4_method_14_code 129 = .ok (.bipush 8, 2) := by decide +kernel
theorem d_Log_lastCommittedCell_131 : decode prog_4_method_14_code 131 = .ok (.imul, 1) := by decide +kernel
theorem d_Log_lastCommittedCell_132 : decode prog_4_method_14_code 132 = .ok (.iconst 4, 1) := by decide +kernel
theorem d_Log_lastCommittedCell_133 : decode prog_4_method_14_code 133 = .ok (.iadd, 1) := by decide +kernel
theorem d_Log_lastCommittedCell_134 : decode prog_4_method_14_code 134 = .ok (.iload_n 3, 1) := by decide +kernel
theorem d_Log_lastCommittedCell_135 : decode prog_4_method_14_code 135 = .ok (.iadd, 1) := by decide +kernel
theorem d_Log_lastCommittedCell_136 : decode prog_4_method_14_code 136 = .ok (.iaload, 1) := by decide +kernel
theorem d_Log_lastCommittedCell_137 : decode prog_4_method_14_code 137 = .ok (.ireturn, 1) := by decide +kernel
theorem d_Log_lastCommittedCell_138 : decode prog_4_method_14_code 138 = .ok (.iinc 4 (-1), 3) := by decide +kernel
theorem d_Log_lastCommittedCell_141 : decode prog_4_method_14_code 141 = .ok (.goto (-66), 3) := by decide +kernel
theorem d_Log_lastCommittedCell_144 : decode prog_4_method_14_code 144 = .ok (.ldc 32, 2) := by decide +kernel
theorem d_Log_lastCommittedCell_146 : decode prog_4_method_14_code 146 = .ok (.ireturn, 1) := by decide +kernel
theorem d_Query_putScan_0 : decode prog_6_method_9_code 0 = .ok (.aload_n 0, 1) := by decide +kernel
theorem d_Query_putScan_1 : decode prog_6_method_9_code 1 = .ok (.iconst 0, 1) := by decide +kernel
theorem d_Query_putScan_2 : decode prog_6_method_9_code 2 = .ok (.iload_n 2, 1) := by decide +kernel
theorem d_Query_putScan_3 : decode prog_6_method_9_code 3 = .ok (.iconst (-1), 1) := by decide +kernel
theorem d_Query_putScan_4 : decode prog_6_method_9_code 4 = .ok (.iconst (-1), 1) := by decide +kernel
theorem d_Query_putScan_5 : decode prog_6_method_9_code 5 = .ok (.invokevirtual 49, 3) := by decide +kernel
theorem d_Query_putScan_8 : decode prog_6_method_9_code 8 = .ok (.aload_n 0, 1) := by decide +kernel
theorem d_Query_putScan_9 : decode prog_6_method_9_code 9 = .ok (.iload_n 1, 1) := by decide +kernel
theorem d_Query_putScan_10 : decode prog_6_method_9_code 10 = .ok (.iconst 0, 1) := by decide +kernel
theorem d_Query_putScan_11 : decode prog_6_method_9_code 11 = .ok (.iconst 0, 1) := by decide +kernel
theorem d_Query_putScan_12 : decode prog_6_method_9_code 12 = .ok (.iconst 0, 1) := by decide +kernel
theorem d_Query_putScan_13 : decode prog_6_method_9_code 13 = .ok (.invokevirtual 53, 3) := by decide +kernel
theorem d_Query_putScan_16 : decode prog_6_method_9_code 16 = .ok (.aload_n 0, 1) := by decide +kernel
theorem d_Query_putScan_17 : decode prog_6_method_9_code 17 = .ok (.getfield 27, 3) := by decide +kernel
theorem d_Query_putScan_20 : decode prog_6_method_9_code 20 = .ok (.aload_n 0, 1) := by decide +kernel
theorem d_Query_putScan_21 : decode prog_6_method_9_code 21 = .ok (.getfield 40, 3) := by decide +kernel
theorem d_Query_putScan_24 : decode prog_6_method_9_code 24 = .ok (.aload_n 0, 1) := by decide +kernel
theorem d_Query_putScan_25 : decode prog_6_method_9_code 25 = .ok (.getfield 33, 3) := by decide +kernel
theorem d_Query_putScan_28 : decode prog_6_method_9_code 28 = .ok (.iconst 1, 1) := by decide +kernel
theorem d_Query_putScan_29 : decode prog_6_method_9_code 29 = .ok (.isub, 1) := by decide +kernel
theorem d_Query_putScan_30 : decode prog_6_method_9_code 30 = .ok (.iastore, 1) := by decide +kernel
theorem d_Query_putScan_31 : decode prog_6_method_9_code 31 = .ok (.aload_n 0, 1) := by decide +kernel
theorem d_Query_putScan_32 : decode prog_6_method_9_code 32 = .ok (.dup, 1) := by decide +kernel
theorem d_Query_putScan_33 : decode prog_6_method_9_code 33 = .ok (.getfield 40, 3) := by decide +kernel
theorem d_Query_putScan_36 : decode prog_6_method_9_code 36 = .ok (.iconst 1, 1) := by decide +kernel
theorem d_Query_putScan_37 : decode prog_6_method_9_code 37 = .ok (.iadd, 1) := by decide +kernel
theorem d_Query_putScan_38 : decode prog_6_method_9_code 38 = .ok (.putfield 40, 3) := by decide +kernel
theorem d_Query_putScan_41 : decode prog_6_method_9_code 41 = .ok (.aload_n 0, 1) := by decide +kernel
theorem d_Query_putScan_42 : decode prog_6_method_9_code 42 = .ok (.dup, 1) := by decide +kernel
theorem d_Query_putScan_43 : decode prog_6_method_9_code 43 = .ok (.getfield 37, 3) := by decide +kernel
theorem d_Query_putScan_46 : decode prog_6_method_9_code 46 = .ok (.iconst 1, 1) := by decide +kernel
theorem d_Query_putScan_47 : decode prog_6_method_9_code 47 = .ok (.iadd, 1) := by decide +kernel
theorem d_Query_putScan_48 : decode prog_6_method_9_code 48 = .ok (.putfield 37, 3) := by decide +kernel
theorem d_Query_putScan_51 : decode prog_6_method_9_code 51 = .ok (.return_, 1) := by decide +kernel
theorem d_Query_put_0 : decode prog_6_method_7_code 0 = .ok (.aload_n 0, 1) := by decide +kernel
theorem d_Query_put_1 : decode prog_6_method_7_code 1 = .ok (.getfield 9, 3) := by decide +kernel
theorem d_Query_put_4 : decode prog_6_method_7_code 4 = .ok (.aload_n 0, 1) := by decide +kernel
theorem d_Query_put_5 : decode prog_6_method_7_code 5 = .ok (.getfield 33, 3) := by decide +kernel
theorem d_Query_put_8 : decode prog_6_method_7_code 8 = .ok (.iload_n 1, 1) := by decide +kernel
theorem d_Query_put_9 : decode prog_6_method_7_code 9 = .ok (.iastore, 1) := by decide +kernel
theorem d_Query_put_10 : decode prog_6_method_7_code 10 = .ok (.aload_n 0, 1) := by decide +kernel
theorem d_Query_put_11 : decode prog_6_method_7_code 11 = .ok (.getfield 18, 3) := by decide +kernel
theorem d_Query_put_14 : decode prog_6_method_7_code 14 = .ok (.aload_n 0, 1) := by decide +kernel
theorem d_Query_put_15 : decode prog_6_method_7_code 15 = .ok (.getfield 33, 3) := by decide +kernel
theorem d_Query_put_18 : decode prog_6_method_7_code 18 = .ok (.iload_n 2, 1) := by decide +kernel
theorem d_Query_put_19 : decode prog_6_method_7_code 19 = .ok (.iastore, 1) := by decide +kernel
theorem d_Query_put_20 : decode prog_6_method_7_code 20 = .ok (.aload_n 0, 1) := by decide +kernel
theorem d_Query_put_21 : decode prog_6_method_7_code 21 = .ok (.getfield 21, 3) := by decide +kernel
theorem d_Query_put_24 : decode prog_6_method_7_code 24 = .ok (.aload_n 0, 1) := by decide +kernel
theorem d_Query_put_25 : decode prog_6_method_7_code 25 = .ok (.getfield 33, 3) := by decide +kernel
theorem d_Query_put_28 : decode prog_6_method_7_code 28 = .ok (.iload_n 3, 1) := by decide +kernel
theorem d_Query_put_29 : decode prog_6_method_7_code 29 = .ok (.iastore, 1) := by decide +kernel
theorem d_Query_put_30 : decode prog_6_method_7_code 30 = .ok (.aload_n 0, 1) := by decide +kernel
theorem d_Query_put_31 : decode prog_6_method_7_code 31 = .ok (.getfield 24, 3) := by decide +kernel
theorem d_Query_put_34 : decode prog_6_method_7_code 34 = .ok (.aload_n 0, 1) := by decide +kernel
theorem d_Query_put_35 : decode prog_6_method_7_code 35 = .ok (.getfield 33, 3) := by decide +kernel
theorem d_Query_put_38 : decode prog_6_method_7_code 38 = .ok (.iload 4, 2) := by decide +kernel
theorem d_Query_put_40 : decode prog_6_method_7_code 40 = .ok (.iastore, 1) := by decide +kernel
theorem d_Query_put_41 : decode prog_6_method_7_code 41 = .ok (.aload_n 0, 1) := by decide +kernel
theorem d_Query_put_42 : decode prog_6_method_7_code 42 = .ok (.getfield 15, 3) := by decide +kernel
theorem d_Query_put_45 : decode prog_6_method_7_code 45 = .ok (.aload_n 0, 1) := by decide +kernel
theorem d_Query_put_46 : decode prog_6_method_7_code 46 = .ok (.getfield 33, 3) := by decide +kernel
theorem d_Query_put_49 : decode prog_6_method_7_code 49 = .ok (.iconst 4, 1) := by decide +kernel
theorem d_Query_put_50 : decode prog_6_method_7_code 50 = .ok (.imul, 1) := by decide +kernel
theorem d_Query_put_51 : decode prog_6_method_7_code 51 = .ok (.aload_n 0, 1) := by decide +kernel
theorem d_Query_put_52 : decode prog_6_method_7_code 52 = .ok (.getfield 33, 3) := by decide +kernel
theorem d_Query_put_55 : decode prog_6_method_7_code 55 = .ok (.iconst 1, 1) := by decide +kernel
theorem d_Query_put_56 : decode prog_6_method_7_code 56 = .ok (.iadd, 1) := by decide +kernel
theorem d_Query_put_57 : decode prog_6_method_7_code 57 = .ok (.iconst 4, 1) := by decide +kernel
theorem d_Query_put_58 : decode prog_6_method_7_code 58 = .ok (.imul, 1) := by decide +kernel
theorem d_Query_put_59 : decode prog_6_method_7_code 59 = .ok (.iconst 0, 1) := by decide +kernel
theorem d_Query_put_60 : decode prog_6_method_7_code 60 = .ok (.invokestatic 43, 3) := by decide +kernel
theorem d_Query_put_63 : decode prog_6_method_7_code 63 = .ok (.aload_n 0, 1) := by decide +kernel
theorem d_Query_put_64 : decode prog_6_method_7_code 64 = .ok (.dup, 1) := by decide +kernel
theorem d_Query_put_65 : decode prog_6_method_7_code 65 = .ok (.getfield 33, 3) := by decide +kernel
theorem d_Query_put_68 : decode prog_6_method_7_code 68 = .ok (.iconst 1, 1) := by decide +kernel
theorem d_Query_put_69 : decode prog_6_method_7_code 69 = .ok (.iadd, 1) := by decide +kernel
theorem d_Query_put_70 : decode prog_6_method_7_code 70 = .ok (.putfield 33, 3) := by decide +kernel
theorem d_Query_put_73 : decode prog_6_method_7_code 73 = .ok (.return_, 1) := by decide +kernel
theorem d_Query_setParameters_0 : decode prog_6_method_8_code 0 = .ok (.aload_n 0, 1) := by decide +kernel
theorem d_Query_setParameters_1 : decode prog_6_method_8_code 1 = .ok (.getfield 33, 3) := by decide +kernel
theorem d_Query_setParameters_4 : decode prog_6_method_8_code 4 = .ok (.iconst 1, 1) := by decide +kernel
theorem d_Query_setParameters_5 : decode prog_6_method_8_code 5 = .ok (.isub, 1) := by decide +kernel
theorem d_Query_setParameters_6 : decode prog_6_method_8_code 6 = .ok (.iconst 4, 1) := by decide +kernel
theorem d_Query_setParameters_7 : decode prog_6_method_8_code 7 = .ok (.imul, 1) := by decide +kernel
theorem d_Query_setParameters_8 : decode prog_6_method_8_code 8 = .ok (.istore 5, 2) := by decide +kernel
theorem d_Query_setParameters_10 : decode prog_6_method_8_code 10 = .ok (.aload_n 0, 1) := by decide +kernel
theorem d_Query_setParameters_11 : decode prog_6_method_8_code 11 = .ok (.getfield 15, 3) := by decide +kernel
theorem d_Query_setParameters_14 : decode prog_6_method_8_code 14 = .ok (.iload 5, 2) := by decide +kernel
theorem d_Query_setParameters_16 : decode prog_6_method_8_code 16 = .ok (.iload_n 1, 1) := by decide +kernel
theorem d_Query_setParameters_17 : decode prog_6_method_8_code 17 = .ok (.iastore, 1) := by decide +kernel
theorem d_Query_setParameters_18 : decode prog_6_method_8_code 18 = .ok (.aload_n 0, 1) := by decide +kernel
theorem d_Query_setParameters_19 : decode prog_6_method_8_code 19 = .ok (.getfield 15, 3) := by decide +kernel
theorem d_Query_setParameters_22 : decode prog_6_method_8_code 22 = .ok (.iload 5, 2) := by decide +kernel
theorem d_Query_setParameters_24 : decode prog_6_method_8_code 24 = .ok (.iconst 1, 1) := by decide +kernel
theorem d_Query_setParameters_25 : decode prog_6_method_8_code 25 = .ok (.iadd, 1) := by decide +kernel
theorem d_Query_setParameters_26 : decode prog_6_method_8_code 26 = .ok (.iload_n 2, 1) := by decide +kernel
theorem d_Query_setParameters_27 : decode prog_6_method_8_code 27 = .ok (.iastore, 1) := by decide +kernel
theorem d_Query_setParameters_28 : decode prog_6_method_8_code 28 = .ok (.aload_n 0, 1) := by decide +kernel
theorem d_Query_setParameters_29 : decode prog_6_method_8_code 29 = .ok (.getfield 15, 3) := by decide +kernel
theorem d_Query_setParameters_32 : decode prog_6_method_8_code 32 = .ok (.iload 5, 2) := by decide +kernel
theorem d_Query_setParameters_34 : decode prog_6_method_8_code 34 = .ok (.iconst 2, 1) := by decide +kernel
theorem d_Query_setParameters_35 : decode prog_6_method_8_code 35 = .ok (.iadd, 1) := by decide +kernel
theorem d_Query_setParameters_36 : decode prog_6_method_8_code 36 = .ok (.iload_n 3, 1) := by decide +kernel
theorem d_Query_setParameters_37 : decode prog_6_method_8_code 37 = .ok (.iastore, 1) := by decide +kernel
theorem d_Query_setParameters_38 : decode prog_6_method_8_code 38 = .ok (.aload_n 0, 1) := by decide +kernel
theorem d_Query_setParameters_39 : decode prog_6_method_8_code 39 = .ok (.getfield 15, 3) := by decide +kernel
theorem d_Query_setParameters_42 : decode prog_6_method_8_code 42 = .ok (.iload 5, 2) := by decide +kernel
theorem d_Query_setParameters_44 : decode prog_6_method_8_code 44 = .ok (.iconst 3, 1) := by decide +kernel
theorem d_Query_setParameters_45 : decode prog_6_method_8_code 45 = .ok (.iadd, 1) := by decide +kernel
theorem d_Query_setParameters_46 : decode prog_6_method_8_code 46 = .ok (.iload 4, 2) := by decide +kernel
theorem d_Query_setParameters_48 : decode prog_6_method_8_code 48 = .ok (.iastore, 1) := by decide +kernel
theorem d_Query_setParameters_49 : decode prog_6_method_8_code 49 = .ok (.return_, 1) := by decide +kernel
theorem d_Query_takesOperator_0 : decode prog_6_method_3_code 0 = .ok (.aload_n 0, 1) := by decide +kernel
theorem d_Query_takesOperator_1 : decode prog_6_method_3_code 1 = .ok (.getfield 40, 3) := by decide +kernel
theorem d_Query_takesOperator_4 : decode prog_6_method_3_code 4 = .ok (.iload_n 1, 1) := by decide +kernel
theorem d_Query_takesOperator_5 : decode prog_6_method_3_code 5 = .ok (.if_icmp .lt 16, 3) := by decide +kernel
theorem d_Query_takesOperator_8 : decode prog_6_method_3_code 8 = .ok (.aload_n 0, 1) := by decide +kernel
theorem d_Query_takesOperator_9 : decode prog_6_method_3_code 9 = .ok (.getfield 33, 3) := by decide +kernel
theorem d_Query_takesOperator_12 : decode prog_6_method_3_code 12 = .ok (.bipush 12, 2) := by decide +kernel
theorem d_Query_takesOperator_14 : decode prog_6_method_3_code 14 = .ok (.if_icmp .ge 7, 3) := by decide +kernel
theorem d_Query_takesOperator_17 : decode prog_6_method_3_code 17 = .ok (.iconst 1, 1) := by decide +kernel
theorem d_Query_takesOperator_18 : decode prog_6_method_3_code 18 = .ok (.goto 4, 3) := by decide +kernel
theorem d_Query_takesOperator_21 : decode prog_6_method_3_code 21 = .ok (.iconst 0, 1) := by decide +kernel
theorem d_Query_takesOperator_22 : decode prog_6_method_3_code 22 = .ok (.ireturn, 1) := by decide +kernel
theorem d_Query_lastWidth_0 : decode prog_6_method_4_code 0 = .ok (.aload_n 0, 1) := by decide +kernel
theorem d_Query_lastWidth_1 : decode prog_6_method_4_code 1 = .ok (.getfield 40, 3) := by decide +kernel
theorem d_Query_lastWidth_4 : decode prog_6_method_4_code 4 = .ok (.ifCond .le 22, 3) := by decide +kernel
theorem d_Query_lastWidth_7 : decode prog_6_method_4_code 7 = .ok (.aload_n 0, 1) := by decide +kernel
theorem d_Query_lastWidth_8 : decode prog_6_method_4_code 8 = .ok (.getfield 18, 3) := by decide +kernel
theorem d_Query_lastWidth_11 : decode prog_6_method_4_code 11 = .ok (.aload_n 0, 1) := by decide +kernel
theorem d_Query_lastWidth_12 : decode prog_6_method_4_code 12 = .ok (.getfield 27, 3) := by decide +kernel
theorem d_Query_lastWidth_15 : decode prog_6_method_4_code 15 = .ok (.aload_n 0, 1) := by decide +kernel
theorem d_Query_lastWidth_16 : decode prog_6_method_4_code 16 = .ok (.getfield 40, 3) := by decide +kernel
theorem d_Query_lastWidth_19 : decode prog_6_method_4_code 19 = .ok (.iconst 1, 1) := by decide +kernel
theorem d_Query_lastWidth_20 : decode prog_6_method_4_code 20 = .ok (.isub, 1) := by decide +kernel
theorem d_Query_lastWidth_21 : decode prog_6_method_4_code 21 = .ok (.iaload, 1) := by decide +kernel
theorem d_Query_lastWidth_22 : decode prog_6_method_4_code 22 = .ok (.iaload, 1) := by decide +kernel
theorem d_Query_lastWidth_23 : decode prog_6_method_4_code 23 = .ok (.goto 4, 3) := by decide +kernel
theorem d_Query_lastWidth_26 : decode prog_6_method_4_code 26 = .ok (.iconst 0, 1) := by decide +kernel
theorem d_Query_lastWidth_27 : decode prog_6_method_4_code 27 = .ok (.ireturn, 1) := by decide +kernel
theorem d_Query_putOnLast_0 : decode prog_6_method_10_code 0 = .ok (.aload_n 0, 1) := by decide +kernel
theorem d_Query_putOnLast_1 : decode prog_6_method_10_code 1 = .ok (.iload_n 1, 1) := by decide +kernel
theorem d_Query_putOnLast_2 : decode prog_6_method_10_code 2 = .ok (.iload_n 2, 1) := by decide +kernel
theorem d_Query_putOnLast_3 : decode prog_6_method_10_code 3 = .ok (.aload_n 0, 1) := by decide +kernel
theorem d_Query_putOnLast_4 : decode prog_6_method_10_code 4 = .ok (.getfield 27, 3) := by decide +kernel
theorem d_Query_putOnLast_7 : decode prog_6_method_10_code 7 = .ok (.aload_n 0, 1) := by decide +kernel
theorem d_Query_putOnLast_8 : decode prog_6_method_10_code 8 = .ok (.getfield 40, 3) := by decide +kernel
theorem d_Query_putOnLast_11 : decode prog_6_method_10_code 11 = .ok (.iconst 1, 1) := by decide +kernel
theorem d_Query_putOnLast_12 : decode prog_6_method_10_code 12 = .ok (.isub, 1) := by decide +kernel
theorem d_Query_putOnLast_13 : decode prog_6_method_10_code 13 = .ok (.iaload, 1) := by decide +kernel
theorem d_Query_putOnLast_14 : decode prog_6_method_10_code 14 = .ok (.iconst (-1), 1) := by decide +kernel
theorem d_Query_putOnLast_15 : decode prog_6_method_10_code 15 = .ok (.invokevirtual 49, 3) := by decide +kernel
theorem d_Query_putOnLast_18 : decode prog_6_method_10_code 18 = .ok (.aload_n 0, 1) := by decide +kernel
theorem d_Query_putOnLast_19 : decode prog_6_method_10_code 19 = .ok (.iload_n 3, 1) := by decide +kernel
theorem d_Query_putOnLast_20 : decode prog_6_method_10_code 20 = .ok (.iload 4, 2) := by decide +kernel
theorem d_Query_putOnLast_22 : decode prog_6_method_10_code 22 = .ok (.iload 5, 2) := by decide +kernel
theorem d_Query_putOnLast_24 : decode prog_6_method_10_code 24 = .ok (.iload 6, 2) := by decide +kernel
theorem d_Query_putOnLast_26 : decode prog_6_method_10_code 26 = .ok (.invokevirtual 53, 3) := by decide +kernel
theorem d_Query_putOnLast_29 : decode prog_6_method_10_code 29 = .ok (.aload_n 0, 1) := by decide +kernel
theorem d_Query_putOnLast_30 : decode prog_6_method_10_code 30 = .ok (.getfield 27, 3) := by decide +kernel
theorem d_Query_putOnLast_33 : decode prog_6_method_10_code 33 = .ok (.aload_n 0, 1) := by decide +kernel
theorem d_Query_putOnLast_34 : decode prog_6_method_10_code 34 = .ok (.getfield 40, 3) := by decide +kernel
theorem d_Query_putOnLast_37 : decode prog_6_method_10_code 37 = .ok (.iconst 1, 1) := by decide +kernel
theorem d_Query_putOnLast_38 : decode prog_6_method_10_code 38 = .ok (.isub, 1) := by decide +kernel
theorem d_Query_putOnLast_39 : decode prog_6_method_10_code 39 = .ok (.aload_n 0, 1) := by decide +kernel
theorem d_Query_putOnLast_40 : decode prog_6_method_10_code 40 = .ok (.getfield 33, 3) := by decide +kernel
theorem d_Query_putOnLast_43 : decode prog_6_method_10_code 43 = .ok (.iconst 1, 1) := by decide +kernel
theorem d_Query_putOnLast_44 : decode prog_6_method_10_code 44 = .ok (.isub, 1) := by decide +kernel
theorem d_Query_putOnLast_45 : decode prog_6_method_10_code 45 = .ok (.iastore, 1) := by decide +kernel
theorem d_Query_putOnLast_46 : decode prog_6_method_10_code 46 = .ok (.return_, 1) := by decide +kernel
theorem d_Query_earlierWidth_0 : decode prog_6_method_5_code 0 = .ok (.aload_n 0, 1) := by decide +kernel
theorem d_Query_earlierWidth_1 : decode prog_6_method_5_code 1 = .ok (.getfield 40, 3) := by decide +kernel
theorem d_Query_earlierWidth_4 : decode prog_6_method_5_code 4 = .ok (.iconst 1, 1) := by decide +kernel
theorem d_Query_earlierWidth_5 : decode prog_6_method_5_code 5 = .ok (.if_icmp .le 22, 3) := by decide +kernel
theorem d_Query_earlierWidth_8 : decode prog_6_method_5_code 8 = .ok (.aload_n 0, 1) := by decide +kernel
theorem d_Query_earlierWidth_9 : decode prog_6_method_5_code 9 = .ok (.getfield 18, 3) := by decide +kernel
theorem d_Query_earlierWidth_12 : decode prog_6_method_5_code 12 = .ok (.aload_n 0, 1) := by decide +kernel
theorem d_Query_earlierWidth_13 : decode prog_6_method_5_code 13 = .ok (.getfield 27, 3) := by decide +kernel
theorem d_Query_earlierWidth_16 : decode prog_6_method_5_code 16 = .ok (.aload_n 0, 1) := by decide +kernel
theorem d_Query_earlierWidth_17 : decode prog_6_method_5_code 17 = .ok (.getfield 40, 3) := by decide +kernel
theorem d_Query_earlierWidth_20 : decode prog_6_method_5_code 20 = .ok (.iconst 2, 1) := by decide +kernel
theorem d_Query_earlierWidth_21 : decode prog_6_method_5_code 21 = .ok (.isub, 1) := by decide +kernel
theorem d_Query_earlierWidth_22 : decode prog_6_method_5_code 22 = .ok (.iaload, 1) := by decide +kernel
theorem d_Query_earlierWidth_23 : decode prog_6_method_5_code 23 = .ok (.iaload, 1) := by decide +kernel
theorem d_Query_earlierWidth_24 : decode prog_6_method_5_code 24 = .ok (.goto 4, 3) := by decide +kernel
theorem d_Query_earlierWidth_27 : decode prog_6_method_5_code 27 = .ok (.iconst 0, 1) := by decide +kernel
theorem d_Query_earlierWidth_28 : decode prog_6_method_5_code 28 = .ok (.ireturn, 1) := by decide +kernel
theorem d_Query_putOnTwo_0 : decode prog_6_method_11_code 0 = .ok (.aload_n 0, 1) := by decide +kernel
theorem d_Query_putOnTwo_1 : decode prog_6_method_11_code 1 = .ok (.iload_n 1, 1) := by decide +kernel
theorem d_Query_putOnTwo_2 : decode prog_6_method_11_code 2 = .ok (.iload_n 2, 1) := by decide +kernel
theorem d_Query_putOnTwo_3 : decode prog_6_method_11_code 3 = .ok (.aload_n 0, 1) := by decide +kernel
theorem d_Query_putOnTwo_4 : decode prog_6_method_11_code 4 = .ok (.getfield 27, 3) := by decide +kernel
theorem d_Query_putOnTwo_7 : decode prog_6_method_11_code 7 = .ok (.aload_n 0, 1) := by decide +kernel
theorem d_Query_putOnTwo_8 : decode prog_6_method_11_code 8 = .ok (.getfield 40, 3) := by decide +kernel
theorem d_Query_putOnTwo_11 : decode prog_6_method_11_code 11 = .ok (.iconst 2, 1) := by decide +kernel
theorem d_Query_putOnTwo_12 : decode prog_6_method_11_code 12 = .ok (.isub, 1) := by decide +kernel
theorem d_Query_putOnTwo_13 : decode prog_6_method_11_code 13 = .ok (.iaload, 1) := by decide +kernel
theorem d_Query_putOnTwo_14 : decode prog_6_method_11_code 14 = .ok (.aload_n 0, 1) := by decide +kernel
theorem d_Query_putOnTwo_15 : decode prog_6_method_11_code 15 = .ok (.getfield 27, 3) := by decide +kernel
theorem d_Query_putOnTwo_18 : decode prog_6_method_11_code 18 = .ok (.aload_n 0, 1) := by decide +kernel
theorem d_Query_putOnTwo_19 : decode prog_6_method_11_code 19 = .ok (.getfield 40, 3) := by decide +kernel
theorem d_Query_putOnTwo_22 : decode prog_6_method_11_code 22 = .ok (.iconst 1, 1) := by decide +kernel
theorem d_Query_putOnTwo_23 : decode prog_6_method_11_code 23 = .ok (.isub, 1) := by decide +kernel
theorem d_Query_putOnTwo_24 : decode prog_6_method_11_code 24 = .ok (.iaload, 1) := by decide +kernel
theorem d_Query_putOnTwo_25 : decode prog_6_method_11_code 25 = .ok (.invokevirtual 49, 3) := by decide +kernel
theorem d_Query_putOnTwo_28 : decode prog_6_method_11_code 28 = .ok (.aload_n 0, 1) := by decide +kernel
theorem d_Query_putOnTwo_29 : decode prog_6_method_11_code 29 = .ok (.iload_n 3, 1) := by decide +kernel
theorem d_Query_putOnTwo_30 : decode prog_6_method_11_code 30 = .ok (.iload 4, 2) := by decide +kernel
theorem d_Query_putOnTwo_32 : decode prog_6_method_11_code 32 = .ok (.iload 5, 2) := by decide +kernel
theorem d_Query_putOnTwo_34 : decode prog_6_method_11_code 34 = .ok (.iconst 0, 1) := by decide +kernel
theorem d_Query_putOnTwo_35 : decode prog_6_method_11_code 35 = .ok (.invokevirtual 53, 3) := by decide +kernel
theorem d_Query_putOnTwo_38 : decode prog_6_method_11_code 38 = .ok (.aload_n 0, 1) := by decide +kernel
theorem d_Query_putOnTwo_39 : decode prog_6_method_11_code 39 = .ok (.dup, 1) := by decide +kernel
theorem d_Query_putOnTwo_40 : decode prog_6_method_11_code 40 = .ok (.getfield 40, 3) := by decide +kernel
theorem d_Query_putOnTwo_43 : decode prog_6_method_11_code 43 = .ok (.iconst 1, 1) := by decide +kernel
theorem d_Query_putOnTwo_44 : decode prog_6_method_11_code 44 = .ok (.isub, 1) := by decide +kernel
theorem d_Query_putOnTwo_45 : decode prog_6_method_11_code 45 = .ok (.putfield 40, 3) := by decide +kernel
theorem d_Query_putOnTwo_48 : decode prog_6_method_11_code 48 = .ok (.aload_n 0, 1) := by decide +kernel
theorem d_Query_putOnTwo_49 : decode prog_6_method_11_code 49 = .ok (.getfield 27, 3) := by decide +kernel
theorem d_Query_putOnTwo_52 : decode prog_6_method_11_code 52 = .ok (.aload_n 0, 1) := by decide +kernel
theorem d_Query_putOnTwo_53 : decode prog_6_method_11_code 53 = .ok (.getfield 40, 3) := by decide +kernel
theorem d_Query_putOnTwo_56 : decode prog_6_method_11_code 56 = .ok (.iconst 1, 1) := by decide +kernel
theorem d_Query_putOnTwo_57 : decode prog_6_method_11_code 57 = .ok (.isub, 1) := by decide +kernel
theorem d_Query_putOnTwo_58 : decode prog_6_method_11_code 58 = .ok (.aload_n 0, 1) := by decide +kernel
theorem d_Query_putOnTwo_59 : decode prog_6_method_11_code 59 = .ok (.getfield 33, 3) := by decide +kernel
theorem d_Query_putOnTwo_62 : decode prog_6_method_11_code 62 = .ok (.iconst 1, 1) := by decide +kernel
theorem d_Query_putOnTwo_63 : decode prog_6_method_11_code 63 = .ok (.isub, 1) := by decide +kernel
theorem d_Query_putOnTwo_64 : decode prog_6_method_11_code 64 = .ok (.iastore, 1) := by decide +kernel
theorem d_Query_putOnTwo_65 : decode prog_6_method_11_code 65 = .ok (.return_, 1) := by decide +kernel
theorem d_Query_noteReads_0 : decode prog_6_method_14_code 0 = .ok (.iconst 0, 1) := by decide +kernel
theorem d_Query_noteReads_1 : decode prog_6_method_14_code 1 = .ok (.istore_n 2, 1) := by decide +kernel
theorem d_Query_noteReads_2 : decode prog_6_method_14_code 2 = .ok (.iload_n 2, 1) := by decide +kernel
theorem d_Query_noteReads_3 : decode prog_6_method_14_code 3 = .ok (.aload_n 0, 1) := by decide +kernel
theorem d_Query_noteReads_4 : decode prog_6_method_14_code 4 = .ok (.getfield 33, 3) := by decide +kernel
theorem d_Query_noteReads_7 : decode prog_6_method_14_code 7 = .ok (.if_icmp .ge 24, 3) := by decide +kernel
theorem d_Query_noteReads_10 : decode prog_6_method_14_code 10 = .ok (.aload_n 0, 1) := by decide +kernel
theorem d_Query_noteReads_11 : decode prog_6_method_14_code 11 = .ok (.getfield 9, 3) := by decide +kernel
theorem d_Query_noteReads_14 : decode prog_6_method_14_code 14 = .ok (.iload_n 2, 1) := by decide +kernel
theorem d_Query_noteReads_15 : decode prog_6_method_14_code 15 = .ok (.iaload, 1) := by decide +kernel
theorem d_Query_noteReads_16 : decode prog_6_method_14_code 16 = .ok (.ifCond .ne 9, 3) := by decide +kernel
theorem d_Query_noteReads_19 : decode prog_6_method_14_code 19 = .ok (.aload_n 0, 1) := by decide +kernel
theorem d_Query_noteReads_20 : decode prog_6_method_14_code 20 = .ok (.iload_n 2, 1) := by decide +kernel
theorem d_Query_noteReads_21 : decode prog_6_method_14_code 21 = .ok (.aload_n 1, 1) := by decide +kernel
theorem d_Query_noteReads_22 : decode prog_6_method_14_code 22 = .ok (.invokevirtual 60, 3) := by decide +kernel
theorem d_Query_noteReads_25 : decode prog_6_method_14_code 25 = .ok (.iinc 2 1, 3) := by decide +kernel
theorem d_Query_noteReads_28 : decode prog_6_method_14_code 28 = .ok (.goto (-26), 3) := by decide +kernel
theorem d_Query_noteReads_31 : decode prog_6_method_14_code 31 = .ok (.return_, 1) := by decide +kernel
theorem d_Query_noteReadsOf_0 : decode prog_6_method_15_code 0 = .ok (.aload_n 0, 1) := by decide +kernel
theorem d_Query_noteReadsOf_1 : decode prog_6_method_15_code 1 = .ok (.iload_n 1, 1) := by decide +kernel
theorem d_Query_noteReadsOf_2 : decode prog_6_method_15_code 2 = .ok (.iconst 0, 1) := by decide +kernel
theorem d_Query_noteReadsOf_3 : decode prog_6_method_15_code 3 = .ok (.invokevirtual 56, 3) := by decide +kernel
theorem d_Query_noteReadsOf_6 : decode prog_6_method_15_code 6 = .ok (.istore_n 3, 1) := by decide +kernel
theorem d_Query_noteReadsOf_7 : decode prog_6_method_15_code 7 = .ok (.iload_n 1, 1) := by decide +kernel
theorem d_Query_noteReadsOf_8 : decode prog_6_method_15_code 8 = .ok (.iconst 1, 1) := by decide +kernel
theorem d_Query_noteReadsOf_9 : decode prog_6_method_15_code 9 = .ok (.iadd, 1) := by decide +kernel
theorem d_Query_noteReadsOf_10 : decode prog_6_method_15_code 10 = .ok (.istore 4, 2) := by decide +kernel
theorem d_Query_noteReadsOf_12 : decode prog_6_method_15_code 12 = .ok (.iload 4, 2) := by decide +kernel
theorem d_Query_noteReadsOf_14 : decode prog_6_method_15_code 14 = .ok (.aload_n 0, 1) := by decide +kernel
theorem d_Query_noteReadsOf_15 : decode prog_6_method_15_code 15 = .ok (.getfield 33, 3) := by decide +kernel
theorem d_Query_noteReadsOf_18 : decode prog_6_method_15_code 18 = .ok (.if_icmp .ge 40, 3) := by decide +kernel
theorem d_Query_noteReadsOf_21 : decode prog_6_method_15_code 21 = .ok (.aload_n 0, 1) := by decide +kernel
theorem d_Query_noteReadsOf_22 : decode prog_6_method_15_code 22 = .ok (.iload 4, 2) := by decide +kernel
theorem d_Query_noteReadsOf_24 : decode prog_6_method_15_code 24 = .ok (.invokevirtual 64, 3) := by decide +kernel
theorem d_Query_noteReadsOf_27 : decode prog_6_method_15_code 27 = .ok (.ifCond .eq 31, 3) := by decide +kernel
theorem d_Query_noteReadsOf_30 : decode prog_6_method_15_code 30 = .ok (.aload_n 0, 1) := by decide +kernel
theorem d_Query_noteReadsOf_31 : decode prog_6_method_15_code 31 = .ok (.iload 4, 2) := by decide +kernel
theorem d_Query_noteReadsOf_33 : decode prog_6_method_15_code 33 = .ok (.invokevirtual 68, 3) := by decide +kernel
theorem d_Query_noteReadsOf_36 : decode prog_6_method_15_code 36 = .ok (.ifCond .eq 16, 3) := by decide +kernel
theorem d_Query_noteReadsOf_39 : decode prog_6_method_15_code 39 = .ok (.aload_n 2, 1) := by decide +kernel
theorem d_Query_noteReadsOf_40 : decode prog_6_method_15_code 40 = .ok (.iload_n 3, 1) := by decide +kernel
theorem d_Query_noteReadsOf_41 : decode prog_6_method_15_code 41 = .ok (.aload_n 0, 1) := by decide +kernel
theorem d_Query_noteReadsOf_42 : decode prog_6_method_15_code 42 = .ok (.iload 4, 2) := by decide +kernel
theorem d_Query_noteReadsOf_44 : decode prog_6_method_15_code 44 = .ok (.iconst 2, 1) := by decide +kernel
theorem d_Query_noteReadsOf_45 : decode prog_6_method_15_code 45 = .ok (.invokevirtual 56, 3) := by decide +kernel
theorem d_Query_noteReadsOf_48 : decode prog_6_method_15_code 48 = .ok (.invokevirtual 71, 3) := by decide +kernel
theorem d_Query_noteReadsOf_51 : decode prog_6_method_15_code 51 = .ok (.return_, 1) := by decide +kernel
theorem d_Query_noteReadsOf_52 : decode prog_6_method_15_code 52 = .ok (.iinc 4 1, 3) := by decide +kernel
theorem d_Query_noteReadsOf_55 : decode prog_6_method_15_code 55 = .ok (.goto (-43), 3) := by decide +kernel
theorem d_Query_noteReadsOf_58 : decode prog_6_method_15_code 58 = .ok (.aload_n 2, 1) := by decide +kernel
theorem d_Query_noteReadsOf_59 : decode prog_6_method_15_code 59 = .ok (.iload_n 3, 1) := by decide +kernel
theorem d_Query_noteReadsOf_60 : decode prog_6_method_15_code 60 = .ok (.invokevirtual 77, 3) := by decide +kernel
theorem d_Query_noteReadsOf_63 : decode prog_6_method_15_code 63 = .ok (.return_, 1) := by decide +kernel
theorem d_Query_isFilter_0 : decode prog_6_method_12_code 0 = .ok (.aload_n 0, 1) := by decide +kernel
theorem d_Query_isFilter_1 : decode prog_6_method_12_code 1 = .ok (.getfield 9, 3) := by decide +kernel
theorem d_Query_isFilter_4 : decode prog_6_method_12_code 4 = .ok (.iload_n 1, 1) := by decide +kernel
theorem d_Query_isFilter_5 : decode prog_6_method_12_code 5 = .ok (.iaload, 1) := by decide +kernel
theorem d_Query_isFilter_6 : decode prog_6_method_12_code 6 = .ok (.iconst 1, 1) := by decide +kernel
theorem d_Query_isFilter_7 : decode prog_6_method_12_code 7 = .ok (.if_icmp .eq 13, 3) := by decide +kernel
theorem d_Query_isFilter_10 : decode prog_6_method_12_code 10 = .ok (.aload_n 0, 1) := by decide +kernel
theorem d_Query_isFilter_11 : decode prog_6_method_12_code 11 = .ok (.getfield 9, 3) := by decide +kernel
theorem d_Query_isFilter_14 : decode prog_6_method_12_code 14 = .ok (.iload_n 1, 1) := by decide +kernel
theorem d_Query_isFilter_15 : decode prog_6_method_12_code 15 = .ok (.iaload, 1) := by decide +kernel
theorem d_Query_isFilter_16 : decode prog_6_method_12_code 16 = .ok (.iconst 2, 1) := by decide +kernel
theorem d_Query_isFilter_17 : decode prog_6_method_12_code 17 = .ok (.if_icmp .ne 7, 3) := by decide +kernel
theorem d_Query_isFilter_20 : decode prog_6_method_12_code 20 = .ok (.iconst 1, 1) := by decide +kernel
theorem d_Query_isFilter_21 : decode prog_6_method_12_code 21 = .ok (.goto 4, 3) := by decide +kernel
theorem d_Query_isFilter_24 : decode prog_6_method_12_code 24 = .ok (.iconst 0, 1) := by decide +kernel
theorem d_Query_isFilter_25 : decode prog_6_method_12_code 25 = .ok (.ireturn, 1) := by decide +kernel
theorem d_Query_asksForKey_0 : decode prog_6_method_16_code 0 = .ok (.aload_n 0, 1) := by decide +kernel
theorem d_Query_asksForKey_1 : decode prog_6_method_16_code 1 = .ok (.getfield 9, 3) := by decide +kernel
theorem d_Query_asksForKey_4 : decode prog_6_method_16_code 4 = .ok (.iload_n 1, 1) := by decide +kernel
theorem d_Query_asksForKey_5 : decode prog_6_method_16_code 5 = .ok (.iaload, 1) := by decide +kernel
theorem d_Query_asksForKey_6 : decode prog_6_method_16_code 6 = .ok (.iconst 1, 1) := by decide +kernel
theorem d_Query_asksForKey_7 : decode prog_6_method_16_code 7 = .ok (.if_icmp .ne 35, 3) := by decide +kernel
theorem d_Query_asksForKey_10 : decode prog_6_method_16_code 10 = .ok (.aload_n 0, 1) := by decide +kernel
theorem d_Query_asksForKey_11 : decode prog_6_method_16_code 11 = .ok (.iload_n 1, 1) := by decide +kernel
theorem d_Query_asksForKey_12 : decode prog_6_method_16_code 12 = .ok (.iconst 0, 1) := by decide +kernel
theorem d_Query_asksForKey_13 : decode prog_6_method_16_code 13 = .ok (.invokevirtual 56, 3) := by decide +kernel
theorem d_Query_asksForKey_16 : decode prog_6_method_16_code 16 = .ok (.ifCond .ne 26, 3) := by decide +kernel
theorem d_Query_asksForKey_19 : decode prog_6_method_16_code 19 = .ok (.aload_n 0, 1) := by decide +kernel
theorem d_Query_asksForKey_20 : decode prog_6_method_16_code 20 = .ok (.iload_n 1, 1) := by decide +kernel
theorem d_Query_asksForKey_21 : decode prog_6_method_16_code 21 = .ok (.iconst 1, 1) := by decide +kernel
theorem d_Query_asksForKey_22 : decode prog_6_method_16_code 22 = .ok (.invokevirtual 56, 3) := by decide +kernel
theorem d_Query_asksForKey_25 : decode prog_6_method_16_code 25 = .ok (.iconst 1, 1) := by decide +kernel
theorem d_Query_asksForKey_26 : decode prog_6_method_16_code 26 = .ok (.if_icmp .ne 16, 3) := by decide +kernel
theorem d_Query_asksForKey_29 : decode prog_6_method_16_code 29 = .ok (.aload_n 0, 1) := by decide +kernel
theorem d_Query_asksForKey_30 : decode prog_6_method_16_code 30 = .ok (.iload_n 1, 1) := by decide +kernel
theorem d_Query_asksForKey_31 : decode prog_6_method_16_code 31 = .ok (.iconst 3, 1) := by decide +kernel
theorem d_Query_asksForKey_32 : decode prog_6_method_16_code 32 = .ok (.invokevirtual 56, 3) := by decide +kernel
theorem d_Query_asksForKey_35 : decode prog_6_method_16_code 35 = .ok (.ifCond .ne 7, 3) := by decide +kernel
theorem d_Query_asksForKey_38 : decode prog_6_method_16_code 38 = .ok (.iconst 1, 1) := by decide +kernel
theorem d_Query_asksForKey_39 : decode prog_6_method_16_code 39 = .ok (.goto 4, 3) := by decide +kernel
theorem d_Query_asksForKey_42 : decode prog_6_method_16_code 42 = .ok (.iconst 0, 1) := by decide +kernel
theorem d_Query_asksForKey_43 : decode prog_6_method_16_code 43 = .ok (.ireturn, 1) := by decide +kernel
theorem d_Relation_hasCell_0 : decode prog_7_method_4_code 0 = .ok (.iload_n 1, 1) := by decide +kernel
theorem d_Relation_hasCell_1 : decode prog_7_method_4_code 1 = .ok (.ifCond .lt 27, 3) := by decide +kernel
theorem d_Relation_hasCell_4 : decode prog_7_method_4_code 4 = .ok (.iload_n 1, 1) := by decide +kernel
theorem d_Relation_hasCell_5 : decode prog_7_method_4_code 5 = .ok (.aload_n 0, 1) := by decide +kernel
theorem d_Relation_hasCell_6 : decode prog_7_method_4_code 6 = .ok (.getfield 15, 3) := by decide +kernel
theorem d_Relation_hasCell_9 : decode prog_7_method_4_code 9 = .ok (.if_icmp .ge 19, 3) := by decide +kernel
theorem d_Relation_hasCell_12 : decode prog_7_method_4_code 12 = .ok (.iload_n 2, 1) := by decide +kernel
theorem d_Relation_hasCell_13 : decode prog_7_method_4_code 13 = .ok (.ifCond .lt 15, 3) := by decide +kernel
theorem d_Relation_hasCell_16 : decode prog_7_method_4_code 16 = .ok (.iload_n 2, 1) := by decide +kernel
theorem d_Relation_hasCell_17 : decode prog_7_method_4_code 17 = .ok (.aload_n 0, 1) := by decide +kernel
theorem d_Relation_hasCell_18 : decode prog_7_method_4_code 18 = .ok (.getfield 19, 3) := by decide +kernel
theorem d_Relation_hasCell_21 : decode prog_7_method_4_code 21 = .ok (.if_icmp .ge 7, 3) := by decide +kernel
theorem d_Relation_hasCell_24 : decode prog_7_method_4_code 24 = .ok (.iconst 1, 1) := by decide +kernel
theorem d_Relation_hasCell_25 : decode prog_7_method_4_code 25 = .ok (.goto 4, 3) := by decide +kernel
theorem d_Relation_hasCell_28 : decode prog_7_method_4_code 28 = .ok (.iconst 0, 1) := by decide +kernel
theorem d_Relation_hasCell_29 : decode prog_7_method_4_code 29 = .ok (.ireturn, 1) := by decide +kernel
theorem d_Planner_plan_0 : decode prog_5_method_4_code 0 = .ok (.aload_n 1, 1) := by decide +kernel
theorem d_Planner_plan_1 : decode prog_5_method_4_code 1 = .ok (.invokestatic 72, 3) := by decide +kernel
theorem d_Planner_plan_4 : decode prog_5_method_4_code 4 = .ok (.istore_n 2, 1) := by decide +kernel
theorem d_Planner_plan_5 : decode prog_5_method_4_code 5 = .ok (.iload_n 2, 1) := by decide +kernel
theorem d_Planner_plan_6 : decode prog_5_method_4_code 6 = .ok (.iconst (-1), 1) := by decide +kernel
theorem d_Planner_plan_7 : decode prog_5_method_4_code 7 = .ok (.if_icmp .ne 4, 3) := by decide +kernel
theorem d_Planner_plan_10 : decode prog_5_method_4_code 10 = .ok (.return_, 1) := by decide +kernel
theorem d_Planner_plan_11 : decode prog_5_method_4_code 11 = .ok (.aload_n 0, 1) := by decide +kernel
theorem d_Planner_plan_12 : decode prog_5_method_4_code 12 = .ok (.aload_n 1, 1) := by decide +kernel
theorem d_Planner_plan_13 : decode prog_5_method_4_code 13 = .ok (.iload_n 2, 1) := by decide +kernel
theorem d_Planner_plan_14 : decode prog_5_method_4_code 14 = .ok (.invokevirtual 76, 3) := by decide +kernel
theorem d_Planner_plan_17 : decode prog_5_method_4_code 17 = .ok (.aload_n 0, 1) := by decide +kernel
theorem d_Planner_plan_18 : decode prog_5_method_4_code 18 = .ok (.aload_n 1, 1) := by decide +kernel
theorem d_Planner_plan_19 : decode prog_5_method_4_code 19 = .ok (.invokevirtual 80, 3) := by decide +kernel
theorem d_Planner_plan_22 : decode prog_5_method_4_code 22 = .ok (.aload_n 0, 1) := by decide +kernel
theorem d_Planner_plan_23 : decode prog_5_method_4_code 23 = .ok (.aload_n 1, 1) := by decide +kernel
theorem d_Planner_plan_24 : decode prog_5_method_4_code 24 = .ok (.iload_n 2, 1) := by decide +kernel
theorem d_Planner_plan_25 : decode prog_5_method_4_code 25 = .ok (.invokevirtual 84, 3) := by decide +kernel
theorem d_Planner_plan_28 : decode prog_5_method_4_code 28 = .ok (.aload_n 0, 1) := by decide +kernel
theorem d_Planner_plan_29 : decode prog_5_method_4_code 29 = .ok (.aload_n 1, 1) := by decide +kernel
theorem d_Planner_plan_30 : decode prog_5_method_4_code 30 = .ok (.iload_n 2, 1) := by decide +kernel
theorem d_Planner_plan_31 : decode prog_5_method_4_code 31 = .ok (.invokevirtual 87, 3) := by decide +kernel
theorem d_Planner_plan_34 : decode prog_5_method_4_code 34 = .ok (.aload_n 0, 1) := by decide +kernel
theorem d_Planner_plan_35 : decode prog_5_method_4_code 35 = .ok (.aload_n 1, 1) := by decide +kernel
theorem d_Planner_plan_36 : decode prog_5_method_4_code 36 = .ok (.invokevirtual 90, 3) := by decide +kernel
theorem d_Planner_plan_39 : decode prog_5_method_4_code 39 = .ok (.aload_n 0, 1) := by decide +kernel
theorem d_Planner_plan_40 : decode prog_5_method_4_code 40 = .ok (.dup, 1) := by decide +kernel
theorem d_Planner_plan_41 : decode prog_5_method_4_code 41 = .ok (.getfield 93, 3) := by decide +kernel
theorem d_Planner_plan_44 : decode prog_5_method_4_code 44 = .ok (.iconst 1, 1) := by decide +kernel
theorem d_Planner_plan_45 : decode prog_5_method_4_code 45 = .ok (.iadd, 1) := by decide +kernel
theorem d_Planner_plan_46 : decode prog_5_method_4_code 46 = .ok (.putfield 93, 3) := by decide +kernel
theorem d_Planner_plan_49 : decode prog_5_method_4_code 49 = .ok (.return_, 1) := by decide +kernel
theorem d_Planner_topOfBlock_0 : decode prog_5_method_5_code 0 = .ok (.aload_n 0, 1) := by decide +kernel
theorem d_Planner_topOfBlock_1 : decode prog_5_method_5_code 1 = .ok (.getfield 96, 3) := by decide +kernel
theorem d_Planner_topOfBlock_4 : decode prog_5_method_5_code 4 = .ok (.iconst 1, 1) := by decide +kernel
theorem d_Planner_topOfBlock_5 : decode prog_5_method_5_code 5 = .ok (.isub, 1) := by decide +kernel
theorem d_Planner_topOfBlock_6 : decode prog_5_method_5_code 6 = .ok (.istore_n 1, 1) := by decide +kernel
theorem d_Planner_topOfBlock_7 : decode prog_5_method_5_code 7 = .ok (.aload_n 0, 1) := by decide +kernel
theorem d_Planner_topOfBlock_8 : decode prog_5_method_5_code 8 = .ok (.getfield 96, 3) := by decide +kernel
theorem d_Planner_topOfBlock_11 : decode prog_5_method_5_code 11 = .ok (.iconst 1, 1) := by decide +kernel
theorem d_Planner_topOfBlock_12 : decode prog_5_method_5_code 12 = .ok (.isub, 1) := by decide +kernel
theorem d_Planner_topOfBlock_13 : decode prog_5_method_5_code 13 = .ok (.istore_n 2, 1) := by decide +kernel
theorem d_Planner_topOfBlock_14 : decode prog_5_method_5_code 14 = .ok (.iload_n 2, 1) := by decide +kernel
theorem d_Planner_topOfBlock_15 : decode prog_5_method_5_code 15 = .ok (.ifCond .le 21, 3) := by decide +kernel
theorem d_Planner_topOfBlock_18 : decode prog_5_method_5_code 18 = .ok (.aload_n 0, 1) := by decide +kernel
theorem d_Planner_topOfBlock_19 : decode prog_5_method_5_code 19 = .ok (.iload_n 2, 1) := by decide +kernel
theorem d_Planner_topOfBlock_20 : decode prog_5_method_5_code 20 = .ok (.invokestatic 100, 3) := by decide +kernel
theorem d_Planner_topOfBlock_23 : decode prog_5_method_5_code 23 = .ok (.ifCond .eq 13, 3) := by decide +kernel
theorem d_Planner_topOfBlock_26 : decode prog_5_method_5_code 26 = .ok (.iload_n 2, 1) := by decide +kernel
theorem d_Planner_topOfBlock_27 : decode prog_5_method_5_code 27 = .ok (.iconst 1, 1) := by decide +kernel
theorem d_Planner_topOfBlock_28 : decode prog_5_method_5_code 28 = .ok (.isub, 1) := by decide +kernel
theorem d_Planner_topOfBlock_29 : decode prog_5_method_5_code 29 = .ok (.istore_n 1, 1) := by decide +kernel
theorem d_Planner_topOfBlock_30 : decode prog_5_method_5_code 30 = .ok (.iinc 2 (-1), 3) := by decide +kernel
theorem d_Planner_topOfBlock_33 : decode prog_5_method_5_code 33 = .ok (.goto (-19), 3) := by decide +kernel
theorem d_Planner_topOfBlock_36 : decode prog_5_method_5_code 36 = .ok (.iload_n 1, 1) := by decide +kernel
theorem d_Planner_topOfBlock_37 : decode prog_5_method_5_code 37 = .ok (.ifCond .lt 15, 3) := by decide +kernel
theorem d_Planner_topOfBlock_40 : decode prog_5_method_5_code 40 = .ok (.aload_n 0, 1) := by decide +kernel
theorem d_Planner_topOfBlock_41 : decode prog_5_method_5_code 41 = .ok (.iload_n 1, 1) := by decide +kernel
theorem d_Planner_topOfBlock_42 : decode prog_5_method_5_code 42 = .ok (.invokevirtual 104, 3) := by decide +kernel
theorem d_Planner_topOfBlock_45 : decode prog_5_method_5_code 45 = .ok (.ifCond .eq 7, 3) := by decide +kernel
theorem d_Planner_topOfBlock_48 : decode prog_5_method_5_code 48 = .ok (.iload_n 1, 1) := by decide +kernel
theorem d_Planner_topOfBlock_49 : decode prog_5_method_5_code 49 = .ok (.goto 4, 3) := by decide +kernel
theorem d_Planner_topOfBlock_52 : decode prog_5_method_5_code 52 = .ok (.iconst (-1), 1) := by decide +kernel
theorem d_Planner_topOfBlock_53 : decode prog_5_method_5_code 53 = .ok (.ireturn, 1) := by decide +kernel
theorem d_Planner_isPassed_0 : decode prog_5_method_6_code 0 = .ok (.aload_n 0, 1) := by decide +kernel
theorem d_Planner_isPassed_1 : decode prog_5_method_6_code 1 = .ok (.iload_n 1, 1) := by decide +kernel
theorem d_Planner_isPassed_2 : decode prog_5_method_6_code 2 = .ok (.invokevirtual 108, 3) := by decide +kernel
theorem d_Planner_isPassed_5 : decode prog_5_method_6_code 5 = .ok (.ifCond .ne 24, 3) := by decide +kernel
theorem d_Planner_isPassed_8 : decode prog_5_method_6_code 8 = .ok (.aload_n 0, 1) := by decide +kernel
theorem d_Planner_isPassed_9 : decode prog_5_method_6_code 9 = .ok (.getfield 111, 3) := by decide +kernel
theorem d_Planner_isPassed_12 : decode prog_5_method_6_code 12 = .ok (.iload_n 1, 1) := by decide +kernel
theorem d_Planner_isPassed_13 : decode prog_5_method_6_code 13 = .ok (.iaload, 1) := by decide +kernel
theorem d_Planner_isPassed_14 : decode prog_5_method_6_code 14 = .ok (.iconst 5, 1) := by decide +kernel
theorem d_Planner_isPassed_15 : decode prog_5_method_6_code 15 = .ok (.if_icmp .eq 14, 3) := by decide +kernel
theorem d_Planner_isPassed_18 : decode prog_5_method_6_code 18 = .ok (.aload_n 0, 1) := by decide +kernel
theorem d_Planner_isPassed_19 : decode prog_5_method_6_code 19 = .ok (.getfield 111, 3) := by decide +kernel
theorem d_Planner_isPassed_22 : decode prog_5_method_6_code 22 = .ok (.iload_n 1, 1) := by decide +kernel
theorem d_Planner_isPassed_23 : decode prog_5_method_6_code 23 = .ok (.iaload, 1) := by decide +kernel
theorem d_Planner_isPassed_24 : decode prog_5_method_6_code 24 = .ok (.bipush 6, 2) := by decide +kernel
theorem d_Planner_isPassed_26 : decode prog_5_method_6_code 26 = .ok (.if_icmp .ne 7, 3) := by decide +kernel
theorem d_Planner_isPassed_29 : decode prog_5_method_6_code 29 = .ok (.iconst 1, 1) := by decide +kernel
theorem d_Planner_isPassed_30 : decode prog_5_method_6_code 30 = .ok (.goto 4, 3) := by decide +kernel
theorem d_Planner_isPassed_33 : decode prog_5_method_6_code 33 = .ok (.iconst 0, 1) := by decide +kernel
theorem d_Planner_isPassed_34 : decode prog_5_method_6_code 34 = .ok (.ireturn, 1) := by decide +kernel
theorem d_Query_isInnerJoin_0 : decode prog_6_method_13_code 0 = .ok (.aload_n 0, 1) := by decide +kernel
theorem d_Query_isInnerJoin_1 : decode prog_6_method_13_code 1 = .ok (.getfield 9, 3) := by decide +kernel
theorem d_Query_isInnerJoin_4 : decode prog_6_method_13_code 4 = .ok (.iload_n 1, 1) := by decide +kernel
theorem d_Query_isInnerJoin_5 : decode prog_6_method_13_code 5 = .ok (.iaload, 1) := by decide +kernel
theorem d_Query_isInnerJoin_6 : decode prog_6_method_13_code 6 = .ok (.iconst 4, 1) := by decide +kernel
theorem d_Query_isInnerJoin_7 : decode prog_6_method_13_code 7 = .ok (.if_icmp .ne 16, 3) := by decide +kernel
theorem d_Query_isInnerJoin_10 : decode prog_6_method_13_code 10 = .ok (.aload_n 0, 1) := by decide +kernel
theorem d_Query_isInnerJoin_11 : decode prog_6_method_13_code 11 = .ok (.iload_n 1, 1) := by decide +kernel
theorem d_Query_isInnerJoin_12 : decode prog_6_method_13_code 12 = .ok (.iconst 0, 1) := by decide +kernel
theorem d_Query_isInnerJoin_13 : decode prog_6_method_13_code 13 = .ok (.invokevirtual 56, 3) := by decide +kernel
theorem d_Query_isInnerJoin_16 : decode prog_6_method_13_code 16 = .ok (.ifCond .ne 7, 3) := by decide +kernel
theorem d_Query_isInnerJoin_19 : decode prog_6_method_13_code 19 = .ok (.iconst 1, 1) := by decide +kernel
theorem d_Query_isInnerJoin_20 : decode prog_6_method_13_code 20 = .ok (.goto 4, 3) := by decide +kernel
theorem d_Query_isInnerJoin_23 : decode prog_6_method_13_code 23 = .ok (.iconst 0, 1) := by decide +kernel
theorem d_Query_isInnerJoin_24 : decode prog_6_method_13_code 24 = .ok (.ireturn, 1) := by decide +kernel
theorem d_Planner_reach_0 : decode prog_5_method_7_code 0 = .ok (.iconst 0, 1) := by decide +kernel
theorem d_Planner_reach_1 : decode prog_5_method_7_code 1 = .ok (.istore_n 3, 1) := by decide +kernel
theorem d_Planner_reach_2 : decode prog_5_method_7_code 2 = .ok (.iload_n 3, 1) := by decide +kernel
theorem d_Planner_reach_3 : decode prog_5_method_7_code 3 = .ok (.bipush 12, 2) := by decide +kernel
theorem d_Planner_reach_5 : decode prog_5_method_7_code 5 = .ok (.if_icmp .ge 16, 3) := by decide +kernel
theorem d_Planner_reach_8 : decode prog_5_method_7_code 8 = .ok (.aload_n 0, 1) := by decide +kernel
theorem d_Planner_reach_9 : decode prog_5_method_7_code 9 = .ok (.getfield 18, 3) := by decide +kernel
theorem d_Planner_reach_12 : decode prog_5_method_7_code 12 = .ok (.iload_n 3, 1) := by decide +kernel
theorem d_Planner_reach_13 : decode prog_5_method_7_code 13 = .ok (.iconst 0, 1) := by decide +kernel
theorem d_Planner_reach_14 : decode prog_5_method_7_code 14 = .ok (.bastore, 1) := by decide +kernel
theorem d_Planner_reach_15 : decode prog_5_method_7_code 15 = .ok (.iinc 3 1, 3) := by decide +kernel
theorem d_Planner_reach_18 : decode prog_5_method_7_code 18 = .ok (.goto (-16), 3) := by decide +kernel
theorem d_Planner_reach_21 : decode prog_5_method_7_code 21 = .ok (.aload_n 0, 1) := by decide +kernel
theorem d_Planner_reach_22 : decode prog_5_method_7_code 22 = .ok (.getfield 18, 3) := by decide +kernel
theorem d_Planner_reach_25 : decode prog_5_method_7_code 25 = .ok (.iload_n 2, 1) := by decide +kernel
theorem d_Planner_reach_26 : decode prog_5_method_7_code 26 = .ok (.iconst 1, 1) := by decide +kernel
theorem d_Planner_reach_27 : decode prog_5_method_7_code 27 = .ok (.bastore, 1) := by decide +kernel
theorem d_Planner_reach_28 : decode prog_5_method_7_code 28 = .ok (.aload_n 0, 1) := by decide +kernel
theorem d_Planner_reach_29 : decode prog_5_method_7_code 29 = .ok (.getfield 22, 3) := by decide +kernel
theorem d_Planner_reach_32 : decode prog_5_method_7_code 32 = .ok (.iload_n 2, 1) := by decide +kernel
theorem d_Planner_reach_33 : decode prog_5_method_7_code 33 = .ok (.iconst 0, 1) := by decide +kernel
theorem d_Planner_reach_34 : decode prog_5_method_7_code 34 = .ok (.iastore, 1) := by decide +kernel
theorem d_Planner_reach_35 : decode prog_5_method_7_code 35 = .ok (.iload_n 2, 1) := by decide +kernel
theorem d_Planner_reach_36 : decode prog_5_method_7_code 36 = .ok (.istore_n 3, 1) := by decide +kernel
theorem d_Planner_reach_37 : decode prog_5_method_7_code 37 = .ok (.iload_n 3, 1) := by decide +kernel
theorem d_Planner_reach_38 : decode prog_5_method_7_code 38 = .ok (.ifCond .lt 32, 3) := by decide +kernel
theorem d_Planner_reach_41 : decode prog_5_method_7_code 41 = .ok (.aload_n 0, 1) := by decide +kernel
theorem d_Planner_reach_42 : decode prog_5_method_7_code 42 = .ok (.getfield 18, 3) := by decide +kernel
theorem d_Planner_reach_45 : decode prog_5_method_7_code 45 = .ok (.iload_n 3, 1) := by decide +kernel
theorem d_Planner_reach_46 : decode prog_5_method_7_code 46 = .ok (.baload, 1) := by decide +kernel
theorem d_Planner_reach_47 : decode prog_5_method_7_code 47 = .ok (.ifCond .eq 17, 3) := by decide +kernel
theorem d_Planner_reach_50 : decode prog_5_method_7_code 50 = .ok (.aload_n 1, 1) := by decide +kernel
theorem d_Planner_reach_51 : decode prog_5_method_7_code 51 = .ok (.iload_n 3, 1) := by decide +kernel
theorem d_Planner_reach_52 : decode prog_5_method_7_code 52 = .ok (.invokestatic 114, 3) := by decide +kernel
theorem d_Planner_reach_55 : decode prog_5_method_7_code 55 = .ok (.ifCond .eq 9, 3) := by decide +kernel
theorem d_Planner_reach_58 : decode prog_5_method_7_code 58 = .ok (.aload_n 0, 1) := by decide +kernel
theorem d_Planner_reach_59 : decode prog_5_method_7_code 59 = .ok (.aload_n 1, 1) := by decide +kernel
theorem d_Planner_reach_60 : decode prog_5_method_7_code 60 = .ok (.iload_n 3, 1) := by decide +kernel
theorem d_Planner_reach_61 : decode prog_5_method_7_code 61 = .ok (.invokevirtual 117, 3) := by decide +kernel
theorem d_Planner_reach_64 : decode prog_5_method_7_code 64 = .ok (.iinc 3 (-1), 3) := by decide +kernel
theorem d_Planner_reach_67 : decode prog_5_method_7_code 67 = .ok (.goto (-30), 3) := by decide +kernel
theorem d_Planner_reach_70 : decode prog_5_method_7_code 70 = .ok (.return_, 1) := by decide +kernel
theorem d_Planner_isInner_0 : decode prog_5_method_8_code 0 = .ok (.aload_n 0, 1) := by decide +kernel
theorem d_Planner_isInner_1 : decode prog_5_method_8_code 1 = .ok (.iload_n 1, 1) := by decide +kernel
theorem d_Planner_isInner_2 : decode prog_5_method_8_code 2 = .ok (.invokevirtual 104, 3) := by decide +kernel
theorem d_Planner_isInner_5 : decode prog_5_method_8_code 5 = .ok (.ifCond .ne 11, 3) := by decide +kernel
theorem d_Planner_isInner_8 : decode prog_5_method_8_code 8 = .ok (.aload_n 0, 1) := by decide +kernel
theorem d_Planner_isInner_9 : decode prog_5_method_8_code 9 = .ok (.iload_n 1, 1) := by decide +kernel
theorem d_Planner_isInner_10 : decode prog_5_method_8_code 10 = .ok (.invokevirtual 108, 3) := by decide +kernel
theorem d_Planner_isInner_13 : decode prog_5_method_8_code 13 = .ok (.ifCond .eq 7, 3) := by decide +kernel
theorem d_Planner_isInner_16 : decode prog_5_method_8_code 16 = .ok (.iconst 1, 1) := by decide +kernel
theorem d_Planner_isInner_17 : decode prog_5_method_8_code 17 = .ok (.goto 4, 3) := by decide +kernel
theorem d_Planner_isInner_20 : decode prog_5_method_8_code 20 = .ok (.iconst 0, 1) := by decide +kernel
theorem d_Planner_isInner_21 : decode prog_5_method_8_code 21 = .ok (.ireturn, 1) := by decide +kernel
theorem d_Planner_reachOperands_0 : decode prog_5_method_9_code 0 = .ok (.aload_n 1, 1) := by decide +kernel
theorem d_Planner_reachOperands_1 : decode prog_5_method_9_code 1 = .ok (.getfield 120, 3) := by decide +kernel
theorem d_Planner_reachOperands_4 : decode prog_5_method_9_code 4 = .ok (.iload_n 2, 1) := by decide +kernel
theorem d_Planner_reachOperands_5 : decode prog_5_method_9_code 5 = .ok (.iaload, 1) := by decide +kernel
theorem d_Planner_reachOperands_6 : decode prog_5_method_9_code 6 = .ok (.istore_n 3, 1) := by decide +kernel
theorem d_Planner_reachOperands_7 : decode prog_5_method_9_code 7 = .ok (.aload_n 1, 1) := by decide +kernel
theorem d_Planner_reachOperands_8 : decode prog_5_method_9_code 8 = .ok (.getfield 123, 3) := by decide +kernel
theorem d_Planner_reachOperands_11 : decode prog_5_method_9_code 11 = .ok (.iload_n 2, 1) := by decide +kernel
theorem d_Planner_reachOperands_12 : decode prog_5_method_9_code 12 = .ok (.iaload, 1) := by decide +kernel
theorem d_Planner_reachOperands_13 : decode prog_5_method_9_code 13 = .ok (.istore 4, 2) := by decide +kernel
theorem d_Planner_reachOperands_15 : decode prog_5_method_9_code 15 = .ok (.aload_n 0, 1) := by decide +kernel
theorem d_Planner_reachOperands_16 : decode prog_5_method_9_code 16 = .ok (.getfield 18, 3) := by decide +kernel
theorem d_Planner_reachOperands_19 : decode prog_5_method_9_code 19 = .ok (.iload_n 3, 1) := by decide +kernel
theorem d_Planner_reachOperands_20 : decode prog_5_method_9_code 20 = .ok (.iconst 1, 1) := by decide +kernel
theorem d_Planner_reachOperands_21 : decode prog_5_method_9_code 21 = .ok (.bastore, 1) := by decide +kernel
theorem d_Planner_reachOperands_22 : decode prog_5_method_9_code 22 = .ok (.aload_n 0, 1) := by decide +kernel
theorem d_Planner_reachOperands_23 : decode prog_5_method_9_code 23 = .ok (.getfield 22, 3) := by decide +kernel
theorem d_Planner_reachOperands_26 : decode prog_5_method_9_code 26 = .ok (.iload_n 3, 1) := by decide +kernel
theorem d_Planner_reachOperands_27 : decode prog_5_method_9_code 27 = .ok (.aload_n 0, 1) := by decide +kernel
theorem d_Planner_reachOperands_28 : decode prog_5_method_9_code 28 = .ok (.getfield 22, 3) := by decide +kernel
theorem d_Planner_reachOperands_31 : decode prog_5_method_9_code 31 = .ok (.iload_n 2, 1) := by decide +kernel
theorem d_Planner_reachOperands_32 : decode prog_5_method_9_code 32 = .ok (.iaload, 1) := by decide +kernel
theorem d_Planner_reachOperands_33 : decode prog_5_method_9_code 33 = .ok (.iastore, 1) := by decide +kernel
theorem d_Planner_reachOperands_34 : decode prog_5_method_9_code 34 = .ok (.iload 4, 2) := by decide +kernel
theorem d_Planner_reachOperands_36 : decode prog_5_method_9_code 36 = .ok (.iconst (-1), 1) := by decide +kernel
theorem d_Planner_reachOperands_37 : decode prog_5_method_9_code 37 = .ok (.if_icmp .eq 31, 3) := by decide +kernel
theorem d_Planner_reachOperands_40 : decode prog_5_method_9_code 40 = .ok (.aload_n 0, 1) := by decide +kernel
theorem d_Planner_reachOperands_41 : decode prog_5_method_9_code 41 = .ok (.getfield 18, 3) := by decide +kernel
theorem d_Planner_reachOperands_44 : decode prog_5_method_9_code 44 = .ok (.iload 4, 2) := by decide +kernel
theorem d_Planner_reachOperands_46 : decode prog_5_method_9_code 46 = .ok (.iconst 1, 1) := by decide +kernel
theorem d_Planner_reachOperands_47 : decode prog_5_method_9_code 47 = .ok (.bastore, 1) := by decide +kernel
theorem d_Planner_reachOperands_48 : decode prog_5_method_9_code 48 = .ok (.aload_n 0, 1) := by decide +kernel
theorem d_Planner_reachOperands_49 : decode prog_5_method_9_code 49 = .ok (.getfield 22, 3) := by decide +kernel
theorem d_Planner_reachOperands_52 : decode prog_5_method_9_code 52 = .ok (.iload 4, 2) := by decide +kernel
theorem d_Planner_reachOperands_54 : decode prog_5_method_9_code 54 = .ok (.aload_n 0, 1) := by decide +kernel
theorem d_Planner_reachOperands_55 : decode prog_5_method_9_code 55 = .ok (.getfield 22, 3) := by decide +kernel
theorem d_Planner_reachOperands_58 : decode prog_5_method_9_code 58 = .ok (.iload_n 2, 1) := by decide +kernel
theorem d_Planner_reachOperands_59 : decode prog_5_method_9_code 59 = .ok (.iaload, 1) := by decide +kernel
theorem d_Planner_reachOperands_60 : decode prog_5_method_9_code 60 = .ok (.aload_n 1, 1) := by decide +kernel
theorem d_Planner_reachOperands_61 : decode prog_5_method_9_code 61 = .ok (.getfield 126, 3) := by decide +kernel
theorem d_Planner_reachOperands_64 : decode prog_5_method_9_code 64 = .ok (.iload_n 3, 1) := by decide +kernel
theorem d_Planner_reachOperands_65 : decode prog_5_method_9_code 65 = .ok (.iaload, 1) := by decide +kernel
theorem d_Planner_reachOperands_66 : decode prog_5_method_9_code 66 = .ok (.iadd, 1) := by decide +kernel
theorem d_Planner_reachOperands_67 : decode prog_5_method_9_code 67 = .ok (.iastore, 1) := by decide +kernel
theorem d_Planner_reachOperands_68 : decode prog_5_method_9_code 68 = .ok (.return_, 1) := by decide +kernel
theorem d_Planner_describeLeaves_0 : decode prog_5_method_10_code 0 = .ok (.aload_n 0, 1) := by decide +kernel
theorem d_Planner_describeLeaves_1 : decode prog_5_method_10_code 1 = .ok (.iconst 0, 1) := by decide +kernel
theorem d_Planner_describeLeaves_2 : decode prog_5_method_10_code 2 = .ok (.putfield 127, 3) := by decide +kernel
theorem d_Planner_describeLeaves_5 : decode prog_5_method_10_code 5 = .ok (.iconst 0, 1) := by decide +kernel
theorem d_Planner_describeLeaves_6 : decode prog_5_method_10_code 6 = .ok (.istore_n 2, 1) := by decide +kernel
theorem d_Planner_describeLeaves_7 : decode prog_5_method_10_code 7 = .ok (.iload_n 2, 1) := by decide +kernel
theorem d_Planner_describeLeaves_8 : decode prog_5_method_10_code 8 = .ok (.aload_n 1, 1) := by decide +kernel
theorem d_Planner_describeLeaves_9 : decode prog_5_method_10_code 9 = .ok (.getfield 96, 3) := by decide +kernel
theorem d_Planner_describeLeaves_12 : decode prog_5_method_10_code 12 = .ok (.if_icmp .ge 183, 3) := by decide +kernel
theorem d_Planner_describeLeaves_15 : decode prog_5_method_10_code 15 = .ok (.aload_n 0, 1) := by decide +kernel
theorem d_Planner_describeLeaves_16 : decode prog_5_method_10_code 16 = .ok (.getfield 127, 3) := by decide +kernel
theorem d_Planner_describeLeaves_19 : decode prog_5_method_10_code 19 = .ok (.iconst 3, 1) := by decide +kernel
theorem d_Planner_describeLeaves_20 : decode prog_5_method_10_code 20 = .ok (.if_icmp .ge 175, 3) := by decide +kernel
theorem d_Planner_describeLeaves_23 : decode prog_5_method_10_code 23 = .ok (.aload_n 0, 1) := by decide +kernel
theorem d_Planner_describeLeaves_24 : decode prog_5_method_10_code 24 = .ok (.getfield 18, 3) := by decide +kernel
theorem d_Planner_describeLeaves_27 : decode prog_5_method_10_code 27 = .ok (.iload_n 2, 1) := by decide +kernel
theorem d_Planner_describeLeaves_28 : decode prog_5_method_10_code 28 = .ok (.baload, 1) := by decide +kernel
theorem d_Planner_describeLeaves_29 : decode prog_5_method_10_code 29 = .ok (.ifCond .eq 160, 3) := by decide +kernel
theorem d_Planner_describeLeaves_32 : decode prog_5_method_10_code 32 = .ok (.aload_n 1, 1) := by decide +kernel
theorem d_Planner_describeLeaves_33 : decode prog_5_method_10_code 33 = .ok (.iload_n 2, 1) := by decide +kernel
theorem d_Planner_describeLeaves_34 : decode prog_5_method_10_code 34 = .ok (.invokestatic 114, 3) := by decide +kernel
theorem d_Planner_describeLeaves_37 : decode prog_5_method_10_code 37 = .ok (.ifCond .eq 6, 3) := by decide +kernel
theorem d_Planner_describeLeaves_40 : decode prog_5_method_10_code 40 = .ok (.goto 149, 3) := by decide +kernel
theorem d_Planner_describeLeaves_43 : decode prog_5_method_10_code 43 = .ok (.aload_n 1, 1) := by decide +kernel
theorem d_Planner_describeLeaves_44 : decode prog_5_method_10_code 44 = .ok (.getfield 111, 3) := by decide +kernel
theorem d_Planner_describeLeaves_47 : decode prog_5_method_10_code 47 = .ok (.iload_n 2, 1) := by decide +kernel
theorem d_Planner_describeLeaves_48 : decode prog_5_method_10_code 48 = .ok (.iaload, 1) := by decide +kernel
theorem d_Planner_describeLeaves_49 : decode prog_5_method_10_code 49 = .ok (.ifCond .ne 7, 3) := by decide +kernel
theorem d_Planner_describeLeaves_52 : decode prog_5_method_10_code 52 = .ok (.iconst 1, 1) := by decide +kernel
theorem d_Planner_describeLeaves_53 : decode prog_5_method_10_code 53 = .ok (.goto 4, 3) := by decide +kernel
theorem d_Planner_describeLeaves_56 : decode prog_5_method_10_code 56 = .ok (.iconst 0, 1) := by decide +kernel
theorem d_Planner_describeLeaves_57 : decode prog_5_method_10_code 57 = .ok (.istore_n 3, 1) := by decide +kernel
theorem d_Planner_describeLeaves_58 : decode prog_5_method_10_code 58 = .ok (.iload_n 3, 1) := by decide +kernel
theorem d_Planner_describeLeaves_59 : decode prog_5_method_10_code 59 = .ok (.ifCond .eq 12, 3) := by decide +kernel
theorem d_Planner_describeLeaves_62 : decode prog_5_method_10_code 62 = .ok (.aload_n 1, 1) := by decide +kernel
theorem d_Planner_describeLeaves_63 : decode prog_5_method_10_code 63 = .ok (.iload_n 2, 1) := by decide +kernel
theorem d_Planner_describeLeaves_64 : decode prog_5_method_10_code 64 = .ok (.iconst 0, 1) := by decide +kernel
theorem d_Planner_describeLeaves_65 : decode prog_5_method_10_code 65 = .ok (.invokevirtual 130, 3) := by decide +kernel
theorem d_Planner_describeLeaves_68 : decode prog_5_method_10_code 68 = .ok (.goto 4, 3) := by decide +kernel
theorem d_Planner_describeLeaves_71 : decode prog_5_method_10_code 71 = .ok (.iconst 0, 1) := by decide +kernel
theorem d_Planner_describeLeaves_72 : decode prog_5_method_10_code 72 = .ok (.istore 4, 2) := by decide +kernel
theorem d_Planner_describeLeaves_74 : decode prog_5_method_10_code 74 = .ok (.aload_n 0, 1) := by decide +kernel
theorem d_Planner_describeLeaves_75 : decode prog_5_method_10_code 75 = .ok (.getfield 25, 3) := by decide +kernel
theorem d_Planner_describeLeaves_78 : decode prog_5_method_10_code 78 = .ok (.aload_n 0, 1) := by decide +kernel
theorem d_Planner_describeLeaves_79 : decode prog_5_method_10_code 79 = .ok (.getfield 127, 3) := by decide +kernel
theorem d_Planner_describeLeaves_82 : decode prog_5_method_10_code 82 = .ok (.iload_n 3, 1) := by decide +kernel
theorem d_Planner_describeLeaves_83 : decode prog_5_method_10_code 83 = .ok (.ifCond .eq 13, 3) := by decide +kernel
theorem d_Planner_describeLeaves_86 : decode prog_5_method_10_code 86 = .ok (.aload_n 0, 1) := by decide +kernel
theorem d_Planner_describeLeaves_87 : decode prog_5_method_10_code 87 = .ok (.getfield 9, 3) := by decide +kernel
theorem d_Planner_describeLeaves_90 : decode prog_5_method_10_code 90 = .ok (.iload 4, 2) := by decide +kernel
theorem d_Planner_describeLeaves_92 : decode prog_5_method_10_code 92 = .ok (.iaload, 1) := by decide +kernel
theorem d_Planner_describeLeaves_93 : decode prog_5_method_10_code 93 = .ok (.goto 5, 3) := by decide +kernel
theorem d_Planner_describeLeaves_96 : decode prog_5_method_10_code 96 = .ok (.bipush 10, 2) := by decide +kernel
theorem d_Planner_describeLeaves_98 : decode prog_5_method_10_code 98 = .ok (.iastore, 1) := by decide +kernel
theorem d_Planner_describeLeaves_99 : decode prog_5_method_10_code 99 = .ok (.aload_n 0, 1) := by decide +kernel
theorem d_Planner_describeLeaves_100 : decode prog_5_method_10_code 100 = .ok (.getfield 28, 3) := by decide +kernel
theorem d_Planner_describeLeaves_103 : decode prog_5_method_10_code 103 = .ok (.aload_n 0, 1) := by decide +kernel
theorem d_Planner_describeLeaves_104 : decode prog_5_method_10_code 104 = .ok (.getfield 127, 3) := by decide +kernel
theorem d_Planner_describeLeaves_107 : decode prog_5_method_10_code 107 = .ok (.iload_n 3, 1) := by decide +kernel
theorem d_Planner_describeLeaves_108 : decode prog_5_method_10_code 108 = .ok (.bastore, 1) := by decide +kernel
theorem d_Planner_describeLeaves_109 : decode prog_5_method_10_code 109 = .ok (.iconst 0, 1) := by decide +kernel
theorem d_Planner_describeLeaves_110 : decode prog_5_method_10_code 110 = .ok (.istore 5, 2) := by decide +kernel
theorem d_Planner_describeLeaves_112 : decode prog_5_method_10_code 112 = .ok (.iload 5, 2) := by decide +kernel
theorem d_Planner_describeLeaves_114 : decode prog_5_method_10_code 114 = .ok (.aload_n 1, 1) := by decide +kernel
theorem d_Planner_describeLeaves_115 : decode prog_5_method_10_code 115 = .ok (.getfield 126, 3) := by decide +kernel
theorem d_Planner_describeLeaves_118 : decode prog_5_method_10_code 118 = .ok (.iload_n 2, 1) := by decide +kernel
theorem d_Planner_describeLeaves_119 : decode prog_5_method_10_code 119 = .ok (.iaload, 1) := by decide +kernel
theorem d_Planner_describeLeaves_120 : decode prog_5_method_10_code 120 = .ok (.if_icmp .ge 59, 3) := by decide +kernel
theorem d_Planner_describeLeaves_123 : decode prog_5_method_10_code 123 = .ok (.aload_n 0, 1) := by decide +kernel
theorem d_Planner_describeLeaves_124 : decode prog_5_method_10_code 124 = .ok (.getfield 22, 3) := by decide +kernel
theorem d_Planner_describeLeaves_127 : decode prog_5_method_10_code 127 = .ok (.iload_n 2, 1) := by decide +kernel
theorem d_Planner_describeLeaves_128 : decode prog_5_method_10_code 128 = .ok (.iaload, 1) := by decide +kernel
theorem d_Planner_describeLeaves_129 : decode prog_5_method_10_code 129 = .ok (.iload 5, 2) := by decide +kernel
theorem d_Planner_describeLeaves_131 : decode prog_5_method_10_code 131 = .ok (.iadd, 1) := by decide +kernel
theorem d_Planner_describeLeaves_132 : decode prog_5_method_10_code 132 = .ok (.istore 6, 2) := by decide +kernel
theorem d_Planner_describeLeaves_134 : decode prog_5_method_10_code 134 = .ok (.aload_n 0, 1) := by decide +kernel
theorem d_Planner_describeLeaves_135 : decode prog_5_method_10_code 135 = .ok (.getfield 31, 3) := by decide +kernel
theorem d_Planner_describeLeaves_138 : decode prog_5_method_10_code 138 = .ok (.iload 6, 2) := by decide +kernel
theorem d_Planner_describeLeaves_140 : decode prog_5_method_10_code 140 = .ok (.aload_n 0, 1) := by decide +kernel
theorem d_Planner_describeLeaves_141 : decode prog_5_method_10_code 141 = .ok (.getfield 127, 3) := by decide +kernel
theorem d_Planner_describeLeaves_144 : decode prog_5_method_10_code 144 = .ok (.iastore, 1) := by decide +kernel
theorem d_Planner_describeLeaves_145 : decode prog_5_method_10_code 145 = .ok (.aload_n 0, 1) := by decide +kernel
theorem d_Planner_describeLeaves_146 : decode prog_5_method_10_code 146 = .ok (.getfield 34, 3) := by decide +kernel
theorem d_Planner_describeLeaves_149 : decode prog_5_method_10_code 149 = .ok (.iload 6, 2) := by decide +kernel
theorem d_Planner_describeLeaves_151 : decode prog_5_method_10_code 151 = .ok (.iload_n 3, 1) := by decide +kernel
theorem d_Planner_describeLeaves_152 : decode prog_5_method_10_code 152 = .ok (.ifCond .eq 18, 3) := by decide +kernel
theorem d_Planner_describeLeaves_155 : decode prog_5_method_10_code 155 = .ok (.aload_n 0, 1) := by decide +kernel
theorem d_Planner_describeLeaves_156 : decode prog_5_method_10_code 156 = .ok (.getfield 15, 3) := by decide +kernel
theorem d_Planner_describeLeaves_159 : decode prog_5_method_10_code 159 = .ok (.iload 4, 2) := by decide +kernel
theorem d_Planner_describeLeaves_161 : decode prog_5_method_10_code 161 = .ok (.iconst 4, 1) := by decide +kernel
theorem d_Planner_describeLeaves_162 : decode prog_5_method_10_code 162 = .ok (.imul, 1) := by decide +kernel
theorem d_Planner_describeLeaves_163 : decode prog_5_method_10_code 163 = .ok (.iload 5, 2) := by decide +kernel
theorem d_Planner_describeLeaves_165 : decode prog_5_method_10_code 165 = .ok (.iadd, 1) := by decide +kernel
theorem d_Planner_describeLeaves_166 : decode prog_5_method_10_code 166 = .ok (.iaload, 1) := by decide +kernel
theorem d_Planner_describeLeaves_167 : decode prog_5_method_10_code 167 = .ok (.goto 5, 3) := by decide +kernel
theorem d_Planner_describeLeaves_170 : decode prog_5_method_10_code 170 = .ok (.bipush 10, 2) := by decide +kernel
theorem d_Planner_describeLeaves_172 : decode prog_5_method_10_code 172 = .ok (.iastore, 1) := by decide +kernel
theorem d_Planner_describeLeaves_173 : decode prog_5_method_10_code 173 = .ok (.iinc 5 1, 3) := by decide +kernel
theorem d_Planner_describeLeaves_176 : decode prog_5_method_10_code 176 = .ok (.goto (-64), 3) := by decide +kernel
theorem d_Planner_describeLeaves_179 : decode prog_5_method_10_code 179 = .ok (.aload_n 0, 1) := by decide +kernel
theorem d_Planner_describeLeaves_180 : decode prog_5_method_10_code 180 = .ok (.dup, 1) := by decide +kernel
theorem d_Planner_describeLeaves_181 : decode prog_5_method_10_code 181 = .ok (.getfield 127, 3) := by decide +kernel
theorem d_Planner_describeLeaves_184 : decode prog_5_method_10_code 184 = .ok (.iconst 1, 1) := by decide +kernel
theorem d_Planner_describeLeaves_185 : decode prog_5_method_10_code 185 = .ok (.iadd, 1) := by decide +kernel
theorem d_Planner_describeLeaves_186 : decode prog_5_method_10_code 186 = .ok (.putfield 127, 3) := by decide +kernel
theorem d_Planner_describeLeaves_189 : decode prog_5_method_10_code 189 = .ok (.iinc 2 1, 3) := by decide +kernel
theorem d_Planner_describeLeaves_192 : decode prog_5_method_10_code 192 = .ok (.goto (-185), 3) := by decide +kernel
theorem d_Planner_describeLeaves_195 : decode prog_5_method_10_code 195 = .ok (.return_, 1) := by decide +kernel
theorem d_Planner_applyFilters_0 : decode prog_5_method_11_code 0 = .ok (.iconst 0, 1) := by decide +kernel
theorem d_Planner_applyFilters_1 : decode prog_5_method_11_code 1 = .ok (.istore_n 3, 1) := by decide +kernel
theorem d_Planner_applyFilters_2 : decode prog_5_method_11_code 2 = .ok (.iload_n 3, 1) := by decide +kernel
theorem d_Planner_applyFilters_3 : decode prog_5_method_11_code 3 = .ok (.iload_n 2, 1) := by decide +kernel
theorem d_Planner_applyFilters_4 : decode prog_5_method_11_code 4 = .ok (.if_icmp .ge 124, 3) := by decide +kernel
theorem d_Planner_applyFilters_7 : decode prog_5_method_11_code 7 = .ok (.aload_n 0, 1) := by decide +kernel
theorem d_Planner_applyFilters_8 : decode prog_5_method_11_code 8 = .ok (.getfield 18, 3) := by decide +kernel
theorem d_Planner_applyFilters_11 : decode prog_5_method_11_code 11 = .ok (.iload_n 3, 1) := by decide +kernel
theorem d_Planner_applyFilters_12 : decode prog_5_method_11_code 12 = .ok (.baload, 1) := by decide +kernel
theorem d_Planner_applyFilters_13 : decode prog_5_method_11_code 13 = .ok (.ifCond .eq 109, 3) := by decide +kernel
theorem d_Planner_applyFilters_16 : decode prog_5_method_11_code 16 = .ok (.aload_n 1, 1) := by decide +kernel
theorem d_Planner_applyFilters_17 : decode prog_5_method_11_code 17 = .ok (.getfield 111, 3) := by decide +kernel
theorem d_Planner_applyFilters_20 : decode prog_5_method_11_code 20 = .ok (.iload_n 3, 1) := by decide +kernel
theorem d_Planner_applyFilters_21 : decode prog_5_method_11_code 21 = .ok (.iaload, 1) := by decide +kernel
theorem d_Planner_applyFilters_22 : decode prog_5_method_11_code 22 = .ok (.iconst 1, 1) := by decide +kernel
theorem d_Planner_applyFilters_23 : decode prog_5_method_11_code 23 = .ok (.if_icmp .eq 6, 3) := by decide +kernel
theorem d_Planner_applyFilters_26 : decode prog_5_method_11_code 26 = .ok (.goto 96, 3) := by decide +kernel
theorem d_Planner_applyFilters_29 : decode prog_5_method_11_code 29 = .ok (.aload_n 0, 1) := by decide +kernel
theorem d_Planner_applyFilters_30 : decode prog_5_method_11_code 30 = .ok (.getfield 22, 3) := by decide +kernel
theorem d_Planner_applyFilters_33 : decode prog_5_method_11_code 33 = .ok (.iload_n 3, 1) := by decide +kernel
theorem d_Planner_applyFilters_34 : decode prog_5_method_11_code 34 = .ok (.iaload, 1) := by decide +kernel
theorem d_Planner_applyFilters_35 : decode prog_5_method_11_code 35 = .ok (.aload_n 1, 1) := by decide +kernel
theorem d_Planner_applyFilters_36 : decode prog_5_method_11_code 36 = .ok (.iload_n 3, 1) := by decide +kernel
theorem d_Planner_applyFilters_37 : decode prog_5_method_11_code 37 = .ok (.iconst 0, 1) := by decide +kernel
theorem d_Planner_applyFilters_38 : decode prog_5_method_11_code 38 = .ok (.invokevirtual 130, 3) := by decide +kernel
theorem d_Planner_applyFilters_41 : decode prog_5_method_11_code 41 = .ok (.iadd, 1) := by decide +kernel
theorem d_Planner_applyFilters_42 : decode prog_5_method_11_code 42 = .ok (.istore 4, 2) := by decide +kernel
theorem d_Planner_applyFilters_44 : decode prog_5_method_11_code 44 = .ok (.aload_n 0, 1) := by decide +kernel
theorem d_Planner_applyFilters_45 : decode prog_5_method_11_code 45 = .ok (.getfield 31, 3) := by decide +kernel
theorem d_Planner_applyFilters_48 : decode prog_5_method_11_code 48 = .ok (.iload 4, 2) := by decide +kernel
theorem d_Planner_applyFilters_50 : decode prog_5_method_11_code 50 = .ok (.iaload, 1) := by decide +kernel
theorem d_Planner_applyFilters_51 : decode prog_5_method_11_code 51 = .ok (.istore 5, 2) := by decide +kernel
theorem d_Planner_applyFilters_53 : decode prog_5_method_11_code 53 = .ok (.aload_n 1, 1) := by decide +kernel
theorem d_Planner_applyFilters_54 : decode prog_5_method_11_code 54 = .ok (.iload_n 3, 1) := by decide +kernel
theorem d_Planner_applyFilters_55 : decode prog_5_method_11_code 55 = .ok (.iconst 1, 1) := by decide +kernel
theorem d_Planner_applyFilters_56 : decode prog_5_method_11_code 56 = .ok (.invokevirtual 130, 3) := by decide +kernel
theorem d_Planner_applyFilters_59 : decode prog_5_method_11_code 59 = .ok (.iconst 1, 1) := by decide +kernel
theorem d_Planner_applyFilters_60 : decode prog_5_method_11_code 60 = .ok (.if_icmp .ne 16, 3) := by decide +kernel
theorem d_Planner_applyFilters_63 : decode prog_5_method_11_code 63 = .ok (.aload_n 1, 1) := by decide +kernel
theorem d_Planner_applyFilters_64 : decode prog_5_method_11_code 64 = .ok (.iload_n 3, 1) := by decide +kernel
theorem d_Planner_applyFilters_65 : decode prog_5_method_11_code 65 = .ok (.iconst 3, 1) := by decide +kernel
theorem d_Planner_applyFilters_66 : decode prog_5_method_11_code 66 = .ok (.invokevirtual 130, 3) := by decide +kernel
theorem d_Planner_applyFilters_69 : decode prog_5_method_11_code 69 = .ok (.ifCond .ne 7, 3) := by decide +kernel
theorem d_Planner_applyFilters_72 : decode prog_5_method_11_code 72 = .ok (.iconst 1, 1) := by decide +kernel
theorem d_Planner_applyFilters_73 : decode prog_5_method_11_code 73 = .ok (.goto 4, 3) := by decide +kernel
theorem d_Planner_applyFilters_76 : decode prog_5_method_11_code 76 = .ok (.iconst 0, 1) := by decide +kernel
theorem d_Planner_applyFilters_77 : decode prog_5_method_11_code 77 = .ok (.istore 6, 2) := by decide +kernel
theorem d_Planner_applyFilters_79 : decode prog_5_method_11_code 79 = .ok (.aload_n 0, 1) := by decide +kernel
theorem d_Planner_applyFilters_80 : decode prog_5_method_11_code 80 = .ok (.getfield 28, 3) := by decide +kernel
theorem d_Planner_applyFilters_83 : decode prog_5_method_11_code 83 = .ok (.iload 5, 2) := by decide +kernel
theorem d_Planner_applyFilters_85 : decode prog_5_method_11_code 85 = .ok (.baload, 1) := by decide +kernel
theorem d_Planner_applyFilters_86 : decode prog_5_method_11_code 86 = .ok (.ifCond .eq 36, 3) := by decide +kernel
theorem d_Planner_applyFilters_89 : decode prog_5_method_11_code 89 = .ok (.aload_n 0, 1) := by decide +kernel
theorem d_Planner_applyFilters_90 : decode prog_5_method_11_code 90 = .ok (.getfield 25, 3) := by decide +kernel
theorem d_Planner_applyFilters_93 : decode prog_5_method_11_code 93 = .ok (.iload 5, 2) := by decide +kernel
theorem d_Planner_applyFilters_95 : decode prog_5_method_11_code 95 = .ok (.aload_n 0, 1) := by decide +kernel
theorem d_Planner_applyFilters_96 : decode prog_5_method_11_code 96 = .ok (.getfield 25, 3) := by decide +kernel
theorem d_Planner_applyFilters_99 : decode prog_5_method_11_code 99 = .ok (.iload 5, 2) := by decide +kernel
theorem d_Planner_applyFilters_101 : decode prog_5_method_11_code 101 = .ok (.iaload, 1) := by decide +kernel
theorem d_Planner_applyFilters_102 : decode prog_5_method_11_code 102 = .ok (.iload 6, 2) := by decide +kernel
theorem d_Planner_applyFilters_104 : decode prog_5_method_11_code 104 = .ok (.ifCond .eq 13, 3) := by decide +kernel
theorem d_Planner_applyFilters_107 : decode prog_5_method_11_code 107 = .ok (.aload_n 0, 1) := by decide +kernel
theorem d_Planner_applyFilters_108 : decode prog_5_method_11_code 108 = .ok (.getfield 34, 3) := by decide +kernel
theorem d_Planner_applyFilters_111 : decode prog_5_method_11_code 111 = .ok (.iload 4, 2) := by decide +kernel
theorem d_Planner_applyFilters_113 : decode prog_5_method_11_code 113 = .ok (.iaload, 1) := by decide +kernel
theorem d_Planner_applyFilters_114 : decode prog_5_method_11_code 114 = .ok (.goto 4, 3) := by decide +kernel
theorem d_Planner_applyFilters_117 : decode prog_5_method_11_code 117 = .ok (.iconst 3, 1) := by decide +kernel
theorem d_Planner_applyFilters_118 : decode prog_5_method_11_code 118 = .ok (.invokestatic 134, 3) := by decide +kernel
theorem d_Planner_applyFilters_121 : decode prog_5_method_11_code 121 = .ok (.iastore, 1) := by decide +kernel
theorem d_Planner_applyFilters_122 : decode prog_5_method_11_code 122 = .ok (.iinc 3 1, 3) := by decide +kernel
theorem d_Planner_applyFilters_125 : decode prog_5_method_11_code 125 = .ok (.goto (-123), 3) := by decide +kernel
theorem d_Planner_applyFilters_128 : decode prog_5_method_11_code 128 = .ok (.return_, 1) := by decide +kernel
theorem d_Planner_divided_0 : decode prog_5_method_12_code 0 = .ok (.iconst 1, 1) := by decide +kernel
theorem d_Planner_divided_1 : decode prog_5_method_12_code 1 = .ok (.iload_n 1, 1) := by decide +kernel
theorem d_Planner_divided_2 : decode prog_5_method_12_code 2 = .ok (.ifCond .le 9, 3) := by decide +kernel
theorem d_Planner_divided_5 : decode prog_5_method_12_code 5 = .ok (.iload_n 0, 1) := by decide +kernel
theorem d_Planner_divided_6 : decode prog_5_method_12_code 6 = .ok (.iload_n 1, 1) := by decide +kernel
theorem d_Planner_divided_7 : decode prog_5_method_12_code 7 = .ok (.idiv, 1) := by decide +kernel
theorem d_Planner_divided_8 : decode prog_5_method_12_code 8 = .ok (.goto 4, 3) := by decide +kernel
theorem d_Planner_divided_11 : decode prog_5_method_12_code 11 = .ok (.iload_n 0, 1) := by decide +kernel
theorem d_Planner_divided_12 : decode prog_5_method_12_code 12 = .ok (.invokestatic 137, 3) := by decide +kernel
theorem d_Planner_divided_15 : decode prog_5_method_12_code 15 = .ok (.ireturn, 1) := by decide +kernel
theorem d_Planner_gatherJoins_0 : decode prog_5_method_13_code 0 = .ok (.aload_n 0, 1) := by decide +kernel
theorem d_Planner_gatherJoins_1 : decode prog_5_method_13_code 1 = .ok (.iconst 0, 1) := by decide +kernel
theorem d_Planner_gatherJoins_2 : decode prog_5_method_13_code 2 = .ok (.putfield 142, 3) := by decide +kernel
theorem d_Planner_gatherJoins_5 : decode prog_5_method_13_code 5 = .ok (.iconst 0, 1) := by decide +kernel
theorem d_Planner_gatherJoins_6 : decode prog_5_method_13_code 6 = .ok (.istore_n 3, 1) := by decide +kernel
theorem d_Planner_gatherJoins_7 : decode prog_5_method_13_code 7 = .ok (.iload_n 3, 1) := by decide +kernel
theorem d_Planner_gatherJoins_8 : decode prog_5_method_13_code 8 = .ok (.iload_n 2, 1) := by decide +kernel
theorem d_Planner_gatherJoins_9 : decode prog_5_method_13_code 9 = .ok (.if_icmp .gt 85, 3) := by decide +kernel
theorem d_Planner_gatherJoins_12 : decode prog_5_method_13_code 12 = .ok (.aload_n 0, 1) := by decide +kernel
theorem d_Planner_gatherJoins_13 : decode prog_5_method_13_code 13 = .ok (.getfield 18, 3) := by decide +kernel
theorem d_Planner_gatherJoins_16 : decode prog_5_method_13_code 16 = .ok (.iload_n 3, 1) := by decide +kernel
theorem d_Planner_gatherJoins_17 : decode prog_5_method_13_code 17 = .ok (.baload, 1) := by decide +kernel
theorem d_Planner_gatherJoins_18 : decode prog_5_method_13_code 18 = .ok (.ifCond .eq 70, 3) := by decide +kernel
theorem d_Planner_gatherJoins_21 : decode prog_5_method_13_code 21 = .ok (.aload_n 1, 1) := by decide +kernel
theorem d_Planner_gatherJoins_22 : decode prog_5_method_13_code 22 = .ok (.iload_n 3, 1) := by decide +kernel
theorem d_Planner_gatherJoins_23 : decode prog_5_method_13_code 23 = .ok (.invokevirtual 104, 3) := by decide +kernel
theorem d_Planner_gatherJoins_26 : decode prog_5_method_13_code 26 = .ok (.ifCond .eq 62, 3) := by decide +kernel
theorem d_Planner_gatherJoins_29 : decode prog_5_method_13_code 29 = .ok (.aload_n 0, 1) := by decide +kernel
theorem d_Planner_gatherJoins_30 : decode prog_5_method_13_code 30 = .ok (.getfield 37, 3) := by decide +kernel
theorem d_Planner_gatherJoins_33 : decode prog_5_method_13_code 33 = .ok (.aload_n 0, 1) := by decide +kernel
theorem d_Planner_gatherJoins_34 : decode prog_5_method_13_code 34 = .ok (.getfield 142, 3) := by decide +kernel
theorem d_Planner_gatherJoins_37 : decode prog_5_method_13_code 37 = .ok (.aload_n 0, 1) := by decide +kernel
theorem d_Planner_gatherJoins_38 : decode prog_5_method_13_code 38 = .ok (.getfield 22, 3) := by decide +kernel
theorem d_Planner_gatherJoins_41 : decode prog_5_method_13_code 41 = .ok (.iload_n 3, 1) := by decide +kernel
theorem d_Planner_gatherJoins_42 : decode prog_5_method_13_code 42 = .ok (.iaload, 1) := by decide +kernel
theorem d_Planner_gatherJoins_43 : decode prog_5_method_13_code 43 = .ok (.aload_n 1, 1) := by decide +kernel
theorem d_Planner_gatherJoins_44 : decode prog_5_method_13_code 44 = .ok (.iload_n 3, 1) := by decide +kernel
theorem d_Planner_gatherJoins_45 : decode prog_5_method_13_code 45 = .ok (.iconst 1, 1) := by decide +kernel
theorem d_Planner_gatherJoins_46 : decode prog_5_method_13_code 46 = .ok (.invokevirtual 130, 3) := by decide +kernel
theorem d_Planner_gatherJoins_49 : decode prog_5_method_13_code 49 = .ok (.iadd, 1) := by decide +kernel
theorem d_Planner_gatherJoins_50 : decode prog_5_method_13_code 50 = .ok (.iastore, 1) := by decide +kernel
theorem d_Planner_gatherJoins_51 : decode prog_5_method_13_code 51 = .ok (.aload_n 0, 1) := by decide +kernel
theorem d_Planner_gatherJoins_52 : decode prog_5_method_13_code 52 = .ok (.getfield 40, 3) := by decide +kernel
theorem d_Planner_gatherJoins_55 : decode prog_5_method_13_code 55 = .ok (.aload_n 0, 1) := by decide +kernel
theorem d_Planner_gatherJoins_56 : decode prog_5_method_13_code 56 = .ok (.getfield 142, 3) := by decide +kernel
theorem d_Planner_gatherJoins_59 : decode prog_5_method_13_code 59 = .ok (.aload_n 0, 1) := by decide +kernel
theorem d_Planner_gatherJoins_60 : decode prog_5_method_13_code 60 = .ok (.getfield 22, 3) := by decide +kernel
theorem d_Planner_gatherJoins_63 : decode prog_5_method_13_code 63 = .ok (.aload_n 1, 1) := by decide +kernel
theorem d_Planner_gatherJoins_64 : decode prog_5_method_13_code 64 = .ok (.getfield 123, 3) := by decide +kernel
theorem d_Planner_gatherJoins_67 : decode prog_5_method_13_code 67 = .ok (.iload_n 3, 1) := by decide +kernel
theorem d_Planner_gatherJoins_68 : decode prog_5_method_13_code 68 = .ok (.iaload, 1) := by decide +kernel
theorem d_Planner_gatherJoins_69 : decode prog_5_method_13_code 69 = .ok (.iaload, 1) := by decide +kernel
theorem d_Planner_gatherJoins_70 : decode prog_5_method_13_code 70 = .ok (.aload_n 1, 1) := by decide +kernel
theorem d_Planner_gatherJoins_71 : decode prog_5_method_13_code 71 = .ok (.iload_n 3, 1) := by decide +kernel
theorem d_Planner_gatherJoins_72 : decode prog_5_method_13_code 72 = .ok (.iconst 2, 1) := by decide +kernel
theorem d_Planner_gatherJoins_73 : decode prog_5_method_13_code 73 = .ok (.invokevirtual 130, 3) := by decide +kernel
theorem d_Planner_gatherJoins_76 : decode prog_5_method_13_code 76 = .ok (.iadd, 1) := by decide +kernel
theorem d_Planner_gatherJoins_77 : decode prog_5_method_13_code 77 = .ok (.iastore, 1) := by decide +kernel
theorem d_Planner_gatherJoins_78 : decode prog_5_method_13_code 78 = .ok (.aload_n 0, 1) := by decide +kernel
theorem d_Planner_gatherJoins_79 : decode prog_5_method_13_code 79 = .ok (.dup, 1) := by decide +kernel
theorem d_Planner_gatherJoins_80 : decode prog_5_method_13_code 80 = .ok (.getfield 142, 3) := by decide +kernel
theorem d_Planner_gatherJoins_83 : decode prog_5_method_13_code 83 = .ok (.iconst 1, 1) := by decide +kernel
theorem d_Planner_gatherJoins_84 : decode prog_5_method_13_code 84 = .ok (.iadd, 1) := by decide +kernel
theorem d_Planner_gatherJoins_85 : decode prog_5_method_13_code 85 = .ok (.putfield 142, 3) := by decide +kernel
theorem d_Planner_gatherJoins_88 : decode prog_5_method_13_code 88 = .ok (.iinc 3 1, 3) := by decide +kernel
theorem d_Planner_gatherJoins_91 : decode prog_5_method_13_code 91 = .ok (.goto (-84), 3) := by decide +kernel
theorem d_Planner_gatherJoins_94 : decode prog_5_method_13_code 94 = .ok (.return_, 1) := by decide +kernel
theorem d_Planner_chooseOrder_0 : decode prog_5_method_14_code 0 = .ok (.iconst 1, 1) := by decide +kernel
theorem d_Planner_chooseOrder_1 : decode prog_5_method_14_code 1 = .ok (.istore_n 2, 1) := by decide +kernel
theorem d_Planner_chooseOrder_2 : decode prog_5_method_14_code 2 = .ok (.iconst 0, 1) := by decide +kernel
theorem d_Planner_chooseOrder_3 : decode prog_5_method_14_code 3 = .ok (.istore_n 3, 1) := by decide +kernel
theorem d_Planner_chooseOrder_4 : decode prog_5_method_14_code 4 = .ok (.iload_n 3, 1) := by decide +kernel
theorem d_Planner_chooseOrder_5 : decode prog_5_method_14_code 5 = .ok (.aload_n 0, 1) := by decide +kernel
theorem d_Planner_chooseOrder_6 : decode prog_5_method_14_code 6 = .ok (.getfield 127, 3) := by decide +kernel
theorem d_Planner_chooseOrder_9 : decode prog_5_method_14_code 9 = .ok (.if_icmp .ge 16, 3) := by decide +kernel
theorem d_Planner_chooseOrder_12 : decode prog_5_method_14_code 12 = .ok (.iload_n 2, 1) := by decide +kernel
theorem d_Planner_chooseOrder_13 : decode prog_5_method_14_code 13 = .ok (.aload_n 0, 1) := by decide +kernel
theorem d_Planner_chooseOrder_14 : decode prog_5_method_14_code 14 = .ok (.getfield 127, 3) := by decide +kernel
theorem d_Planner_chooseOrder_17 : decode prog_5_method_14_code 17 = .ok (.imul, 1) := by decide +kernel
theorem d_Planner_chooseOrder_18 : decode prog_5_method_14_code 18 = .ok (.istore_n 2, 1) := by decide +kernel
theorem d_Planner_chooseOrder_19 : decode prog_5_method_14_code 19 = .ok (.iinc 3 1, 3) := by decide +kernel
theorem d_Planner_chooseOrder_22 : decode prog_5_method_14_code 22 = .ok (.goto (-18), 3) := by decide +kernel
theorem d_Planner_chooseOrder_25 : decode prog_5_method_14_code 25 = .ok (.aload_n 1, 1) := by decide +kernel
theorem d_Planner_chooseOrder_26 : decode prog_5_method_14_code 26 = .ok (.iconst 0, 1) := by decide +kernel
theorem d_Planner_chooseOrder_27 : decode prog_5_method_14_code 27 = .ok (.putfield 145, 3) := by decide +kernel
theorem d_Planner_chooseOrder_30 : decode prog_5_method_14_code 30 = .ok (.iconst 0, 1) := by decide +kernel
theorem d_Planner_chooseOrder_31 : decode prog_5_method_14_code 31 = .ok (.istore_n 3, 1) := by decide +kernel
theorem d_Planner_chooseOrder_32 : decode prog_5_method_14_code 32 = .ok (.iload_n 3, 1) := by decide +kernel
theorem d_Planner_chooseOrder_33 : decode prog_5_method_14_code 33 = .ok (.iload_n 2, 1) := by decide +kernel
theorem d_Planner_chooseOrder_34 : decode prog_5_method_14_code 34 = .ok (.if_icmp .ge 78, 3) := by decide +kernel
theorem d_Planner_chooseOrder_37 : decode prog_5_method_14_code 37 = .ok (.aload_n 0, 1) := by decide +kernel
theorem d_Planner_chooseOrder_38 : decode prog_5_method_14_code 38 = .ok (.iload_n 3, 1) := by decide +kernel
theorem d_Planner_chooseOrder_39 : decode prog_5_method_14_code 39 = .ok (.invokevirtual 149, 3) := by decide +kernel
theorem d_Planner_chooseOrder_42 : decode prog_5_method_14_code 42 = .ok (.ifCond .ne 6, 3) := by decide +kernel
theorem d_Planner_chooseOrder_45 : decode prog_5_method_14_code 45 = .ok (.goto 61, 3) := by decide +kernel
theorem d_Planner_chooseOrder_48 : decode prog_5_method_14_code 48 = .ok (.aload_n 0, 1) := by decide +kernel
theorem d_Planner_chooseOrder_49 : decode prog_5_method_14_code 49 = .ok (.invokevirtual 152, 3) := by decide +kernel
theorem d_Planner_chooseOrder_52 : decode prog_5_method_14_code 52 = .ok (.istore 4, 2) := by decide +kernel
theorem d_Planner_chooseOrder_54 : decode prog_5_method_14_code 54 = .ok (.aload_n 1, 1) := by decide +kernel
theorem d_Planner_chooseOrder_55 : decode prog_5_method_14_code 55 = .ok (.getfield 145, 3) := by decide +kernel
theorem d_Planner_chooseOrder_58 : decode prog_5_method_14_code 58 = .ok (.ifCond .eq 12, 3) := by decide +kernel
theorem d_Planner_chooseOrder_61 : decode prog_5_method_14_code 61 = .ok (.iload 4, 2) := by decide +kernel
theorem d_Planner_chooseOrder_63 : decode prog_5_method_14_code 63 = .ok (.aload_n 1, 1) := by decide +kernel
theorem d_Planner_chooseOrder_64 : decode prog_5_method_14_code 64 = .ok (.getfield 156, 3) := by decide +kernel
theorem d_Planner_chooseOrder_67 : decode prog_5_method_14_code 67 = .ok (.if_icmp .ge 39, 3) := by decide +kernel
theorem d_Planner_chooseOrder_70 : decode prog_5_method_14_code 70 = .ok (.aload_n 1, 1) := by decide +kernel
theorem d_Planner_chooseOrder_71 : decode prog_5_method_14_code 71 = .ok (.iconst 1, 1) := by decide +kernel
theorem d_Planner_chooseOrder_72 : decode prog_5_method_14_code 72 = .ok (.putfield 145, 3) := by decide +kernel
theorem d_Planner_chooseOrder_75 : decode prog_5_method_14_code 75 = .ok (.aload_n 1, 1) := by decide +kernel
theorem d_Planner_chooseOrder_76 : decode prog_5_method_14_code 76 = .ok (.iload 4, 2) := by decide +kernel
theorem d_Planner_chooseOrder_78 : decode prog_5_method_14_code 78 = .ok (.putfield 156, 3) := by decide +kernel
theorem d_Planner_chooseOrder_81 : decode prog_5_method_14_code 81 = .ok (.aload_n 1, 1) := by decide +kernel
theorem d_Planner_chooseOrder_82 : decode prog_5_method_14_code 82 = .ok (.aload_n 0, 1) := by decide +kernel
theorem d_Planner_chooseOrder_83 : decode prog_5_method_14_code 83 = .ok (.getfield 127, 3) := by decide +kernel
theorem d_Planner_chooseOrder_86 : decode prog_5_method_14_code 86 = .ok (.putfield 159, 3) := by decide +kernel
theorem d_Planner_chooseOrder_89 : decode prog_5_method_14_code 89 = .ok (.aload_n 0, 1) := by decide +kernel
theorem d_Planner_chooseOrder_90 : decode prog_5_method_14_code 90 = .ok (.getfield 43, 3) := by decide +kernel
theorem d_Planner_chooseOrder_93 : decode prog_5_method_14_code 93 = .ok (.iconst 0, 1) := by decide +kernel
theorem d_Planner_chooseOrder_94 : decode prog_5_method_14_code 94 = .ok (.aload_n 1, 1) := by decide +kernel
theorem d_Planner_chooseOrder_95 : decode prog_5_method_14_code 95 = .ok (.getfield 160, 3) := by decide +kernel
theorem d_Planner_chooseOrder_98 : decode prog_5_method_14_code 98 = .ok (.iconst 0, 1) := by decide +kernel
theorem d_Planner_chooseOrder_99 : decode prog_5_method_14_code 99 = .ok (.aload_n 0, 1) := by decide +kernel
theorem d_Planner_chooseOrder_100 : decode prog_5_method_14_code 100 = .ok (.getfield 127, 3) := by decide +kernel
theorem d_Planner_chooseOrder_103 : decode prog_5_method_14_code 103 = .ok (.invokestatic 163, 3) := by decide +kernel
theorem d_Planner_chooseOrder_106 : decode prog_5_method_14_code 106 = .ok (.iinc 3 1, 3) := by decide +kernel
theorem d_Planner_chooseOrder_109 : decode prog_5_method_14_code 109 = .ok (.goto (-77), 3) := by decide +kernel
theorem d_Planner_chooseOrder_112 : decode prog_5_method_14_code 112 = .ok (.return_, 1) := by decide +kernel
theorem d_Planner_spellsOrder_0 : decode prog_5_method_15_code 0 = .ok (.iload_n 1, 1) := by decide +kernel
theorem d_Planner_spellsOrder_1 : decode prog_5_method_15_code 1 = .ok (.istore_n 2, 1) := by decide +kernel
theorem d_Planner_spellsOrder_2 : decode prog_5_method_15_code 2 = .ok (.iconst 0, 1) := by decide +kernel
theorem d_Planner_spellsOrder_3 : decode prog_5_method_15_code 3 = .ok (.istore_n 3, 1) := by decide +kernel
theorem d_Planner_spellsOrder_4 : decode prog_5_method_15_code 4 = .ok (.aload_n 0, 1) := by decide +kernel
theorem d_Planner_spellsOrder_5 : decode prog_5_method_15_code 5 = .ok (.getfield 127, 3) := by decide +kernel
theorem d_Planner_spellsOrder_8 : decode prog_5_method_15_code 8 = .ok (.iconst 1, 1) := by decide +kernel
theorem d_Planner_spellsOrder_9 : decode prog_5_method_15_code 9 = .ok (.isub, 1) := by decide +kernel
theorem d_Planner_spellsOrder_10 : decode prog_5_method_15_code 10 = .ok (.istore 4, 2) := by decide +kernel
theorem d_Planner_spellsOrder_12 : decode prog_5_method_15_code 12 = .ok (.iload 4, 2) := by decide +kernel
theorem d_Planner_spellsOrder_14 : decode prog_5_method_15_code 14 = .ok (.ifCond .lt 41, 3) := by decide +kernel
theorem d_Planner_spellsOrder_17 : decode prog_5_method_15_code 17 = .ok (.aload_n 0, 1) := by decide +kernel
theorem d_Planner_spellsOrder_18 : decode prog_5_method_15_code 18 = .ok (.getfield 43, 3) := by decide +kernel
theorem d_Planner_spellsOrder_21 : decode prog_5_method_15_code 21 = .ok (.iload 4, 2) := by decide +kernel
theorem d_Planner_spellsOrder_23 : decode prog_5_method_15_code 23 = .ok (.iload_n 2, 1) := by decide +kernel
theorem d_Planner_spellsOrder_24 : decode prog_5_method_15_code 24 = .ok (.aload_n 0, 1) := by decide +kernel
theorem d_Planner_spellsOrder_25 : decode prog_5_method_15_code 25 = .ok (.getfield 127, 3) := by decide +kernel
theorem d_Planner_spellsOrder_28 : decode prog_5_method_15_code 28 = .ok (.irem, 1) := by decide +kernel
theorem d_Planner_spellsOrder_29 : decode prog_5_method_15_code 29 = .ok (.iastore, 1) := by decide +kernel
theorem d_Planner_spellsOrder_30 : decode prog_5_method_15_code 30 = .ok (.iload_n 2, 1) := by decide +kernel
theorem d_Planner_spellsOrder_31 : decode prog_5_method_15_code 31 = .ok (.aload_n 0, 1) := by decide +kernel
theorem d_Planner_spellsOrder_32 : decode prog_5_method_15_code 32 = .ok (.getfield 127, 3) := by decide +kernel
theorem d_Planner_spellsOrder_35 : decode prog_5_method_15_code 35 = .ok (.idiv, 1) := by decide +kernel
theorem d_Planner_spellsOrder_36 : decode prog_5_method_15_code 36 = .ok (.istore_n 2, 1) := by decide +kernel
theorem d_Planner_spellsOrder_37 : decode prog_5_method_15_code 37 = .ok (.iload_n 3, 1) := by decide +kernel
theorem d_Planner_spellsOrder_38 : decode prog_5_method_15_code 38 = .ok (.iconst 1, 1) := by decide +kernel
theorem d_Planner_spellsOrder_39 : decode prog_5_method_15_code 39 = .ok (.aload_n 0, 1) := by decide +kernel
theorem d_Planner_spellsOrder_40 : decode prog_5_method_15_code 40 = .ok (.getfield 43, 3) := by decide +kernel
theorem d_Planner_spellsOrder_43 : decode prog_5_method_15_code 43 = .ok (.iload 4, 2) := by decide +kernel
theorem d_Planner_spellsOrder_45 : decode prog_5_method_15_code 45 = .ok (.iaload, 1) := by decide +kernel
theorem d_Planner_spellsOrder_46 : decode prog_5_method_15_code 46 = .ok (.ishl, 1) := by decide +kernel
theorem d_Planner_spellsOrder_47 : decode prog_5_method_15_code 47 = .ok (.ior, 1) := by decide +kernel
theorem d_Planner_spellsOrder_48 : decode prog_5_method_15_code 48 = .ok (.istore_n 3, 1) := by decide +kernel
theorem d_Planner_spellsOrder_49 : decode prog_5_method_15_code 49 = .ok (.iinc 4 (-1), 3) := by decide +kernel
theorem d_Planner_spellsOrder_52 : decode prog_5_method_15_code 52 = .ok (.goto (-40), 3) := by decide +kernel
theorem d_Planner_spellsOrder_55 : decode prog_5_method_15_code 55 = .ok (.iload_n 3, 1) := by decide +kernel
theorem d_Planner_spellsOrder_56 : decode prog_5_method_15_code 56 = .ok (.invokestatic 169, 3) := by decide +kernel
theorem d_Planner_spellsOrder_59 : decode prog_5_method_15_code 59 = .ok (.aload_n 0, 1) := by decide +kernel
theorem d_Planner_spellsOrder_60 : decode prog_5_method_15_code 60 = .ok (.getfield 127, 3) := by decide +kernel
theorem d_Planner_spellsOrder_63 : decode prog_5_method_15_code 63 = .ok (.if_icmp .ne 7, 3) := by decide +kernel
theorem d_Planner_spellsOrder_66 : decode prog_5_method_15_code 66 = .ok (.iconst 1, 1) := by decide +kernel
theorem d_Planner_spellsOrder_67 : decode prog_5_method_15_code 67 = .ok (.goto 4, 3) := by decide +kernel
theorem d_Planner_spellsOrder_70 : decode prog_5_method_15_code 70 = .ok (.iconst 0, 1) := by decide +kernel
theorem d_Planner_spellsOrder_71 : decode prog_5_method_15_code 71 = .ok (.ireturn, 1) := by decide +kernel
theorem d_Planner_costOfTried_0 : decode prog_5_method_16_code 0 = .ok (.aload_n 0, 1) := by decide +kernel
theorem d_Planner_costOfTried_1 : decode prog_5_method_16_code 1 = .ok (.getfield 25, 3) := by decide +kernel
theorem d_Planner_costOfTried_4 : decode prog_5_method_16_code 4 = .ok (.aload_n 0, 1) := by decide +kernel
theorem d_Planner_costOfTried_5 : decode prog_5_method_16_code 5 = .ok (.getfield 43, 3) := by decide +kernel
theorem d_Planner_costOfTried_8 : decode prog_5_method_16_code 8 = .ok (.iconst 0, 1) := by decide +kernel
theorem d_Planner_costOfTried_9 : decode prog_5_method_16_code 9 = .ok (.iaload, 1) := by decide +kernel
theorem d_Planner_costOfTried_10 : decode prog_5_method_16_code 10 = .ok (.iaload, 1) := by decide +kernel
theorem d_Planner_costOfTried_11 : decode prog_5_method_16_code 11 = .ok (.istore_n 1, 1) := by decide +kernel
theorem d_Planner_costOfTried_12 : decode prog_5_method_16_code 12 = .ok (.iconst 1, 1) := by decide +kernel
theorem d_Planner_costOfTried_13 : decode prog_5_method_16_code 13 = .ok (.aload_n 0, 1) := by decide +kernel
theorem d_Planner_costOfTried_14 : decode prog_5_method_16_code 14 = .ok (.getfield 43, 3) := by decide +kernel
theorem d_Planner_costOfTried_17 : decode prog_5_method_16_code 17 = .ok (.iconst 0, 1) := by decide +kernel
theorem d_Planner_costOfTried_18 : decode prog_5_method_16_code 18 = .ok (.iaload, 1) := by decide +kernel
theorem d_Planner_costOfTried_19 : decode prog_5_method_16_code 19 = .ok (.ishl, 1) := by decide +kernel
theorem d_Planner_costOfTried_20 : decode prog_5_method_16_code 20 = .ok (.istore_n 2, 1) := by decide +kernel
theorem d_Planner_costOfTried_21 : decode prog_5_method_16_code 21 = .ok (.iconst 0, 1) := by decide +kernel
theorem d_Planner_costOfTried_22 : decode prog_5_method_16_code 22 = .ok (.istore_n 3, 1) := by decide +kernel
theorem d_Planner_costOfTried_23 : decode prog_5_method_16_code 23 = .ok (.iconst 1, 1) := by decide +kernel
theorem d_Planner_costOfTried_24 : decode prog_5_method_16_code 24 = .ok (.istore 4, 2) := by decide +kernel
theorem d_Planner_costOfTried_26 : decode prog_5_method_16_code 26 = .ok (.iload 4, 2) := by decide +kernel
theorem d_Planner_costOfTried_28 : decode prog_5_method_16_code 28 = .ok (.aload_n 0, 1) := by decide +kernel
theorem d_Planner_costOfTried_29 : decode prog_5_method_16_code 29 = .ok (.getfield 127, 3) := by decide +kernel
theorem d_Planner_costOfTried_32 : decode prog_5_method_16_code 32 = .ok (.if_icmp .ge 101, 3) := by decide +kernel
theorem d_Planner_costOfTried_35 : decode prog_5_method_16_code 35 = .ok (.aload_n 0, 1) := by decide +kernel
theorem d_Planner_costOfTried_36 : decode prog_5_method_16_code 36 = .ok (.getfield 43, 3) := by decide +kernel
theorem d_Planner_costOfTried_39 : decode prog_5_method_16_code 39 = .ok (.iload 4, 2) := by decide +kernel
theorem d_Planner_costOfTried_41 : decode prog_5_method_16_code 41 = .ok (.iaload, 1) := by decide +kernel
theorem d_Planner_costOfTried_42 : decode prog_5_method_16_code 42 = .ok (.istore 5, 2) := by decide +kernel
theorem d_Planner_costOfTried_44 : decode prog_5_method_16_code 44 = .ok (.iload_n 1, 1) := by decide +kernel
theorem d_Planner_costOfTried_45 : decode prog_5_method_16_code 45 = .ok (.aload_n 0, 1) := by decide +kernel
theorem d_Planner_costOfTried_46 : decode prog_5_method_16_code 46 = .ok (.getfield 25, 3) := by decide +kernel
theorem d_Planner_costOfTried_49 : decode prog_5_method_16_code 49 = .ok (.iload 5, 2) := by decide +kernel
theorem d_Planner_costOfTried_51 : decode prog_5_method_16_code 51 = .ok (.iaload, 1) := by decide +kernel
theorem d_Planner_costOfTried_52 : decode prog_5_method_16_code 52 = .ok (.imul, 1) := by decide +kernel
theorem d_Planner_costOfTried_53 : decode prog_5_method_16_code 53 = .ok (.istore_n 1, 1) := by decide +kernel
theorem d_Planner_costOfTried_54 : decode prog_5_method_16_code 54 = .ok (.iconst 0, 1) := by decide +kernel
theorem d_Planner_costOfTried_55 : decode prog_5_method_16_code 55 = .ok (.istore 6, 2) := by decide +kernel
theorem d_Planner_costOfTried_57 : decode prog_5_method_16_code 57 = .ok (.iload 6, 2) := by decide +kernel
theorem d_Planner_costOfTried_59 : decode prog_5_method_16_code 59 = .ok (.aload_n 0, 1) := by decide +kernel
theorem d_Planner_costOfTried_60 : decode prog_5_method_16_code 60 = .ok (.getfield 142, 3) := by decide +kernel
theorem d_Planner_costOfTried_63 : decode prog_5_method_16_code 63 = .ok (.if_icmp .ge 53, 3) := by decide +kernel
theorem d_Planner_costOfTried_66 : decode prog_5_method_16_code 66 = .ok (.aload_n 0, 1) := by decide +kernel
theorem d_Planner_costOfTried_67 : decode prog_5_method_16_code 67 = .ok (.iload 6, 2) := by decide +kernel
theorem d_Planner_costOfTried_69 : decode prog_5_method_16_code 69 = .ok (.iload 5, 2) := by decide +kernel
theorem d_Planner_costOfTried_71 : decode prog_5_method_16_code 71 = .ok (.iload_n 2, 1) := by decide +kernel
theorem d_Planner_costOfTried_72 : decode prog_5_method_16_code 72 = .ok (.invokevirtual 174, 3) := by decide +kernel
theorem d_Planner_costOfTried_75 : decode prog_5_method_16_code 75 = .ok (.ifCond .eq 35, 3) := by decide +kernel
theorem d_Planner_costOfTried_78 : decode prog_5_method_16_code 78 = .ok (.iload_n 1, 1) := by decide +kernel
theorem d_Planner_costOfTried_79 : decode prog_5_method_16_code 79 = .ok (.aload_n 0, 1) := by decide +kernel
theorem d_Planner_costOfTried_80 : decode prog_5_method_16_code 80 = .ok (.getfield 34, 3) := by decide +kernel
theorem d_Planner_costOfTried_83 : decode prog_5_method_16_code 83 = .ok (.aload_n 0, 1) := by decide +kernel
theorem d_Planner_costOfTried_84 : decode prog_5_method_16_code 84 = .ok (.getfield 37, 3) := by decide +kernel
theorem d_Planner_costOfTried_87 : decode prog_5_method_16_code 87 = .ok (.iload 6, 2) := by decide +kernel
theorem d_Planner_costOfTried_89 : decode prog_5_method_16_code 89 = .ok (.iaload, 1) := by decide +kernel
theorem d_Planner_costOfTried_90 : decode prog_5_method_16_code 90 = .ok (.iaload, 1) := by decide +kernel
theorem d_Planner_costOfTried_91 : decode prog_5_method_16_code 91 = .ok (.aload_n 0, 1) := by decide +kernel
theorem d_Planner_costOfTried_92 : decode prog_5_method_16_code 92 = .ok (.getfield 34, 3) := by decide +kernel
theorem d_Planner_costOfTried_95 : decode prog_5_method_16_code 95 = .ok (.aload_n 0, 1) := by decide +kernel
theorem d_Planner_costOfTried_96 : decode prog_5_method_16_code 96 = .ok (.getfield 40, 3) := by decide +kernel
theorem d_Planner_costOfTried_99 : decode prog_5_method_16_code 99 = .ok (.iload 6, 2) := by decide +kernel
theorem d_Planner_costOfTried_101 : decode prog_5_method_16_code 101 = .ok (.iaload, 1) := by decide +kernel
theorem d_Planner_costOfTried_102 : decode prog_5_method_16_code 102 = .ok (.iaload, 1) := by decide +kernel
theorem d_Planner_costOfTried_103 : decode prog_5_method_16_code 103 = .ok (.invokestatic 137, 3) := by decide +kernel
theorem d_Planner_costOfTried_106 : decode prog_5_method_16_code 106 = .ok (.invokestatic 134, 3) := by decide +kernel
theorem d_Planner_costOfTried_109 : decode prog_5_method_16_code 109 = .ok (.istore_n 1, 1) := by decide +kernel
theorem d_Planner_costOfTried_110 : decode prog_5_method_16_code 110 = .ok (.iinc 6 1, 3) := by decide +kernel
theorem d_Planner_costOfTried_113 : decode prog_5_method_16_code 113 = .ok (.goto (-56), 3) := by decide +kernel
theorem d_Planner_costOfTried_116 : decode prog_5_method_16_code 116 = .ok (.iload_n 3, 1) := by decide +kernel
theorem d_Planner_costOfTried_117 : decode prog_5_method_16_code 117 = .ok (.iload_n 1, 1) := by decide +kernel
theorem d_Planner_costOfTried_118 : decode prog_5_method_16_code 118 = .ok (.iadd, 1) := by decide +kernel
theorem d_Planner_costOfTried_119 : decode prog_5_method_16_code 119 = .ok (.istore_n 3, 1) := by decide +kernel
theorem d_Planner_costOfTried_120 : decode prog_5_method_16_code 120 = .ok (.iload_n 2, 1) := by decide +kernel
theorem d_Planner_costOfTried_121 : decode prog_5_method_16_code 121 = .ok (.iconst 1, 1) := by decide +kernel
theorem d_Planner_costOfTried_122 : decode prog_5_method_16_code 122 = .ok (.iload 5, 2) := by decide +kernel
theorem d_Planner_costOfTried_124 : decode prog_5_method_16_code 124 = .ok (.ishl, 1) := by decide +kernel
theorem d_Planner_costOfTried_125 : decode prog_5_method_16_code 125 = .ok (.ior, 1) := by decide +kernel
theorem d_Planner_costOfTried_126 : decode prog_5_method_16_code 126 = .ok (.istore_n 2, 1) := by decide +kernel
theorem d_Planner_costOfTried_127 : decode prog_5_method_16_code 127 = .ok (.iinc 4 1, 3) := by decide +kernel
theorem d_Planner_costOfTried_130 : decode prog_5_method_16_code 130 = .ok (.goto (-104), 3) := by decide +kernel
theorem d_Planner_costOfTried_133 : decode prog_5_method_16_code 133 = .ok (.iload_n 3, 1) := by decide +kernel
theorem d_Planner_costOfTried_134 : decode prog_5_method_16_code 134 = .ok (.ireturn, 1) := by decide +kernel
theorem d_Planner_connects_0 : decode prog_5_method_17_code 0 = .ok (.aload_n 0, 1) := by decide +kernel
theorem d_Planner_connects_1 : decode prog_5_method_17_code 1 = .ok (.getfield 31, 3) := by decide +kernel
theorem d_Planner_connects_4 : decode prog_5_method_17_code 4 = .ok (.aload_n 0, 1) := by decide +kernel
theorem d_Planner_connects_5 : decode prog_5_method_17_code 5 = .ok (.getfield 37, 3) := by decide +kernel
theorem d_Planner_connects_8 : decode prog_5_method_17_code 8 = .ok (.iload_n 1, 1) := by decide +kernel
theorem d_Planner_connects_9 : decode prog_5_method_17_code 9 = .ok (.iaload, 1) := by decide +kernel
theorem d_Planner_connects_10 : decode prog_5_method_17_code 10 = .ok (.iaload, 1) := by decide +kernel
theorem d_Planner_connects_11 : decode prog_5_method_17_code 11 = .ok (.istore 4, 2) := by decide +kernel
theorem d_Planner_connects_13 : decode prog_5_method_17_code 13 = .ok (.aload_n 0, 1) := by decide +kernel
theorem d_Planner_connects_14 : decode prog_5_method_17_code 14 = .ok (.getfield 31, 3) := by decide +kernel
theorem d_Planner_connects_17 : decode prog_5_method_17_code 17 = .ok (.aload_n 0, 1) := by decide +kernel
theorem d_Planner_connects_18 : decode prog_5_method_17_code 18 = .ok (.getfield 40, 3) := by decide +kernel
theorem d_Planner_connects_21 : decode prog_5_method_17_code 21 = .ok (.iload_n 1, 1) := by decide +kernel
theorem d_Planner_connects_22 : decode prog_5_method_17_code 22 = .ok (.iaload, 1) := by decide +kernel
theorem d_Planner_connects_23 : decode prog_5_method_17_code 23 = .ok (.iaload, 1) := by decide +kernel
theorem d_Planner_connects_24 : decode prog_5_method_17_code 24 = .ok (.istore 5, 2) := by decide +kernel
theorem d_Planner_connects_26 : decode prog_5_method_17_code 26 = .ok (.iload 4, 2) := by decide +kernel
theorem d_Planner_connects_28 : decode prog_5_method_17_code 28 = .ok (.iload_n 2, 1) := by decide +kernel
theorem d_Planner_connects_29 : decode prog_5_method_17_code 29 = .ok (.if_icmp .ne 12, 3) := by decide +kernel
theorem d_Planner_connects_32 : decode prog_5_method_17_code 32 = .ok (.iload_n 3, 1) := by decide +kernel
theorem d_Planner_connects_33 : decode prog_5_method_17_code 33 = .ok (.iload 5, 2) := by decide +kernel
theorem d_Planner_connects_35 : decode prog_5_method_17_code 35 = .ok (.ishr, 1) := by decide +kernel
theorem d_Planner_connects_36 : decode prog_5_method_17_code 36 = .ok (.iconst 1, 1) := by decide +kernel
theorem d_Planner_connects_37 : decode prog_5_method_17_code 37 = .ok (.iand, 1) := by decide +kernel
theorem d_Planner_connects_38 : decode prog_5_method_17_code 38 = .ok (.ifCond .ne 18, 3) := by decide +kernel
theorem d_Planner_connects_41 : decode prog_5_method_17_code 41 = .ok (.iload 5, 2) := by decide +kernel
theorem d_Planner_connects_43 : decode prog_5_method_17_code 43 = .ok (.iload_n 2, 1) := by decide +kernel
theorem d_Planner_connects_44 : decode prog_5_method_17_code 44 = .ok (.if_icmp .ne 16, 3) := by decide +kernel
theorem d_Planner_connects_47 : decode prog_5_method_17_code 47 = .ok (.iload_n 3, 1) := by decide +kernel
theorem d_Planner_connects_48 : decode prog_5_method_17_code 48 = .ok (.iload 4, 2) := by decide +kernel
theorem d_Planner_connects_50 : decode prog_5_method_17_code 50 = .ok (.ishr, 1) := by decide +kernel
theorem d_Planner_connects_51 : decode prog_5_method_17_code 51 = .ok (.iconst 1, 1) := by decide +kernel
theorem d_Planner_connects_52 : decode prog_5_method_17_code 52 = .ok (.iand, 1) := by decide +kernel
theorem d_Planner_connects_53 : decode prog_5_method_17_code 53 = .ok (.ifCond .eq 7, 3) := by decide +kernel
theorem d_Planner_connects_56 : decode prog_5_method_17_code 56 = .ok (.iconst 1, 1) := by decide +kernel
theorem d_Planner_connects_57 : decode prog_5_method_17_code 57 = .ok (.goto 4, 3) := by decide +kernel
theorem d_Planner_connects_60 : decode prog_5_method_17_code 60 = .ok (.iconst 0, 1) := by decide +kernel
theorem d_Planner_connects_61 : decode prog_5_method_17_code 61 = .ok (.ireturn, 1) := by decide +kernel
theorem d_Query_isViewable_0 : decode prog_6_method_17_code 0 = .ok (.iconst 0, 1) := by decide +kernel
theorem d_Query_isViewable_1 : decode prog_6_method_17_code 1 = .ok (.istore_n 1, 1) := by decide +kernel
theorem d_Query_isViewable_2 : decode prog_6_method_17_code 2 = .ok (.iload_n 1, 1) := by decide +kernel
theorem d_Query_isViewable_3 : decode prog_6_method_17_code 3 = .ok (.aload_n 0, 1) := by decide +kernel
theorem d_Query_isViewable_4 : decode prog_6_method_17_code 4 = .ok (.getfield 33, 3) := by decide +kernel
theorem d_Query_isViewable_7 : decode prog_6_method_17_code 7 = .ok (.if_icmp .ge 74, 3) := by decide +kernel
theorem d_Query_isViewable_10 : decode prog_6_method_17_code 10 = .ok (.aload_n 0, 1) := by decide +kernel
theorem d_Query_isViewable_11 : decode prog_6_method_17_code 11 = .ok (.getfield 9, 3) := by decide +kernel
theorem d_Query_isViewable_14 : decode prog_6_method_17_code 14 = .ok (.iload_n 1, 1) := by decide +kernel
theorem d_Query_isViewable_15 : decode prog_6_method_17_code 15 = .ok (.iaload, 1) := by decide +kernel
theorem d_Query_isViewable_16 : decode prog_6_method_17_code 16 = .ok (.ifCond .eq 29, 3) := by decide +kernel
theorem d_Query_isViewable_19 : decode prog_6_method_17_code 19 = .ok (.aload_n 0, 1) := by decide +kernel
theorem d_Query_isViewable_20 : decode prog_6_method_17_code 20 = .ok (.iload_n 1, 1) := by decide +kernel
theorem d_Query_isViewable_21 : decode prog_6_method_17_code 21 = .ok (.invokevirtual 64, 3) := by decide +kernel
theorem d_Query_isViewable_24 : decode prog_6_method_17_code 24 = .ok (.ifCond .ne 21, 3) := by decide +kernel
theorem d_Query_isViewable_27 : decode prog_6_method_17_code 27 = .ok (.aload_n 0, 1) := by decide +kernel
theorem d_Query_isViewable_28 : decode prog_6_method_17_code 28 = .ok (.getfield 9, 3) := by decide +kernel
theorem d_Query_isViewable_31 : decode prog_6_method_17_code 31 = .ok (.iload_n 1, 1) := by decide +kernel
theorem d_Query_isViewable_32 : decode prog_6_method_17_code 32 = .ok (.iaload, 1) := by decide +kernel
theorem d_Query_isViewable_33 : decode prog_6_method_17_code 33 = .ok (.iconst 5, 1) := by decide +kernel
theorem d_Query_isViewable_34 : decode prog_6_method_17_code 34 = .ok (.if_icmp .eq 11, 3) := by decide +kernel
theorem d_Query_isViewable_37 : decode prog_6_method_17_code 37 = .ok (.aload_n 0, 1) := by decide +kernel
theorem d_Query_isViewable_38 : decode prog_6_method_17_code 38 = .ok (.iload_n 1, 1) := by decide +kernel
theorem d_Query_isViewable_39 : decode prog_6_method_17_code 39 = .ok (.invokevirtual 81, 3) := by decide +kernel
theorem d_Query_isViewable_42 : decode prog_6_method_17_code 42 = .ok (.ifCond .eq 7, 3) := by decide +kernel
theorem d_Query_isViewable_45 : decode prog_6_method_17_code 45 = .ok (.iconst 1, 1) := by decide +kernel
theorem d_Query_isViewable_46 : decode prog_6_method_17_code 46 = .ok (.goto 4, 3) := by decide +kernel
theorem d_Query_isViewable_49 : decode prog_6_method_17_code 49 = .ok (.iconst 0, 1) := by decide +kernel
theorem d_Query_isViewable_50 : decode prog_6_method_17_code 50 = .ok (.istore_n 2, 1) := by decide +kernel
theorem d_Query_isViewable_51 : decode prog_6_method_17_code 51 = .ok (.iload_n 2, 1) := by decide +kernel
theorem d_Query_isViewable_52 : decode prog_6_method_17_code 52 = .ok (.ifCond .ne 23, 3) := by decide +kernel
theorem d_Query_isViewable_55 : decode prog_6_method_17_code 55 = .ok (.iload_n 1, 1) := by decide +kernel
theorem d_Query_isViewable_56 : decode prog_6_method_17_code 56 = .ok (.aload_n 0, 1) := by decide +kernel
theorem d_Query_isViewable_57 : decode prog_6_method_17_code 57 = .ok (.getfield 33, 3) := by decide +kernel
theorem d_Query_isViewable_60 : decode prog_6_method_17_code 60 = .ok (.iconst 1, 1) := by decide +kernel
theorem d_Query_isViewable_61 : decode prog_6_method_17_code 61 = .ok (.isub, 1) := by decide +kernel
theorem d_Query_isViewable_62 : decode prog_6_method_17_code 62 = .ok (.if_icmp .ne 11, 3) := by decide +kernel
theorem d_Query_isViewable_65 : decode prog_6_method_17_code 65 = .ok (.aload_n 0, 1) := by decide +kernel
theorem d_Query_isViewable_66 : decode prog_6_method_17_code 66 = .ok (.iload_n 1, 1) := by decide +kernel
theorem d_Query_isViewable_67 : decode prog_6_method_17_code 67 = .ok (.invokevirtual 84, 3) := by decide +kernel
theorem d_Query_isViewable_70 : decode prog_6_method_17_code 70 = .ok (.ifCond .ne 5, 3) := by decide +kernel
theorem d_Query_isViewable_73 : decode prog_6_method_17_code 73 = .ok (.iconst 0, 1) := by decide +kernel
theorem d_Query_isViewable_74 : decode prog_6_method_17_code 74 = .ok (.ireturn, 1) := by decide +kernel
theorem d_Query_isViewable_75 : decode prog_6_method_17_code 75 = .ok (.iinc 1 1, 3) := by decide +kernel
theorem d_Query_isViewable_78 : decode prog_6_method_17_code 78 = .ok (.goto (-76), 3) := by decide +kernel
theorem d_Query_isViewable_81 : decode prog_6_method_17_code 81 = .ok (.iconst 1, 1) := by decide +kernel
theorem d_Query_isViewable_82 : decode prog_6_method_17_code 82 = .ok (.ireturn, 1) := by decide +kernel
theorem d_Query_isViewableGroup_0 : decode prog_6_method_18_code 0 = .ok (.aload_n 0, 1) := by decide +kernel
theorem d_Query_isViewableGroup_1 : decode prog_6_method_18_code 1 = .ok (.iload_n 1, 1) := by decide +kernel
theorem d_Query_isViewableGroup_2 : decode prog_6_method_18_code 2 = .ok (.iconst 1, 1) := by decide +kernel
theorem d_Query_isViewableGroup_3 : decode prog_6_method_18_code 3 = .ok (.invokevirtual 56, 3) := by decide +kernel
theorem d_Query_isViewableGroup_6 : decode prog_6_method_18_code 6 = .ok (.istore_n 2, 1) := by decide +kernel
theorem d_Query_isViewableGroup_7 : decode prog_6_method_18_code 7 = .ok (.aload_n 0, 1) := by decide +kernel
theorem d_Query_isViewableGroup_8 : decode prog_6_method_18_code 8 = .ok (.getfield 9, 3) := by decide +kernel
theorem d_Query_isViewableGroup_11 : decode prog_6_method_18_code 11 = .ok (.iload_n 1, 1) := by decide +kernel
theorem d_Query_isViewableGroup_12 : decode prog_6_method_18_code 12 = .ok (.iaload, 1) := by decide +kernel
theorem d_Query_isViewableGroup_13 : decode prog_6_method_18_code 13 = .ok (.bipush 6, 2) := by decide +kernel
theorem d_Query_isViewableGroup_15 : decode prog_6_method_18_code 15 = .ok (.if_icmp .ne 26, 3) := by decide +kernel
theorem d_Query_isViewableGroup_18 : decode prog_6_method_18_code 18 = .ok (.aload_n 0, 1) := by decide +kernel
theorem d_Query_isViewableGroup_19 : decode prog_6_method_18_code 19 = .ok (.iload_n 1, 1) := by decide +kernel
theorem d_Query_isViewableGroup_20 : decode prog_6_method_18_code 20 = .ok (.iconst 0, 1) := by decide +kernel
theorem d_Query_isViewableGroup_21 : decode prog_6_method_18_code 21 = .ok (.invokevirtual 56, 3) := by decide +kernel
theorem d_Query_isViewableGroup_24 : decode prog_6_method_18_code 24 = .ok (.iconst (-1), 1) := by decide +kernel
theorem d_Query_isViewableGroup_25 : decode prog_6_method_18_code 25 = .ok (.if_icmp .eq 16, 3) := by decide +kernel
theorem d_Query_isViewableGroup_28 : decode prog_6_method_18_code 28 = .ok (.iload_n 2, 1) := by decide +kernel
theorem d_Query_isViewableGroup_29 : decode prog_6_method_18_code 29 = .ok (.ifCond .eq 8, 3) := by decide +kernel
theorem d_Query_isViewableGroup_32 : decode prog_6_method_18_code 32 = .ok (.iload_n 2, 1) := by decide +kernel
theorem d_Query_isViewableGroup_33 : decode prog_6_method_18_code 33 = .ok (.iconst 1, 1) := by decide +kernel
theorem d_Query_isViewableGroup_34 : decode prog_6_method_18_code 34 = .ok (.if_icmp .ne 7, 3) := by decide +kernel
theorem d_Query_isViewableGroup_37 : decode prog_6_method_18_code 37 = .ok (.iconst 1, 1) := by decide +kernel
theorem d_Query_isViewableGroup_38 : decode prog_6_method_18_code 38 = .ok (.goto 4, 3) := by decide +kernel
theorem d_Query_isViewableGroup_41 : decode prog_6_method_18_code 41 = .ok (.iconst 0, 1) := by decide +kernel
theorem d_Query_isViewableGroup_42 : decode prog_6_method_18_code 42 = .ok (.ireturn, 1) := by decide +kernel
theorem d_Log_cut_0 : decode prog_4_method_5_code 0 = .ok (.aload_n 0, 1) := by decide +kernel
theorem d_Log_cut_1 : decode prog_4_method_5_code 1 = .ok (.iload_n 1, 1) := by decide +kernel
theorem d_Log_cut_2 : decode prog_4_method_5_code 2 = .ok (.putfield 22, 3) := by decide +kernel
theorem d_Log_cut_5 : decode prog_4_method_5_code 5 = .ok (.return_, 1) := by decide +kernel
theorem d_Log_markLeftOpen_0 : decode prog_4_method_12_code 0 = .ok (.iconst 0, 1) := by decide +kernel
theorem d_Log_markLeftOpen_1 : decode prog_4_method_12_code 1 = .ok (.istore_n 1, 1) := by decide +kernel
theorem d_Log_markLeftOpen_2 : decode prog_4_method_12_code 2 = .ok (.iload_n 1, 1) := by decide +kernel
theorem d_Log_markLeftOpen_3 : decode prog_4_method_12_code 3 = .ok (.aload_n 0, 1) := by decide +kernel
theorem d_Log_markLeftOpen_4 : decode prog_4_method_12_code 4 = .ok (.getfield 19, 3) := by decide +kernel
theorem d_Log_markLeftOpen_7 : decode prog_4_method_12_code 7 = .ok (.arraylength, 1) := by decide +kernel
theorem d_Log_markLeftOpen_8 : decode prog_4_method_12_code 8 = .ok (.if_icmp .ge 16, 3) := by decide +kernel
theorem d_Log_markLeftOpen_11 : decode prog_4_method_12_code 11 = .ok (.aload_n 0, 1) := by decide +kernel
theorem d_Log_markLeftOpen_12 : decode prog_4_method_12_code 12 = .ok (.getfield 19, 3) := by decide +kernel
theorem d_Log_markLeftOpen_15 : decode prog_4_method_12_code 15 = .ok (.iload_n 1, 1) := by decide +kernel
theorem d_Log_markLeftOpen_16 : decode prog_4_method_12_code 16 = .ok (.iconst 0, 1) := by decide +kernel
theorem d_Log_markLeftOpen_17 : decode prog_4_method_12_code 17 = .ok (.bastore, 1) := by decide +kernel
theorem d_Log_markLeftOpen_18 : decode prog_4_method_12_code 18 = .ok (.iinc 1 1, 3) := by decide +kernel
theorem d_Log_markLeftOpen_21 : decode prog_4_method_12_code 21 = .ok (.goto (-19), 3) := by decide +kernel
theorem d_Log_markLeftOpen_24 : decode prog_4_method_12_code 24 = .ok (.iconst 0, 1) := by decide +kernel
theorem d_Log_markLeftOpen_25 : decode prog_4_method_12_code 25 = .ok (.istore_n 1, 1) := by decide +kernel
theorem d_Log_markLeftOpen_26 : decode prog_4_method_12_code 26 = .ok (.iload_n 1, 1) := by decide +kernel
theorem d_Log_markLeftOpen_27 : decode prog_4_method_12_code 27 = .ok (.aload_n 0, 1) := by decide +kernel
theorem d_Log_markLeftOpen_28 : decode prog_4_method_12_code 28 = .ok (.getfield 22, 3) := by decide +kernel
theorem d_Log_markLeftOpen_31 : decode prog_4_method_12_code 31 = .ok (.if_icmp .ge 54, 3) := by decide +kernel
theorem d_Log_markLeftOpen_34 : decode prog_4_method_12_code 34 = .ok (.aload_n 0, 1) := by decide +kernel
theorem d_Log_markLeftOpen_35 : decode prog_4_method_12_code 35 = .ok (.iload_n 1, 1) := by decide +kernel
theorem d_Log_markLeftOpen_36 : decode prog_4_method_12_code 36 = .ok (.invokevirtual 63, 3) := by decide +kernel
theorem d_Log_markLeftOpen_39 : decode prog_4_method_12_code 39 = .ok (.istore_n 2, 1) := by decide +kernel
theorem d_Log_markLeftOpen_40 : decode prog_4_method_12_code 40 = .ok (.iload_n 2, 1) := by decide +kernel
theorem d_Log_markLeftOpen_41 : decode prog_4_method_12_code 41 = .ok (.ifCond .ne 17, 3) := by decide +kernel
theorem d_Log_markLeftOpen_44 : decode prog_4_method_12_code 44 = .ok (.aload_n 0, 1) := by decide +kernel
theorem d_Log_markLeftOpen_45 : decode prog_4_method_12_code 45 = .ok (.getfield 19, 3) := by decide +kernel
theorem d_Log_markLeftOpen_48 : decode prog_4_method_12_code 48 = .ok (.aload_n 0, 1) := by decide +kernel
theorem d_Log_markLeftOpen_49 : decode prog_4_method_12_code 49 = .ok (.iload_n 1, 1) := by decide +kernel
theorem d_Log_markLeftOpen_50 : decode prog_4_method_12_code 50 = .ok (.invokevirtual 66, 3) := by decide +kernel
theorem d_Log_markLeftOpen_53 : decode prog_4_method_12_code 53 = .ok (.iconst 1, 1) := by decide +kernel
theorem d_Log_markLeftOpen_54 : decode prog_4_method_12_code 54 = .ok (.bastore, 1) := by decide +kernel
theorem d_Log_markLeftOpen_55 : decode prog_4_method_12_code 55 = .ok (.goto 24, 3) := by decide +kernel
theorem d_Log_markLeftOpen_58 : decode prog_4_method_12_code 58 = .ok (.iload_n 2, 1) := by decide +kernel
theorem d_Log_markLeftOpen_59 : decode prog_4_method_12_code 59 = .ok (.iconst 1, 1) := by decide +kernel
theorem d_Log_markLeftOpen_60 : decode prog_4_method_12_code 60 = .ok (.if_icmp .eq 8, 3) := by decide +kernel
theorem d_Log_markLeftOpen_63 : decode prog_4_method_12_code 63 = .ok (.iload_n 2, 1) := by decide +kernel
theorem d_Log_markLeftOpen_64 : decode prog_4_method_12_code 64 = .ok (.iconst 3, 1) := by decide +kernel
theorem d_Log_markLeftOpen_65 : decode prog_4_method_12_code 65 = .ok (.if_icmp .ne 14, 3) := by decide +kernel
theorem d_Log_markLeftOpen_68 : decode prog_4_method_12_code 68 = .ok (.aload_n 0, 1) := by decide +kernel
theorem d_Log_markLeftOpen_69 : decode prog_4_method_12_code 69 = .ok (.getfield 19, 3) := by decide +kernel
theorem d_Log_markLeftOpen_72 : decode prog_4_method_12_code 72 = .ok (.aload_n 0, 1) := by decide +kernel
theorem d_Log_markLeftOpen_73 : decode prog_4_method_12_code 73 = .ok (.iload_n 1, 1) := by decide +kernel
theorem d_Log_markLeftOpen_74 : decode prog_4_method_12_code 74 = .ok (.invokevirtual 66, 3) := by decide +kernel
theorem d_Log_markLeftOpen_77 : decode prog_4_method_12_code 77 = .ok (.iconst 0, 1) := by decide +kernel
theorem d_Log_markLeftOpen_78 : decode prog_4_method_12_code 78 = .ok (.bastore, 1) := by decide +kernel
theorem d_Log_markLeftOpen_79 : decode prog_4_method_12_code 79 = .ok (.iinc 1 1, 3) := by decide +kernel
theorem d_Log_markLeftOpen_82 : decode prog_4_method_12_code 82 = .ok (.goto (-56), 3) := by decide +kernel
theorem d_Log_markLeftOpen_85 : decode prog_4_method_12_code 85 = .ok (.return_, 1) := by decide +kernel
theorem d_Log_holds_0 : decode prog_4_method_6_code 0 = .ok (.iload_n 1, 1) := by decide +kernel
theorem d_Log_holds_1 : decode prog_4_method_6_code 1 = .ok (.ifCond .lt 15, 3) := by decide +kernel
theorem d_Log_holds_4 : decode prog_4_method_6_code 4 = .ok (.iload_n 1, 1) := by decide +kernel
theorem d_Log_holds_5 : decode prog_4_method_6_code 5 = .ok (.aload_n 0, 1) := by decide +kernel
theorem d_Log_holds_6 : decode prog_4_method_6_code 6 = .ok (.getfield 22, 3) := by decide +kernel
theorem d_Log_holds_9 : decode prog_4_method_6_code 9 = .ok (.if_icmp .ge 7, 3) := by decide +kernel
theorem d_Log_holds_12 : decode prog_4_method_6_code 12 = .ok (.iconst 1, 1) := by decide +kernel
theorem d_Log_holds_13 : decode prog_4_method_6_code 13 = .ok (.goto 4, 3) := by decide +kernel
theorem d_Log_holds_16 : decode prog_4_method_6_code 16 = .ok (.iconst 0, 1) := by decide +kernel
theorem d_Log_holds_17 : decode prog_4_method_6_code 17 = .ok (.ireturn, 1) := by decide +kernel
