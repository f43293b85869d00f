theorem d_F_init_0 : decode prog_1_method_1_code 0 = .ok (.aload_n 0, 1) := by decide +kernel
theorem d_F_init_1 : decode prog_1_method_1_code 1 = .ok (.invokespecial 3, 3) := by decide +kernel
theorem d_F_init_4 : decode prog_1_method_1_code 4 = .ok (.aload_n 0, 1) := by decide +kernel
theorem d_F_init_5 : decode prog_1_method_1_code 5 = .ok (.new 9, 3) := by decide +kernel
theorem d_F_init_8 : decode prog_1_method_1_code 8 = .ok (.dup, 1) := by decide +kernel
theorem d_F_init_9 : decode prog_1_method_1_code 9 = .ok (.invokespecial 11, 3) := by decide +kernel
theorem d_F_init_12 : decode prog_1_method_1_code 12 = .ok (.putfield 12, 3) := by decide +kernel
theorem d_F_init_15 : decode prog_1_method_1_code 15 = .ok (.aload_n 0, 1) := by decide +kernel
theorem d_F_init_16 : decode prog_1_method_1_code 16 = .ok (.new 16, 3) := by decide +kernel
theorem d_F_init_19 : decode prog_1_method_1_code 19 = .ok (.dup, 1) := by decide +kernel
theorem d_F_init_20 : decode prog_1_method_1_code 20 = .ok (.aload_n 0, 1) := by decide +kernel
theorem d_F_init_21 : decode prog_1_method_1_code 21 = .ok (.getfield 12, 3) := by decide +kernel
theorem d_F_init_24 : decode prog_1_method_1_code 24 = .ok (.invokespecial 18, 3) := by decide +kernel
theorem d_F_init_27 : decode prog_1_method_1_code 27 = .ok (.putfield 21, 3) := by decide +kernel
theorem d_F_init_30 : decode prog_1_method_1_code 30 = .ok (.aload_n 0, 1) := by decide +kernel
theorem d_F_init_31 : decode prog_1_method_1_code 31 = .ok (.new 25, 3) := by decide +kernel
theorem d_F_init_34 : decode prog_1_method_1_code 34 = .ok (.dup, 1) := by decide +kernel
theorem d_F_init_35 : decode prog_1_method_1_code 35 = .ok (.aload_n 0, 1) := by decide +kernel
theorem d_F_init_36 : decode prog_1_method_1_code 36 = .ok (.getfield 12, 3) := by decide +kernel
theorem d_F_init_39 : decode prog_1_method_1_code 39 = .ok (.invokespecial 27, 3) := by decide +kernel
theorem d_F_init_42 : decode prog_1_method_1_code 42 = .ok (.putfield 28, 3) := by decide +kernel
theorem d_F_init_45 : decode prog_1_method_1_code 45 = .ok (.aload_n 0, 1) := by decide +kernel
theorem d_F_init_46 : decode prog_1_method_1_code 46 = .ok (.new 32, 3) := by decide +kernel
theorem d_F_init_49 : decode prog_1_method_1_code 49 = .ok (.dup, 1) := by decide +kernel
theorem d_F_init_50 : decode prog_1_method_1_code 50 = .ok (.invokespecial 34, 3) := by decide +kernel
theorem d_F_init_53 : decode prog_1_method_1_code 53 = .ok (.putfield 35, 3) := by decide +kernel
theorem d_F_init_56 : decode prog_1_method_1_code 56 = .ok (.aload_n 0, 1) := by decide +kernel
theorem d_F_init_57 : decode prog_1_method_1_code 57 = .ok (.new 39, 3) := by decide +kernel
theorem d_F_init_60 : decode prog_1_method_1_code 60 = .ok (.dup, 1) := by decide +kernel
theorem d_F_init_61 : decode prog_1_method_1_code 61 = .ok (.invokespecial 41, 3) := by decide +kernel
theorem d_F_init_64 : decode prog_1_method_1_code 64 = .ok (.putfield 42, 3) := by decide +kernel
theorem d_F_init_67 : decode prog_1_method_1_code 67 = .ok (.aload_n 0, 1) := by decide +kernel
theorem d_F_init_68 : decode prog_1_method_1_code 68 = .ok (.new 39, 3) := by decide +kernel
theorem d_F_init_71 : decode prog_1_method_1_code 71 = .ok (.dup, 1) := by decide +kernel
theorem d_F_init_72 : decode prog_1_method_1_code 72 = .ok (.invokespecial 41, 3) := by decide +kernel
theorem d_F_init_75 : decode prog_1_method_1_code 75 = .ok (.putfield 46, 3) := by decide +kernel
theorem d_F_init_78 : decode prog_1_method_1_code 78 = .ok (.aload_n 0, 1) := by decide +kernel
theorem d_F_init_79 : decode prog_1_method_1_code 79 = .ok (.new 39, 3) := by decide +kernel
theorem d_F_init_82 : decode prog_1_method_1_code 82 = .ok (.dup, 1) := by decide +kernel
theorem d_F_init_83 : decode prog_1_method_1_code 83 = .ok (.invokespecial 41, 3) := by decide +kernel
theorem d_F_init_86 : decode prog_1_method_1_code 86 = .ok (.putfield 49, 3) := by decide +kernel
theorem d_F_init_89 : decode prog_1_method_1_code 89 = .ok (.aload_n 0, 1) := by decide +kernel
theorem d_F_init_90 : decode prog_1_method_1_code 90 = .ok (.new 52, 3) := by decide +kernel
theorem d_F_init_93 : decode prog_1_method_1_code 93 = .ok (.dup, 1) := by decide +kernel
theorem d_F_init_94 : decode prog_1_method_1_code 94 = .ok (.invokespecial 54, 3) := by decide +kernel
theorem d_F_init_97 : decode prog_1_method_1_code 97 = .ok (.putfield 55, 3) := by decide +kernel
theorem d_F_init_100 : decode prog_1_method_1_code 100 = .ok (.aload_n 0, 1) := by decide +kernel
theorem d_F_init_101 : decode prog_1_method_1_code 101 = .ok (.iconst 4, 1) := by decide +kernel
theorem d_F_init_102 : decode prog_1_method_1_code 102 = .ok (.newarray .int, 2) := by decide +kernel
theorem d_F_init_104 : decode prog_1_method_1_code 104 = .ok (.putfield 59, 3) := by decide +kernel
theorem d_F_init_107 : decode prog_1_method_1_code 107 = .ok (.aload_n 0, 1) := by decide +kernel
theorem d_F_init_108 : decode prog_1_method_1_code 108 = .ok (.new 63, 3) := by decide +kernel
theorem d_F_init_111 : decode prog_1_method_1_code 111 = .ok (.dup, 1) := by decide +kernel
theorem d_F_init_112 : decode prog_1_method_1_code 112 = .ok (.invokespecial 65, 3) := by decide +kernel
theorem d_F_init_115 : decode prog_1_method_1_code 115 = .ok (.putfield 66, 3) := by decide +kernel
theorem d_F_init_118 : decode prog_1_method_1_code 118 = .ok (.return_, 1) := by decide +kernel
theorem d_Engine_init_0 : decode prog_2_method_1_code 0 = .ok (.aload_n 0, 1) := by decide +kernel
theorem d_Engine_init_1 : decode prog_2_method_1_code 1 = .ok (.invokespecial 3, 3) := by decide +kernel
theorem d_Engine_init_4 : decode prog_2_method_1_code 4 = .ok (.aload_n 0, 1) := by decide +kernel
theorem d_Engine_init_5 : decode prog_2_method_1_code 5 = .ok (.new 9, 3) := by decide +kernel
theorem d_Engine_init_8 : decode prog_2_method_1_code 8 = .ok (.dup, 1) := by decide +kernel
theorem d_Engine_init_9 : decode prog_2_method_1_code 9 = .ok (.invokespecial 11, 3) := by decide +kernel
theorem d_Engine_init_12 : decode prog_2_method_1_code 12 = .ok (.putfield 12, 3) := by decide +kernel
theorem d_Engine_init_15 : decode prog_2_method_1_code 15 = .ok (.aload_n 0, 1) := by decide +kernel
theorem d_Engine_init_16 : decode prog_2_method_1_code 16 = .ok (.new 18, 3) := by decide +kernel
theorem d_Engine_init_19 : decode prog_2_method_1_code 19 = .ok (.dup, 1) := by decide +kernel
theorem d_Engine_init_20 : decode prog_2_method_1_code 20 = .ok (.invokespecial 20, 3) := by decide +kernel
theorem d_Engine_init_23 : decode prog_2_method_1_code 23 = .ok (.putfield 21, 3) := by decide +kernel
theorem d_Engine_init_26 : decode prog_2_method_1_code 26 = .ok (.aload_n 0, 1) := by decide +kernel
theorem d_Engine_init_27 : decode prog_2_method_1_code 27 = .ok (.new 25, 3) := by decide +kernel
theorem d_Engine_init_30 : decode prog_2_method_1_code 30 = .ok (.dup, 1) := by decide +kernel
theorem d_Engine_init_31 : decode prog_2_method_1_code 31 = .ok (.invokespecial 27, 3) := by decide +kernel
theorem d_Engine_init_34 : decode prog_2_method_1_code 34 = .ok (.putfield 28, 3) := by decide +kernel
theorem d_Engine_init_37 : decode prog_2_method_1_code 37 = .ok (.aload_n 0, 1) := by decide +kernel
theorem d_Engine_init_38 : decode prog_2_method_1_code 38 = .ok (.sipush 12006, 3) := by decide +kernel
theorem d_Engine_init_41 : decode prog_2_method_1_code 41 = .ok (.newarray .int, 2) := by decide +kernel
theorem d_Engine_init_43 : decode prog_2_method_1_code 43 = .ok (.putfield 32, 3) := by decide +kernel
theorem d_Engine_init_46 : decode prog_2_method_1_code 46 = .ok (.aload_n 0, 1) := by decide +kernel
theorem d_Engine_init_47 : decode prog_2_method_1_code 47 = .ok (.sipush 12006, 3) := by decide +kernel
theorem d_Engine_init_50 : decode prog_2_method_1_code 50 = .ok (.newarray .int, 2) := by decide +kernel
theorem d_Engine_init_52 : decode prog_2_method_1_code 52 = .ok (.putfield 36, 3) := by decide +kernel
theorem d_Engine_init_55 : decode prog_2_method_1_code 55 = .ok (.aload_n 0, 1) := by decide +kernel
theorem d_Engine_init_56 : decode prog_2_method_1_code 56 = .ok (.bipush 6, 2) := by decide +kernel
theorem d_Engine_init_58 : decode prog_2_method_1_code 58 = .ok (.newarray .int, 2) := by decide +kernel
theorem d_Engine_init_60 : decode prog_2_method_1_code 60 = .ok (.putfield 39, 3) := by decide +kernel
theorem d_Engine_init_63 : decode prog_2_method_1_code 63 = .ok (.aload_n 0, 1) := by decide +kernel
theorem d_Engine_init_64 : decode prog_2_method_1_code 64 = .ok (.new 42, 3) := by decide +kernel
theorem d_Engine_init_67 : decode prog_2_method_1_code 67 = .ok (.dup, 1) := by decide +kernel
theorem d_Engine_init_68 : decode prog_2_method_1_code 68 = .ok (.aload_n 1, 1) := by decide +kernel
theorem d_Engine_init_69 : decode prog_2_method_1_code 69 = .ok (.invokespecial 44, 3) := by decide +kernel
theorem d_Engine_init_72 : decode prog_2_method_1_code 72 = .ok (.putfield 47, 3) := by decide +kernel
theorem d_Engine_init_75 : decode prog_2_method_1_code 75 = .ok (.aload_n 0, 1) := by decide +kernel
theorem d_Engine_init_76 : decode prog_2_method_1_code 76 = .ok (.getfield 32, 3) := by decide +kernel
theorem d_Engine_init_79 : decode prog_2_method_1_code 79 = .ok (.iconst (-1), 1) := by decide +kernel
theorem d_Engine_init_80 : decode prog_2_method_1_code 80 = .ok (.invokestatic 51, 3) := by decide +kernel
theorem d_Engine_init_83 : decode prog_2_method_1_code 83 = .ok (.return_, 1) := by decide +kernel
theorem d_Trial_init_0 : decode prog_11_method_1_code 0 = .ok (.aload_n 0, 1) := by decide +kernel
theorem d_Trial_init_1 : decode prog_11_method_1_code 1 = .ok (.invokespecial 3, 3) := by decide +kernel
theorem d_Trial_init_4 : decode prog_11_method_1_code 4 = .ok (.aload_n 0, 1) := by decide +kernel
theorem d_Trial_init_5 : decode prog_11_method_1_code 5 = .ok (.new 9, 3) := by decide +kernel
theorem d_Trial_init_8 : decode prog_11_method_1_code 8 = .ok (.dup, 1) := by decide +kernel
theorem d_Trial_init_9 : decode prog_11_method_1_code 9 = .ok (.invokespecial 11, 3) := by decide +kernel
theorem d_Trial_init_12 : decode prog_11_method_1_code 12 = .ok (.putfield 12, 3) := by decide +kernel
theorem d_Trial_init_15 : decode prog_11_method_1_code 15 = .ok (.aload_n 0, 1) := by decide +kernel
theorem d_Trial_init_16 : decode prog_11_method_1_code 16 = .ok (.bipush 48, 2) := by decide +kernel
theorem d_Trial_init_18 : decode prog_11_method_1_code 18 = .ok (.newarray .boolean, 2) := by decide +kernel
theorem d_Trial_init_20 : decode prog_11_method_1_code 20 = .ok (.putfield 18, 3) := by decide +kernel
theorem d_Trial_init_23 : decode prog_11_method_1_code 23 = .ok (.aload_n 0, 1) := by decide +kernel
theorem d_Trial_init_24 : decode prog_11_method_1_code 24 = .ok (.bipush 48, 2) := by decide +kernel
theorem d_Trial_init_26 : decode prog_11_method_1_code 26 = .ok (.newarray .boolean, 2) := by decide +kernel
theorem d_Trial_init_28 : decode prog_11_method_1_code 28 = .ok (.putfield 22, 3) := by decide +kernel
theorem d_Trial_init_31 : decode prog_11_method_1_code 31 = .ok (.aload_n 0, 1) := by decide +kernel
theorem d_Trial_init_32 : decode prog_11_method_1_code 32 = .ok (.sipush 192, 3) := by decide +kernel
theorem d_Trial_init_35 : decode prog_11_method_1_code 35 = .ok (.newarray .int, 2) := by decide +kernel
theorem d_Trial_init_37 : decode prog_11_method_1_code 37 = .ok (.putfield 25, 3) := by decide +kernel
theorem d_Trial_init_40 : decode prog_11_method_1_code 40 = .ok (.aload_n 0, 1) := by decide +kernel
theorem d_Trial_init_41 : decode prog_11_method_1_code 41 = .ok (.bipush 48, 2) := by decide +kernel
theorem d_Trial_init_43 : decode prog_11_method_1_code 43 = .ok (.newarray .int, 2) := by decide +kernel
theorem d_Trial_init_45 : decode prog_11_method_1_code 45 = .ok (.putfield 29, 3) := by decide +kernel
theorem d_Trial_init_48 : decode prog_11_method_1_code 48 = .ok (.aload_n 0, 1) := by decide +kernel
theorem d_Trial_init_49 : decode prog_11_method_1_code 49 = .ok (.bipush 48, 2) := by decide +kernel
theorem d_Trial_init_51 : decode prog_11_method_1_code 51 = .ok (.newarray .int, 2) := by decide +kernel
theorem d_Trial_init_53 : decode prog_11_method_1_code 53 = .ok (.putfield 32, 3) := by decide +kernel
theorem d_Trial_init_56 : decode prog_11_method_1_code 56 = .ok (.aload_n 0, 1) := by decide +kernel
theorem d_Trial_init_57 : decode prog_11_method_1_code 57 = .ok (.aload_n 1, 1) := by decide +kernel
theorem d_Trial_init_58 : decode prog_11_method_1_code 58 = .ok (.putfield 35, 3) := by decide +kernel
theorem d_Trial_init_61 : decode prog_11_method_1_code 61 = .ok (.return_, 1) := by decide +kernel
theorem d_Evaluator_init_0 : decode prog_3_method_1_code 0 = .ok (.aload_n 0, 1) := by decide +kernel
theorem d_Evaluator_init_1 : decode prog_3_method_1_code 1 = .ok (.invokespecial 3, 3) := by decide +kernel
theorem d_Evaluator_init_4 : decode prog_3_method_1_code 4 = .ok (.aload_n 0, 1) := by decide +kernel
theorem d_Evaluator_init_5 : decode prog_3_method_1_code 5 = .ok (.iconst 4, 1) := by decide +kernel
theorem d_Evaluator_init_6 : decode prog_3_method_1_code 6 = .ok (.anewarray 9, 3) := by decide +kernel
theorem d_Evaluator_init_9 : decode prog_3_method_1_code 9 = .ok (.putfield 11, 3) := by decide +kernel
theorem d_Evaluator_init_12 : decode prog_3_method_1_code 12 = .ok (.aload_n 0, 1) := by decide +kernel
theorem d_Evaluator_init_13 : decode prog_3_method_1_code 13 = .ok (.sipush 512, 3) := by decide +kernel
theorem d_Evaluator_init_16 : decode prog_3_method_1_code 16 = .ok (.newarray .int, 2) := by decide +kernel
theorem d_Evaluator_init_18 : decode prog_3_method_1_code 18 = .ok (.putfield 17, 3) := by decide +kernel
theorem d_Evaluator_init_21 : decode prog_3_method_1_code 21 = .ok (.aload_n 0, 1) := by decide +kernel
theorem d_Evaluator_init_22 : decode prog_3_method_1_code 22 = .ok (.sipush 512, 3) := by decide +kernel
theorem d_Evaluator_init_25 : decode prog_3_method_1_code 25 = .ok (.newarray .int, 2) := by decide +kernel
theorem d_Evaluator_init_27 : decode prog_3_method_1_code 27 = .ok (.putfield 21, 3) := by decide +kernel
theorem d_Evaluator_init_30 : decode prog_3_method_1_code 30 = .ok (.aload_n 0, 1) := by decide +kernel
theorem d_Evaluator_init_31 : decode prog_3_method_1_code 31 = .ok (.sipush 512, 3) := by decide +kernel
theorem d_Evaluator_init_34 : decode prog_3_method_1_code 34 = .ok (.newarray .boolean, 2) := by decide +kernel
theorem d_Evaluator_init_36 : decode prog_3_method_1_code 36 = .ok (.putfield 24, 3) := by decide +kernel
theorem d_Evaluator_init_39 : decode prog_3_method_1_code 39 = .ok (.aload_n 0, 1) := by decide +kernel
theorem d_Evaluator_init_40 : decode prog_3_method_1_code 40 = .ok (.aload_n 1, 1) := by decide +kernel
theorem d_Evaluator_init_41 : decode prog_3_method_1_code 41 = .ok (.putfield 28, 3) := by decide +kernel
theorem d_Evaluator_init_44 : decode prog_3_method_1_code 44 = .ok (.iconst 0, 1) := by decide +kernel
theorem d_Evaluator_init_45 : decode prog_3_method_1_code 45 = .ok (.istore_n 2, 1) := by decide +kernel
theorem d_Evaluator_init_46 : decode prog_3_method_1_code 46 = .ok (.iload_n 2, 1) := by decide +kernel
theorem d_Evaluator_init_47 : decode prog_3_method_1_code 47 = .ok (.aload_n 0, 1) := by decide +kernel
theorem d_Evaluator_init_48 : decode prog_3_method_1_code 48 = .ok (.getfield 11, 3) := by decide +kernel
theorem d_Evaluator_init_51 : decode prog_3_method_1_code 51 = .ok (.arraylength, 1) := by decide +kernel
theorem d_Evaluator_init_52 : decode prog_3_method_1_code 52 = .ok (.if_icmp .ge 22, 3) := by decide +kernel
theorem d_Evaluator_init_55 : decode prog_3_method_1_code 55 = .ok (.aload_n 0, 1) := by decide +kernel
theorem d_Evaluator_init_56 : decode prog_3_method_1_code 56 = .ok (.getfield 11, 3) := by decide +kernel
theorem d_Evaluator_init_59 : decode prog_3_method_1_code 59 = .ok (.iload_n 2, 1) := by decide +kernel
theorem d_Evaluator_init_60 : decode prog_3_method_1_code 60 = .ok (.new 9, 3) := by decide +kernel
theorem d_Evaluator_init_63 : decode prog_3_method_1_code 63 = .ok (.dup, 1) := by decide +kernel
theorem d_Evaluator_init_64 : decode prog_3_method_1_code 64 = .ok (.invokespecial 32, 3) := by decide +kernel
theorem d_Evaluator_init_67 : decode prog_3_method_1_code 67 = .ok (.aastore, 1) := by decide +kernel
theorem d_Evaluator_init_68 : decode prog_3_method_1_code 68 = .ok (.iinc 2 1, 3) := by decide +kernel
theorem d_Evaluator_init_71 : decode prog_3_method_1_code 71 = .ok (.goto (-25), 3) := by decide +kernel
theorem d_Evaluator_init_74 : decode prog_3_method_1_code 74 = .ok (.return_, 1) := by decide +kernel
theorem d_F_scrap_0 : decode prog_1_method_29_code 0 = .ok (.aload_n 0, 1) := by decide +kernel
theorem d_F_scrap_1 : decode prog_1_method_29_code 1 = .ok (.getfield 66, 3) := by decide +kernel
theorem d_F_scrap_4 : decode prog_1_method_29_code 4 = .ok (.getfield 228, 3) := by decide +kernel
theorem d_F_scrap_7 : decode prog_1_method_29_code 7 = .ok (.istore_n 1, 1) := by decide +kernel
theorem d_F_scrap_8 : decode prog_1_method_29_code 8 = .ok (.aload_n 0, 1) := by decide +kernel
theorem d_F_scrap_9 : decode prog_1_method_29_code 9 = .ok (.getfield 66, 3) := by decide +kernel
theorem d_F_scrap_12 : decode prog_1_method_29_code 12 = .ok (.invokevirtual 260, 3) := by decide +kernel
theorem d_F_scrap_15 : decode prog_1_method_29_code 15 = .ok (.iload_n 1, 1) := by decide +kernel
theorem d_F_scrap_16 : decode prog_1_method_29_code 16 = .ok (.ireturn, 1) := by decide +kernel
theorem d_F_analyze_0 : decode prog_1_method_34_code 0 = .ok (.aload_n 0, 1) := by decide +kernel
theorem d_F_analyze_1 : decode prog_1_method_34_code 1 = .ok (.getfield 35, 3) := by decide +kernel
theorem d_F_analyze_4 : decode prog_1_method_34_code 4 = .ok (.aload_n 0, 1) := by decide +kernel
theorem d_F_analyze_5 : decode prog_1_method_34_code 5 = .ok (.getfield 12, 3) := by decide +kernel
theorem d_F_analyze_8 : decode prog_1_method_34_code 8 = .ok (.aload_n 0, 1) := by decide +kernel
theorem d_F_analyze_9 : decode prog_1_method_34_code 9 = .ok (.getfield 21, 3) := by decide +kernel
theorem d_F_analyze_12 : decode prog_1_method_34_code 12 = .ok (.getfield 110, 3) := by decide +kernel
theorem d_F_analyze_15 : decode prog_1_method_34_code 15 = .ok (.invokevirtual 291, 3) := by decide +kernel
theorem d_F_analyze_18 : decode prog_1_method_34_code 18 = .ok (.aload_n 0, 1) := by decide +kernel
theorem d_F_analyze_19 : decode prog_1_method_34_code 19 = .ok (.invokevirtual 85, 3) := by decide +kernel
theorem d_F_analyze_22 : decode prog_1_method_34_code 22 = .ok (.ireturn, 1) := by decide +kernel
theorem d_F_dropPlans_0 : decode prog_1_method_61_code 0 = .ok (.iconst 0, 1) := by decide +kernel
theorem d_F_dropPlans_1 : decode prog_1_method_61_code 1 = .ok (.istore_n 1, 1) := by decide +kernel
theorem d_F_dropPlans_2 : decode prog_1_method_61_code 2 = .ok (.iconst 0, 1) := by decide +kernel
theorem d_F_dropPlans_3 : decode prog_1_method_61_code 3 = .ok (.istore_n 2, 1) := by decide +kernel
theorem d_F_dropPlans_4 : decode prog_1_method_61_code 4 = .ok (.iload_n 2, 1) := by decide +kernel
theorem d_F_dropPlans_5 : decode prog_1_method_61_code 5 = .ok (.aload_n 0, 1) := by decide +kernel
theorem d_F_dropPlans_6 : decode prog_1_method_61_code 6 = .ok (.getfield 42, 3) := by decide +kernel
theorem d_F_dropPlans_9 : decode prog_1_method_61_code 9 = .ok (.invokevirtual 147, 3) := by decide +kernel
theorem d_F_dropPlans_12 : decode prog_1_method_61_code 12 = .ok (.if_icmp .ge 36, 3) := by decide +kernel
theorem d_F_dropPlans_15 : decode prog_1_method_61_code 15 = .ok (.aload_n 0, 1) := by decide +kernel
theorem d_F_dropPlans_16 : decode prog_1_method_61_code 16 = .ok (.getfield 42, 3) := by decide +kernel
theorem d_F_dropPlans_19 : decode prog_1_method_61_code 19 = .ok (.iload_n 2, 1) := by decide +kernel
theorem d_F_dropPlans_20 : decode prog_1_method_61_code 20 = .ok (.invokevirtual 270, 3) := by decide +kernel
theorem d_F_dropPlans_23 : decode prog_1_method_61_code 23 = .ok (.checkcast 63, 3) := by decide +kernel
theorem d_F_dropPlans_26 : decode prog_1_method_61_code 26 = .ok (.astore_n 3, 1) := by decide +kernel
theorem d_F_dropPlans_27 : decode prog_1_method_61_code 27 = .ok (.aload_n 3, 1) := by decide +kernel
theorem d_F_dropPlans_28 : decode prog_1_method_61_code 28 = .ok (.getfield 295, 3) := by decide +kernel
theorem d_F_dropPlans_31 : decode prog_1_method_61_code 31 = .ok (.ifCond .eq 11, 3) := by decide +kernel
theorem d_F_dropPlans_34 : decode prog_1_method_61_code 34 = .ok (.aload_n 3, 1) := by decide +kernel
theorem d_F_dropPlans_35 : decode prog_1_method_61_code 35 = .ok (.iconst 0, 1) := by decide +kernel
theorem d_F_dropPlans_36 : decode prog_1_method_61_code 36 = .ok (.putfield 295, 3) := by decide +kernel
theorem d_F_dropPlans_39 : decode prog_1_method_61_code 39 = .ok (.iinc 1 1, 3) := by decide +kernel
theorem d_F_dropPlans_42 : decode prog_1_method_61_code 42 = .ok (.iinc 2 1, 3) := by decide +kernel
theorem d_F_dropPlans_45 : decode prog_1_method_61_code 45 = .ok (.goto (-41), 3) := by decide +kernel
theorem d_F_dropPlans_48 : decode prog_1_method_61_code 48 = .ok (.iload_n 1, 1) := by decide +kernel
theorem d_F_dropPlans_49 : decode prog_1_method_61_code 49 = .ok (.ireturn, 1) := by decide +kernel
theorem d_F_planned_0 : decode prog_1_method_37_code 0 = .ok (.aload_n 0, 1) := by decide +kernel
theorem d_F_planned_1 : decode prog_1_method_37_code 1 = .ok (.getfield 35, 3) := by decide +kernel
theorem d_F_planned_4 : decode prog_1_method_37_code 4 = .ok (.getfield 312, 3) := by decide +kernel
theorem d_F_planned_7 : decode prog_1_method_37_code 7 = .ok (.ireturn, 1) := by decide +kernel
theorem d_F_checkpoint_0 : decode prog_1_method_42_code 0 = .ok (.aload_n 0, 1) := by decide +kernel
theorem d_F_checkpoint_1 : decode prog_1_method_42_code 1 = .ok (.getfield 21, 3) := by decide +kernel
theorem d_F_checkpoint_4 : decode prog_1_method_42_code 4 = .ok (.getfield 219, 3) := by decide +kernel
theorem d_F_checkpoint_7 : decode prog_1_method_42_code 7 = .ok (.iconst 4, 1) := by decide +kernel
theorem d_F_checkpoint_8 : decode prog_1_method_42_code 8 = .ok (.iconst (-1), 1) := by decide +kernel
theorem d_F_checkpoint_9 : decode prog_1_method_42_code 9 = .ok (.ldc 153, 2) := by decide +kernel
theorem d_F_checkpoint_11 : decode prog_1_method_42_code 11 = .ok (.ldc 153, 2) := by decide +kernel
theorem d_F_checkpoint_13 : decode prog_1_method_42_code 13 = .ok (.invokevirtual 325, 3) := by decide +kernel
theorem d_F_checkpoint_16 : decode prog_1_method_42_code 16 = .ok (.aload_n 0, 1) := by decide +kernel
theorem d_F_checkpoint_17 : decode prog_1_method_42_code 17 = .ok (.getfield 21, 3) := by decide +kernel
theorem d_F_checkpoint_20 : decode prog_1_method_42_code 20 = .ok (.getfield 219, 3) := by decide +kernel
theorem d_F_checkpoint_23 : decode prog_1_method_42_code 23 = .ok (.invokevirtual 327, 3) := by decide +kernel
theorem d_F_checkpoint_26 : decode prog_1_method_42_code 26 = .ok (.aload_n 0, 1) := by decide +kernel
theorem d_F_checkpoint_27 : decode prog_1_method_42_code 27 = .ok (.getfield 21, 3) := by decide +kernel
theorem d_F_checkpoint_30 : decode prog_1_method_42_code 30 = .ok (.getfield 219, 3) := by decide +kernel
theorem d_F_checkpoint_33 : decode prog_1_method_42_code 33 = .ok (.getfield 330, 3) := by decide +kernel
theorem d_F_checkpoint_36 : decode prog_1_method_42_code 36 = .ok (.ireturn, 1) := by decide +kernel
theorem d_F_records_0 : decode prog_1_method_44_code 0 = .ok (.aload_n 0, 1) := by decide +kernel
theorem d_F_records_1 : decode prog_1_method_44_code 1 = .ok (.getfield 21, 3) := by decide +kernel
theorem d_F_records_4 : decode prog_1_method_44_code 4 = .ok (.getfield 219, 3) := by decide +kernel
theorem d_F_records_7 : decode prog_1_method_44_code 7 = .ok (.getfield 330, 3) := by decide +kernel
theorem d_F_records_10 : decode prog_1_method_44_code 10 = .ok (.ireturn, 1) := by decide +kernel
theorem d_F_flushed_0 : decode prog_1_method_45_code 0 = .ok (.aload_n 0, 1) := by decide +kernel
theorem d_F_flushed_1 : decode prog_1_method_45_code 1 = .ok (.getfield 21, 3) := by decide +kernel
theorem d_F_flushed_4 : decode prog_1_method_45_code 4 = .ok (.getfield 219, 3) := by decide +kernel
theorem d_F_flushed_7 : decode prog_1_method_45_code 7 = .ok (.getfield 333, 3) := by decide +kernel
theorem d_F_flushed_10 : decode prog_1_method_45_code 10 = .ok (.ireturn, 1) := by decide +kernel
theorem d_F_table_0 : decode prog_1_method_2_code 0 = .ok (.iload_n 1, 1) := by decide +kernel
theorem d_F_table_1 : decode prog_1_method_2_code 1 = .ok (.iconst 1, 1) := by decide +kernel
theorem d_F_table_2 : decode prog_1_method_2_code 2 = .ok (.if_icmp .lt 12, 3) := by decide +kernel
theorem d_F_table_5 : decode prog_1_method_2_code 5 = .ok (.iload_n 1, 1) := by decide +kernel
theorem d_F_table_6 : decode prog_1_method_2_code 6 = .ok (.iconst 4, 1) := by decide +kernel
theorem d_F_table_7 : decode prog_1_method_2_code 7 = .ok (.if_icmp .gt 7, 3) := by decide +kernel
theorem d_F_table_10 : decode prog_1_method_2_code 10 = .ok (.iconst 1, 1) := by decide +kernel
theorem d_F_table_11 : decode prog_1_method_2_code 11 = .ok (.goto 4, 3) := by decide +kernel
theorem d_F_table_14 : decode prog_1_method_2_code 14 = .ok (.iconst 0, 1) := by decide +kernel
theorem d_F_table_15 : decode prog_1_method_2_code 15 = .ok (.invokestatic 70, 3) := by decide +kernel
theorem d_F_table_18 : decode prog_1_method_2_code 18 = .ok (.aload_n 0, 1) := by decide +kernel
theorem d_F_table_19 : decode prog_1_method_2_code 19 = .ok (.getfield 12, 3) := by decide +kernel
theorem d_F_table_22 : decode prog_1_method_2_code 22 = .ok (.getfield 74, 3) := by decide +kernel
theorem d_F_table_25 : decode prog_1_method_2_code 25 = .ok (.bipush 6, 2) := by decide +kernel
theorem d_F_table_27 : decode prog_1_method_2_code 27 = .ok (.if_icmp .ge 17, 3) := by decide +kernel
theorem d_F_table_30 : decode prog_1_method_2_code 30 = .ok (.aload_n 0, 1) := by decide +kernel
theorem d_F_table_31 : decode prog_1_method_2_code 31 = .ok (.getfield 21, 3) := by decide +kernel
theorem d_F_table_34 : decode prog_1_method_2_code 34 = .ok (.invokevirtual 78, 3) := by decide +kernel
theorem d_F_table_37 : decode prog_1_method_2_code 37 = .ok (.ifCond .ne 7, 3) := by decide +kernel
theorem d_F_table_40 : decode prog_1_method_2_code 40 = .ok (.iconst 1, 1) := by decide +kernel
theorem d_F_table_41 : decode prog_1_method_2_code 41 = .ok (.goto 4, 3) := by decide +kernel
theorem d_F_table_44 : decode prog_1_method_2_code 44 = .ok (.iconst 0, 1) := by decide +kernel
theorem d_F_table_45 : decode prog_1_method_2_code 45 = .ok (.invokestatic 82, 3) := by decide +kernel
theorem d_F_table_48 : decode prog_1_method_2_code 48 = .ok (.aload_n 0, 1) := by decide +kernel
theorem d_F_table_49 : decode prog_1_method_2_code 49 = .ok (.invokevirtual 85, 3) := by decide +kernel
theorem d_F_table_52 : decode prog_1_method_2_code 52 = .ok (.pop, 1) := by decide +kernel
theorem d_F_table_53 : decode prog_1_method_2_code 53 = .ok (.aload_n 0, 1) := by decide +kernel
theorem d_F_table_54 : decode prog_1_method_2_code 54 = .ok (.getfield 12, 3) := by decide +kernel
theorem d_F_table_57 : decode prog_1_method_2_code 57 = .ok (.iload_n 1, 1) := by decide +kernel
theorem d_F_table_58 : decode prog_1_method_2_code 58 = .ok (.invokevirtual 89, 3) := by decide +kernel
theorem d_F_table_61 : decode prog_1_method_2_code 61 = .ok (.ireturn, 1) := by decide +kernel
theorem d_F_demandRange_0 : decode prog_1_method_50_code 0 = .ok (.iload_n 0, 1) := by decide +kernel
theorem d_F_demandRange_1 : decode prog_1_method_50_code 1 = .ok (.ifCond .ne 11, 3) := by decide +kernel
theorem d_F_demandRange_4 : decode prog_1_method_50_code 4 = .ok (.new 357, 3) := by decide +kernel
theorem d_F_demandRange_7 : decode prog_1_method_50_code 7 = .ok (.dup, 1) := by decide +kernel
theorem d_F_demandRange_8 : decode prog_1_method_50_code 8 = .ok (.invokespecial 359, 3) := by decide +kernel
theorem d_F_demandRange_11 : decode prog_1_method_50_code 11 = .ok (.athrow, 1) := by decide +kernel
theorem d_F_demandRange_12 : decode prog_1_method_50_code 12 = .ok (.return_, 1) := by decide +kernel
theorem d_Engine_isBusy_0 : decode prog_2_method_4_code 0 = .ok (.aload_n 0, 1) := by decide +kernel
theorem d_Engine_isBusy_1 : decode prog_2_method_4_code 1 = .ok (.invokevirtual 71, 3) := by decide +kernel
theorem d_Engine_isBusy_4 : decode prog_2_method_4_code 4 = .ok (.ifCond .le 7, 3) := by decide +kernel
theorem d_Engine_isBusy_7 : decode prog_2_method_4_code 7 = .ok (.iconst 1, 1) := by decide +kernel
theorem d_Engine_isBusy_8 : decode prog_2_method_4_code 8 = .ok (.goto 4, 3) := by decide +kernel
theorem d_Engine_isBusy_11 : decode prog_2_method_4_code 11 = .ok (.iconst 0, 1) := by decide +kernel
theorem d_Engine_isBusy_12 : decode prog_2_method_4_code 12 = .ok (.ireturn, 1) := by decide +kernel
theorem d_Engine_countOpen_0 : decode prog_2_method_3_code 0 = .ok (.iconst 0, 1) := by decide +kernel
theorem d_Engine_countOpen_1 : decode prog_2_method_3_code 1 = .ok (.istore_n 1, 1) := by decide +kernel
theorem d_Engine_countOpen_2 : decode prog_2_method_3_code 2 = .ok (.iconst 0, 1) := by decide +kernel
theorem d_Engine_countOpen_3 : decode prog_2_method_3_code 3 = .ok (.istore_n 2, 1) := by decide +kernel
theorem d_Engine_countOpen_4 : decode prog_2_method_3_code 4 = .ok (.iload_n 2, 1) := by decide +kernel
theorem d_Engine_countOpen_5 : decode prog_2_method_3_code 5 = .ok (.aload_n 0, 1) := by decide +kernel
theorem d_Engine_countOpen_6 : decode prog_2_method_3_code 6 = .ok (.getfield 21, 3) := by decide +kernel
theorem d_Engine_countOpen_9 : decode prog_2_method_3_code 9 = .ok (.invokevirtual 57, 3) := by decide +kernel
theorem d_Engine_countOpen_12 : decode prog_2_method_3_code 12 = .ok (.if_icmp .ge 29, 3) := by decide +kernel
theorem d_Engine_countOpen_15 : decode prog_2_method_3_code 15 = .ok (.aload_n 0, 1) := by decide +kernel
theorem d_Engine_countOpen_16 : decode prog_2_method_3_code 16 = .ok (.getfield 21, 3) := by decide +kernel
theorem d_Engine_countOpen_19 : decode prog_2_method_3_code 19 = .ok (.iload_n 2, 1) := by decide +kernel
theorem d_Engine_countOpen_20 : decode prog_2_method_3_code 20 = .ok (.invokevirtual 61, 3) := by decide +kernel
theorem d_Engine_countOpen_23 : decode prog_2_method_3_code 23 = .ok (.checkcast 65, 3) := by decide +kernel
theorem d_Engine_countOpen_26 : decode prog_2_method_3_code 26 = .ok (.invokevirtual 67, 3) := by decide +kernel
theorem d_Engine_countOpen_29 : decode prog_2_method_3_code 29 = .ok (.ifCond .eq 6, 3) := by decide +kernel
theorem d_Engine_countOpen_32 : decode prog_2_method_3_code 32 = .ok (.iinc 1 1, 3) := by decide +kernel
theorem d_Engine_countOpen_35 : decode prog_2_method_3_code 35 = .ok (.iinc 2 1, 3) := by decide +kernel
theorem d_Engine_countOpen_38 : decode prog_2_method_3_code 38 = .ok (.goto (-34), 3) := by decide +kernel
theorem d_Engine_countOpen_41 : decode prog_2_method_3_code 41 = .ok (.iload_n 1, 1) := by decide +kernel
theorem d_Engine_countOpen_42 : decode prog_2_method_3_code 42 = .ok (.ireturn, 1) := by decide +kernel
theorem d_F_demandState_0 : decode prog_1_method_51_code 0 = .ok (.iload_n 0, 1) := by decide +kernel
theorem d_F_demandState_1 : decode prog_1_method_51_code 1 = .ok (.ifCond .ne 11, 3) := by decide +kernel
theorem d_F_demandState_4 : decode prog_1_method_51_code 4 = .ok (.new 360, 3) := by decide +kernel
theorem d_F_demandState_7 : decode prog_1_method_51_code 7 = .ok (.dup, 1) := by decide +kernel
theorem d_F_demandState_8 : decode prog_1_method_51_code 8 = .ok (.invokespecial 362, 3) := by decide +kernel
theorem d_F_demandState_11 : decode prog_1_method_51_code 11 = .ok (.athrow, 1) := by decide +kernel
theorem d_F_demandState_12 : decode prog_1_method_51_code 12 = .ok (.return_, 1) := by decide +kernel
theorem d_F_check_0 : decode prog_1_method_3_code 0 = .ok (.aload_n 0, 1) := by decide +kernel
theorem d_F_check_1 : decode prog_1_method_3_code 1 = .ok (.getfield 12, 3) := by decide +kernel
theorem d_F_check_4 : decode prog_1_method_3_code 4 = .ok (.iload_n 1, 1) := by decide +kernel
theorem d_F_check_5 : decode prog_1_method_3_code 5 = .ok (.iload_n 2, 1) := by decide +kernel
theorem d_F_check_6 : decode prog_1_method_3_code 6 = .ok (.invokevirtual 93, 3) := by decide +kernel
theorem d_F_check_9 : decode prog_1_method_3_code 9 = .ok (.invokestatic 97, 3) := by decide +kernel
theorem d_F_check_12 : decode prog_1_method_3_code 12 = .ok (.iload_n 3, 1) := by decide +kernel
theorem d_F_check_13 : decode prog_1_method_3_code 13 = .ok (.invokestatic 100, 3) := by decide +kernel
theorem d_F_check_16 : decode prog_1_method_3_code 16 = .ok (.ifCond .eq 15, 3) := by decide +kernel
theorem d_F_check_19 : decode prog_1_method_3_code 19 = .ok (.iload 4, 2) := by decide +kernel
theorem d_F_check_21 : decode prog_1_method_3_code 21 = .ok (.invokestatic 104, 3) := by decide +kernel
theorem d_F_check_24 : decode prog_1_method_3_code 24 = .ok (.ifCond .eq 7, 3) := by decide +kernel
theorem d_F_check_27 : decode prog_1_method_3_code 27 = .ok (.iconst 1, 1) := by decide +kernel
theorem d_F_check_28 : decode prog_1_method_3_code 28 = .ok (.goto 4, 3) := by decide +kernel
theorem d_F_check_31 : decode prog_1_method_3_code 31 = .ok (.iconst 0, 1) := by decide +kernel
theorem d_F_check_32 : decode prog_1_method_3_code 32 = .ok (.invokestatic 70, 3) := by decide +kernel
theorem d_F_check_35 : decode prog_1_method_3_code 35 = .ok (.aload_n 0, 1) := by decide +kernel
theorem d_F_check_36 : decode prog_1_method_3_code 36 = .ok (.getfield 12, 3) := by decide +kernel
theorem d_F_check_39 : decode prog_1_method_3_code 39 = .ok (.getfield 107, 3) := by decide +kernel
theorem d_F_check_42 : decode prog_1_method_3_code 42 = .ok (.iload_n 1, 1) := by decide +kernel
theorem d_F_check_43 : decode prog_1_method_3_code 43 = .ok (.iaload, 1) := by decide +kernel
theorem d_F_check_44 : decode prog_1_method_3_code 44 = .ok (.iconst 4, 1) := by decide +kernel
theorem d_F_check_45 : decode prog_1_method_3_code 45 = .ok (.if_icmp .ge 31, 3) := by decide +kernel
theorem d_F_check_48 : decode prog_1_method_3_code 48 = .ok (.aload_n 0, 1) := by decide +kernel
theorem d_F_check_49 : decode prog_1_method_3_code 49 = .ok (.getfield 21, 3) := by decide +kernel
theorem d_F_check_52 : decode prog_1_method_3_code 52 = .ok (.getfield 110, 3) := by decide +kernel
theorem d_F_check_55 : decode prog_1_method_3_code 55 = .ok (.iload_n 1, 1) := by decide +kernel
theorem d_F_check_56 : decode prog_1_method_3_code 56 = .ok (.invokevirtual 114, 3) := by decide +kernel
theorem d_F_check_59 : decode prog_1_method_3_code 59 = .ok (.ifCond .ne 17, 3) := by decide +kernel
theorem d_F_check_62 : decode prog_1_method_3_code 62 = .ok (.aload_n 0, 1) := by decide +kernel
theorem d_F_check_63 : decode prog_1_method_3_code 63 = .ok (.getfield 21, 3) := by decide +kernel
theorem d_F_check_66 : decode prog_1_method_3_code 66 = .ok (.invokevirtual 78, 3) := by decide +kernel
theorem d_F_check_69 : decode prog_1_method_3_code 69 = .ok (.ifCond .ne 7, 3) := by decide +kernel
theorem d_F_check_72 : decode prog_1_method_3_code 72 = .ok (.iconst 1, 1) := by decide +kernel
theorem d_F_check_73 : decode prog_1_method_3_code 73 = .ok (.goto 4, 3) := by decide +kernel
theorem d_F_check_76 : decode prog_1_method_3_code 76 = .ok (.iconst 0, 1) := by decide +kernel
theorem d_F_check_77 : decode prog_1_method_3_code 77 = .ok (.invokestatic 82, 3) := by decide +kernel
theorem d_F_check_80 : decode prog_1_method_3_code 80 = .ok (.aload_n 0, 1) := by decide +kernel
theorem d_F_check_81 : decode prog_1_method_3_code 81 = .ok (.invokevirtual 85, 3) := by decide +kernel
theorem d_F_check_84 : decode prog_1_method_3_code 84 = .ok (.pop, 1) := by decide +kernel
theorem d_F_check_85 : decode prog_1_method_3_code 85 = .ok (.aload_n 0, 1) := by decide +kernel
theorem d_F_check_86 : decode prog_1_method_3_code 86 = .ok (.getfield 12, 3) := by decide +kernel
theorem d_F_check_89 : decode prog_1_method_3_code 89 = .ok (.iload_n 1, 1) := by decide +kernel
theorem d_F_check_90 : decode prog_1_method_3_code 90 = .ok (.iload_n 2, 1) := by decide +kernel
theorem d_F_check_91 : decode prog_1_method_3_code 91 = .ok (.iload_n 3, 1) := by decide +kernel
theorem d_F_check_92 : decode prog_1_method_3_code 92 = .ok (.iload 4, 2) := by decide +kernel
theorem d_F_check_94 : decode prog_1_method_3_code 94 = .ok (.invokevirtual 119, 3) := by decide +kernel
theorem d_F_check_97 : decode prog_1_method_3_code 97 = .ok (.ireturn, 1) := by decide +kernel
theorem d_F_demandPlace_0 : decode prog_1_method_49_code 0 = .ok (.iload_n 0, 1) := by decide +kernel
theorem d_F_demandPlace_1 : decode prog_1_method_49_code 1 = .ok (.ifCond .ne 11, 3) := by decide +kernel
theorem d_F_demandPlace_4 : decode prog_1_method_49_code 4 = .ok (.new 354, 3) := by decide +kernel
theorem d_F_demandPlace_7 : decode prog_1_method_49_code 7 = .ok (.dup, 1) := by decide +kernel
theorem d_F_demandPlace_8 : decode prog_1_method_49_code 8 = .ok (.invokespecial 356, 3) := by decide +kernel
theorem d_F_demandPlace_11 : decode prog_1_method_49_code 11 = .ok (.athrow, 1) := by decide +kernel
theorem d_F_demandPlace_12 : decode prog_1_method_49_code 12 = .ok (.return_, 1) := by decide +kernel
theorem d_F_isComparison_0 : decode prog_1_method_53_code 0 = .ok (.iload_n 0, 1) := by decide +kernel
theorem d_F_isComparison_1 : decode prog_1_method_53_code 1 = .ok (.ifCond .lt 12, 3) := by decide +kernel
theorem d_F_isComparison_4 : decode prog_1_method_53_code 4 = .ok (.iload_n 0, 1) := by decide +kernel
theorem d_F_isComparison_5 : decode prog_1_method_53_code 5 = .ok (.iconst 2, 1) := by decide +kernel
theorem d_F_isComparison_6 : decode prog_1_method_53_code 6 = .ok (.if_icmp .gt 7, 3) := by decide +kernel
theorem d_F_isComparison_9 : decode prog_1_method_53_code 9 = .ok (.iconst 1, 1) := by decide +kernel
theorem d_F_isComparison_10 : decode prog_1_method_53_code 10 = .ok (.goto 4, 3) := by decide +kernel
theorem d_F_isComparison_13 : decode prog_1_method_53_code 13 = .ok (.iconst 0, 1) := by decide +kernel
theorem d_F_isComparison_14 : decode prog_1_method_53_code 14 = .ok (.ireturn, 1) := by decide +kernel
theorem d_F_isNumber_0 : decode prog_1_method_52_code 0 = .ok (.iload_n 0, 1) := by decide +kernel
theorem d_F_isNumber_1 : decode prog_1_method_52_code 1 = .ok (.sipush (-1000), 3) := by decide +kernel
theorem d_F_isNumber_4 : decode prog_1_method_52_code 4 = .ok (.if_icmp .lt 14, 3) := by decide +kernel
theorem d_F_isNumber_7 : decode prog_1_method_52_code 7 = .ok (.iload_n 0, 1) := by decide +kernel
theorem d_F_isNumber_8 : decode prog_1_method_52_code 8 = .ok (.sipush 1000, 3) := by decide +kernel
theorem d_F_isNumber_11 : decode prog_1_method_52_code 11 = .ok (.if_icmp .gt 7, 3) := by decide +kernel
theorem d_F_isNumber_14 : decode prog_1_method_52_code 14 = .ok (.iconst 1, 1) := by decide +kernel
theorem d_F_isNumber_15 : decode prog_1_method_52_code 15 = .ok (.goto 4, 3) := by decide +kernel
theorem d_F_isNumber_18 : decode prog_1_method_52_code 18 = .ok (.iconst 0, 1) := by decide +kernel
theorem d_F_isNumber_19 : decode prog_1_method_52_code 19 = .ok (.ireturn, 1) := by decide +kernel
theorem d_F_refer_0 : decode prog_1_method_4_code 0 = .ok (.aload_n 0, 1) := by decide +kernel
theorem d_F_refer_1 : decode prog_1_method_4_code 1 = .ok (.getfield 12, 3) := by decide +kernel
theorem d_F_refer_4 : decode prog_1_method_4_code 4 = .ok (.iload_n 1, 1) := by decide +kernel
theorem d_F_refer_5 : decode prog_1_method_4_code 5 = .ok (.iload_n 2, 1) := by decide +kernel
theorem d_F_refer_6 : decode prog_1_method_4_code 6 = .ok (.invokevirtual 93, 3) := by decide +kernel
theorem d_F_refer_9 : decode prog_1_method_4_code 9 = .ok (.ifCond .eq 22, 3) := by decide +kernel
theorem d_F_refer_12 : decode prog_1_method_4_code 12 = .ok (.iload_n 2, 1) := by decide +kernel
theorem d_F_refer_13 : decode prog_1_method_4_code 13 = .ok (.ifCond .eq 18, 3) := by decide +kernel
theorem d_F_refer_16 : decode prog_1_method_4_code 16 = .ok (.aload_n 0, 1) := by decide +kernel
theorem d_F_refer_17 : decode prog_1_method_4_code 17 = .ok (.getfield 12, 3) := by decide +kernel
theorem d_F_refer_20 : decode prog_1_method_4_code 20 = .ok (.iload_n 3, 1) := by decide +kernel
theorem d_F_refer_21 : decode prog_1_method_4_code 21 = .ok (.invokevirtual 123, 3) := by decide +kernel
theorem d_F_refer_24 : decode prog_1_method_4_code 24 = .ok (.ifCond .eq 7, 3) := by decide +kernel
theorem d_F_refer_27 : decode prog_1_method_4_code 27 = .ok (.iconst 1, 1) := by decide +kernel
theorem d_F_refer_28 : decode prog_1_method_4_code 28 = .ok (.goto 4, 3) := by decide +kernel
theorem d_F_refer_31 : decode prog_1_method_4_code 31 = .ok (.iconst 0, 1) := by decide +kernel
theorem d_F_refer_32 : decode prog_1_method_4_code 32 = .ok (.invokestatic 97, 3) := by decide +kernel
theorem d_F_refer_35 : decode prog_1_method_4_code 35 = .ok (.iload 4, 2) := by decide +kernel
theorem d_F_refer_37 : decode prog_1_method_4_code 37 = .ok (.ifCond .lt 13, 3) := by decide +kernel
theorem d_F_refer_40 : decode prog_1_method_4_code 40 = .ok (.iload 4, 2) := by decide +kernel
theorem d_F_refer_42 : decode prog_1_method_4_code 42 = .ok (.iconst 2, 1) := by decide +kernel
theorem d_F_refer_43 : decode prog_1_method_4_code 43 = .ok (.if_icmp .gt 7, 3) := by decide +kernel
theorem d_F_refer_46 : decode prog_1_method_4_code 46 = .ok (.iconst 1, 1) := by decide +kernel
theorem d_F_refer_47 : decode prog_1_method_4_code 47 = .ok (.goto 4, 3) := by decide +kernel
theorem d_F_refer_50 : decode prog_1_method_4_code 50 = .ok (.iconst 0, 1) := by decide +kernel
theorem d_F_refer_51 : decode prog_1_method_4_code 51 = .ok (.invokestatic 70, 3) := by decide +kernel
theorem d_F_refer_54 : decode prog_1_method_4_code 54 = .ok (.aload_n 0, 1) := by decide +kernel
theorem d_F_refer_55 : decode prog_1_method_4_code 55 = .ok (.getfield 12, 3) := by decide +kernel
theorem d_F_refer_58 : decode prog_1_method_4_code 58 = .ok (.iload_n 1, 1) := by decide +kernel
theorem d_F_refer_59 : decode prog_1_method_4_code 59 = .ok (.iload_n 2, 1) := by decide +kernel
theorem d_F_refer_60 : decode prog_1_method_4_code 60 = .ok (.invokevirtual 126, 3) := by decide +kernel
theorem d_F_refer_63 : decode prog_1_method_4_code 63 = .ok (.iconst (-1), 1) := by decide +kernel
theorem d_F_refer_64 : decode prog_1_method_4_code 64 = .ok (.if_icmp .ne 31, 3) := by decide +kernel
theorem d_F_refer_67 : decode prog_1_method_4_code 67 = .ok (.aload_n 0, 1) := by decide +kernel
theorem d_F_refer_68 : decode prog_1_method_4_code 68 = .ok (.getfield 21, 3) := by decide +kernel
theorem d_F_refer_71 : decode prog_1_method_4_code 71 = .ok (.getfield 110, 3) := by decide +kernel
theorem d_F_refer_74 : decode prog_1_method_4_code 74 = .ok (.iload_n 1, 1) := by decide +kernel
theorem d_F_refer_75 : decode prog_1_method_4_code 75 = .ok (.invokevirtual 114, 3) := by decide +kernel
theorem d_F_refer_78 : decode prog_1_method_4_code 78 = .ok (.ifCond .ne 17, 3) := by decide +kernel
theorem d_F_refer_81 : decode prog_1_method_4_code 81 = .ok (.aload_n 0, 1) := by decide +kernel
theorem d_F_refer_82 : decode prog_1_method_4_code 82 = .ok (.getfield 21, 3) := by decide +kernel
theorem d_F_refer_85 : decode prog_1_method_4_code 85 = .ok (.invokevirtual 78, 3) := by decide +kernel
theorem d_F_refer_88 : decode prog_1_method_4_code 88 = .ok (.ifCond .ne 7, 3) := by decide +kernel
theorem d_F_refer_91 : decode prog_1_method_4_code 91 = .ok (.iconst 1, 1) := by decide +kernel
theorem d_F_refer_92 : decode prog_1_method_4_code 92 = .ok (.goto 4, 3) := by decide +kernel
theorem d_F_refer_95 : decode prog_1_method_4_code 95 = .ok (.iconst 0, 1) := by decide +kernel
theorem d_F_refer_96 : decode prog_1_method_4_code 96 = .ok (.invokestatic 82, 3) := by decide +kernel
theorem d_F_refer_99 : decode prog_1_method_4_code 99 = .ok (.aload_n 0, 1) := by decide +kernel
theorem d_F_refer_100 : decode prog_1_method_4_code 100 = .ok (.invokevirtual 85, 3) := by decide +kernel
theorem d_F_refer_103 : decode prog_1_method_4_code 103 = .ok (.pop, 1) := by decide +kernel
theorem d_F_refer_104 : decode prog_1_method_4_code 104 = .ok (.aload_n 0, 1) := by decide +kernel
theorem d_F_refer_105 : decode prog_1_method_4_code 105 = .ok (.getfield 12, 3) := by decide +kernel
theorem d_F_refer_108 : decode prog_1_method_4_code 108 = .ok (.iload_n 1, 1) := by decide +kernel
theorem d_F_refer_109 : decode prog_1_method_4_code 109 = .ok (.iload_n 2, 1) := by decide +kernel
theorem d_F_refer_110 : decode prog_1_method_4_code 110 = .ok (.iload_n 3, 1) := by decide +kernel
theorem d_F_refer_111 : decode prog_1_method_4_code 111 = .ok (.iload 4, 2) := by decide +kernel
theorem d_F_refer_113 : decode prog_1_method_4_code 113 = .ok (.invokevirtual 130, 3) := by decide +kernel
theorem d_F_refer_116 : decode prog_1_method_4_code 116 = .ok (.return_, 1) := by decide +kernel
theorem d_F_veil_0 : decode prog_1_method_5_code 0 = .ok (.iload_n 1, 1) := by decide +kernel
theorem d_F_veil_1 : decode prog_1_method_5_code 1 = .ok (.iconst 1, 1) := by decide +kernel
theorem d_F_veil_2 : decode prog_1_method_5_code 2 = .ok (.if_icmp .lt 24, 3) := by decide +kernel
theorem d_F_veil_5 : decode prog_1_method_5_code 5 = .ok (.iload_n 1, 1) := by decide +kernel
theorem d_F_veil_6 : decode prog_1_method_5_code 6 = .ok (.iconst 4, 1) := by decide +kernel
theorem d_F_veil_7 : decode prog_1_method_5_code 7 = .ok (.if_icmp .ge 19, 3) := by decide +kernel
theorem d_F_veil_10 : decode prog_1_method_5_code 10 = .ok (.aload_n 0, 1) := by decide +kernel
theorem d_F_veil_11 : decode prog_1_method_5_code 11 = .ok (.getfield 12, 3) := by decide +kernel
theorem d_F_veil_14 : decode prog_1_method_5_code 14 = .ok (.iload_n 2, 1) := by decide +kernel
theorem d_F_veil_15 : decode prog_1_method_5_code 15 = .ok (.iload_n 3, 1) := by decide +kernel
theorem d_F_veil_16 : decode prog_1_method_5_code 16 = .ok (.invokevirtual 93, 3) := by decide +kernel
theorem d_F_veil_19 : decode prog_1_method_5_code 19 = .ok (.ifCond .eq 7, 3) := by decide +kernel
theorem d_F_veil_22 : decode prog_1_method_5_code 22 = .ok (.iconst 1, 1) := by decide +kernel
theorem d_F_veil_23 : decode prog_1_method_5_code 23 = .ok (.goto 4, 3) := by decide +kernel
theorem d_F_veil_26 : decode prog_1_method_5_code 26 = .ok (.iconst 0, 1) := by decide +kernel
theorem d_F_veil_27 : decode prog_1_method_5_code 27 = .ok (.invokestatic 97, 3) := by decide +kernel
theorem d_F_veil_30 : decode prog_1_method_5_code 30 = .ok (.iload 4, 2) := by decide +kernel
theorem d_F_veil_32 : decode prog_1_method_5_code 32 = .ok (.invokestatic 100, 3) := by decide +kernel
theorem d_F_veil_35 : decode prog_1_method_5_code 35 = .ok (.ifCond .eq 15, 3) := by decide +kernel
theorem d_F_veil_38 : decode prog_1_method_5_code 38 = .ok (.iload 5, 2) := by decide +kernel
theorem d_F_veil_40 : decode prog_1_method_5_code 40 = .ok (.invokestatic 104, 3) := by decide +kernel
theorem d_F_veil_43 : decode prog_1_method_5_code 43 = .ok (.ifCond .eq 7, 3) := by decide +kernel
theorem d_F_veil_46 : decode prog_1_method_5_code 46 = .ok (.iconst 1, 1) := by decide +kernel
theorem d_F_veil_47 : decode prog_1_method_5_code 47 = .ok (.goto 4, 3) := by decide +kernel
theorem d_F_veil_50 : decode prog_1_method_5_code 50 = .ok (.iconst 0, 1) := by decide +kernel
theorem d_F_veil_51 : decode prog_1_method_5_code 51 = .ok (.invokestatic 70, 3) := by decide +kernel
theorem d_F_veil_54 : decode prog_1_method_5_code 54 = .ok (.aload_n 0, 1) := by decide +kernel
theorem d_F_veil_55 : decode prog_1_method_5_code 55 = .ok (.getfield 12, 3) := by decide +kernel
theorem d_F_veil_58 : decode prog_1_method_5_code 58 = .ok (.getfield 134, 3) := by decide +kernel
theorem d_F_veil_61 : decode prog_1_method_5_code 61 = .ok (.bipush 12, 2) := by decide +kernel
theorem d_F_veil_63 : decode prog_1_method_5_code 63 = .ok (.if_icmp .ge 17, 3) := by decide +kernel
theorem d_F_veil_66 : decode prog_1_method_5_code 66 = .ok (.aload_n 0, 1) := by decide +kernel
theorem d_F_veil_67 : decode prog_1_method_5_code 67 = .ok (.getfield 21, 3) := by decide +kernel
theorem d_F_veil_70 : decode prog_1_method_5_code 70 = .ok (.invokevirtual 78, 3) := by decide +kernel
theorem d_F_veil_73 : decode prog_1_method_5_code 73 = .ok (.ifCond .ne 7, 3) := by decide +kernel
theorem d_F_veil_76 : decode prog_1_method_5_code 76 = .ok (.iconst 1, 1) := by decide +kernel
theorem d_F_veil_77 : decode prog_1_method_5_code 77 = .ok (.goto 4, 3) := by decide +kernel
theorem d_F_veil_80 : decode prog_1_method_5_code 80 = .ok (.iconst 0, 1) := by decide +kernel
theorem d_F_veil_81 : decode prog_1_method_5_code 81 = .ok (.invokestatic 82, 3) := by decide +kernel
theorem d_F_veil_84 : decode prog_1_method_5_code 84 = .ok (.aload_n 0, 1) := by decide +kernel
theorem d_F_veil_85 : decode prog_1_method_5_code 85 = .ok (.invokevirtual 85, 3) := by decide +kernel
theorem d_F_veil_88 : decode prog_1_method_5_code 88 = .ok (.pop, 1) := by decide +kernel
theorem d_F_veil_89 : decode prog_1_method_5_code 89 = .ok (.aload_n 0, 1) := by decide +kernel
theorem d_F_veil_90 : decode prog_1_method_5_code 90 = .ok (.getfield 12, 3) := by decide +kernel
theorem d_F_veil_93 : decode prog_1_method_5_code 93 = .ok (.iload_n 1, 1) := by decide +kernel
theorem d_F_veil_94 : decode prog_1_method_5_code 94 = .ok (.iload_n 2, 1) := by decide +kernel
theorem d_F_veil_95 : decode prog_1_method_5_code 95 = .ok (.iload_n 3, 1) := by decide +kernel
theorem d_F_veil_96 : decode prog_1_method_5_code 96 = .ok (.iload 4, 2) := by decide +kernel
theorem d_F_veil_98 : decode prog_1_method_5_code 98 = .ok (.iload 5, 2) := by decide +kernel
theorem d_F_veil_100 : decode prog_1_method_5_code 100 = .ok (.invokevirtual 137, 3) := by decide +kernel
theorem d_F_veil_103 : decode prog_1_method_5_code 103 = .ok (.ireturn, 1) := by decide +kernel
theorem d_F_begin_0 : decode prog_1_method_6_code 0 = .ok (.iload_n 1, 1) := by decide +kernel
theorem d_F_begin_1 : decode prog_1_method_6_code 1 = .ok (.ifCond .lt 12, 3) := by decide +kernel
theorem d_F_begin_4 : decode prog_1_method_6_code 4 = .ok (.iload_n 1, 1) := by decide +kernel
theorem d_F_begin_5 : decode prog_1_method_6_code 5 = .ok (.iconst 4, 1) := by decide +kernel
theorem d_F_begin_6 : decode prog_1_method_6_code 6 = .ok (.if_icmp .ge 7, 3) := by decide +kernel
theorem d_F_begin_9 : decode prog_1_method_6_code 9 = .ok (.iconst 1, 1) := by decide +kernel
theorem d_F_begin_10 : decode prog_1_method_6_code 10 = .ok (.goto 4, 3) := by decide +kernel
theorem d_F_begin_13 : decode prog_1_method_6_code 13 = .ok (.iconst 0, 1) := by decide +kernel
theorem d_F_begin_14 : decode prog_1_method_6_code 14 = .ok (.invokestatic 97, 3) := by decide +kernel
theorem d_F_begin_17 : decode prog_1_method_6_code 17 = .ok (.aload_n 0, 1) := by decide +kernel
theorem d_F_begin_18 : decode prog_1_method_6_code 18 = .ok (.getfield 21, 3) := by decide +kernel
theorem d_F_begin_21 : decode prog_1_method_6_code 21 = .ok (.invokevirtual 141, 3) := by decide +kernel
theorem d_F_begin_24 : decode prog_1_method_6_code 24 = .ok (.iconst 4, 1) := by decide +kernel
theorem d_F_begin_25 : decode prog_1_method_6_code 25 = .ok (.if_icmp .ge 22, 3) := by decide +kernel
theorem d_F_begin_28 : decode prog_1_method_6_code 28 = .ok (.aload_n 0, 1) := by decide +kernel
theorem d_F_begin_29 : decode prog_1_method_6_code 29 = .ok (.getfield 21, 3) := by decide +kernel
theorem d_F_begin_32 : decode prog_1_method_6_code 32 = .ok (.getfield 144, 3) := by decide +kernel
theorem d_F_begin_35 : decode prog_1_method_6_code 35 = .ok (.invokevirtual 147, 3) := by decide +kernel
theorem d_F_begin_38 : decode prog_1_method_6_code 38 = .ok (.bipush 60, 2) := by decide +kernel
theorem d_F_begin_40 : decode prog_1_method_6_code 40 = .ok (.if_icmp .ge 7, 3) := by decide +kernel
theorem d_F_begin_43 : decode prog_1_method_6_code 43 = .ok (.iconst 1, 1) := by decide +kernel
theorem d_F_begin_44 : decode prog_1_method_6_code 44 = .ok (.goto 4, 3) := by decide +kernel
theorem d_F_begin_47 : decode prog_1_method_6_code 47 = .ok (.iconst 0, 1) := by decide +kernel
theorem d_F_begin_48 : decode prog_1_method_6_code 48 = .ok (.invokestatic 82, 3) := by decide +kernel
theorem d_F_begin_51 : decode prog_1_method_6_code 51 = .ok (.aload_n 0, 1) := by decide +kernel
theorem d_F_begin_52 : decode prog_1_method_6_code 52 = .ok (.getfield 21, 3) := by decide +kernel
theorem d_F_begin_55 : decode prog_1_method_6_code 55 = .ok (.iload_n 1, 1) := by decide +kernel
theorem d_F_begin_56 : decode prog_1_method_6_code 56 = .ok (.invokevirtual 150, 3) := by decide +kernel
theorem d_F_begin_59 : decode prog_1_method_6_code 59 = .ok (.ireturn, 1) := by decide +kernel
theorem d_Engine_start_0 : decode prog_2_method_5_code 0 = .ok (.new 65, 3) := by decide +kernel
theorem d_Engine_start_3 : decode prog_2_method_5_code 3 = .ok (.dup, 1) := by decide +kernel
theorem d_Engine_start_4 : decode prog_2_method_5_code 4 = .ok (.aload_n 0, 1) := by decide +kernel
theorem d_Engine_start_5 : decode prog_2_method_5_code 5 = .ok (.getfield 21, 3) := by decide +kernel
theorem d_Engine_start_8 : decode prog_2_method_5_code 8 = .ok (.invokevirtual 57, 3) := by decide +kernel
theorem d_Engine_start_11 : decode prog_2_method_5_code 11 = .ok (.iload_n 1, 1) := by decide +kernel
theorem d_Engine_start_12 : decode prog_2_method_5_code 12 = .ok (.aload_n 0, 1) := by decide +kernel
theorem d_Engine_start_13 : decode prog_2_method_5_code 13 = .ok (.getfield 74, 3) := by decide +kernel
theorem d_Engine_start_16 : decode prog_2_method_5_code 16 = .ok (.invokespecial 78, 3) := by decide +kernel
theorem d_Engine_start_19 : decode prog_2_method_5_code 19 = .ok (.astore_n 2, 1) := by decide +kernel
theorem d_Engine_start_20 : decode prog_2_method_5_code 20 = .ok (.aload_n 2, 1) := by decide +kernel
theorem d_Engine_start_21 : decode prog_2_method_5_code 21 = .ok (.getfield 81, 3) := by decide +kernel
theorem d_Engine_start_24 : decode prog_2_method_5_code 24 = .ok (.aload_n 0, 1) := by decide +kernel
theorem d_Engine_start_25 : decode prog_2_method_5_code 25 = .ok (.getfield 12, 3) := by decide +kernel
theorem d_Engine_start_28 : decode prog_2_method_5_code 28 = .ok (.invokevirtual 84, 3) := by decide +kernel
theorem d_Engine_start_31 : decode prog_2_method_5_code 31 = .ok (.aload_n 0, 1) := by decide +kernel
theorem d_Engine_start_32 : decode prog_2_method_5_code 32 = .ok (.getfield 21, 3) := by decide +kernel
theorem d_Engine_start_35 : decode prog_2_method_5_code 35 = .ok (.aload_n 2, 1) := by decide +kernel
theorem d_Engine_start_36 : decode prog_2_method_5_code 36 = .ok (.invokevirtual 88, 3) := by decide +kernel
theorem d_Engine_start_39 : decode prog_2_method_5_code 39 = .ok (.pop, 1) := by decide +kernel
theorem d_Engine_start_40 : decode prog_2_method_5_code 40 = .ok (.aload_n 2, 1) := by decide +kernel
theorem d_Engine_start_41 : decode prog_2_method_5_code 41 = .ok (.getfield 92, 3) := by decide +kernel
theorem d_Engine_start_44 : decode prog_2_method_5_code 44 = .ok (.ireturn, 1) := by decide +kernel
theorem d_F_value_0 : decode prog_1_method_7_code 0 = .ok (.iload_n 1, 1) := by decide +kernel
theorem d_F_value_1 : decode prog_1_method_7_code 1 = .ok (.invokestatic 104, 3) := by decide +kernel
theorem d_F_value_4 : decode prog_1_method_7_code 4 = .ok (.ifCond .ne 9, 3) := by decide +kernel
theorem d_F_value_7 : decode prog_1_method_7_code 7 = .ok (.iload_n 1, 1) := by decide +kernel
theorem d_F_value_8 : decode prog_1_method_7_code 8 = .ok (.ldc 153, 2) := by decide +kernel
theorem d_F_value_10 : decode prog_1_method_7_code 10 = .ok (.if_icmp .ne 7, 3) := by decide +kernel
theorem d_F_value_13 : decode prog_1_method_7_code 13 = .ok (.iconst 1, 1) := by decide +kernel
theorem d_F_value_14 : decode prog_1_method_7_code 14 = .ok (.goto 4, 3) := by decide +kernel
theorem d_F_value_17 : decode prog_1_method_7_code 17 = .ok (.iconst 0, 1) := by decide +kernel
theorem d_F_value_18 : decode prog_1_method_7_code 18 = .ok (.invokestatic 70, 3) := by decide +kernel
theorem d_F_value_21 : decode prog_1_method_7_code 21 = .ok (.aload_n 0, 1) := by decide +kernel
theorem d_F_value_22 : decode prog_1_method_7_code 22 = .ok (.getfield 154, 3) := by decide +kernel
theorem d_F_value_25 : decode prog_1_method_7_code 25 = .ok (.iconst 4, 1) := by decide +kernel
theorem d_F_value_26 : decode prog_1_method_7_code 26 = .ok (.if_icmp .ge 7, 3) := by decide +kernel
theorem d_F_value_29 : decode prog_1_method_7_code 29 = .ok (.iconst 1, 1) := by decide +kernel
theorem d_F_value_30 : decode prog_1_method_7_code 30 = .ok (.goto 4, 3) := by decide +kernel
theorem d_F_value_33 : decode prog_1_method_7_code 33 = .ok (.iconst 0, 1) := by decide +kernel
theorem d_F_value_34 : decode prog_1_method_7_code 34 = .ok (.invokestatic 82, 3) := by decide +kernel
theorem d_F_value_37 : decode prog_1_method_7_code 37 = .ok (.aload_n 0, 1) := by decide +kernel
theorem d_F_value_38 : decode prog_1_method_7_code 38 = .ok (.getfield 59, 3) := by decide +kernel
theorem d_F_value_41 : decode prog_1_method_7_code 41 = .ok (.aload_n 0, 1) := by decide +kernel
theorem d_F_value_42 : decode prog_1_method_7_code 42 = .ok (.getfield 154, 3) := by decide +kernel
theorem d_F_value_45 : decode prog_1_method_7_code 45 = .ok (.iload_n 1, 1) := by decide +kernel
theorem d_F_value_46 : decode prog_1_method_7_code 46 = .ok (.iastore, 1) := by decide +kernel
theorem d_F_value_47 : decode prog_1_method_7_code 47 = .ok (.aload_n 0, 1) := by decide +kernel
theorem d_F_value_48 : decode prog_1_method_7_code 48 = .ok (.dup, 1) := by decide +kernel
theorem d_F_value_49 : decode prog_1_method_7_code 49 = .ok (.getfield 154, 3) := by decide +kernel
theorem d_F_value_52 : decode prog_1_method_7_code 52 = .ok (.iconst 1, 1) := by decide +kernel
theorem d_F_value_53 : decode prog_1_method_7_code 53 = .ok (.iadd, 1) := by decide +kernel
theorem d_F_value_54 : decode prog_1_method_7_code 54 = .ok (.putfield 154, 3) := by decide +kernel
theorem d_F_value_57 : decode prog_1_method_7_code 57 = .ok (.aload_n 0, 1) := by decide +kernel
theorem d_F_value_58 : decode prog_1_method_7_code 58 = .ok (.getfield 154, 3) := by decide +kernel
theorem d_F_value_61 : decode prog_1_method_7_code 61 = .ok (.ireturn, 1) := by decide +kernel
theorem d_F_insert_0 : decode prog_1_method_8_code 0 = .ok (.aload_n 0, 1) := by decide +kernel
theorem d_F_insert_1 : decode prog_1_method_8_code 1 = .ok (.getfield 21, 3) := by decide +kernel
theorem d_F_insert_4 : decode prog_1_method_8_code 4 = .ok (.iload_n 1, 1) := by decide +kernel
theorem d_F_insert_5 : decode prog_1_method_8_code 5 = .ok (.invokevirtual 157, 3) := by decide +kernel
theorem d_F_insert_8 : decode prog_1_method_8_code 8 = .ok (.ifCond .eq 18, 3) := by decide +kernel
theorem d_F_insert_11 : decode prog_1_method_8_code 11 = .ok (.aload_n 0, 1) := by decide +kernel
theorem d_F_insert_12 : decode prog_1_method_8_code 12 = .ok (.getfield 12, 3) := by decide +kernel
theorem d_F_insert_15 : decode prog_1_method_8_code 15 = .ok (.iload_n 2, 1) := by decide +kernel
theorem d_F_insert_16 : decode prog_1_method_8_code 16 = .ok (.invokevirtual 123, 3) := by decide +kernel
theorem d_F_insert_19 : decode prog_1_method_8_code 19 = .ok (.ifCond .eq 7, 3) := by decide +kernel
theorem d_F_insert_22 : decode prog_1_method_8_code 22 = .ok (.iconst 1, 1) := by decide +kernel
theorem d_F_insert_23 : decode prog_1_method_8_code 23 = .ok (.goto 4, 3) := by decide +kernel
theorem d_F_insert_26 : decode prog_1_method_8_code 26 = .ok (.iconst 0, 1) := by decide +kernel
theorem d_F_insert_27 : decode prog_1_method_8_code 27 = .ok (.invokestatic 97, 3) := by decide +kernel
theorem d_F_insert_30 : decode prog_1_method_8_code 30 = .ok (.aload_n 0, 1) := by decide +kernel
theorem d_F_insert_31 : decode prog_1_method_8_code 31 = .ok (.iload_n 1, 1) := by decide +kernel
theorem d_F_insert_32 : decode prog_1_method_8_code 32 = .ok (.invokevirtual 160, 3) := by decide +kernel
theorem d_F_insert_35 : decode prog_1_method_8_code 35 = .ok (.astore_n 3, 1) := by decide +kernel
theorem d_F_insert_36 : decode prog_1_method_8_code 36 = .ok (.aload_n 0, 1) := by decide +kernel
theorem d_F_insert_37 : decode prog_1_method_8_code 37 = .ok (.getfield 154, 3) := by decide +kernel
theorem d_F_insert_40 : decode prog_1_method_8_code 40 = .ok (.aload_n 0, 1) := by decide +kernel
theorem d_F_insert_41 : decode prog_1_method_8_code 41 = .ok (.getfield 12, 3) := by decide +kernel
theorem d_F_insert_44 : decode prog_1_method_8_code 44 = .ok (.getfield 164, 3) := by decide +kernel
theorem d_F_insert_47 : decode prog_1_method_8_code 47 = .ok (.iload_n 2, 1) := by decide +kernel
theorem d_F_insert_48 : decode prog_1_method_8_code 48 = .ok (.iaload, 1) := by decide +kernel
theorem d_F_insert_49 : decode prog_1_method_8_code 49 = .ok (.if_icmp .ne 7, 3) := by decide +kernel
theorem d_F_insert_52 : decode prog_1_method_8_code 52 = .ok (.iconst 1, 1) := by decide +kernel
theorem d_F_insert_53 : decode prog_1_method_8_code 53 = .ok (.goto 4, 3) := by decide +kernel
theorem d_F_insert_56 : decode prog_1_method_8_code 56 = .ok (.iconst 0, 1) := by decide +kernel
theorem d_F_insert_57 : decode prog_1_method_8_code 57 = .ok (.invokestatic 82, 3) := by decide +kernel
theorem d_F_insert_60 : decode prog_1_method_8_code 60 = .ok (.aload_n 3, 1) := by decide +kernel
theorem d_F_insert_61 : decode prog_1_method_8_code 61 = .ok (.iload_n 2, 1) := by decide +kernel
theorem d_F_insert_62 : decode prog_1_method_8_code 62 = .ok (.aload_n 0, 1) := by decide +kernel
theorem d_F_insert_63 : decode prog_1_method_8_code 63 = .ok (.getfield 59, 3) := by decide +kernel
theorem d_F_insert_66 : decode prog_1_method_8_code 66 = .ok (.aload_n 0, 1) := by decide +kernel
theorem d_F_insert_67 : decode prog_1_method_8_code 67 = .ok (.getfield 154, 3) := by decide +kernel
theorem d_F_insert_70 : decode prog_1_method_8_code 70 = .ok (.invokevirtual 167, 3) := by decide +kernel
theorem d_F_insert_73 : decode prog_1_method_8_code 73 = .ok (.aload_n 0, 1) := by decide +kernel
theorem d_F_insert_74 : decode prog_1_method_8_code 74 = .ok (.iconst 0, 1) := by decide +kernel
theorem d_F_insert_75 : decode prog_1_method_8_code 75 = .ok (.putfield 154, 3) := by decide +kernel
theorem d_F_insert_78 : decode prog_1_method_8_code 78 = .ok (.aload_n 0, 1) := by decide +kernel
theorem d_F_insert_79 : decode prog_1_method_8_code 79 = .ok (.getfield 21, 3) := by decide +kernel
theorem d_F_insert_82 : decode prog_1_method_8_code 82 = .ok (.aload_n 3, 1) := by decide +kernel
theorem d_F_insert_83 : decode prog_1_method_8_code 83 = .ok (.invokevirtual 173, 3) := by decide +kernel
theorem d_F_insert_86 : decode prog_1_method_8_code 86 = .ok (.aload_n 3, 1) := by decide +kernel
theorem d_F_insert_87 : decode prog_1_method_8_code 87 = .ok (.getfield 177, 3) := by decide +kernel
theorem d_F_insert_90 : decode prog_1_method_8_code 90 = .ok (.ireturn, 1) := by decide +kernel
theorem d_Engine_hasTransaction_0 : decode prog_2_method_2_code 0 = .ok (.iload_n 1, 1) := by decide +kernel
theorem d_Engine_hasTransaction_1 : decode prog_2_method_2_code 1 = .ok (.ifCond .lt 18, 3) := by decide +kernel
theorem d_Engine_hasTransaction_4 : decode prog_2_method_2_code 4 = .ok (.iload_n 1, 1) := by decide +kernel
theorem d_Engine_hasTransaction_5 : decode prog_2_method_2_code 5 = .ok (.aload_n 0, 1) := by decide +kernel
theorem d_Engine_hasTransaction_6 : decode prog_2_method_2_code 6 = .ok (.getfield 21, 3) := by decide +kernel
theorem d_Engine_hasTransaction_9 : decode prog_2_method_2_code 9 = .ok (.invokevirtual 57, 3) := by decide +kernel
theorem d_Engine_hasTransaction_12 : decode prog_2_method_2_code 12 = .ok (.if_icmp .ge 7, 3) := by decide +kernel
theorem d_Engine_hasTransaction_15 : decode prog_2_method_2_code 15 = .ok (.iconst 1, 1) := by decide +kernel
theorem d_Engine_hasTransaction_16 : decode prog_2_method_2_code 16 = .ok (.goto 4, 3) := by decide +kernel
theorem d_Engine_hasTransaction_19 : decode prog_2_method_2_code 19 = .ok (.iconst 0, 1) := by decide +kernel
theorem d_Engine_hasTransaction_20 : decode prog_2_method_2_code 20 = .ok (.ireturn, 1) := by decide +kernel
theorem d_F_activeTransaction_0 : decode prog_1_method_59_code 0 = .ok (.aload_n 0, 1) := by decide +kernel
theorem d_F_activeTransaction_1 : decode prog_1_method_59_code 1 = .ok (.iload_n 1, 1) := by decide +kernel
theorem d_F_activeTransaction_2 : decode prog_1_method_59_code 2 = .ok (.invokevirtual 194, 3) := by decide +kernel
theorem d_F_activeTransaction_5 : decode prog_1_method_59_code 5 = .ok (.astore_n 2, 1) := by decide +kernel
theorem d_F_activeTransaction_6 : decode prog_1_method_59_code 6 = .ok (.aload_n 2, 1) := by decide +kernel
theorem d_F_activeTransaction_7 : decode prog_1_method_59_code 7 = .ok (.getfield 203, 3) := by decide +kernel
theorem d_F_activeTransaction_10 : decode prog_1_method_59_code 10 = .ok (.ifCond .ne 7, 3) := by decide +kernel
theorem d_F_activeTransaction_13 : decode prog_1_method_59_code 13 = .ok (.iconst 1, 1) := by decide +kernel
theorem d_F_activeTransaction_14 : decode prog_1_method_59_code 14 = .ok (.goto 4, 3) := by decide +kernel
theorem d_F_activeTransaction_17 : decode prog_1_method_59_code 17 = .ok (.iconst 0, 1) := by decide +kernel
theorem d_F_activeTransaction_18 : decode prog_1_method_59_code 18 = .ok (.invokestatic 82, 3) := by decide +kernel
theorem d_F_activeTransaction_21 : decode prog_1_method_59_code 21 = .ok (.aload_n 2, 1) := by decide +kernel
theorem d_F_activeTransaction_22 : decode prog_1_method_59_code 22 = .ok (.areturn, 1) := by decide +kernel
theorem d_F_transactionAt_0 : decode prog_1_method_58_code 0 = .ok (.aload_n 0, 1) := by decide +kernel
theorem d_F_transactionAt_1 : decode prog_1_method_58_code 1 = .ok (.getfield 21, 3) := by decide +kernel
theorem d_F_transactionAt_4 : decode prog_1_method_58_code 4 = .ok (.iload_n 1, 1) := by decide +kernel
theorem d_F_transactionAt_5 : decode prog_1_method_58_code 5 = .ok (.invokevirtual 157, 3) := by decide +kernel
theorem d_F_transactionAt_8 : decode prog_1_method_58_code 8 = .ok (.invokestatic 97, 3) := by decide +kernel
theorem d_F_transactionAt_11 : decode prog_1_method_58_code 11 = .ok (.aload_n 0, 1) := by decide +kernel
theorem d_F_transactionAt_12 : decode prog_1_method_58_code 12 = .ok (.getfield 21, 3) := by decide +kernel
theorem d_F_transactionAt_15 : decode prog_1_method_58_code 15 = .ok (.getfield 144, 3) := by decide +kernel
theorem d_F_transactionAt_18 : decode prog_1_method_58_code 18 = .ok (.iload_n 1, 1) := by decide +kernel
theorem d_F_transactionAt_19 : decode prog_1_method_58_code 19 = .ok (.invokevirtual 270, 3) := by decide +kernel
theorem d_F_transactionAt_22 : decode prog_1_method_58_code 22 = .ok (.checkcast 168, 3) := by decide +kernel
theorem d_F_transactionAt_25 : decode prog_1_method_58_code 25 = .ok (.areturn, 1) := by decide +kernel
theorem d_Engine_settle_0 : decode prog_2_method_13_code 0 = .ok (.aload_n 1, 1) := by decide +kernel
theorem d_Engine_settle_1 : decode prog_2_method_13_code 1 = .ok (.ifnull 7, 3) := by decide +kernel
theorem d_Engine_settle_4 : decode prog_2_method_13_code 4 = .ok (.aload_n 1, 1) := by decide +kernel
theorem d_Engine_settle_5 : decode prog_2_method_13_code 5 = .ok (.goto 7, 3) := by decide +kernel
theorem d_Engine_settle_8 : decode prog_2_method_13_code 8 = .ok (.aload_n 0, 1) := by decide +kernel
theorem d_Engine_settle_9 : decode prog_2_method_13_code 9 = .ok (.invokevirtual 165, 3) := by decide +kernel
theorem d_Engine_settle_12 : decode prog_2_method_13_code 12 = .ok (.astore_n 2, 1) := by decide +kernel
theorem d_Engine_settle_13 : decode prog_2_method_13_code 13 = .ok (.iconst 0, 1) := by decide +kernel
theorem d_Engine_settle_14 : decode prog_2_method_13_code 14 = .ok (.istore_n 3, 1) := by decide +kernel
theorem d_Engine_settle_15 : decode prog_2_method_13_code 15 = .ok (.iload_n 3, 1) := by decide +kernel
theorem d_Engine_settle_16 : decode prog_2_method_13_code 16 = .ok (.sipush 1000, 3) := by decide +kernel
theorem d_Engine_settle_19 : decode prog_2_method_13_code 19 = .ok (.if_icmp .ge 33, 3) := by decide +kernel
theorem d_Engine_settle_22 : decode prog_2_method_13_code 22 = .ok (.aload_n 2, 1) := by decide +kernel
theorem d_Engine_settle_23 : decode prog_2_method_13_code 23 = .ok (.ifnull 29, 3) := by decide +kernel
theorem d_Engine_settle_26 : decode prog_2_method_13_code 26 = .ok (.aload_n 2, 1) := by decide +kernel
theorem d_Engine_settle_27 : decode prog_2_method_13_code 27 = .ok (.iconst 0, 1) := by decide +kernel
theorem d_Engine_settle_28 : decode prog_2_method_13_code 28 = .ok (.putfield 118, 3) := by decide +kernel
theorem d_Engine_settle_31 : decode prog_2_method_13_code 31 = .ok (.aload_n 2, 1) := by decide +kernel
theorem d_Engine_settle_32 : decode prog_2_method_13_code 32 = .ok (.iconst (-1), 1) := by decide +kernel
theorem d_Engine_settle_33 : decode prog_2_method_13_code 33 = .ok (.putfield 121, 3) := by decide +kernel
theorem d_Engine_settle_36 : decode prog_2_method_13_code 36 = .ok (.aload_n 0, 1) := by decide +kernel
theorem d_Engine_settle_37 : decode prog_2_method_13_code 37 = .ok (.aload_n 2, 1) := by decide +kernel
theorem d_Engine_settle_38 : decode prog_2_method_13_code 38 = .ok (.invokevirtual 169, 3) := by decide +kernel
theorem d_Engine_settle_41 : decode prog_2_method_13_code 41 = .ok (.aload_n 0, 1) := by decide +kernel
theorem d_Engine_settle_42 : decode prog_2_method_13_code 42 = .ok (.invokevirtual 165, 3) := by decide +kernel
theorem d_Engine_settle_45 : decode prog_2_method_13_code 45 = .ok (.astore_n 2, 1) := by decide +kernel
theorem d_Engine_settle_46 : decode prog_2_method_13_code 46 = .ok (.iinc 3 1, 3) := by decide +kernel
theorem d_Engine_settle_49 : decode prog_2_method_13_code 49 = .ok (.goto (-34), 3) := by decide +kernel
theorem d_Engine_settle_52 : decode prog_2_method_13_code 52 = .ok (.return_, 1) := by decide +kernel
theorem d_Engine_lowestFreed_0 : decode prog_2_method_14_code 0 = .ok (.iconst 0, 1) := by decide +kernel
theorem d_Engine_lowestFreed_1 : decode prog_2_method_14_code 1 = .ok (.istore_n 1, 1) := by decide +kernel
theorem d_Engine_lowestFreed_2 : decode prog_2_method_14_code 2 = .ok (.iload_n 1, 1) := by decide +kernel
theorem d_Engine_lowestFreed_3 : decode prog_2_method_14_code 3 = .ok (.aload_n 0, 1) := by decide +kernel
theorem d_Engine_lowestFreed_4 : decode prog_2_method_14_code 4 = .ok (.getfield 21, 3) := by decide +kernel
theorem d_Engine_lowestFreed_7 : decode prog_2_method_14_code 7 = .ok (.invokevirtual 57, 3) := by decide +kernel
theorem d_Engine_lowestFreed_10 : decode prog_2_method_14_code 10 = .ok (.if_icmp .ge 62, 3) := by decide +kernel
theorem d_Engine_lowestFreed_13 : decode prog_2_method_14_code 13 = .ok (.aload_n 0, 1) := by decide +kernel
theorem d_Engine_lowestFreed_14 : decode prog_2_method_14_code 14 = .ok (.getfield 21, 3) := by decide +kernel
theorem d_Engine_lowestFreed_17 : decode prog_2_method_14_code 17 = .ok (.iload_n 1, 1) := by decide +kernel
theorem d_Engine_lowestFreed_18 : decode prog_2_method_14_code 18 = .ok (.invokevirtual 61, 3) := by decide +kernel
theorem d_Engine_lowestFreed_21 : decode prog_2_method_14_code 21 = .ok (.checkcast 65, 3) := by decide +kernel
theorem d_Engine_lowestFreed_24 : decode prog_2_method_14_code 24 = .ok (.astore_n 2, 1) := by decide +kernel
theorem d_Engine_lowestFreed_25 : decode prog_2_method_14_code 25 = .ok (.aload_n 2, 1) := by decide +kernel
theorem d_Engine_lowestFreed_26 : decode prog_2_method_14_code 26 = .ok (.getfield 118, 3) := by decide +kernel
theorem d_Engine_lowestFreed_29 : decode prog_2_method_14_code 29 = .ok (.iconst 1, 1) := by decide +kernel
theorem d_Engine_lowestFreed_30 : decode prog_2_method_14_code 30 = .ok (.if_icmp .ne 36, 3) := by decide +kernel
theorem d_Engine_lowestFreed_33 : decode prog_2_method_14_code 33 = .ok (.aload_n 0, 1) := by decide +kernel
theorem d_Engine_lowestFreed_34 : decode prog_2_method_14_code 34 = .ok (.aload_n 2, 1) := by decide +kernel
theorem d_Engine_lowestFreed_35 : decode prog_2_method_14_code 35 = .ok (.getfield 121, 3) := by decide +kernel
theorem d_Engine_lowestFreed_38 : decode prog_2_method_14_code 38 = .ok (.invokevirtual 144, 3) := by decide +kernel
theorem d_Engine_lowestFreed_41 : decode prog_2_method_14_code 41 = .ok (.ifCond .eq 25, 3) := by decide +kernel
theorem d_Engine_lowestFreed_44 : decode prog_2_method_14_code 44 = .ok (.aload_n 0, 1) := by decide +kernel
theorem d_Engine_lowestFreed_45 : decode prog_2_method_14_code 45 = .ok (.getfield 21, 3) := by decide +kernel
theorem d_Engine_lowestFreed_48 : decode prog_2_method_14_code 48 = .ok (.aload_n 2, 1) := by decide +kernel
theorem d_Engine_lowestFreed_49 : decode prog_2_method_14_code 49 = .ok (.getfield 121, 3) := by decide +kernel
theorem d_Engine_lowestFreed_52 : decode prog_2_method_14_code 52 = .ok (.invokevirtual 61, 3) := by decide +kernel
theorem d_Engine_lowestFreed_55 : decode prog_2_method_14_code 55 = .ok (.checkcast 65, 3) := by decide +kernel
theorem d_Engine_lowestFreed_58 : decode prog_2_method_14_code 58 = .ok (.invokevirtual 67, 3) := by decide +kernel
theorem d_Engine_lowestFreed_61 : decode prog_2_method_14_code 61 = .ok (.ifCond .ne 5, 3) := by decide +kernel
theorem d_Engine_lowestFreed_64 : decode prog_2_method_14_code 64 = .ok (.aload_n 2, 1) := by decide +kernel
theorem d_Engine_lowestFreed_65 : decode prog_2_method_14_code 65 = .ok (.areturn, 1) := by decide +kernel
theorem d_Engine_lowestFreed_66 : decode prog_2_method_14_code 66 = .ok (.iinc 1 1, 3) := by decide +kernel
theorem d_Engine_lowestFreed_69 : decode prog_2_method_14_code 69 = .ok (.goto (-67), 3) := by decide +kernel
theorem d_Engine_lowestFreed_72 : decode prog_2_method_14_code 72 = .ok (.aconst_null, 1) := by decide +kernel
theorem d_Engine_lowestFreed_73 : decode prog_2_method_14_code 73 = .ok (.areturn, 1) := by decide +kernel
theorem d_Engine_attempt_0 : decode prog_2_method_7_code 0 = .ok (.aload_n 0, 1) := by decide +kernel
theorem d_Engine_attempt_1 : decode prog_2_method_7_code 1 = .ok (.getfield 47, 3) := by decide +kernel
theorem d_Engine_attempt_4 : decode prog_2_method_7_code 4 = .ok (.aload_n 1, 1) := by decide +kernel
theorem d_Engine_attempt_5 : decode prog_2_method_7_code 5 = .ok (.invokevirtual 99, 3) := by decide +kernel
theorem d_Engine_attempt_8 : decode prog_2_method_7_code 8 = .ok (.ifCond .ne 9, 3) := by decide +kernel
theorem d_Engine_attempt_11 : decode prog_2_method_7_code 11 = .ok (.aload_n 1, 1) := by decide +kernel
theorem d_Engine_attempt_12 : decode prog_2_method_7_code 12 = .ok (.iconst 2, 1) := by decide +kernel
theorem d_Engine_attempt_13 : decode prog_2_method_7_code 13 = .ok (.putfield 103, 3) := by decide +kernel
theorem d_Engine_attempt_16 : decode prog_2_method_7_code 16 = .ok (.return_, 1) := by decide +kernel
theorem d_Engine_attempt_17 : decode prog_2_method_7_code 17 = .ok (.aload_n 0, 1) := by decide +kernel
theorem d_Engine_attempt_18 : decode prog_2_method_7_code 18 = .ok (.aload_n 1, 1) := by decide +kernel
theorem d_Engine_attempt_19 : decode prog_2_method_7_code 19 = .ok (.getfield 92, 3) := by decide +kernel
theorem d_Engine_attempt_22 : decode prog_2_method_7_code 22 = .ok (.invokevirtual 106, 3) := by decide +kernel
theorem d_Engine_attempt_25 : decode prog_2_method_7_code 25 = .ok (.istore_n 2, 1) := by decide +kernel
theorem d_Engine_attempt_26 : decode prog_2_method_7_code 26 = .ok (.iload_n 2, 1) := by decide +kernel
theorem d_Engine_attempt_27 : decode prog_2_method_7_code 27 = .ok (.iconst (-1), 1) := by decide +kernel
theorem d_Engine_attempt_28 : decode prog_2_method_7_code 28 = .ok (.if_icmp .eq 29, 3) := by decide +kernel
theorem d_Engine_attempt_31 : decode prog_2_method_7_code 31 = .ok (.aload_n 0, 1) := by decide +kernel
theorem d_Engine_attempt_32 : decode prog_2_method_7_code 32 = .ok (.iload_n 2, 1) := by decide +kernel
theorem d_Engine_attempt_33 : decode prog_2_method_7_code 33 = .ok (.aload_n 1, 1) := by decide +kernel
theorem d_Engine_attempt_34 : decode prog_2_method_7_code 34 = .ok (.getfield 92, 3) := by decide +kernel
theorem d_Engine_attempt_37 : decode prog_2_method_7_code 37 = .ok (.invokevirtual 110, 3) := by decide +kernel
theorem d_Engine_attempt_40 : decode prog_2_method_7_code 40 = .ok (.ifCond .eq 17, 3) := by decide +kernel
theorem d_Engine_attempt_43 : decode prog_2_method_7_code 43 = .ok (.aload_n 0, 1) := by decide +kernel
theorem d_Engine_attempt_44 : decode prog_2_method_7_code 44 = .ok (.aload_n 1, 1) := by decide +kernel
theorem d_Engine_attempt_45 : decode prog_2_method_7_code 45 = .ok (.invokevirtual 114, 3) := by decide +kernel
theorem d_Engine_attempt_48 : decode prog_2_method_7_code 48 = .ok (.pop, 1) := by decide +kernel
theorem d_Engine_attempt_49 : decode prog_2_method_7_code 49 = .ok (.aload_n 1, 1) := by decide +kernel
theorem d_Engine_attempt_50 : decode prog_2_method_7_code 50 = .ok (.iconst 4, 1) := by decide +kernel
theorem d_Engine_attempt_51 : decode prog_2_method_7_code 51 = .ok (.putfield 103, 3) := by decide +kernel
theorem d_Engine_attempt_54 : decode prog_2_method_7_code 54 = .ok (.goto 58, 3) := by decide +kernel
theorem d_Engine_attempt_57 : decode prog_2_method_7_code 57 = .ok (.iload_n 2, 1) := by decide +kernel
theorem d_Engine_attempt_58 : decode prog_2_method_7_code 58 = .ok (.iconst (-1), 1) := by decide +kernel
theorem d_Engine_attempt_59 : decode prog_2_method_7_code 59 = .ok (.if_icmp .eq 21, 3) := by decide +kernel
theorem d_Engine_attempt_62 : decode prog_2_method_7_code 62 = .ok (.aload_n 1, 1) := by decide +kernel
theorem d_Engine_attempt_63 : decode prog_2_method_7_code 63 = .ok (.iconst 1, 1) := by decide +kernel
theorem d_Engine_attempt_64 : decode prog_2_method_7_code 64 = .ok (.putfield 118, 3) := by decide +kernel
theorem d_Engine_attempt_67 : decode prog_2_method_7_code 67 = .ok (.aload_n 1, 1) := by decide +kernel
theorem d_Engine_attempt_68 : decode prog_2_method_7_code 68 = .ok (.iload_n 2, 1) := by decide +kernel
theorem d_Engine_attempt_69 : decode prog_2_method_7_code 69 = .ok (.putfield 121, 3) := by decide +kernel
theorem d_Engine_attempt_72 : decode prog_2_method_7_code 72 = .ok (.aload_n 1, 1) := by decide +kernel
theorem d_Engine_attempt_73 : decode prog_2_method_7_code 73 = .ok (.iconst 1, 1) := by decide +kernel
theorem d_Engine_attempt_74 : decode prog_2_method_7_code 74 = .ok (.putfield 103, 3) := by decide +kernel
theorem d_Engine_attempt_77 : decode prog_2_method_7_code 77 = .ok (.goto 35, 3) := by decide +kernel
theorem d_Engine_attempt_80 : decode prog_2_method_7_code 80 = .ok (.aload_n 0, 1) := by decide +kernel
theorem d_Engine_attempt_81 : decode prog_2_method_7_code 81 = .ok (.aload_n 1, 1) := by decide +kernel
theorem d_Engine_attempt_82 : decode prog_2_method_7_code 82 = .ok (.invokevirtual 124, 3) := by decide +kernel
theorem d_Engine_attempt_85 : decode prog_2_method_7_code 85 = .ok (.ifCond .eq 17, 3) := by decide +kernel
theorem d_Engine_attempt_88 : decode prog_2_method_7_code 88 = .ok (.aload_n 0, 1) := by decide +kernel
theorem d_Engine_attempt_89 : decode prog_2_method_7_code 89 = .ok (.aload_n 1, 1) := by decide +kernel
theorem d_Engine_attempt_90 : decode prog_2_method_7_code 90 = .ok (.invokevirtual 114, 3) := by decide +kernel
theorem d_Engine_attempt_93 : decode prog_2_method_7_code 93 = .ok (.pop, 1) := by decide +kernel
theorem d_Engine_attempt_94 : decode prog_2_method_7_code 94 = .ok (.aload_n 1, 1) := by decide +kernel
theorem d_Engine_attempt_95 : decode prog_2_method_7_code 95 = .ok (.iconst 3, 1) := by decide +kernel
theorem d_Engine_attempt_96 : decode prog_2_method_7_code 96 = .ok (.putfield 103, 3) := by decide +kernel
theorem d_Engine_attempt_99 : decode prog_2_method_7_code 99 = .ok (.goto 13, 3) := by decide +kernel
theorem d_Engine_attempt_102 : decode prog_2_method_7_code 102 = .ok (.aload_n 0, 1) := by decide +kernel
theorem d_Engine_attempt_103 : decode prog_2_method_7_code 103 = .ok (.aload_n 1, 1) := by decide +kernel
theorem d_Engine_attempt_104 : decode prog_2_method_7_code 104 = .ok (.invokevirtual 127, 3) := by decide +kernel
theorem d_Engine_attempt_107 : decode prog_2_method_7_code 107 = .ok (.aload_n 1, 1) := by decide +kernel
theorem d_Engine_attempt_108 : decode prog_2_method_7_code 108 = .ok (.iconst 0, 1) := by decide +kernel
theorem d_Engine_attempt_109 : decode prog_2_method_7_code 109 = .ok (.putfield 103, 3) := by decide +kernel
theorem d_Engine_attempt_112 : decode prog_2_method_7_code 112 = .ok (.return_, 1) := by decide +kernel
theorem d_Trial_allows_0 : decode prog_11_method_2_code 0 = .ok (.aload_n 0, 1) := by decide +kernel
theorem d_Trial_allows_1 : decode prog_11_method_2_code 1 = .ok (.getfield 12, 3) := by decide +kernel
theorem d_Trial_allows_4 : decode prog_11_method_2_code 4 = .ok (.aload_n 1, 1) := by decide +kernel
theorem d_Trial_allows_5 : decode prog_11_method_2_code 5 = .ok (.getfield 39, 3) := by decide +kernel
theorem d_Trial_allows_8 : decode prog_11_method_2_code 8 = .ok (.invokevirtual 44, 3) := by decide +kernel
theorem d_Trial_allows_11 : decode prog_11_method_2_code 11 = .ok (.aload_n 0, 1) := by decide +kernel
theorem d_Trial_allows_12 : decode prog_11_method_2_code 12 = .ok (.iconst 0, 1) := by decide +kernel
theorem d_Trial_allows_13 : decode prog_11_method_2_code 13 = .ok (.putfield 48, 3) := by decide +kernel
theorem d_Trial_allows_16 : decode prog_11_method_2_code 16 = .ok (.aload_n 1, 1) := by decide +kernel
theorem d_Trial_allows_17 : decode prog_11_method_2_code 17 = .ok (.getfield 52, 3) := by decide +kernel
theorem d_Trial_allows_20 : decode prog_11_method_2_code 20 = .ok (.ifCond .ne 9, 3) := by decide +kernel
theorem d_Trial_allows_23 : decode prog_11_method_2_code 23 = .ok (.aload_n 0, 1) := by decide +kernel
theorem d_Trial_allows_24 : decode prog_11_method_2_code 24 = .ok (.aload_n 1, 1) := by decide +kernel
theorem d_Trial_allows_25 : decode prog_11_method_2_code 25 = .ok (.invokevirtual 55, 3) := by decide +kernel
theorem d_Trial_allows_28 : decode prog_11_method_2_code 28 = .ok (.ireturn, 1) := by decide +kernel
theorem d_Trial_allows_29 : decode prog_11_method_2_code 29 = .ok (.aload_n 1, 1) := by decide +kernel
theorem d_Trial_allows_30 : decode prog_11_method_2_code 30 = .ok (.aload_n 1, 1) := by decide +kernel
theorem d_Trial_allows_31 : decode prog_11_method_2_code 31 = .ok (.getfield 59, 3) := by decide +kernel
theorem d_Trial_allows_34 : decode prog_11_method_2_code 34 = .ok (.aload_n 1, 1) := by decide +kernel
theorem d_Trial_allows_35 : decode prog_11_method_2_code 35 = .ok (.getfield 62, 3) := by decide +kernel
theorem d_Trial_allows_38 : decode prog_11_method_2_code 38 = .ok (.invokevirtual 65, 3) := by decide +kernel
theorem d_Trial_allows_41 : decode prog_11_method_2_code 41 = .ok (.aload_n 1, 1) := by decide +kernel
theorem d_Trial_allows_42 : decode prog_11_method_2_code 42 = .ok (.getfield 52, 3) := by decide +kernel
theorem d_Trial_allows_45 : decode prog_11_method_2_code 45 = .ok (.iconst 1, 1) := by decide +kernel
theorem d_Trial_allows_46 : decode prog_11_method_2_code 46 = .ok (.if_icmp .ne 11, 3) := by decide +kernel
theorem d_Trial_allows_49 : decode prog_11_method_2_code 49 = .ok (.aload_n 0, 1) := by decide +kernel
theorem d_Trial_allows_50 : decode prog_11_method_2_code 50 = .ok (.aload_n 1, 1) := by decide +kernel
theorem d_Trial_allows_51 : decode prog_11_method_2_code 51 = .ok (.invokevirtual 69, 3) := by decide +kernel
theorem d_Trial_allows_54 : decode prog_11_method_2_code 54 = .ok (.goto 8, 3) := by decide +kernel
theorem d_Trial_allows_57 : decode prog_11_method_2_code 57 = .ok (.aload_n 0, 1) := by decide +kernel
theorem d_Trial_allows_58 : decode prog_11_method_2_code 58 = .ok (.aload_n 1, 1) := by decide +kernel
theorem d_Trial_allows_59 : decode prog_11_method_2_code 59 = .ok (.invokevirtual 72, 3) := by decide +kernel
theorem d_Trial_allows_62 : decode prog_11_method_2_code 62 = .ok (.ireturn, 1) := by decide +kernel
theorem d_Trial_allowsInsert_0 : decode prog_11_method_3_code 0 = .ok (.aload_n 1, 1) := by decide +kernel
theorem d_Trial_allowsInsert_1 : decode prog_11_method_3_code 1 = .ok (.getfield 59, 3) := by decide +kernel
theorem d_Trial_allowsInsert_4 : decode prog_11_method_3_code 4 = .ok (.istore_n 2, 1) := by decide +kernel
theorem d_Trial_allowsInsert_5 : decode prog_11_method_3_code 5 = .ok (.aload_n 1, 1) := by decide +kernel
theorem d_Trial_allowsInsert_6 : decode prog_11_method_3_code 6 = .ok (.getfield 62, 3) := by decide +kernel
theorem d_Trial_allowsInsert_9 : decode prog_11_method_3_code 9 = .ok (.ldc 75, 2) := by decide +kernel
theorem d_Trial_allowsInsert_11 : decode prog_11_method_3_code 11 = .ok (.if_icmp .eq 12, 3) := by decide +kernel
theorem d_Trial_allowsInsert_14 : decode prog_11_method_3_code 14 = .ok (.aload_n 1, 1) := by decide +kernel
theorem d_Trial_allowsInsert_15 : decode prog_11_method_3_code 15 = .ok (.iload_n 2, 1) := by decide +kernel
theorem d_Trial_allowsInsert_16 : decode prog_11_method_3_code 16 = .ok (.aload_n 1, 1) := by decide +kernel
theorem d_Trial_allowsInsert_17 : decode prog_11_method_3_code 17 = .ok (.getfield 62, 3) := by decide +kernel
theorem d_Trial_allowsInsert_20 : decode prog_11_method_3_code 20 = .ok (.invokevirtual 65, 3) := by decide +kernel
theorem d_Trial_allowsInsert_23 : decode prog_11_method_3_code 23 = .ok (.iconst 1, 1) := by decide +kernel
theorem d_Trial_allowsInsert_24 : decode prog_11_method_3_code 24 = .ok (.istore_n 3, 1) := by decide +kernel
theorem d_Trial_allowsInsert_25 : decode prog_11_method_3_code 25 = .ok (.iconst 1, 1) := by decide +kernel
theorem d_Trial_allowsInsert_26 : decode prog_11_method_3_code 26 = .ok (.istore 4, 2) := by decide +kernel
theorem d_Trial_allowsInsert_28 : decode prog_11_method_3_code 28 = .ok (.iload 4, 2) := by decide +kernel
theorem d_Trial_allowsInsert_30 : decode prog_11_method_3_code 30 = .ok (.aload_n 0, 1) := by decide +kernel
theorem d_Trial_allowsInsert_31 : decode prog_11_method_3_code 31 = .ok (.getfield 35, 3) := by decide +kernel
theorem d_Trial_allowsInsert_34 : decode prog_11_method_3_code 34 = .ok (.getfield 76, 3) := by decide +kernel
theorem d_Trial_allowsInsert_37 : decode prog_11_method_3_code 37 = .ok (.iload_n 2, 1) := by decide +kernel
theorem d_Trial_allowsInsert_38 : decode prog_11_method_3_code 38 = .ok (.iaload, 1) := by decide +kernel
theorem d_Trial_allowsInsert_39 : decode prog_11_method_3_code 39 = .ok (.if_icmp .ge 26, 3) := by decide +kernel
theorem d_Trial_allowsInsert_42 : decode prog_11_method_3_code 42 = .ok (.iload_n 3, 1) := by decide +kernel
theorem d_Trial_allowsInsert_43 : decode prog_11_method_3_code 43 = .ok (.aload_n 0, 1) := by decide +kernel
theorem d_Trial_allowsInsert_44 : decode prog_11_method_3_code 44 = .ok (.aload_n 1, 1) := by decide +kernel
theorem d_Trial_allowsInsert_45 : decode prog_11_method_3_code 45 = .ok (.iload 4, 2) := by decide +kernel
theorem d_Trial_allowsInsert_47 : decode prog_11_method_3_code 47 = .ok (.aload_n 1, 1) := by decide +kernel
theorem d_Trial_allowsInsert_48 : decode prog_11_method_3_code 48 = .ok (.getfield 81, 3) := by decide +kernel
theorem d_Trial_allowsInsert_51 : decode prog_11_method_3_code 51 = .ok (.iload 4, 2) := by decide +kernel
theorem d_Trial_allowsInsert_53 : decode prog_11_method_3_code 53 = .ok (.iaload, 1) := by decide +kernel
theorem d_Trial_allowsInsert_54 : decode prog_11_method_3_code 54 = .ok (.invokevirtual 84, 3) := by decide +kernel
theorem d_Trial_allowsInsert_57 : decode prog_11_method_3_code 57 = .ok (.iand, 1) := by decide +kernel
theorem d_Trial_allowsInsert_58 : decode prog_11_method_3_code 58 = .ok (.istore_n 3, 1) := by decide +kernel
theorem d_Trial_allowsInsert_59 : decode prog_11_method_3_code 59 = .ok (.iinc 4 1, 3) := by decide +kernel
theorem d_Trial_allowsInsert_62 : decode prog_11_method_3_code 62 = .ok (.goto (-34), 3) := by decide +kernel
theorem d_Trial_allowsInsert_65 : decode prog_11_method_3_code 65 = .ok (.aload_n 0, 1) := by decide +kernel
theorem d_Trial_allowsInsert_66 : decode prog_11_method_3_code 66 = .ok (.getfield 12, 3) := by decide +kernel
theorem d_Trial_allowsInsert_69 : decode prog_11_method_3_code 69 = .ok (.iload_n 2, 1) := by decide +kernel
theorem d_Trial_allowsInsert_70 : decode prog_11_method_3_code 70 = .ok (.invokevirtual 88, 3) := by decide +kernel
theorem d_Trial_allowsInsert_73 : decode prog_11_method_3_code 73 = .ok (.istore 4, 2) := by decide +kernel
theorem d_Trial_allowsInsert_75 : decode prog_11_method_3_code 75 = .ok (.iload_n 3, 1) := by decide +kernel
theorem d_Trial_allowsInsert_76 : decode prog_11_method_3_code 76 = .ok (.ifCond .eq 50, 3) := by decide +kernel
theorem d_Trial_allowsInsert_79 : decode prog_11_method_3_code 79 = .ok (.aload_n 1, 1) := by decide +kernel
theorem d_Trial_allowsInsert_80 : decode prog_11_method_3_code 80 = .ok (.getfield 62, 3) := by decide +kernel
theorem d_Trial_allowsInsert_83 : decode prog_11_method_3_code 83 = .ok (.ldc 75, 2) := by decide +kernel
theorem d_Trial_allowsInsert_85 : decode prog_11_method_3_code 85 = .ok (.if_icmp .eq 41, 3) := by decide +kernel
theorem d_Trial_allowsInsert_88 : decode prog_11_method_3_code 88 = .ok (.iload 4, 2) := by decide +kernel
theorem d_Trial_allowsInsert_90 : decode prog_11_method_3_code 90 = .ok (.iconst (-1), 1) := by decide +kernel
theorem d_Trial_allowsInsert_91 : decode prog_11_method_3_code 91 = .ok (.if_icmp .eq 35, 3) := by decide +kernel
theorem d_Trial_allowsInsert_94 : decode prog_11_method_3_code 94 = .ok (.aload_n 0, 1) := by decide +kernel
theorem d_Trial_allowsInsert_95 : decode prog_11_method_3_code 95 = .ok (.getfield 12, 3) := by decide +kernel
theorem d_Trial_allowsInsert_98 : decode prog_11_method_3_code 98 = .ok (.iload_n 2, 1) := by decide +kernel
theorem d_Trial_allowsInsert_99 : decode prog_11_method_3_code 99 = .ok (.aload_n 1, 1) := by decide +kernel
theorem d_Trial_allowsInsert_100 : decode prog_11_method_3_code 100 = .ok (.getfield 62, 3) := by decide +kernel
theorem d_Trial_allowsInsert_103 : decode prog_11_method_3_code 103 = .ok (.invokevirtual 92, 3) := by decide +kernel
theorem d_Trial_allowsInsert_106 : decode prog_11_method_3_code 106 = .ok (.iconst (-1), 1) := by decide +kernel
theorem d_Trial_allowsInsert_107 : decode prog_11_method_3_code 107 = .ok (.if_icmp .ne 19, 3) := by decide +kernel
theorem d_Trial_allowsInsert_110 : decode prog_11_method_3_code 110 = .ok (.aload_n 0, 1) := by decide +kernel
theorem d_Trial_allowsInsert_111 : decode prog_11_method_3_code 111 = .ok (.getfield 35, 3) := by decide +kernel
theorem d_Trial_allowsInsert_114 : decode prog_11_method_3_code 114 = .ok (.iload_n 2, 1) := by decide +kernel
theorem d_Trial_allowsInsert_115 : decode prog_11_method_3_code 115 = .ok (.aload_n 1, 1) := by decide +kernel
theorem d_Trial_allowsInsert_116 : decode prog_11_method_3_code 116 = .ok (.getfield 81, 3) := by decide +kernel
theorem d_Trial_allowsInsert_119 : decode prog_11_method_3_code 119 = .ok (.iconst 0, 1) := by decide +kernel
theorem d_Trial_allowsInsert_120 : decode prog_11_method_3_code 120 = .ok (.invokevirtual 96, 3) := by decide +kernel
theorem d_Trial_allowsInsert_123 : decode prog_11_method_3_code 123 = .ok (.ifCond .ne 5, 3) := by decide +kernel
theorem d_Trial_allowsInsert_126 : decode prog_11_method_3_code 126 = .ok (.iconst 0, 1) := by decide +kernel
theorem d_Trial_allowsInsert_127 : decode prog_11_method_3_code 127 = .ok (.ireturn, 1) := by decide +kernel
theorem d_Trial_allowsInsert_128 : decode prog_11_method_3_code 128 = .ok (.aload_n 0, 1) := by decide +kernel
theorem d_Trial_allowsInsert_129 : decode prog_11_method_3_code 129 = .ok (.getfield 12, 3) := by decide +kernel
theorem d_Trial_allowsInsert_132 : decode prog_11_method_3_code 132 = .ok (.iload 4, 2) := by decide +kernel
theorem d_Trial_allowsInsert_134 : decode prog_11_method_3_code 134 = .ok (.aload_n 1, 1) := by decide +kernel
theorem d_Trial_allowsInsert_135 : decode prog_11_method_3_code 135 = .ok (.getfield 81, 3) := by decide +kernel
theorem d_Trial_allowsInsert_138 : decode prog_11_method_3_code 138 = .ok (.iconst 0, 1) := by decide +kernel
theorem d_Trial_allowsInsert_139 : decode prog_11_method_3_code 139 = .ok (.invokevirtual 100, 3) := by decide +kernel
theorem d_Trial_allowsInsert_142 : decode prog_11_method_3_code 142 = .ok (.aload_n 0, 1) := by decide +kernel
theorem d_Trial_allowsInsert_143 : decode prog_11_method_3_code 143 = .ok (.iload_n 2, 1) := by decide +kernel
theorem d_Trial_allowsInsert_144 : decode prog_11_method_3_code 144 = .ok (.aload_n 1, 1) := by decide +kernel
theorem d_Trial_allowsInsert_145 : decode prog_11_method_3_code 145 = .ok (.getfield 62, 3) := by decide +kernel
theorem d_Trial_allowsInsert_148 : decode prog_11_method_3_code 148 = .ok (.invokevirtual 104, 3) := by decide +kernel
theorem d_Trial_allowsInsert_151 : decode prog_11_method_3_code 151 = .ok (.iconst 1, 1) := by decide +kernel
theorem d_Trial_allowsInsert_152 : decode prog_11_method_3_code 152 = .ok (.ireturn, 1) := by decide +kernel
theorem d_Trial_findsReferred_0 : decode prog_11_method_5_code 0 = .ok (.aload_n 0, 1) := by decide +kernel
theorem d_Trial_findsReferred_1 : decode prog_11_method_5_code 1 = .ok (.getfield 35, 3) := by decide +kernel
theorem d_Trial_findsReferred_4 : decode prog_11_method_5_code 4 = .ok (.aload_n 1, 1) := by decide +kernel
theorem d_Trial_findsReferred_5 : decode prog_11_method_5_code 5 = .ok (.getfield 59, 3) := by decide +kernel
theorem d_Trial_findsReferred_8 : decode prog_11_method_5_code 8 = .ok (.iload_n 2, 1) := by decide +kernel
theorem d_Trial_findsReferred_9 : decode prog_11_method_5_code 9 = .ok (.invokevirtual 123, 3) := by decide +kernel
theorem d_Trial_findsReferred_12 : decode prog_11_method_5_code 12 = .ok (.istore 4, 2) := by decide +kernel
theorem d_Trial_findsReferred_14 : decode prog_11_method_5_code 14 = .ok (.iload 4, 2) := by decide +kernel
theorem d_Trial_findsReferred_16 : decode prog_11_method_5_code 16 = .ok (.iconst (-1), 1) := by decide +kernel
theorem d_Trial_findsReferred_17 : decode prog_11_method_5_code 17 = .ok (.if_icmp .eq 9, 3) := by decide +kernel
theorem d_Trial_findsReferred_20 : decode prog_11_method_5_code 20 = .ok (.iload_n 3, 1) := by decide +kernel
theorem d_Trial_findsReferred_21 : decode prog_11_method_5_code 21 = .ok (.ldc 75, 2) := by decide +kernel
theorem d_Trial_findsReferred_23 : decode prog_11_method_5_code 23 = .ok (.if_icmp .ne 5, 3) := by decide +kernel
theorem d_Trial_findsReferred_26 : decode prog_11_method_5_code 26 = .ok (.iconst 1, 1) := by decide +kernel
theorem d_Trial_findsReferred_27 : decode prog_11_method_5_code 27 = .ok (.ireturn, 1) := by decide +kernel
theorem d_Trial_findsReferred_28 : decode prog_11_method_5_code 28 = .ok (.aload_n 1, 1) := by decide +kernel
theorem d_Trial_findsReferred_29 : decode prog_11_method_5_code 29 = .ok (.iload 4, 2) := by decide +kernel
theorem d_Trial_findsReferred_31 : decode prog_11_method_5_code 31 = .ok (.iload_n 3, 1) := by decide +kernel
theorem d_Trial_findsReferred_32 : decode prog_11_method_5_code 32 = .ok (.invokevirtual 65, 3) := by decide +kernel
theorem d_Trial_findsReferred_35 : decode prog_11_method_5_code 35 = .ok (.aload_n 1, 1) := by decide +kernel
theorem d_Trial_findsReferred_36 : decode prog_11_method_5_code 36 = .ok (.getfield 39, 3) := by decide +kernel
theorem d_Trial_findsReferred_39 : decode prog_11_method_5_code 39 = .ok (.iload 4, 2) := by decide +kernel
theorem d_Trial_findsReferred_41 : decode prog_11_method_5_code 41 = .ok (.iload_n 3, 1) := by decide +kernel
theorem d_Trial_findsReferred_42 : decode prog_11_method_5_code 42 = .ok (.invokevirtual 92, 3) := by decide +kernel
theorem d_Trial_findsReferred_45 : decode prog_11_method_5_code 45 = .ok (.iconst (-1), 1) := by decide +kernel
theorem d_Trial_findsReferred_46 : decode prog_11_method_5_code 46 = .ok (.if_icmp .eq 7, 3) := by decide +kernel
theorem d_Trial_findsReferred_49 : decode prog_11_method_5_code 49 = .ok (.iconst 1, 1) := by decide +kernel
theorem d_Trial_findsReferred_50 : decode prog_11_method_5_code 50 = .ok (.goto 4, 3) := by decide +kernel
theorem d_Trial_findsReferred_53 : decode prog_11_method_5_code 53 = .ok (.iconst 0, 1) := by decide +kernel
theorem d_Trial_findsReferred_54 : decode prog_11_method_5_code 54 = .ok (.ireturn, 1) := by decide +kernel
theorem d_F_compared_0 : decode prog_1_method_54_code 0 = .ok (.iload_n 0, 1) := by decide +kernel
theorem d_F_compared_1 : decode prog_1_method_54_code 1 = .ok (.ldc 153, 2) := by decide +kernel
theorem d_F_compared_3 : decode prog_1_method_54_code 3 = .ok (.if_icmp .eq 9, 3) := by decide +kernel
theorem d_F_compared_6 : decode prog_1_method_54_code 6 = .ok (.iload_n 2, 1) := by decide +kernel
theorem d_F_compared_7 : decode prog_1_method_54_code 7 = .ok (.ldc 153, 2) := by decide +kernel
theorem d_F_compared_9 : decode prog_1_method_54_code 9 = .ok (.if_icmp .ne 5, 3) := by decide +kernel
theorem d_F_compared_12 : decode prog_1_method_54_code 12 = .ok (.iconst (-1), 1) := by decide +kernel
theorem d_F_compared_13 : decode prog_1_method_54_code 13 = .ok (.ireturn, 1) := by decide +kernel
theorem d_F_compared_14 : decode prog_1_method_54_code 14 = .ok (.iload_n 0, 1) := by decide +kernel
theorem d_F_compared_15 : decode prog_1_method_54_code 15 = .ok (.iload_n 2, 1) := by decide +kernel
theorem d_F_compared_16 : decode prog_1_method_54_code 16 = .ok (.invokestatic 363, 3) := by decide +kernel
theorem d_F_compared_19 : decode prog_1_method_54_code 19 = .ok (.istore_n 3, 1) := by decide +kernel
theorem d_F_compared_20 : decode prog_1_method_54_code 20 = .ok (.iload_n 1, 1) := by decide +kernel
theorem d_F_compared_21 : decode prog_1_method_54_code 21 = .ok (.ifCond .ne 15, 3) := by decide +kernel
theorem d_F_compared_24 : decode prog_1_method_54_code 24 = .ok (.iload_n 3, 1) := by decide +kernel
theorem d_F_compared_25 : decode prog_1_method_54_code 25 = .ok (.ifCond .ge 7, 3) := by decide +kernel
theorem d_F_compared_28 : decode prog_1_method_54_code 28 = .ok (.iconst 1, 1) := by decide +kernel
theorem d_F_compared_29 : decode prog_1_method_54_code 29 = .ok (.goto 33, 3) := by decide +kernel
theorem d_F_compared_32 : decode prog_1_method_54_code 32 = .ok (.iconst 0, 1) := by decide +kernel
theorem d_F_compared_33 : decode prog_1_method_54_code 33 = .ok (.goto 29, 3) := by decide +kernel
theorem d_F_compared_36 : decode prog_1_method_54_code 36 = .ok (.iload_n 1, 1) := by decide +kernel
theorem d_F_compared_37 : decode prog_1_method_54_code 37 = .ok (.iconst 1, 1) := by decide +kernel
theorem d_F_compared_38 : decode prog_1_method_54_code 38 = .ok (.if_icmp .ne 15, 3) := by decide +kernel
theorem d_F_compared_41 : decode prog_1_method_54_code 41 = .ok (.iload_n 3, 1) := by decide +kernel
theorem d_F_compared_42 : decode prog_1_method_54_code 42 = .ok (.ifCond .ne 7, 3) := by decide +kernel
theorem d_F_compared_45 : decode prog_1_method_54_code 45 = .ok (.iconst 1, 1) := by decide +kernel
theorem d_F_compared_46 : decode prog_1_method_54_code 46 = .ok (.goto 16, 3) := by decide +kernel
theorem d_F_compared_49 : decode prog_1_method_54_code 49 = .ok (.iconst 0, 1) := by decide +kernel
theorem d_F_compared_50 : decode prog_1_method_54_code 50 = .ok (.goto 12, 3) := by decide +kernel
theorem d_F_compared_53 : decode prog_1_method_54_code 53 = .ok (.iload_n 3, 1) := by decide +kernel
theorem d_F_compared_54 : decode prog_1_method_54_code 54 = .ok (.ifCond .le 7, 3) := by decide +kernel
theorem d_F_compared_57 : decode prog_1_method_54_code 57 = .ok (.iconst 1, 1) := by decide +kernel
theorem d_F_compared_58 : decode prog_1_method_54_code 58 = .ok (.goto 4, 3) := by decide +kernel
theorem d_F_compared_61 : decode prog_1_method_54_code 61 = .ok (.iconst 0, 1) := by decide +kernel
theorem d_F_compared_62 : decode prog_1_method_54_code 62 = .ok (.istore 4, 2) := by decide +kernel
theorem d_F_compared_64 : decode prog_1_method_54_code 64 = .ok (.iload 4, 2) := by decide +kernel
theorem d_F_compared_66 : decode prog_1_method_54_code 66 = .ok (.ifCond .eq 7, 3) := by decide +kernel
theorem d_F_compared_69 : decode prog_1_method_54_code 69 = .ok (.iconst 1, 1) := by decide +kernel
theorem d_F_compared_70 : decode prog_1_method_54_code 70 = .ok (.goto 4, 3) := by decide +kernel
theorem d_F_compared_73 : decode prog_1_method_54_code 73 = .ok (.iconst 0, 1) := by decide +kernel
theorem d_F_compared_74 : decode prog_1_method_54_code 74 = .ok (.ireturn, 1) := by decide +kernel
theorem d_Trial_touch_0 : decode prog_11_method_16_code 0 = .ok (.aload_n 0, 1) := by decide +kernel
theorem d_Trial_touch_1 : decode prog_11_method_16_code 1 = .ok (.getfield 48, 3) := by decide +kernel
theorem d_Trial_touch_4 : decode prog_11_method_16_code 4 = .ok (.istore_n 3, 1) := by decide +kernel
theorem d_Trial_touch_5 : decode prog_11_method_16_code 5 = .ok (.aload_n 0, 1) := by decide +kernel
theorem d_Trial_touch_6 : decode prog_11_method_16_code 6 = .ok (.getfield 48, 3) := by decide +kernel
theorem d_Trial_touch_9 : decode prog_11_method_16_code 9 = .ok (.iconst 1, 1) := by decide +kernel
theorem d_Trial_touch_10 : decode prog_11_method_16_code 10 = .ok (.isub, 1) := by decide +kernel
theorem d_Trial_touch_11 : decode prog_11_method_16_code 11 = .ok (.istore 4, 2) := by decide +kernel
theorem d_Trial_touch_13 : decode prog_11_method_16_code 13 = .ok (.iload 4, 2) := by decide +kernel
theorem d_Trial_touch_15 : decode prog_11_method_16_code 15 = .ok (.ifCond .lt 66, 3) := by decide +kernel
theorem d_Trial_touch_18 : decode prog_11_method_16_code 18 = .ok (.aload_n 0, 1) := by decide +kernel
theorem d_Trial_touch_19 : decode prog_11_method_16_code 19 = .ok (.getfield 29, 3) := by decide +kernel
theorem d_Trial_touch_22 : decode prog_11_method_16_code 22 = .ok (.iload 4, 2) := by decide +kernel
theorem d_Trial_touch_24 : decode prog_11_method_16_code 24 = .ok (.iaload, 1) := by decide +kernel
theorem d_Trial_touch_25 : decode prog_11_method_16_code 25 = .ok (.iload_n 1, 1) := by decide +kernel
theorem d_Trial_touch_26 : decode prog_11_method_16_code 26 = .ok (.if_icmp .ne 55, 3) := by decide +kernel
theorem d_Trial_touch_29 : decode prog_11_method_16_code 29 = .ok (.aload_n 0, 1) := by decide +kernel
theorem d_Trial_touch_30 : decode prog_11_method_16_code 30 = .ok (.getfield 32, 3) := by decide +kernel
theorem d_Trial_touch_33 : decode prog_11_method_16_code 33 = .ok (.iload 4, 2) := by decide +kernel
theorem d_Trial_touch_35 : decode prog_11_method_16_code 35 = .ok (.iaload, 1) := by decide +kernel
theorem d_Trial_touch_36 : decode prog_11_method_16_code 36 = .ok (.iload_n 2, 1) := by decide +kernel
theorem d_Trial_touch_37 : decode prog_11_method_16_code 37 = .ok (.if_icmp .le 44, 3) := by decide +kernel
theorem d_Trial_touch_40 : decode prog_11_method_16_code 40 = .ok (.aload_n 0, 1) := by decide +kernel
theorem d_Trial_touch_41 : decode prog_11_method_16_code 41 = .ok (.getfield 29, 3) := by decide +kernel
theorem d_Trial_touch_44 : decode prog_11_method_16_code 44 = .ok (.iload 4, 2) := by decide +kernel
theorem d_Trial_touch_46 : decode prog_11_method_16_code 46 = .ok (.iconst 1, 1) := by decide +kernel
theorem d_Trial_touch_47 : decode prog_11_method_16_code 47 = .ok (.iadd, 1) := by decide +kernel
theorem d_Trial_touch_48 : decode prog_11_method_16_code 48 = .ok (.aload_n 0, 1) := by decide +kernel
theorem d_Trial_touch_49 : decode prog_11_method_16_code 49 = .ok (.getfield 29, 3) := by decide +kernel
theorem d_Trial_touch_52 : decode prog_11_method_16_code 52 = .ok (.iload 4, 2) := by decide +kernel
theorem d_Trial_touch_54 : decode prog_11_method_16_code 54 = .ok (.iaload, 1) := by decide +kernel
theorem d_Trial_touch_55 : decode prog_11_method_16_code 55 = .ok (.iastore, 1) := by decide +kernel
theorem d_Trial_touch_56 : decode prog_11_method_16_code 56 = .ok (.aload_n 0, 1) := by decide +kernel
theorem d_Trial_touch_57 : decode prog_11_method_16_code 57 = .ok (.getfield 32, 3) := by decide +kernel
theorem d_Trial_touch_60 : decode prog_11_method_16_code 60 = .ok (.iload 4, 2) := by decide +kernel
theorem d_Trial_touch_62 : decode prog_11_method_16_code 62 = .ok (.iconst 1, 1) := by decide +kernel
theorem d_Trial_touch_63 : decode prog_11_method_16_code 63 = .ok (.iadd, 1) := by decide +kernel
theorem d_Trial_touch_64 : decode prog_11_method_16_code 64 = .ok (.aload_n 0, 1) := by decide +kernel
theorem d_Trial_touch_65 : decode prog_11_method_16_code 65 = .ok (.getfield 32, 3) := by decide +kernel
theorem d_Trial_touch_68 : decode prog_11_method_16_code 68 = .ok (.iload 4, 2) := by decide +kernel
theorem d_Trial_touch_70 : decode prog_11_method_16_code 70 = .ok (.iaload, 1) := by decide +kernel
theorem d_Trial_touch_71 : decode prog_11_method_16_code 71 = .ok (.iastore, 1) := by decide +kernel
theorem d_Trial_touch_72 : decode prog_11_method_16_code 72 = .ok (.iload 4, 2) := by decide +kernel
theorem d_Trial_touch_74 : decode prog_11_method_16_code 74 = .ok (.istore_n 3, 1) := by decide +kernel
theorem d_Trial_touch_75 : decode prog_11_method_16_code 75 = .ok (.iinc 4 (-1), 3) := by decide +kernel
theorem d_Trial_touch_78 : decode prog_11_method_16_code 78 = .ok (.goto (-65), 3) := by decide +kernel
theorem d_Trial_touch_81 : decode prog_11_method_16_code 81 = .ok (.aload_n 0, 1) := by decide +kernel
theorem d_Trial_touch_82 : decode prog_11_method_16_code 82 = .ok (.getfield 29, 3) := by decide +kernel
theorem d_Trial_touch_85 : decode prog_11_method_16_code 85 = .ok (.iload_n 3, 1) := by decide +kernel
theorem d_Trial_touch_86 : decode prog_11_method_16_code 86 = .ok (.iload_n 1, 1) := by decide +kernel
theorem d_Trial_touch_87 : decode prog_11_method_16_code 87 = .ok (.iastore, 1) := by decide +kernel
theorem d_Trial_touch_88 : decode prog_11_method_16_code 88 = .ok (.aload_n 0, 1) := by decide +kernel
theorem d_Trial_touch_89 : decode prog_11_method_16_code 89 = .ok (.getfield 32, 3) := by decide +kernel
theorem d_Trial_touch_92 : decode prog_11_method_16_code 92 = .ok (.iload_n 3, 1) := by decide +kernel
theorem d_Trial_touch_93 : decode prog_11_method_16_code 93 = .ok (.iload_n 2, 1) := by decide +kernel
theorem d_Trial_touch_94 : decode prog_11_method_16_code 94 = .ok (.iastore, 1) := by decide +kernel
theorem d_Trial_touch_95 : decode prog_11_method_16_code 95 = .ok (.aload_n 0, 1) := by decide +kernel
theorem d_Trial_touch_96 : decode prog_11_method_16_code 96 = .ok (.dup, 1) := by decide +kernel
theorem d_Trial_touch_97 : decode prog_11_method_16_code 97 = .ok (.getfield 48, 3) := by decide +kernel
theorem d_Trial_touch_100 : decode prog_11_method_16_code 100 = .ok (.iconst 1, 1) := by decide +kernel
theorem d_Trial_touch_101 : decode prog_11_method_16_code 101 = .ok (.iadd, 1) := by decide +kernel
theorem d_Trial_touch_102 : decode prog_11_method_16_code 102 = .ok (.putfield 48, 3) := by decide +kernel
theorem d_Trial_touch_105 : decode prog_11_method_16_code 105 = .ok (.return_, 1) := by decide +kernel
theorem d_Trial_allowsUpdate_0 : decode prog_11_method_4_code 0 = .ok (.aload_n 1, 1) := by decide +kernel
theorem d_Trial_allowsUpdate_1 : decode prog_11_method_4_code 1 = .ok (.getfield 59, 3) := by decide +kernel
theorem d_Trial_allowsUpdate_4 : decode prog_11_method_4_code 4 = .ok (.istore_n 2, 1) := by decide +kernel
theorem d_Trial_allowsUpdate_5 : decode prog_11_method_4_code 5 = .ok (.aload_n 0, 1) := by decide +kernel
theorem d_Trial_allowsUpdate_6 : decode prog_11_method_4_code 6 = .ok (.aload_n 1, 1) := by decide +kernel
theorem d_Trial_allowsUpdate_7 : decode prog_11_method_4_code 7 = .ok (.aload_n 1, 1) := by decide +kernel
theorem d_Trial_allowsUpdate_8 : decode prog_11_method_4_code 8 = .ok (.getfield 107, 3) := by decide +kernel
theorem d_Trial_allowsUpdate_11 : decode prog_11_method_4_code 11 = .ok (.aload_n 1, 1) := by decide +kernel
theorem d_Trial_allowsUpdate_12 : decode prog_11_method_4_code 12 = .ok (.getfield 110, 3) := by decide +kernel
theorem d_Trial_allowsUpdate_15 : decode prog_11_method_4_code 15 = .ok (.invokevirtual 84, 3) := by decide +kernel
theorem d_Trial_allowsUpdate_18 : decode prog_11_method_4_code 18 = .ok (.istore_n 3, 1) := by decide +kernel
theorem d_Trial_allowsUpdate_19 : decode prog_11_method_4_code 19 = .ok (.aload_n 0, 1) := by decide +kernel
theorem d_Trial_allowsUpdate_20 : decode prog_11_method_4_code 20 = .ok (.aload_n 1, 1) := by decide +kernel
theorem d_Trial_allowsUpdate_21 : decode prog_11_method_4_code 21 = .ok (.invokevirtual 113, 3) := by decide +kernel
theorem d_Trial_allowsUpdate_24 : decode prog_11_method_4_code 24 = .ok (.istore 4, 2) := by decide +kernel
theorem d_Trial_allowsUpdate_26 : decode prog_11_method_4_code 26 = .ok (.iload_n 3, 1) := by decide +kernel
theorem d_Trial_allowsUpdate_27 : decode prog_11_method_4_code 27 = .ok (.ifCond .eq 9, 3) := by decide +kernel
theorem d_Trial_allowsUpdate_30 : decode prog_11_method_4_code 30 = .ok (.iload 4, 2) := by decide +kernel
theorem d_Trial_allowsUpdate_32 : decode prog_11_method_4_code 32 = .ok (.iconst (-1), 1) := by decide +kernel
theorem d_Trial_allowsUpdate_33 : decode prog_11_method_4_code 33 = .ok (.if_icmp .ne 5, 3) := by decide +kernel
theorem d_Trial_allowsUpdate_36 : decode prog_11_method_4_code 36 = .ok (.iconst 0, 1) := by decide +kernel
theorem d_Trial_allowsUpdate_37 : decode prog_11_method_4_code 37 = .ok (.ireturn, 1) := by decide +kernel
theorem d_Trial_allowsUpdate_38 : decode prog_11_method_4_code 38 = .ok (.aload_n 0, 1) := by decide +kernel
theorem d_Trial_allowsUpdate_39 : decode prog_11_method_4_code 39 = .ok (.getfield 12, 3) := by decide +kernel
theorem d_Trial_allowsUpdate_42 : decode prog_11_method_4_code 42 = .ok (.getfield 117, 3) := by decide +kernel
theorem d_Trial_allowsUpdate_45 : decode prog_11_method_4_code 45 = .ok (.iload 4, 2) := by decide +kernel
theorem d_Trial_allowsUpdate_47 : decode prog_11_method_4_code 47 = .ok (.invokestatic 120, 3) := by decide +kernel
theorem d_Trial_allowsUpdate_50 : decode prog_11_method_4_code 50 = .ok (.aload_n 1, 1) := by decide +kernel
theorem d_Trial_allowsUpdate_51 : decode prog_11_method_4_code 51 = .ok (.getfield 107, 3) := by decide +kernel
theorem d_Trial_allowsUpdate_54 : decode prog_11_method_4_code 54 = .ok (.iadd, 1) := by decide +kernel
theorem d_Trial_allowsUpdate_55 : decode prog_11_method_4_code 55 = .ok (.aload_n 1, 1) := by decide +kernel
theorem d_Trial_allowsUpdate_56 : decode prog_11_method_4_code 56 = .ok (.getfield 110, 3) := by decide +kernel
theorem d_Trial_allowsUpdate_59 : decode prog_11_method_4_code 59 = .ok (.iastore, 1) := by decide +kernel
theorem d_Trial_allowsUpdate_60 : decode prog_11_method_4_code 60 = .ok (.aload_n 0, 1) := by decide +kernel
theorem d_Trial_allowsUpdate_61 : decode prog_11_method_4_code 61 = .ok (.iload_n 2, 1) := by decide +kernel
theorem d_Trial_allowsUpdate_62 : decode prog_11_method_4_code 62 = .ok (.aload_n 1, 1) := by decide +kernel
theorem d_Trial_allowsUpdate_63 : decode prog_11_method_4_code 63 = .ok (.getfield 62, 3) := by decide +kernel
theorem d_Trial_allowsUpdate_66 : decode prog_11_method_4_code 66 = .ok (.invokevirtual 104, 3) := by decide +kernel
theorem d_Trial_allowsUpdate_69 : decode prog_11_method_4_code 69 = .ok (.aload_n 0, 1) := by decide +kernel
theorem d_Trial_allowsUpdate_70 : decode prog_11_method_4_code 70 = .ok (.getfield 35, 3) := by decide +kernel
theorem d_Trial_allowsUpdate_73 : decode prog_11_method_4_code 73 = .ok (.iload_n 2, 1) := by decide +kernel
theorem d_Trial_allowsUpdate_74 : decode prog_11_method_4_code 74 = .ok (.aload_n 0, 1) := by decide +kernel
theorem d_Trial_allowsUpdate_75 : decode prog_11_method_4_code 75 = .ok (.getfield 12, 3) := by decide +kernel
theorem d_Trial_allowsUpdate_78 : decode prog_11_method_4_code 78 = .ok (.getfield 117, 3) := by decide +kernel
theorem d_Trial_allowsUpdate_81 : decode prog_11_method_4_code 81 = .ok (.iload 4, 2) := by decide +kernel
theorem d_Trial_allowsUpdate_83 : decode prog_11_method_4_code 83 = .ok (.invokestatic 120, 3) := by decide +kernel
theorem d_Trial_allowsUpdate_86 : decode prog_11_method_4_code 86 = .ok (.invokevirtual 96, 3) := by decide +kernel
theorem d_Trial_allowsUpdate_89 : decode prog_11_method_4_code 89 = .ok (.ireturn, 1) := by decide +kernel
theorem d_Trial_seenPlace_0 : decode prog_11_method_6_code 0 = .ok (.aload_n 0, 1) := by decide +kernel
theorem d_Trial_seenPlace_1 : decode prog_11_method_6_code 1 = .ok (.getfield 12, 3) := by decide +kernel
theorem d_Trial_seenPlace_4 : decode prog_11_method_6_code 4 = .ok (.aload_n 1, 1) := by decide +kernel
theorem d_Trial_seenPlace_5 : decode prog_11_method_6_code 5 = .ok (.getfield 59, 3) := by decide +kernel
theorem d_Trial_seenPlace_8 : decode prog_11_method_6_code 8 = .ok (.aload_n 1, 1) := by decide +kernel
theorem d_Trial_seenPlace_9 : decode prog_11_method_6_code 9 = .ok (.getfield 62, 3) := by decide +kernel
theorem d_Trial_seenPlace_12 : decode prog_11_method_6_code 12 = .ok (.invokevirtual 92, 3) := by decide +kernel
theorem d_Trial_seenPlace_15 : decode prog_11_method_6_code 15 = .ok (.istore_n 2, 1) := by decide +kernel
theorem d_Trial_seenPlace_16 : decode prog_11_method_6_code 16 = .ok (.iload_n 2, 1) := by decide +kernel
theorem d_Trial_seenPlace_17 : decode prog_11_method_6_code 17 = .ok (.iconst (-1), 1) := by decide +kernel
theorem d_Trial_seenPlace_18 : decode prog_11_method_6_code 18 = .ok (.if_icmp .eq 32, 3) := by decide +kernel
theorem d_Trial_seenPlace_21 : decode prog_11_method_6_code 21 = .ok (.aload_n 0, 1) := by decide +kernel
theorem d_Trial_seenPlace_22 : decode prog_11_method_6_code 22 = .ok (.getfield 35, 3) := by decide +kernel
theorem d_Trial_seenPlace_25 : decode prog_11_method_6_code 25 = .ok (.aload_n 1, 1) := by decide +kernel
theorem d_Trial_seenPlace_26 : decode prog_11_method_6_code 26 = .ok (.getfield 126, 3) := by decide +kernel
theorem d_Trial_seenPlace_29 : decode prog_11_method_6_code 29 = .ok (.aload_n 1, 1) := by decide +kernel
theorem d_Trial_seenPlace_30 : decode prog_11_method_6_code 30 = .ok (.getfield 59, 3) := by decide +kernel
theorem d_Trial_seenPlace_33 : decode prog_11_method_6_code 33 = .ok (.aload_n 0, 1) := by decide +kernel
theorem d_Trial_seenPlace_34 : decode prog_11_method_6_code 34 = .ok (.getfield 12, 3) := by decide +kernel
theorem d_Trial_seenPlace_37 : decode prog_11_method_6_code 37 = .ok (.getfield 117, 3) := by decide +kernel
theorem d_Trial_seenPlace_40 : decode prog_11_method_6_code 40 = .ok (.iload_n 2, 1) := by decide +kernel
theorem d_Trial_seenPlace_41 : decode prog_11_method_6_code 41 = .ok (.invokestatic 120, 3) := by decide +kernel
theorem d_Trial_seenPlace_44 : decode prog_11_method_6_code 44 = .ok (.invokevirtual 129, 3) := by decide +kernel
theorem d_Trial_seenPlace_47 : decode prog_11_method_6_code 47 = .ok (.ifCond .ne 5, 3) := by decide +kernel
theorem d_Trial_seenPlace_50 : decode prog_11_method_6_code 50 = .ok (.iconst (-1), 1) := by decide +kernel
theorem d_Trial_seenPlace_51 : decode prog_11_method_6_code 51 = .ok (.ireturn, 1) := by decide +kernel
theorem d_Trial_seenPlace_52 : decode prog_11_method_6_code 52 = .ok (.iload_n 2, 1) := by decide +kernel
theorem d_Trial_seenPlace_53 : decode prog_11_method_6_code 53 = .ok (.ireturn, 1) := by decide +kernel
theorem d_Trial_allowsDelete_0 : decode prog_11_method_7_code 0 = .ok (.aload_n 0, 1) := by decide +kernel
theorem d_Trial_allowsDelete_1 : decode prog_11_method_7_code 1 = .ok (.aload_n 1, 1) := by decide +kernel
theorem d_Trial_allowsDelete_2 : decode prog_11_method_7_code 2 = .ok (.invokevirtual 113, 3) := by decide +kernel
theorem d_Trial_allowsDelete_5 : decode prog_11_method_7_code 5 = .ok (.istore_n 2, 1) := by decide +kernel
theorem d_Trial_allowsDelete_6 : decode prog_11_method_7_code 6 = .ok (.iload_n 2, 1) := by decide +kernel
theorem d_Trial_allowsDelete_7 : decode prog_11_method_7_code 7 = .ok (.iconst (-1), 1) := by decide +kernel
theorem d_Trial_allowsDelete_8 : decode prog_11_method_7_code 8 = .ok (.if_icmp .ne 5, 3) := by decide +kernel
theorem d_Trial_allowsDelete_11 : decode prog_11_method_7_code 11 = .ok (.iconst 0, 1) := by decide +kernel
theorem d_Trial_allowsDelete_12 : decode prog_11_method_7_code 12 = .ok (.ireturn, 1) := by decide +kernel
theorem d_Trial_allowsDelete_13 : decode prog_11_method_7_code 13 = .ok (.aload_n 0, 1) := by decide +kernel
theorem d_Trial_allowsDelete_14 : decode prog_11_method_7_code 14 = .ok (.aload_n 1, 1) := by decide +kernel
theorem d_Trial_allowsDelete_15 : decode prog_11_method_7_code 15 = .ok (.getfield 39, 3) := by decide +kernel
theorem d_Trial_allowsDelete_18 : decode prog_11_method_7_code 18 = .ok (.invokevirtual 133, 3) := by decide +kernel
theorem d_Trial_allowsDelete_21 : decode prog_11_method_7_code 21 = .ok (.aload_n 0, 1) := by decide +kernel
theorem d_Trial_allowsDelete_22 : decode prog_11_method_7_code 22 = .ok (.getfield 18, 3) := by decide +kernel
theorem d_Trial_allowsDelete_25 : decode prog_11_method_7_code 25 = .ok (.iload_n 2, 1) := by decide +kernel
theorem d_Trial_allowsDelete_26 : decode prog_11_method_7_code 26 = .ok (.iconst 1, 1) := by decide +kernel
theorem d_Trial_allowsDelete_27 : decode prog_11_method_7_code 27 = .ok (.bastore, 1) := by decide +kernel
theorem d_Trial_allowsDelete_28 : decode prog_11_method_7_code 28 = .ok (.aload_n 0, 1) := by decide +kernel
theorem d_Trial_allowsDelete_29 : decode prog_11_method_7_code 29 = .ok (.invokevirtual 136, 3) := by decide +kernel
theorem d_Trial_allowsDelete_32 : decode prog_11_method_7_code 32 = .ok (.aload_n 0, 1) := by decide +kernel
theorem d_Trial_allowsDelete_33 : decode prog_11_method_7_code 33 = .ok (.aload_n 1, 1) := by decide +kernel
theorem d_Trial_allowsDelete_34 : decode prog_11_method_7_code 34 = .ok (.invokevirtual 139, 3) := by decide +kernel
theorem d_Trial_allowsDelete_37 : decode prog_11_method_7_code 37 = .ok (.aload_n 0, 1) := by decide +kernel
theorem d_Trial_allowsDelete_38 : decode prog_11_method_7_code 38 = .ok (.invokevirtual 143, 3) := by decide +kernel
theorem d_Trial_allowsDelete_41 : decode prog_11_method_7_code 41 = .ok (.ifCond .eq 5, 3) := by decide +kernel
theorem d_Trial_allowsDelete_44 : decode prog_11_method_7_code 44 = .ok (.iconst 0, 1) := by decide +kernel
theorem d_Trial_allowsDelete_45 : decode prog_11_method_7_code 45 = .ok (.ireturn, 1) := by decide +kernel
theorem d_Trial_allowsDelete_46 : decode prog_11_method_7_code 46 = .ok (.aload_n 0, 1) := by decide +kernel
theorem d_Trial_allowsDelete_47 : decode prog_11_method_7_code 47 = .ok (.invokevirtual 147, 3) := by decide +kernel
theorem d_Trial_allowsDelete_50 : decode prog_11_method_7_code 50 = .ok (.aload_n 0, 1) := by decide +kernel
theorem d_Trial_allowsDelete_51 : decode prog_11_method_7_code 51 = .ok (.aload_n 1, 1) := by decide +kernel
theorem d_Trial_allowsDelete_52 : decode prog_11_method_7_code 52 = .ok (.getfield 39, 3) := by decide +kernel
theorem d_Trial_allowsDelete_55 : decode prog_11_method_7_code 55 = .ok (.invokevirtual 150, 3) := by decide +kernel
theorem d_Trial_allowsDelete_58 : decode prog_11_method_7_code 58 = .ok (.iconst 1, 1) := by decide +kernel
theorem d_Trial_allowsDelete_59 : decode prog_11_method_7_code 59 = .ok (.ireturn, 1) := by decide +kernel
theorem d_Trial_findAllReferred_0 : decode prog_11_method_8_code 0 = .ok (.iconst 0, 1) := by decide +kernel
theorem d_Trial_findAllReferred_1 : decode prog_11_method_8_code 1 = .ok (.istore_n 2, 1) := by decide +kernel
theorem d_Trial_findAllReferred_2 : decode prog_11_method_8_code 2 = .ok (.iload_n 2, 1) := by decide +kernel
theorem d_Trial_findAllReferred_3 : decode prog_11_method_8_code 3 = .ok (.aload_n 0, 1) := by decide +kernel
theorem d_Trial_findAllReferred_4 : decode prog_11_method_8_code 4 = .ok (.getfield 25, 3) := by decide +kernel
theorem d_Trial_findAllReferred_7 : decode prog_11_method_8_code 7 = .ok (.arraylength, 1) := by decide +kernel
theorem d_Trial_findAllReferred_8 : decode prog_11_method_8_code 8 = .ok (.if_icmp .ge 69, 3) := by decide +kernel
theorem d_Trial_findAllReferred_11 : decode prog_11_method_8_code 11 = .ok (.iload_n 2, 1) := by decide +kernel
theorem d_Trial_findAllReferred_12 : decode prog_11_method_8_code 12 = .ok (.iconst 4, 1) := by decide +kernel
theorem d_Trial_findAllReferred_13 : decode prog_11_method_8_code 13 = .ok (.idiv, 1) := by decide +kernel
theorem d_Trial_findAllReferred_14 : decode prog_11_method_8_code 14 = .ok (.istore_n 3, 1) := by decide +kernel
theorem d_Trial_findAllReferred_15 : decode prog_11_method_8_code 15 = .ok (.aload_n 0, 1) := by decide +kernel
theorem d_Trial_findAllReferred_16 : decode prog_11_method_8_code 16 = .ok (.getfield 35, 3) := by decide +kernel
theorem d_Trial_findAllReferred_19 : decode prog_11_method_8_code 19 = .ok (.getfield 153, 3) := by decide +kernel
theorem d_Trial_findAllReferred_22 : decode prog_11_method_8_code 22 = .ok (.iload_n 2, 1) := by decide +kernel
theorem d_Trial_findAllReferred_23 : decode prog_11_method_8_code 23 = .ok (.invokestatic 156, 3) := by decide +kernel
theorem d_Trial_findAllReferred_26 : decode prog_11_method_8_code 26 = .ok (.iaload, 1) := by decide +kernel
theorem d_Trial_findAllReferred_27 : decode prog_11_method_8_code 27 = .ok (.istore 4, 2) := by decide +kernel
theorem d_Trial_findAllReferred_29 : decode prog_11_method_8_code 29 = .ok (.aload_n 0, 1) := by decide +kernel
theorem d_Trial_findAllReferred_30 : decode prog_11_method_8_code 30 = .ok (.getfield 25, 3) := by decide +kernel
theorem d_Trial_findAllReferred_33 : decode prog_11_method_8_code 33 = .ok (.iload_n 2, 1) := by decide +kernel
theorem d_Trial_findAllReferred_34 : decode prog_11_method_8_code 34 = .ok (.iload 4, 2) := by decide +kernel
theorem d_Trial_findAllReferred_36 : decode prog_11_method_8_code 36 = .ok (.iconst (-1), 1) := by decide +kernel
theorem d_Trial_findAllReferred_37 : decode prog_11_method_8_code 37 = .ok (.if_icmp .ne 7, 3) := by decide +kernel
theorem d_Trial_findAllReferred_40 : decode prog_11_method_8_code 40 = .ok (.iconst (-1), 1) := by decide +kernel
theorem d_Trial_findAllReferred_41 : decode prog_11_method_8_code 41 = .ok (.goto 15, 3) := by decide +kernel
theorem d_Trial_findAllReferred_44 : decode prog_11_method_8_code 44 = .ok (.aload_n 1, 1) := by decide +kernel
theorem d_Trial_findAllReferred_45 : decode prog_11_method_8_code 45 = .ok (.iload 4, 2) := by decide +kernel
theorem d_Trial_findAllReferred_47 : decode prog_11_method_8_code 47 = .ok (.aload_n 1, 1) := by decide +kernel
theorem d_Trial_findAllReferred_48 : decode prog_11_method_8_code 48 = .ok (.getfield 117, 3) := by decide +kernel
theorem d_Trial_findAllReferred_51 : decode prog_11_method_8_code 51 = .ok (.iload_n 2, 1) := by decide +kernel
theorem d_Trial_findAllReferred_52 : decode prog_11_method_8_code 52 = .ok (.iaload, 1) := by decide +kernel
theorem d_Trial_findAllReferred_53 : decode prog_11_method_8_code 53 = .ok (.invokevirtual 92, 3) := by decide +kernel
theorem d_Trial_findAllReferred_56 : decode prog_11_method_8_code 56 = .ok (.iastore, 1) := by decide +kernel
theorem d_Trial_findAllReferred_57 : decode prog_11_method_8_code 57 = .ok (.aload_n 0, 1) := by decide +kernel
theorem d_Trial_findAllReferred_58 : decode prog_11_method_8_code 58 = .ok (.getfield 18, 3) := by decide +kernel
theorem d_Trial_findAllReferred_61 : decode prog_11_method_8_code 61 = .ok (.iload_n 3, 1) := by decide +kernel
theorem d_Trial_findAllReferred_62 : decode prog_11_method_8_code 62 = .ok (.iconst 0, 1) := by decide +kernel
theorem d_Trial_findAllReferred_63 : decode prog_11_method_8_code 63 = .ok (.bastore, 1) := by decide +kernel
theorem d_Trial_findAllReferred_64 : decode prog_11_method_8_code 64 = .ok (.aload_n 0, 1) := by decide +kernel
theorem d_Trial_findAllReferred_65 : decode prog_11_method_8_code 65 = .ok (.getfield 22, 3) := by decide +kernel
theorem d_Trial_findAllReferred_68 : decode prog_11_method_8_code 68 = .ok (.iload_n 3, 1) := by decide +kernel
theorem d_Trial_findAllReferred_69 : decode prog_11_method_8_code 69 = .ok (.iconst 0, 1) := by decide +kernel
theorem d_Trial_findAllReferred_70 : decode prog_11_method_8_code 70 = .ok (.bastore, 1) := by decide +kernel
theorem d_Trial_findAllReferred_71 : decode prog_11_method_8_code 71 = .ok (.iinc 2 1, 3) := by decide +kernel
theorem d_Trial_findAllReferred_74 : decode prog_11_method_8_code 74 = .ok (.goto (-72), 3) := by decide +kernel
theorem d_Trial_findAllReferred_77 : decode prog_11_method_8_code 77 = .ok (.return_, 1) := by decide +kernel
theorem d_Trial_targetSlot_0 : decode prog_11_method_9_code 0 = .ok (.iload_n 0, 1) := by decide +kernel
theorem d_Trial_targetSlot_1 : decode prog_11_method_9_code 1 = .ok (.bipush 32, 2) := by decide +kernel
theorem d_Trial_targetSlot_3 : decode prog_11_method_9_code 3 = .ok (.idiv, 1) := by decide +kernel
theorem d_Trial_targetSlot_4 : decode prog_11_method_9_code 4 = .ok (.iconst 4, 1) := by decide +kernel
theorem d_Trial_targetSlot_5 : decode prog_11_method_9_code 5 = .ok (.imul, 1) := by decide +kernel
theorem d_Trial_targetSlot_6 : decode prog_11_method_9_code 6 = .ok (.iload_n 0, 1) := by decide +kernel
theorem d_Trial_targetSlot_7 : decode prog_11_method_9_code 7 = .ok (.iconst 4, 1) := by decide +kernel
theorem d_Trial_targetSlot_8 : decode prog_11_method_9_code 8 = .ok (.irem, 1) := by decide +kernel
theorem d_Trial_targetSlot_9 : decode prog_11_method_9_code 9 = .ok (.iadd, 1) := by decide +kernel
theorem d_Trial_targetSlot_10 : decode prog_11_method_9_code 10 = .ok (.ireturn, 1) := by decide +kernel
theorem d_Trial_spreadCascades_0 : decode prog_11_method_11_code 0 = .ok (.iconst 1, 1) := by decide +kernel
theorem d_Trial_spreadCascades_1 : decode prog_11_method_11_code 1 = .ok (.istore_n 1, 1) := by decide +kernel
theorem d_Trial_spreadCascades_2 : decode prog_11_method_11_code 2 = .ok (.iconst 0, 1) := by decide +kernel
theorem d_Trial_spreadCascades_3 : decode prog_11_method_11_code 3 = .ok (.istore_n 2, 1) := by decide +kernel
theorem d_Trial_spreadCascades_4 : decode prog_11_method_11_code 4 = .ok (.iload_n 2, 1) := by decide +kernel
theorem d_Trial_spreadCascades_5 : decode prog_11_method_11_code 5 = .ok (.bipush 48, 2) := by decide +kernel
theorem d_Trial_spreadCascades_7 : decode prog_11_method_11_code 7 = .ok (.if_icmp .gt 52, 3) := by decide +kernel
theorem d_Trial_spreadCascades_10 : decode prog_11_method_11_code 10 = .ok (.iload_n 1, 1) := by decide +kernel
theorem d_Trial_spreadCascades_11 : decode prog_11_method_11_code 11 = .ok (.ifCond .eq 48, 3) := by decide +kernel
theorem d_Trial_spreadCascades_14 : decode prog_11_method_11_code 14 = .ok (.iconst 0, 1) := by decide +kernel
theorem d_Trial_spreadCascades_15 : decode prog_11_method_11_code 15 = .ok (.istore_n 1, 1) := by decide +kernel
theorem d_Trial_spreadCascades_16 : decode prog_11_method_11_code 16 = .ok (.iconst 0, 1) := by decide +kernel
theorem d_Trial_spreadCascades_17 : decode prog_11_method_11_code 17 = .ok (.istore_n 3, 1) := by decide +kernel
theorem d_Trial_spreadCascades_18 : decode prog_11_method_11_code 18 = .ok (.iload_n 3, 1) := by decide +kernel
theorem d_Trial_spreadCascades_19 : decode prog_11_method_11_code 19 = .ok (.aload_n 0, 1) := by decide +kernel
theorem d_Trial_spreadCascades_20 : decode prog_11_method_11_code 20 = .ok (.getfield 25, 3) := by decide +kernel
theorem d_Trial_spreadCascades_23 : decode prog_11_method_11_code 23 = .ok (.arraylength, 1) := by decide +kernel
theorem d_Trial_spreadCascades_24 : decode prog_11_method_11_code 24 = .ok (.if_icmp .ge 29, 3) := by decide +kernel
theorem d_Trial_spreadCascades_27 : decode prog_11_method_11_code 27 = .ok (.aload_n 0, 1) := by decide +kernel
theorem d_Trial_spreadCascades_28 : decode prog_11_method_11_code 28 = .ok (.iload_n 3, 1) := by decide +kernel
theorem d_Trial_spreadCascades_29 : decode prog_11_method_11_code 29 = .ok (.iconst 1, 1) := by decide +kernel
theorem d_Trial_spreadCascades_30 : decode prog_11_method_11_code 30 = .ok (.invokevirtual 162, 3) := by decide +kernel
theorem d_Trial_spreadCascades_33 : decode prog_11_method_11_code 33 = .ok (.ifCond .eq 14, 3) := by decide +kernel
theorem d_Trial_spreadCascades_36 : decode prog_11_method_11_code 36 = .ok (.aload_n 0, 1) := by decide +kernel
theorem d_Trial_spreadCascades_37 : decode prog_11_method_11_code 37 = .ok (.getfield 18, 3) := by decide +kernel
theorem d_Trial_spreadCascades_40 : decode prog_11_method_11_code 40 = .ok (.iload_n 3, 1) := by decide +kernel
theorem d_Trial_spreadCascades_41 : decode prog_11_method_11_code 41 = .ok (.iconst 4, 1) := by decide +kernel
theorem d_Trial_spreadCascades_42 : decode prog_11_method_11_code 42 = .ok (.idiv, 1) := by decide +kernel
theorem d_Trial_spreadCascades_43 : decode prog_11_method_11_code 43 = .ok (.iconst 1, 1) := by decide +kernel
theorem d_Trial_spreadCascades_44 : decode prog_11_method_11_code 44 = .ok (.bastore, 1) := by decide +kernel
theorem d_Trial_spreadCascades_45 : decode prog_11_method_11_code 45 = .ok (.iconst 1, 1) := by decide +kernel
theorem d_Trial_spreadCascades_46 : decode prog_11_method_11_code 46 = .ok (.istore_n 1, 1) := by decide +kernel
theorem d_Trial_spreadCascades_47 : decode prog_11_method_11_code 47 = .ok (.iinc 3 1, 3) := by decide +kernel
theorem d_Trial_spreadCascades_50 : decode prog_11_method_11_code 50 = .ok (.goto (-32), 3) := by decide +kernel
theorem d_Trial_spreadCascades_53 : decode prog_11_method_11_code 53 = .ok (.iinc 2 1, 3) := by decide +kernel
theorem d_Trial_spreadCascades_56 : decode prog_11_method_11_code 56 = .ok (.goto (-52), 3) := by decide +kernel
theorem d_Trial_spreadCascades_59 : decode prog_11_method_11_code 59 = .ok (.return_, 1) := by decide +kernel
theorem d_Trial_refersToGone_0 : decode prog_11_method_10_code 0 = .ok (.aload_n 0, 1) := by decide +kernel
theorem d_Trial_refersToGone_1 : decode prog_11_method_10_code 1 = .ok (.getfield 25, 3) := by decide +kernel
theorem d_Trial_refersToGone_4 : decode prog_11_method_10_code 4 = .ok (.iload_n 1, 1) := by decide +kernel
theorem d_Trial_refersToGone_5 : decode prog_11_method_10_code 5 = .ok (.iaload, 1) := by decide +kernel
theorem d_Trial_refersToGone_6 : decode prog_11_method_10_code 6 = .ok (.istore_n 3, 1) := by decide +kernel
theorem d_Trial_refersToGone_7 : decode prog_11_method_10_code 7 = .ok (.iload_n 3, 1) := by decide +kernel
theorem d_Trial_refersToGone_8 : decode prog_11_method_10_code 8 = .ok (.iconst (-1), 1) := by decide +kernel
theorem d_Trial_refersToGone_9 : decode prog_11_method_10_code 9 = .ok (.if_icmp .eq 43, 3) := by decide +kernel
theorem d_Trial_refersToGone_12 : decode prog_11_method_10_code 12 = .ok (.aload_n 0, 1) := by decide +kernel
theorem d_Trial_refersToGone_13 : decode prog_11_method_10_code 13 = .ok (.getfield 18, 3) := by decide +kernel
theorem d_Trial_refersToGone_16 : decode prog_11_method_10_code 16 = .ok (.iload_n 3, 1) := by decide +kernel
theorem d_Trial_refersToGone_17 : decode prog_11_method_10_code 17 = .ok (.baload, 1) := by decide +kernel
theorem d_Trial_refersToGone_18 : decode prog_11_method_10_code 18 = .ok (.ifCond .eq 34, 3) := by decide +kernel
theorem d_Trial_refersToGone_21 : decode prog_11_method_10_code 21 = .ok (.aload_n 0, 1) := by decide +kernel
theorem d_Trial_refersToGone_22 : decode prog_11_method_10_code 22 = .ok (.getfield 18, 3) := by decide +kernel
theorem d_Trial_refersToGone_25 : decode prog_11_method_10_code 25 = .ok (.iload_n 1, 1) := by decide +kernel
theorem d_Trial_refersToGone_26 : decode prog_11_method_10_code 26 = .ok (.iconst 4, 1) := by decide +kernel
theorem d_Trial_refersToGone_27 : decode prog_11_method_10_code 27 = .ok (.idiv, 1) := by decide +kernel
theorem d_Trial_refersToGone_28 : decode prog_11_method_10_code 28 = .ok (.baload, 1) := by decide +kernel
theorem d_Trial_refersToGone_29 : decode prog_11_method_10_code 29 = .ok (.ifCond .ne 23, 3) := by decide +kernel
theorem d_Trial_refersToGone_32 : decode prog_11_method_10_code 32 = .ok (.aload_n 0, 1) := by decide +kernel
theorem d_Trial_refersToGone_33 : decode prog_11_method_10_code 33 = .ok (.getfield 35, 3) := by decide +kernel
theorem d_Trial_refersToGone_36 : decode prog_11_method_10_code 36 = .ok (.getfield 159, 3) := by decide +kernel
theorem d_Trial_refersToGone_39 : decode prog_11_method_10_code 39 = .ok (.iload_n 1, 1) := by decide +kernel
theorem d_Trial_refersToGone_40 : decode prog_11_method_10_code 40 = .ok (.invokestatic 156, 3) := by decide +kernel
theorem d_Trial_refersToGone_43 : decode prog_11_method_10_code 43 = .ok (.iaload, 1) := by decide +kernel
theorem d_Trial_refersToGone_44 : decode prog_11_method_10_code 44 = .ok (.iload_n 2, 1) := by decide +kernel
theorem d_Trial_refersToGone_45 : decode prog_11_method_10_code 45 = .ok (.if_icmp .ne 7, 3) := by decide +kernel
theorem d_Trial_refersToGone_48 : decode prog_11_method_10_code 48 = .ok (.iconst 1, 1) := by decide +kernel
theorem d_Trial_refersToGone_49 : decode prog_11_method_10_code 49 = .ok (.goto 4, 3) := by decide +kernel
theorem d_Trial_refersToGone_52 : decode prog_11_method_10_code 52 = .ok (.iconst 0, 1) := by decide +kernel
theorem d_Trial_refersToGone_53 : decode prog_11_method_10_code 53 = .ok (.ireturn, 1) := by decide +kernel
theorem d_Trial_readReferring_0 : decode prog_11_method_12_code 0 = .ok (.iconst 0, 1) := by decide +kernel
theorem d_Trial_readReferring_1 : decode prog_11_method_12_code 1 = .ok (.istore_n 2, 1) := by decide +kernel
theorem d_Trial_readReferring_2 : decode prog_11_method_12_code 2 = .ok (.iload_n 2, 1) := by decide +kernel
theorem d_Trial_readReferring_3 : decode prog_11_method_12_code 3 = .ok (.bipush 48, 2) := by decide +kernel
theorem d_Trial_readReferring_5 : decode prog_11_method_12_code 5 = .ok (.if_icmp .ge 57, 3) := by decide +kernel
theorem d_Trial_readReferring_8 : decode prog_11_method_12_code 8 = .ok (.iconst 0, 1) := by decide +kernel
theorem d_Trial_readReferring_9 : decode prog_11_method_12_code 9 = .ok (.istore_n 3, 1) := by decide +kernel
theorem d_Trial_readReferring_10 : decode prog_11_method_12_code 10 = .ok (.iload_n 3, 1) := by decide +kernel
theorem d_Trial_readReferring_11 : decode prog_11_method_12_code 11 = .ok (.aload_n 0, 1) := by decide +kernel
theorem d_Trial_readReferring_12 : decode prog_11_method_12_code 12 = .ok (.getfield 35, 3) := by decide +kernel
theorem d_Trial_readReferring_15 : decode prog_11_method_12_code 15 = .ok (.getfield 166, 3) := by decide +kernel
theorem d_Trial_readReferring_18 : decode prog_11_method_12_code 18 = .ok (.if_icmp .ge 38, 3) := by decide +kernel
theorem d_Trial_readReferring_21 : decode prog_11_method_12_code 21 = .ok (.aload_n 0, 1) := by decide +kernel
theorem d_Trial_readReferring_22 : decode prog_11_method_12_code 22 = .ok (.getfield 18, 3) := by decide +kernel
theorem d_Trial_readReferring_25 : decode prog_11_method_12_code 25 = .ok (.iload_n 2, 1) := by decide +kernel
theorem d_Trial_readReferring_26 : decode prog_11_method_12_code 26 = .ok (.baload, 1) := by decide +kernel
theorem d_Trial_readReferring_27 : decode prog_11_method_12_code 27 = .ok (.ifCond .eq 29, 3) := by decide +kernel
theorem d_Trial_readReferring_30 : decode prog_11_method_12_code 30 = .ok (.aload_n 0, 1) := by decide +kernel
theorem d_Trial_readReferring_31 : decode prog_11_method_12_code 31 = .ok (.getfield 35, 3) := by decide +kernel
theorem d_Trial_readReferring_34 : decode prog_11_method_12_code 34 = .ok (.iload_n 3, 1) := by decide +kernel
theorem d_Trial_readReferring_35 : decode prog_11_method_12_code 35 = .ok (.iload_n 2, 1) := by decide +kernel
theorem d_Trial_readReferring_36 : decode prog_11_method_12_code 36 = .ok (.bipush 8, 2) := by decide +kernel
theorem d_Trial_readReferring_38 : decode prog_11_method_12_code 38 = .ok (.idiv, 1) := by decide +kernel
theorem d_Trial_readReferring_39 : decode prog_11_method_12_code 39 = .ok (.invokevirtual 168, 3) := by decide +kernel
theorem d_Trial_readReferring_42 : decode prog_11_method_12_code 42 = .ok (.ifCond .eq 8, 3) := by decide +kernel
theorem d_Trial_readReferring_45 : decode prog_11_method_12_code 45 = .ok (.aload_n 1, 1) := by decide +kernel
theorem d_Trial_readReferring_46 : decode prog_11_method_12_code 46 = .ok (.iload_n 3, 1) := by decide +kernel
theorem d_Trial_readReferring_47 : decode prog_11_method_12_code 47 = .ok (.invokevirtual 171, 3) := by decide +kernel
theorem d_Trial_readReferring_50 : decode prog_11_method_12_code 50 = .ok (.iinc 3 1, 3) := by decide +kernel
theorem d_Trial_readReferring_53 : decode prog_11_method_12_code 53 = .ok (.goto (-43), 3) := by decide +kernel
theorem d_Trial_readReferring_56 : decode prog_11_method_12_code 56 = .ok (.iinc 2 1, 3) := by decide +kernel
theorem d_Trial_readReferring_59 : decode prog_11_method_12_code 59 = .ok (.goto (-57), 3) := by decide +kernel
theorem d_Trial_readReferring_62 : decode prog_11_method_12_code 62 = .ok (.return_, 1) := by decide +kernel
theorem d_Trial_isRestricted_0 : decode prog_11_method_13_code 0 = .ok (.iconst 0, 1) := by decide +kernel
theorem d_Trial_isRestricted_1 : decode prog_11_method_13_code 1 = .ok (.istore_n 1, 1) := by decide +kernel
theorem d_Trial_isRestricted_2 : decode prog_11_method_13_code 2 = .ok (.iload_n 1, 1) := by decide +kernel
theorem d_Trial_isRestricted_3 : decode prog_11_method_13_code 3 = .ok (.aload_n 0, 1) := by decide +kernel
theorem d_Trial_isRestricted_4 : decode prog_11_method_13_code 4 = .ok (.getfield 25, 3) := by decide +kernel
theorem d_Trial_isRestricted_7 : decode prog_11_method_13_code 7 = .ok (.arraylength, 1) := by decide +kernel
theorem d_Trial_isRestricted_8 : decode prog_11_method_13_code 8 = .ok (.if_icmp .ge 20, 3) := by decide +kernel
theorem d_Trial_isRestricted_11 : decode prog_11_method_13_code 11 = .ok (.aload_n 0, 1) := by decide +kernel
theorem d_Trial_isRestricted_12 : decode prog_11_method_13_code 12 = .ok (.iload_n 1, 1) := by decide +kernel
theorem d_Trial_isRestricted_13 : decode prog_11_method_13_code 13 = .ok (.iconst 0, 1) := by decide +kernel
theorem d_Trial_isRestricted_14 : decode prog_11_method_13_code 14 = .ok (.invokevirtual 162, 3) := by decide +kernel
theorem d_Trial_isRestricted_17 : decode prog_11_method_13_code 17 = .ok (.ifCond .eq 5, 3) := by decide +kernel
theorem d_Trial_isRestricted_20 : decode prog_11_method_13_code 20 = .ok (.iconst 1, 1) := by decide +kernel
theorem d_Trial_isRestricted_21 : decode prog_11_method_13_code 21 = .ok (.ireturn, 1) := by decide +kernel
theorem d_Trial_isRestricted_22 : decode prog_11_method_13_code 22 = .ok (.iinc 1 1, 3) := by decide +kernel
theorem d_Trial_isRestricted_25 : decode prog_11_method_13_code 25 = .ok (.goto (-23), 3) := by decide +kernel
theorem d_Trial_isRestricted_28 : decode prog_11_method_13_code 28 = .ok (.iconst 0, 1) := by decide +kernel
theorem d_Trial_isRestricted_29 : decode prog_11_method_13_code 29 = .ok (.ireturn, 1) := by decide +kernel
theorem d_Trial_changeRows_0 : decode prog_11_method_14_code 0 = .ok (.iconst 0, 1) := by decide +kernel
theorem d_Trial_changeRows_1 : decode prog_11_method_14_code 1 = .ok (.istore_n 1, 1) := by decide +kernel
theorem d_Trial_changeRows_2 : decode prog_11_method_14_code 2 = .ok (.iload_n 1, 1) := by decide +kernel
theorem d_Trial_changeRows_3 : decode prog_11_method_14_code 3 = .ok (.aload_n 0, 1) := by decide +kernel
theorem d_Trial_changeRows_4 : decode prog_11_method_14_code 4 = .ok (.getfield 25, 3) := by decide +kernel
theorem d_Trial_changeRows_7 : decode prog_11_method_14_code 7 = .ok (.arraylength, 1) := by decide +kernel
theorem d_Trial_changeRows_8 : decode prog_11_method_14_code 8 = .ok (.if_icmp .ge 38, 3) := by decide +kernel
theorem d_Trial_changeRows_11 : decode prog_11_method_14_code 11 = .ok (.aload_n 0, 1) := by decide +kernel
theorem d_Trial_changeRows_12 : decode prog_11_method_14_code 12 = .ok (.iload_n 1, 1) := by decide +kernel
theorem d_Trial_changeRows_13 : decode prog_11_method_14_code 13 = .ok (.iconst 2, 1) := by decide +kernel
theorem d_Trial_changeRows_14 : decode prog_11_method_14_code 14 = .ok (.invokevirtual 162, 3) := by decide +kernel
theorem d_Trial_changeRows_17 : decode prog_11_method_14_code 17 = .ok (.ifCond .eq 23, 3) := by decide +kernel
theorem d_Trial_changeRows_20 : decode prog_11_method_14_code 20 = .ok (.aload_n 0, 1) := by decide +kernel
theorem d_Trial_changeRows_21 : decode prog_11_method_14_code 21 = .ok (.getfield 12, 3) := by decide +kernel
theorem d_Trial_changeRows_24 : decode prog_11_method_14_code 24 = .ok (.getfield 117, 3) := by decide +kernel
theorem d_Trial_changeRows_27 : decode prog_11_method_14_code 27 = .ok (.iload_n 1, 1) := by decide +kernel
theorem d_Trial_changeRows_28 : decode prog_11_method_14_code 28 = .ok (.ldc 75, 2) := by decide +kernel
theorem d_Trial_changeRows_30 : decode prog_11_method_14_code 30 = .ok (.iastore, 1) := by decide +kernel
theorem d_Trial_changeRows_31 : decode prog_11_method_14_code 31 = .ok (.aload_n 0, 1) := by decide +kernel
theorem d_Trial_changeRows_32 : decode prog_11_method_14_code 32 = .ok (.getfield 22, 3) := by decide +kernel
theorem d_Trial_changeRows_35 : decode prog_11_method_14_code 35 = .ok (.iload_n 1, 1) := by decide +kernel
theorem d_Trial_changeRows_36 : decode prog_11_method_14_code 36 = .ok (.iconst 4, 1) := by decide +kernel
theorem d_Trial_changeRows_37 : decode prog_11_method_14_code 37 = .ok (.idiv, 1) := by decide +kernel
theorem d_Trial_changeRows_38 : decode prog_11_method_14_code 38 = .ok (.iconst 1, 1) := by decide +kernel
theorem d_Trial_changeRows_39 : decode prog_11_method_14_code 39 = .ok (.bastore, 1) := by decide +kernel
theorem d_Trial_changeRows_40 : decode prog_11_method_14_code 40 = .ok (.iinc 1 1, 3) := by decide +kernel
theorem d_Trial_changeRows_43 : decode prog_11_method_14_code 43 = .ok (.goto (-41), 3) := by decide +kernel
theorem d_Trial_changeRows_46 : decode prog_11_method_14_code 46 = .ok (.iconst 0, 1) := by decide +kernel
theorem d_Trial_changeRows_47 : decode prog_11_method_14_code 47 = .ok (.istore_n 1, 1) := by decide +kernel
theorem d_Trial_changeRows_48 : decode prog_11_method_14_code 48 = .ok (.iload_n 1, 1) := by decide +kernel
theorem d_Trial_changeRows_49 : decode prog_11_method_14_code 49 = .ok (.bipush 48, 2) := by decide +kernel
theorem d_Trial_changeRows_51 : decode prog_11_method_14_code 51 = .ok (.if_icmp .ge 33, 3) := by decide +kernel
theorem d_Trial_changeRows_54 : decode prog_11_method_14_code 54 = .ok (.aload_n 0, 1) := by decide +kernel
theorem d_Trial_changeRows_55 : decode prog_11_method_14_code 55 = .ok (.getfield 18, 3) := by decide +kernel
theorem d_Trial_changeRows_58 : decode prog_11_method_14_code 58 = .ok (.iload_n 1, 1) := by decide +kernel
theorem d_Trial_changeRows_59 : decode prog_11_method_14_code 59 = .ok (.baload, 1) := by decide +kernel
theorem d_Trial_changeRows_60 : decode prog_11_method_14_code 60 = .ok (.ifCond .eq 18, 3) := by decide +kernel
theorem d_Trial_changeRows_63 : decode prog_11_method_14_code 63 = .ok (.aload_n 0, 1) := by decide +kernel
theorem d_Trial_changeRows_64 : decode prog_11_method_14_code 64 = .ok (.getfield 12, 3) := by decide +kernel
theorem d_Trial_changeRows_67 : decode prog_11_method_14_code 67 = .ok (.iload_n 1, 1) := by decide +kernel
theorem d_Trial_changeRows_68 : decode prog_11_method_14_code 68 = .ok (.invokevirtual 175, 3) := by decide +kernel
theorem d_Trial_changeRows_71 : decode prog_11_method_14_code 71 = .ok (.aload_n 0, 1) := by decide +kernel
theorem d_Trial_changeRows_72 : decode prog_11_method_14_code 72 = .ok (.getfield 22, 3) := by decide +kernel
theorem d_Trial_changeRows_75 : decode prog_11_method_14_code 75 = .ok (.iload_n 1, 1) := by decide +kernel
theorem d_Trial_changeRows_76 : decode prog_11_method_14_code 76 = .ok (.iconst 1, 1) := by decide +kernel
theorem d_Trial_changeRows_77 : decode prog_11_method_14_code 77 = .ok (.bastore, 1) := by decide +kernel
theorem d_Trial_changeRows_78 : decode prog_11_method_14_code 78 = .ok (.iinc 1 1, 3) := by decide +kernel
theorem d_Trial_changeRows_81 : decode prog_11_method_14_code 81 = .ok (.goto (-33), 3) := by decide +kernel
theorem d_Trial_changeRows_84 : decode prog_11_method_14_code 84 = .ok (.return_, 1) := by decide +kernel
theorem d_Trial_touchChanged_0 : decode prog_11_method_15_code 0 = .ok (.iconst 0, 1) := by decide +kernel
theorem d_Trial_touchChanged_1 : decode prog_11_method_15_code 1 = .ok (.istore_n 2, 1) := by decide +kernel
theorem d_Trial_touchChanged_2 : decode prog_11_method_15_code 2 = .ok (.iload_n 2, 1) := by decide +kernel
theorem d_Trial_touchChanged_3 : decode prog_11_method_15_code 3 = .ok (.bipush 48, 2) := by decide +kernel
theorem d_Trial_touchChanged_5 : decode prog_11_method_15_code 5 = .ok (.if_icmp .ge 31, 3) := by decide +kernel
theorem d_Trial_touchChanged_8 : decode prog_11_method_15_code 8 = .ok (.aload_n 0, 1) := by decide +kernel
theorem d_Trial_touchChanged_9 : decode prog_11_method_15_code 9 = .ok (.getfield 22, 3) := by decide +kernel
theorem d_Trial_touchChanged_12 : decode prog_11_method_15_code 12 = .ok (.iload_n 2, 1) := by decide +kernel
theorem d_Trial_touchChanged_13 : decode prog_11_method_15_code 13 = .ok (.baload, 1) := by decide +kernel
theorem d_Trial_touchChanged_14 : decode prog_11_method_15_code 14 = .ok (.ifCond .eq 16, 3) := by decide +kernel
theorem d_Trial_touchChanged_17 : decode prog_11_method_15_code 17 = .ok (.aload_n 0, 1) := by decide +kernel
theorem d_Trial_touchChanged_18 : decode prog_11_method_15_code 18 = .ok (.iload_n 2, 1) := by decide +kernel
theorem d_Trial_touchChanged_19 : decode prog_11_method_15_code 19 = .ok (.bipush 8, 2) := by decide +kernel
theorem d_Trial_touchChanged_21 : decode prog_11_method_15_code 21 = .ok (.idiv, 1) := by decide +kernel
theorem d_Trial_touchChanged_22 : decode prog_11_method_15_code 22 = .ok (.aload_n 1, 1) := by decide +kernel
theorem d_Trial_touchChanged_23 : decode prog_11_method_15_code 23 = .ok (.iload_n 2, 1) := by decide +kernel
theorem d_Trial_touchChanged_24 : decode prog_11_method_15_code 24 = .ok (.invokevirtual 178, 3) := by decide +kernel
theorem d_Trial_touchChanged_27 : decode prog_11_method_15_code 27 = .ok (.invokevirtual 104, 3) := by decide +kernel
theorem d_Trial_touchChanged_30 : decode prog_11_method_15_code 30 = .ok (.iinc 2 1, 3) := by decide +kernel
theorem d_Trial_touchChanged_33 : decode prog_11_method_15_code 33 = .ok (.goto (-31), 3) := by decide +kernel
theorem d_Trial_touchChanged_36 : decode prog_11_method_15_code 36 = .ok (.return_, 1) := by decide +kernel
theorem d_Engine_firstOtherWriter_0 : decode prog_2_method_8_code 0 = .ok (.iconst 0, 1) := by decide +kernel
theorem d_Engine_firstOtherWriter_1 : decode prog_2_method_8_code 1 = .ok (.istore_n 2, 1) := by decide +kernel
theorem d_Engine_firstOtherWriter_2 : decode prog_2_method_8_code 2 = .ok (.iload_n 2, 1) := by decide +kernel
theorem d_Engine_firstOtherWriter_3 : decode prog_2_method_8_code 3 = .ok (.aload_n 0, 1) := by decide +kernel
theorem d_Engine_firstOtherWriter_4 : decode prog_2_method_8_code 4 = .ok (.getfield 47, 3) := by decide +kernel
theorem d_Engine_firstOtherWriter_7 : decode prog_2_method_8_code 7 = .ok (.getfield 131, 3) := by decide +kernel
theorem d_Engine_firstOtherWriter_10 : decode prog_2_method_8_code 10 = .ok (.if_icmp .ge 63, 3) := by decide +kernel
theorem d_Engine_firstOtherWriter_13 : decode prog_2_method_8_code 13 = .ok (.aload_n 0, 1) := by decide +kernel
theorem d_Engine_firstOtherWriter_14 : decode prog_2_method_8_code 14 = .ok (.getfield 47, 3) := by decide +kernel
theorem d_Engine_firstOtherWriter_17 : decode prog_2_method_8_code 17 = .ok (.getfield 134, 3) := by decide +kernel
theorem d_Engine_firstOtherWriter_20 : decode prog_2_method_8_code 20 = .ok (.iload_n 2, 1) := by decide +kernel
theorem d_Engine_firstOtherWriter_21 : decode prog_2_method_8_code 21 = .ok (.iaload, 1) := by decide +kernel
theorem d_Engine_firstOtherWriter_22 : decode prog_2_method_8_code 22 = .ok (.aload_n 0, 1) := by decide +kernel
theorem d_Engine_firstOtherWriter_23 : decode prog_2_method_8_code 23 = .ok (.getfield 47, 3) := by decide +kernel
theorem d_Engine_firstOtherWriter_26 : decode prog_2_method_8_code 26 = .ok (.getfield 137, 3) := by decide +kernel
theorem d_Engine_firstOtherWriter_29 : decode prog_2_method_8_code 29 = .ok (.iload_n 2, 1) := by decide +kernel
theorem d_Engine_firstOtherWriter_30 : decode prog_2_method_8_code 30 = .ok (.iaload, 1) := by decide +kernel
theorem d_Engine_firstOtherWriter_31 : decode prog_2_method_8_code 31 = .ok (.invokestatic 140, 3) := by decide +kernel
theorem d_Engine_firstOtherWriter_34 : decode prog_2_method_8_code 34 = .ok (.istore_n 3, 1) := by decide +kernel
theorem d_Engine_firstOtherWriter_35 : decode prog_2_method_8_code 35 = .ok (.iload_n 3, 1) := by decide +kernel
theorem d_Engine_firstOtherWriter_36 : decode prog_2_method_8_code 36 = .ok (.iconst (-1), 1) := by decide +kernel
theorem d_Engine_firstOtherWriter_37 : decode prog_2_method_8_code 37 = .ok (.if_icmp .ne 7, 3) := by decide +kernel
theorem d_Engine_firstOtherWriter_40 : decode prog_2_method_8_code 40 = .ok (.iconst (-1), 1) := by decide +kernel
theorem d_Engine_firstOtherWriter_41 : decode prog_2_method_8_code 41 = .ok (.goto 9, 3) := by decide +kernel
theorem d_Engine_firstOtherWriter_44 : decode prog_2_method_8_code 44 = .ok (.aload_n 0, 1) := by decide +kernel
theorem d_Engine_firstOtherWriter_45 : decode prog_2_method_8_code 45 = .ok (.getfield 32, 3) := by decide +kernel
theorem d_Engine_firstOtherWriter_48 : decode prog_2_method_8_code 48 = .ok (.iload_n 3, 1) := by decide +kernel
theorem d_Engine_firstOtherWriter_49 : decode prog_2_method_8_code 49 = .ok (.iaload, 1) := by decide +kernel
theorem d_Engine_firstOtherWriter_50 : decode prog_2_method_8_code 50 = .ok (.istore 4, 2) := by decide +kernel
theorem d_Engine_firstOtherWriter_52 : decode prog_2_method_8_code 52 = .ok (.iload 4, 2) := by decide +kernel
theorem d_Engine_firstOtherWriter_54 : decode prog_2_method_8_code 54 = .ok (.iconst (-1), 1) := by decide +kernel
theorem d_Engine_firstOtherWriter_55 : decode prog_2_method_8_code 55 = .ok (.if_icmp .eq 12, 3) := by decide +kernel
theorem d_Engine_firstOtherWriter_58 : decode prog_2_method_8_code 58 = .ok (.iload 4, 2) := by decide +kernel
theorem d_Engine_firstOtherWriter_60 : decode prog_2_method_8_code 60 = .ok (.iload_n 1, 1) := by decide +kernel
theorem d_Engine_firstOtherWriter_61 : decode prog_2_method_8_code 61 = .ok (.if_icmp .eq 6, 3) := by decide +kernel
theorem d_Engine_firstOtherWriter_64 : decode prog_2_method_8_code 64 = .ok (.iload 4, 2) := by decide +kernel
theorem d_Engine_firstOtherWriter_66 : decode prog_2_method_8_code 66 = .ok (.ireturn, 1) := by decide +kernel
theorem d_Engine_firstOtherWriter_67 : decode prog_2_method_8_code 67 = .ok (.iinc 2 1, 3) := by decide +kernel
theorem d_Engine_firstOtherWriter_70 : decode prog_2_method_8_code 70 = .ok (.goto (-68), 3) := by decide +kernel
theorem d_Engine_firstOtherWriter_73 : decode prog_2_method_8_code 73 = .ok (.iconst (-1), 1) := by decide +kernel
theorem d_Engine_firstOtherWriter_74 : decode prog_2_method_8_code 74 = .ok (.ireturn, 1) := by decide +kernel
theorem d_Engine_footprint_0 : decode prog_2_method_6_code 0 = .ok (.iload_n 1, 1) := by decide +kernel
theorem d_Engine_footprint_1 : decode prog_2_method_6_code 1 = .ok (.invokestatic 95, 3) := by decide +kernel
theorem d_Engine_footprint_4 : decode prog_2_method_6_code 4 = .ok (.ifCond .eq 17, 3) := by decide +kernel
theorem d_Engine_footprint_7 : decode prog_2_method_6_code 7 = .ok (.iload_n 0, 1) := by decide +kernel
theorem d_Engine_footprint_8 : decode prog_2_method_6_code 8 = .ok (.sipush 2001, 3) := by decide +kernel
theorem d_Engine_footprint_11 : decode prog_2_method_6_code 11 = .ok (.imul, 1) := by decide +kernel
theorem d_Engine_footprint_12 : decode prog_2_method_6_code 12 = .ok (.iload_n 1, 1) := by decide +kernel
theorem d_Engine_footprint_13 : decode prog_2_method_6_code 13 = .ok (.iadd, 1) := by decide +kernel
theorem d_Engine_footprint_14 : decode prog_2_method_6_code 14 = .ok (.sipush 1000, 3) := by decide +kernel
theorem d_Engine_footprint_17 : decode prog_2_method_6_code 17 = .ok (.iadd, 1) := by decide +kernel
theorem d_Engine_footprint_18 : decode prog_2_method_6_code 18 = .ok (.goto 4, 3) := by decide +kernel
theorem d_Engine_footprint_21 : decode prog_2_method_6_code 21 = .ok (.iconst (-1), 1) := by decide +kernel
theorem d_Engine_footprint_22 : decode prog_2_method_6_code 22 = .ok (.ireturn, 1) := by decide +kernel
theorem d_Engine_endsWaitingFor_0 : decode prog_2_method_9_code 0 = .ok (.iload_n 1, 1) := by decide +kernel
theorem d_Engine_endsWaitingFor_1 : decode prog_2_method_9_code 1 = .ok (.istore_n 3, 1) := by decide +kernel
theorem d_Engine_endsWaitingFor_2 : decode prog_2_method_9_code 2 = .ok (.iconst 0, 1) := by decide +kernel
theorem d_Engine_endsWaitingFor_3 : decode prog_2_method_9_code 3 = .ok (.istore 4, 2) := by decide +kernel
theorem d_Engine_endsWaitingFor_5 : decode prog_2_method_9_code 5 = .ok (.iload 4, 2) := by decide +kernel
theorem d_Engine_endsWaitingFor_7 : decode prog_2_method_9_code 7 = .ok (.bipush 60, 2) := by decide +kernel
theorem d_Engine_endsWaitingFor_9 : decode prog_2_method_9_code 9 = .ok (.if_icmp .ge 39, 3) := by decide +kernel
theorem d_Engine_endsWaitingFor_12 : decode prog_2_method_9_code 12 = .ok (.aload_n 0, 1) := by decide +kernel
theorem d_Engine_endsWaitingFor_13 : decode prog_2_method_9_code 13 = .ok (.iload_n 3, 1) := by decide +kernel
theorem d_Engine_endsWaitingFor_14 : decode prog_2_method_9_code 14 = .ok (.invokevirtual 144, 3) := by decide +kernel
theorem d_Engine_endsWaitingFor_17 : decode prog_2_method_9_code 17 = .ok (.ifCond .eq 31, 3) := by decide +kernel
theorem d_Engine_endsWaitingFor_20 : decode prog_2_method_9_code 20 = .ok (.iload_n 3, 1) := by decide +kernel
theorem d_Engine_endsWaitingFor_21 : decode prog_2_method_9_code 21 = .ok (.iload_n 2, 1) := by decide +kernel
theorem d_Engine_endsWaitingFor_22 : decode prog_2_method_9_code 22 = .ok (.if_icmp .ne 5, 3) := by decide +kernel
theorem d_Engine_endsWaitingFor_25 : decode prog_2_method_9_code 25 = .ok (.iconst 1, 1) := by decide +kernel
theorem d_Engine_endsWaitingFor_26 : decode prog_2_method_9_code 26 = .ok (.ireturn, 1) := by decide +kernel
theorem d_Engine_endsWaitingFor_27 : decode prog_2_method_9_code 27 = .ok (.aload_n 0, 1) := by decide +kernel
theorem d_Engine_endsWaitingFor_28 : decode prog_2_method_9_code 28 = .ok (.getfield 21, 3) := by decide +kernel
theorem d_Engine_endsWaitingFor_31 : decode prog_2_method_9_code 31 = .ok (.iload_n 3, 1) := by decide +kernel
theorem d_Engine_endsWaitingFor_32 : decode prog_2_method_9_code 32 = .ok (.invokevirtual 61, 3) := by decide +kernel
theorem d_Engine_endsWaitingFor_35 : decode prog_2_method_9_code 35 = .ok (.checkcast 65, 3) := by decide +kernel
theorem d_Engine_endsWaitingFor_38 : decode prog_2_method_9_code 38 = .ok (.getfield 121, 3) := by decide +kernel
theorem d_Engine_endsWaitingFor_41 : decode prog_2_method_9_code 41 = .ok (.istore_n 3, 1) := by decide +kernel
theorem d_Engine_endsWaitingFor_42 : decode prog_2_method_9_code 42 = .ok (.iinc 4 1, 3) := by decide +kernel
theorem d_Engine_endsWaitingFor_45 : decode prog_2_method_9_code 45 = .ok (.goto (-40), 3) := by decide +kernel
theorem d_Engine_endsWaitingFor_48 : decode prog_2_method_9_code 48 = .ok (.iconst 0, 1) := by decide +kernel
theorem d_Engine_endsWaitingFor_49 : decode prog_2_method_9_code 49 = .ok (.ireturn, 1) := by decide +kernel
theorem d_Engine_rollBack_0 : decode prog_2_method_15_code 0 = .ok (.aload_n 0, 1) := by decide +kernel
theorem d_Engine_rollBack_1 : decode prog_2_method_15_code 1 = .ok (.getfield 28, 3) := by decide +kernel
theorem d_Engine_rollBack_4 : decode prog_2_method_15_code 4 = .ok (.aload_n 1, 1) := by decide +kernel
theorem d_Engine_rollBack_5 : decode prog_2_method_15_code 5 = .ok (.getfield 92, 3) := by decide +kernel
theorem d_Engine_rollBack_8 : decode prog_2_method_15_code 8 = .ok (.invokevirtual 172, 3) := by decide +kernel
theorem d_Engine_rollBack_11 : decode prog_2_method_15_code 11 = .ok (.istore_n 2, 1) := by decide +kernel
theorem d_Engine_rollBack_12 : decode prog_2_method_15_code 12 = .ok (.aload_n 0, 1) := by decide +kernel
theorem d_Engine_rollBack_13 : decode prog_2_method_15_code 13 = .ok (.aload_n 1, 1) := by decide +kernel
theorem d_Engine_rollBack_14 : decode prog_2_method_15_code 14 = .ok (.iconst 3, 1) := by decide +kernel
theorem d_Engine_rollBack_15 : decode prog_2_method_15_code 15 = .ok (.invokevirtual 175, 3) := by decide +kernel
theorem d_Engine_rollBack_18 : decode prog_2_method_15_code 18 = .ok (.iload_n 2, 1) := by decide +kernel
theorem d_Engine_rollBack_19 : decode prog_2_method_15_code 19 = .ok (.ireturn, 1) := by decide +kernel
theorem d_Engine_finish_0 : decode prog_2_method_16_code 0 = .ok (.aload_n 1, 1) := by decide +kernel
theorem d_Engine_finish_1 : decode prog_2_method_16_code 1 = .ok (.iload_n 2, 1) := by decide +kernel
theorem d_Engine_finish_2 : decode prog_2_method_16_code 2 = .ok (.putfield 118, 3) := by decide +kernel
theorem d_Engine_finish_5 : decode prog_2_method_16_code 5 = .ok (.aload_n 1, 1) := by decide +kernel
theorem d_Engine_finish_6 : decode prog_2_method_16_code 6 = .ok (.iconst (-1), 1) := by decide +kernel
theorem d_Engine_finish_7 : decode prog_2_method_16_code 7 = .ok (.putfield 121, 3) := by decide +kernel
theorem d_Engine_finish_10 : decode prog_2_method_16_code 10 = .ok (.iconst 0, 1) := by decide +kernel
theorem d_Engine_finish_11 : decode prog_2_method_16_code 11 = .ok (.istore_n 3, 1) := by decide +kernel
theorem d_Engine_finish_12 : decode prog_2_method_16_code 12 = .ok (.iload_n 3, 1) := by decide +kernel
theorem d_Engine_finish_13 : decode prog_2_method_16_code 13 = .ok (.aload_n 1, 1) := by decide +kernel
theorem d_Engine_finish_14 : decode prog_2_method_16_code 14 = .ok (.getfield 179, 3) := by decide +kernel
theorem d_Engine_finish_17 : decode prog_2_method_16_code 17 = .ok (.if_icmp .ge 21, 3) := by decide +kernel
theorem d_Engine_finish_20 : decode prog_2_method_16_code 20 = .ok (.aload_n 0, 1) := by decide +kernel
theorem d_Engine_finish_21 : decode prog_2_method_16_code 21 = .ok (.getfield 32, 3) := by decide +kernel
theorem d_Engine_finish_24 : decode prog_2_method_16_code 24 = .ok (.aload_n 1, 1) := by decide +kernel
theorem d_Engine_finish_25 : decode prog_2_method_16_code 25 = .ok (.getfield 182, 3) := by decide +kernel
theorem d_Engine_finish_28 : decode prog_2_method_16_code 28 = .ok (.iload_n 3, 1) := by decide +kernel
theorem d_Engine_finish_29 : decode prog_2_method_16_code 29 = .ok (.iaload, 1) := by decide +kernel
theorem d_Engine_finish_30 : decode prog_2_method_16_code 30 = .ok (.iconst (-1), 1) := by decide +kernel
theorem d_Engine_finish_31 : decode prog_2_method_16_code 31 = .ok (.iastore, 1) := by decide +kernel
theorem d_Engine_finish_32 : decode prog_2_method_16_code 32 = .ok (.iinc 3 1, 3) := by decide +kernel
theorem d_Engine_finish_35 : decode prog_2_method_16_code 35 = .ok (.goto (-23), 3) := by decide +kernel
theorem d_Engine_finish_38 : decode prog_2_method_16_code 38 = .ok (.return_, 1) := by decide +kernel
theorem d_Engine_isOvertaken_0 : decode prog_2_method_10_code 0 = .ok (.iconst 0, 1) := by decide +kernel
theorem d_Engine_isOvertaken_1 : decode prog_2_method_10_code 1 = .ok (.istore_n 2, 1) := by decide +kernel
theorem d_Engine_isOvertaken_2 : decode prog_2_method_10_code 2 = .ok (.iload_n 2, 1) := by decide +kernel
theorem d_Engine_isOvertaken_3 : decode prog_2_method_10_code 3 = .ok (.aload_n 0, 1) := by decide +kernel
theorem d_Engine_isOvertaken_4 : decode prog_2_method_10_code 4 = .ok (.getfield 47, 3) := by decide +kernel
theorem d_Engine_isOvertaken_7 : decode prog_2_method_10_code 7 = .ok (.getfield 131, 3) := by decide +kernel
theorem d_Engine_isOvertaken_10 : decode prog_2_method_10_code 10 = .ok (.if_icmp .ge 37, 3) := by decide +kernel
theorem d_Engine_isOvertaken_13 : decode prog_2_method_10_code 13 = .ok (.aload_n 0, 1) := by decide +kernel
theorem d_Engine_isOvertaken_14 : decode prog_2_method_10_code 14 = .ok (.aload_n 1, 1) := by decide +kernel
theorem d_Engine_isOvertaken_15 : decode prog_2_method_10_code 15 = .ok (.aload_n 0, 1) := by decide +kernel
theorem d_Engine_isOvertaken_16 : decode prog_2_method_10_code 16 = .ok (.getfield 47, 3) := by decide +kernel
theorem d_Engine_isOvertaken_19 : decode prog_2_method_10_code 19 = .ok (.getfield 134, 3) := by decide +kernel
theorem d_Engine_isOvertaken_22 : decode prog_2_method_10_code 22 = .ok (.iload_n 2, 1) := by decide +kernel
theorem d_Engine_isOvertaken_23 : decode prog_2_method_10_code 23 = .ok (.iaload, 1) := by decide +kernel
theorem d_Engine_isOvertaken_24 : decode prog_2_method_10_code 24 = .ok (.aload_n 0, 1) := by decide +kernel
theorem d_Engine_isOvertaken_25 : decode prog_2_method_10_code 25 = .ok (.getfield 47, 3) := by decide +kernel
theorem d_Engine_isOvertaken_28 : decode prog_2_method_10_code 28 = .ok (.getfield 137, 3) := by decide +kernel
theorem d_Engine_isOvertaken_31 : decode prog_2_method_10_code 31 = .ok (.iload_n 2, 1) := by decide +kernel
theorem d_Engine_isOvertaken_32 : decode prog_2_method_10_code 32 = .ok (.iaload, 1) := by decide +kernel
theorem d_Engine_isOvertaken_33 : decode prog_2_method_10_code 33 = .ok (.invokevirtual 147, 3) := by decide +kernel
theorem d_Engine_isOvertaken_36 : decode prog_2_method_10_code 36 = .ok (.ifCond .eq 5, 3) := by decide +kernel
theorem d_Engine_isOvertaken_39 : decode prog_2_method_10_code 39 = .ok (.iconst 1, 1) := by decide +kernel
theorem d_Engine_isOvertaken_40 : decode prog_2_method_10_code 40 = .ok (.ireturn, 1) := by decide +kernel
theorem d_Engine_isOvertaken_41 : decode prog_2_method_10_code 41 = .ok (.iinc 2 1, 3) := by decide +kernel
theorem d_Engine_isOvertaken_44 : decode prog_2_method_10_code 44 = .ok (.goto (-42), 3) := by decide +kernel
theorem d_Engine_isOvertaken_47 : decode prog_2_method_10_code 47 = .ok (.iconst 0, 1) := by decide +kernel
theorem d_Engine_isOvertaken_48 : decode prog_2_method_10_code 48 = .ok (.ireturn, 1) := by decide +kernel
theorem d_Engine_isCommittedSince_0 : decode prog_2_method_11_code 0 = .ok (.iload_n 2, 1) := by decide +kernel
theorem d_Engine_isCommittedSince_1 : decode prog_2_method_11_code 1 = .ok (.iload_n 3, 1) := by decide +kernel
theorem d_Engine_isCommittedSince_2 : decode prog_2_method_11_code 2 = .ok (.invokestatic 140, 3) := by decide +kernel
theorem d_Engine_isCommittedSince_5 : decode prog_2_method_11_code 5 = .ok (.istore 4, 2) := by decide +kernel
theorem d_Engine_isCommittedSince_7 : decode prog_2_method_11_code 7 = .ok (.iload 4, 2) := by decide +kernel
theorem d_Engine_isCommittedSince_9 : decode prog_2_method_11_code 9 = .ok (.iconst (-1), 1) := by decide +kernel
theorem d_Engine_isCommittedSince_10 : decode prog_2_method_11_code 10 = .ok (.if_icmp .eq 21, 3) := by decide +kernel
theorem d_Engine_isCommittedSince_13 : decode prog_2_method_11_code 13 = .ok (.aload_n 0, 1) := by decide +kernel
theorem d_Engine_isCommittedSince_14 : decode prog_2_method_11_code 14 = .ok (.getfield 36, 3) := by decide +kernel
theorem d_Engine_isCommittedSince_17 : decode prog_2_method_11_code 17 = .ok (.iload 4, 2) := by decide +kernel
theorem d_Engine_isCommittedSince_19 : decode prog_2_method_11_code 19 = .ok (.iaload, 1) := by decide +kernel
theorem d_Engine_isCommittedSince_20 : decode prog_2_method_11_code 20 = .ok (.aload_n 1, 1) := by decide +kernel
theorem d_Engine_isCommittedSince_21 : decode prog_2_method_11_code 21 = .ok (.getfield 151, 3) := by decide +kernel
theorem d_Engine_isCommittedSince_24 : decode prog_2_method_11_code 24 = .ok (.if_icmp .le 7, 3) := by decide +kernel
theorem d_Engine_isCommittedSince_27 : decode prog_2_method_11_code 27 = .ok (.iconst 1, 1) := by decide +kernel
theorem d_Engine_isCommittedSince_28 : decode prog_2_method_11_code 28 = .ok (.goto 4, 3) := by decide +kernel
theorem d_Engine_isCommittedSince_31 : decode prog_2_method_11_code 31 = .ok (.iconst 0, 1) := by decide +kernel
theorem d_Engine_isCommittedSince_32 : decode prog_2_method_11_code 32 = .ok (.ireturn, 1) := by decide +kernel
theorem d_Engine_carryOut_0 : decode prog_2_method_12_code 0 = .ok (.aload_n 1, 1) := by decide +kernel
theorem d_Engine_carryOut_1 : decode prog_2_method_12_code 1 = .ok (.getfield 81, 3) := by decide +kernel
theorem d_Engine_carryOut_4 : decode prog_2_method_12_code 4 = .ok (.aload_n 0, 1) := by decide +kernel
theorem d_Engine_carryOut_5 : decode prog_2_method_12_code 5 = .ok (.getfield 47, 3) := by decide +kernel
theorem d_Engine_carryOut_8 : decode prog_2_method_12_code 8 = .ok (.getfield 154, 3) := by decide +kernel
theorem d_Engine_carryOut_11 : decode prog_2_method_12_code 11 = .ok (.invokevirtual 84, 3) := by decide +kernel
theorem d_Engine_carryOut_14 : decode prog_2_method_12_code 14 = .ok (.iconst 0, 1) := by decide +kernel
theorem d_Engine_carryOut_15 : decode prog_2_method_12_code 15 = .ok (.istore_n 2, 1) := by decide +kernel
theorem d_Engine_carryOut_16 : decode prog_2_method_12_code 16 = .ok (.iload_n 2, 1) := by decide +kernel
theorem d_Engine_carryOut_17 : decode prog_2_method_12_code 17 = .ok (.aload_n 0, 1) := by decide +kernel
theorem d_Engine_carryOut_18 : decode prog_2_method_12_code 18 = .ok (.getfield 47, 3) := by decide +kernel
theorem d_Engine_carryOut_21 : decode prog_2_method_12_code 21 = .ok (.getfield 131, 3) := by decide +kernel
theorem d_Engine_carryOut_24 : decode prog_2_method_12_code 24 = .ok (.if_icmp .ge 102, 3) := by decide +kernel
theorem d_Engine_carryOut_27 : decode prog_2_method_12_code 27 = .ok (.aload_n 0, 1) := by decide +kernel
theorem d_Engine_carryOut_28 : decode prog_2_method_12_code 28 = .ok (.getfield 47, 3) := by decide +kernel
theorem d_Engine_carryOut_31 : decode prog_2_method_12_code 31 = .ok (.getfield 134, 3) := by decide +kernel
theorem d_Engine_carryOut_34 : decode prog_2_method_12_code 34 = .ok (.iload_n 2, 1) := by decide +kernel
theorem d_Engine_carryOut_35 : decode prog_2_method_12_code 35 = .ok (.iaload, 1) := by decide +kernel
theorem d_Engine_carryOut_36 : decode prog_2_method_12_code 36 = .ok (.aload_n 0, 1) := by decide +kernel
theorem d_Engine_carryOut_37 : decode prog_2_method_12_code 37 = .ok (.getfield 47, 3) := by decide +kernel
theorem d_Engine_carryOut_40 : decode prog_2_method_12_code 40 = .ok (.getfield 137, 3) := by decide +kernel
theorem d_Engine_carryOut_43 : decode prog_2_method_12_code 43 = .ok (.iload_n 2, 1) := by decide +kernel
theorem d_Engine_carryOut_44 : decode prog_2_method_12_code 44 = .ok (.iaload, 1) := by decide +kernel
theorem d_Engine_carryOut_45 : decode prog_2_method_12_code 45 = .ok (.invokestatic 140, 3) := by decide +kernel
theorem d_Engine_carryOut_48 : decode prog_2_method_12_code 48 = .ok (.istore_n 3, 1) := by decide +kernel
theorem d_Engine_carryOut_49 : decode prog_2_method_12_code 49 = .ok (.iload_n 3, 1) := by decide +kernel
theorem d_Engine_carryOut_50 : decode prog_2_method_12_code 50 = .ok (.iconst (-1), 1) := by decide +kernel
theorem d_Engine_carryOut_51 : decode prog_2_method_12_code 51 = .ok (.if_icmp .eq 31, 3) := by decide +kernel
theorem d_Engine_carryOut_54 : decode prog_2_method_12_code 54 = .ok (.aload_n 0, 1) := by decide +kernel
theorem d_Engine_carryOut_55 : decode prog_2_method_12_code 55 = .ok (.getfield 32, 3) := by decide +kernel
theorem d_Engine_carryOut_58 : decode prog_2_method_12_code 58 = .ok (.iload_n 3, 1) := by decide +kernel
theorem d_Engine_carryOut_59 : decode prog_2_method_12_code 59 = .ok (.iaload, 1) := by decide +kernel
theorem d_Engine_carryOut_60 : decode prog_2_method_12_code 60 = .ok (.aload_n 1, 1) := by decide +kernel
theorem d_Engine_carryOut_61 : decode prog_2_method_12_code 61 = .ok (.getfield 92, 3) := by decide +kernel
theorem d_Engine_carryOut_64 : decode prog_2_method_12_code 64 = .ok (.if_icmp .eq 18, 3) := by decide +kernel
theorem d_Engine_carryOut_67 : decode prog_2_method_12_code 67 = .ok (.aload_n 0, 1) := by decide +kernel
theorem d_Engine_carryOut_68 : decode prog_2_method_12_code 68 = .ok (.getfield 32, 3) := by decide +kernel
theorem d_Engine_carryOut_71 : decode prog_2_method_12_code 71 = .ok (.iload_n 3, 1) := by decide +kernel
theorem d_Engine_carryOut_72 : decode prog_2_method_12_code 72 = .ok (.aload_n 1, 1) := by decide +kernel
theorem d_Engine_carryOut_73 : decode prog_2_method_12_code 73 = .ok (.getfield 92, 3) := by decide +kernel
theorem d_Engine_carryOut_76 : decode prog_2_method_12_code 76 = .ok (.iastore, 1) := by decide +kernel
theorem d_Engine_carryOut_77 : decode prog_2_method_12_code 77 = .ok (.aload_n 1, 1) := by decide +kernel
theorem d_Engine_carryOut_78 : decode prog_2_method_12_code 78 = .ok (.iload_n 3, 1) := by decide +kernel
theorem d_Engine_carryOut_79 : decode prog_2_method_12_code 79 = .ok (.invokevirtual 157, 3) := by decide +kernel
theorem d_Engine_carryOut_82 : decode prog_2_method_12_code 82 = .ok (.iload_n 3, 1) := by decide +kernel
theorem d_Engine_carryOut_83 : decode prog_2_method_12_code 83 = .ok (.iconst (-1), 1) := by decide +kernel
theorem d_Engine_carryOut_84 : decode prog_2_method_12_code 84 = .ok (.if_icmp .eq 36, 3) := by decide +kernel
theorem d_Engine_carryOut_87 : decode prog_2_method_12_code 87 = .ok (.aload_n 0, 1) := by decide +kernel
theorem d_Engine_carryOut_88 : decode prog_2_method_12_code 88 = .ok (.getfield 28, 3) := by decide +kernel
theorem d_Engine_carryOut_91 : decode prog_2_method_12_code 91 = .ok (.aload_n 1, 1) := by decide +kernel
theorem d_Engine_carryOut_92 : decode prog_2_method_12_code 92 = .ok (.getfield 92, 3) := by decide +kernel
theorem d_Engine_carryOut_95 : decode prog_2_method_12_code 95 = .ok (.aload_n 0, 1) := by decide +kernel
theorem d_Engine_carryOut_96 : decode prog_2_method_12_code 96 = .ok (.getfield 47, 3) := by decide +kernel
theorem d_Engine_carryOut_99 : decode prog_2_method_12_code 99 = .ok (.getfield 134, 3) := by decide +kernel
theorem d_Engine_carryOut_102 : decode prog_2_method_12_code 102 = .ok (.iload_n 2, 1) := by decide +kernel
theorem d_Engine_carryOut_103 : decode prog_2_method_12_code 103 = .ok (.iaload, 1) := by decide +kernel
theorem d_Engine_carryOut_104 : decode prog_2_method_12_code 104 = .ok (.aload_n 0, 1) := by decide +kernel
theorem d_Engine_carryOut_105 : decode prog_2_method_12_code 105 = .ok (.getfield 47, 3) := by decide +kernel
theorem d_Engine_carryOut_108 : decode prog_2_method_12_code 108 = .ok (.getfield 137, 3) := by decide +kernel
theorem d_Engine_carryOut_111 : decode prog_2_method_12_code 111 = .ok (.iload_n 2, 1) := by decide +kernel
theorem d_Engine_carryOut_112 : decode prog_2_method_12_code 112 = .ok (.iaload, 1) := by decide +kernel
theorem d_Engine_carryOut_113 : decode prog_2_method_12_code 113 = .ok (.aload_n 1, 1) := by decide +kernel
theorem d_Engine_carryOut_114 : decode prog_2_method_12_code 114 = .ok (.getfield 81, 3) := by decide +kernel
theorem d_Engine_carryOut_117 : decode prog_2_method_12_code 117 = .ok (.invokevirtual 161, 3) := by decide +kernel
theorem d_Engine_carryOut_120 : decode prog_2_method_12_code 120 = .ok (.iinc 2 1, 3) := by decide +kernel
theorem d_Engine_carryOut_123 : decode prog_2_method_12_code 123 = .ok (.goto (-107), 3) := by decide +kernel
theorem d_Engine_carryOut_126 : decode prog_2_method_12_code 126 = .ok (.return_, 1) := by decide +kernel
theorem d_F_update_0 : decode prog_1_method_9_code 0 = .ok (.aload_n 0, 1) := by decide +kernel
theorem d_F_update_1 : decode prog_1_method_9_code 1 = .ok (.getfield 21, 3) := by decide +kernel
theorem d_F_update_4 : decode prog_1_method_9_code 4 = .ok (.iload_n 1, 1) := by decide +kernel
theorem d_F_update_5 : decode prog_1_method_9_code 5 = .ok (.invokevirtual 157, 3) := by decide +kernel
theorem d_F_update_8 : decode prog_1_method_9_code 8 = .ok (.ifCond .eq 25, 3) := by decide +kernel
theorem d_F_update_11 : decode prog_1_method_9_code 11 = .ok (.aload_n 0, 1) := by decide +kernel
theorem d_F_update_12 : decode prog_1_method_9_code 12 = .ok (.getfield 12, 3) := by decide +kernel
theorem d_F_update_15 : decode prog_1_method_9_code 15 = .ok (.iload_n 2, 1) := by decide +kernel
theorem d_F_update_16 : decode prog_1_method_9_code 16 = .ok (.iload 4, 2) := by decide +kernel
theorem d_F_update_18 : decode prog_1_method_9_code 18 = .ok (.invokevirtual 93, 3) := by decide +kernel
theorem d_F_update_21 : decode prog_1_method_9_code 21 = .ok (.ifCond .eq 12, 3) := by decide +kernel
theorem d_F_update_24 : decode prog_1_method_9_code 24 = .ok (.iload 4, 2) := by decide +kernel
theorem d_F_update_26 : decode prog_1_method_9_code 26 = .ok (.ifCond .eq 7, 3) := by decide +kernel
theorem d_F_update_29 : decode prog_1_method_9_code 29 = .ok (.iconst 1, 1) := by decide +kernel
theorem d_F_update_30 : decode prog_1_method_9_code 30 = .ok (.goto 4, 3) := by decide +kernel
theorem d_F_update_33 : decode prog_1_method_9_code 33 = .ok (.iconst 0, 1) := by decide +kernel
theorem d_F_update_34 : decode prog_1_method_9_code 34 = .ok (.invokestatic 97, 3) := by decide +kernel
theorem d_F_update_37 : decode prog_1_method_9_code 37 = .ok (.iload 5, 2) := by decide +kernel
theorem d_F_update_39 : decode prog_1_method_9_code 39 = .ok (.invokestatic 104, 3) := by decide +kernel
theorem d_F_update_42 : decode prog_1_method_9_code 42 = .ok (.ifCond .ne 10, 3) := by decide +kernel
theorem d_F_update_45 : decode prog_1_method_9_code 45 = .ok (.iload 5, 2) := by decide +kernel
theorem d_F_update_47 : decode prog_1_method_9_code 47 = .ok (.ldc 153, 2) := by decide +kernel
theorem d_F_update_49 : decode prog_1_method_9_code 49 = .ok (.if_icmp .ne 7, 3) := by decide +kernel
theorem d_F_update_52 : decode prog_1_method_9_code 52 = .ok (.iconst 1, 1) := by decide +kernel
theorem d_F_update_53 : decode prog_1_method_9_code 53 = .ok (.goto 4, 3) := by decide +kernel
theorem d_F_update_56 : decode prog_1_method_9_code 56 = .ok (.iconst 0, 1) := by decide +kernel
theorem d_F_update_57 : decode prog_1_method_9_code 57 = .ok (.invokestatic 70, 3) := by decide +kernel
theorem d_F_update_60 : decode prog_1_method_9_code 60 = .ok (.aload_n 0, 1) := by decide +kernel
theorem d_F_update_61 : decode prog_1_method_9_code 61 = .ok (.iload_n 1, 1) := by decide +kernel
theorem d_F_update_62 : decode prog_1_method_9_code 62 = .ok (.invokevirtual 160, 3) := by decide +kernel
theorem d_F_update_65 : decode prog_1_method_9_code 65 = .ok (.astore 6, 2) := by decide +kernel
theorem d_F_update_67 : decode prog_1_method_9_code 67 = .ok (.aload 6, 2) := by decide +kernel
theorem d_F_update_69 : decode prog_1_method_9_code 69 = .ok (.iload_n 2, 1) := by decide +kernel
theorem d_F_update_70 : decode prog_1_method_9_code 70 = .ok (.iload_n 3, 1) := by decide +kernel
theorem d_F_update_71 : decode prog_1_method_9_code 71 = .ok (.iload 4, 2) := by decide +kernel
theorem d_F_update_73 : decode prog_1_method_9_code 73 = .ok (.iload 5, 2) := by decide +kernel
theorem d_F_update_75 : decode prog_1_method_9_code 75 = .ok (.invokevirtual 180, 3) := by decide +kernel
theorem d_F_update_78 : decode prog_1_method_9_code 78 = .ok (.aload_n 0, 1) := by decide +kernel
theorem d_F_update_79 : decode prog_1_method_9_code 79 = .ok (.getfield 21, 3) := by decide +kernel
theorem d_F_update_82 : decode prog_1_method_9_code 82 = .ok (.aload 6, 2) := by decide +kernel
theorem d_F_update_84 : decode prog_1_method_9_code 84 = .ok (.invokevirtual 173, 3) := by decide +kernel
theorem d_F_update_87 : decode prog_1_method_9_code 87 = .ok (.aload 6, 2) := by decide +kernel
theorem d_F_update_89 : decode prog_1_method_9_code 89 = .ok (.getfield 177, 3) := by decide +kernel
theorem d_F_update_92 : decode prog_1_method_9_code 92 = .ok (.ireturn, 1) := by decide +kernel
theorem d_F_delete_0 : decode prog_1_method_10_code 0 = .ok (.aload_n 0, 1) := by decide +kernel
theorem d_F_delete_1 : decode prog_1_method_10_code 1 = .ok (.getfield 21, 3) := by decide +kernel
theorem d_F_delete_4 : decode prog_1_method_10_code 4 = .ok (.iload_n 1, 1) := by decide +kernel
theorem d_F_delete_5 : decode prog_1_method_10_code 5 = .ok (.invokevirtual 157, 3) := by decide +kernel
theorem d_F_delete_8 : decode prog_1_method_10_code 8 = .ok (.ifCond .eq 18, 3) := by decide +kernel
theorem d_F_delete_11 : decode prog_1_method_10_code 11 = .ok (.aload_n 0, 1) := by decide +kernel
theorem d_F_delete_12 : decode prog_1_method_10_code 12 = .ok (.getfield 12, 3) := by decide +kernel
theorem d_F_delete_15 : decode prog_1_method_10_code 15 = .ok (.iload_n 2, 1) := by decide +kernel
theorem d_F_delete_16 : decode prog_1_method_10_code 16 = .ok (.invokevirtual 123, 3) := by decide +kernel
theorem d_F_delete_19 : decode prog_1_method_10_code 19 = .ok (.ifCond .eq 7, 3) := by decide +kernel
theorem d_F_delete_22 : decode prog_1_method_10_code 22 = .ok (.iconst 1, 1) := by decide +kernel
theorem d_F_delete_23 : decode prog_1_method_10_code 23 = .ok (.goto 4, 3) := by decide +kernel
theorem d_F_delete_26 : decode prog_1_method_10_code 26 = .ok (.iconst 0, 1) := by decide +kernel
theorem d_F_delete_27 : decode prog_1_method_10_code 27 = .ok (.invokestatic 97, 3) := by decide +kernel
theorem d_F_delete_30 : decode prog_1_method_10_code 30 = .ok (.aload_n 0, 1) := by decide +kernel
theorem d_F_delete_31 : decode prog_1_method_10_code 31 = .ok (.iload_n 1, 1) := by decide +kernel
theorem d_F_delete_32 : decode prog_1_method_10_code 32 = .ok (.invokevirtual 160, 3) := by decide +kernel
theorem d_F_delete_35 : decode prog_1_method_10_code 35 = .ok (.astore 4, 2) := by decide +kernel
theorem d_F_delete_37 : decode prog_1_method_10_code 37 = .ok (.aload 4, 2) := by decide +kernel
theorem d_F_delete_39 : decode prog_1_method_10_code 39 = .ok (.iload_n 2, 1) := by decide +kernel
theorem d_F_delete_40 : decode prog_1_method_10_code 40 = .ok (.iload_n 3, 1) := by decide +kernel
theorem d_F_delete_41 : decode prog_1_method_10_code 41 = .ok (.invokevirtual 183, 3) := by decide +kernel
theorem d_F_delete_44 : decode prog_1_method_10_code 44 = .ok (.aload_n 0, 1) := by decide +kernel
theorem d_F_delete_45 : decode prog_1_method_10_code 45 = .ok (.getfield 21, 3) := by decide +kernel
theorem d_F_delete_48 : decode prog_1_method_10_code 48 = .ok (.aload 4, 2) := by decide +kernel
theorem d_F_delete_50 : decode prog_1_method_10_code 50 = .ok (.invokevirtual 173, 3) := by decide +kernel
theorem d_F_delete_53 : decode prog_1_method_10_code 53 = .ok (.aload 4, 2) := by decide +kernel
theorem d_F_delete_55 : decode prog_1_method_10_code 55 = .ok (.getfield 177, 3) := by decide +kernel
theorem d_F_delete_58 : decode prog_1_method_10_code 58 = .ok (.ireturn, 1) := by decide +kernel
theorem d_F_commit_0 : decode prog_1_method_11_code 0 = .ok (.aload_n 0, 1) := by decide +kernel
theorem d_F_commit_1 : decode prog_1_method_11_code 1 = .ok (.getfield 21, 3) := by decide +kernel
theorem d_F_commit_4 : decode prog_1_method_11_code 4 = .ok (.iload_n 1, 1) := by decide +kernel
theorem d_F_commit_5 : decode prog_1_method_11_code 5 = .ok (.invokevirtual 157, 3) := by decide +kernel
theorem d_F_commit_8 : decode prog_1_method_11_code 8 = .ok (.invokestatic 97, 3) := by decide +kernel
theorem d_F_commit_11 : decode prog_1_method_11_code 11 = .ok (.aload_n 0, 1) := by decide +kernel
theorem d_F_commit_12 : decode prog_1_method_11_code 12 = .ok (.getfield 21, 3) := by decide +kernel
theorem d_F_commit_15 : decode prog_1_method_11_code 15 = .ok (.aload_n 0, 1) := by decide +kernel
theorem d_F_commit_16 : decode prog_1_method_11_code 16 = .ok (.iload_n 1, 1) := by decide +kernel
theorem d_F_commit_17 : decode prog_1_method_11_code 17 = .ok (.invokevirtual 160, 3) := by decide +kernel
theorem d_F_commit_20 : decode prog_1_method_11_code 20 = .ok (.invokevirtual 187, 3) := by decide +kernel
theorem d_F_commit_23 : decode prog_1_method_11_code 23 = .ok (.istore_n 2, 1) := by decide +kernel
theorem d_F_commit_24 : decode prog_1_method_11_code 24 = .ok (.aload_n 0, 1) := by decide +kernel
theorem d_F_commit_25 : decode prog_1_method_11_code 25 = .ok (.getfield 21, 3) := by decide +kernel
theorem d_F_commit_28 : decode prog_1_method_11_code 28 = .ok (.aconst_null, 1) := by decide +kernel
theorem d_F_commit_29 : decode prog_1_method_11_code 29 = .ok (.invokevirtual 173, 3) := by decide +kernel
theorem d_F_commit_32 : decode prog_1_method_11_code 32 = .ok (.iload_n 2, 1) := by decide +kernel
theorem d_F_commit_33 : decode prog_1_method_11_code 33 = .ok (.ifCond .ne 7, 3) := by decide +kernel
theorem d_F_commit_36 : decode prog_1_method_11_code 36 = .ok (.aload_n 0, 1) := by decide +kernel
theorem d_F_commit_37 : decode prog_1_method_11_code 37 = .ok (.invokevirtual 191, 3) := by decide +kernel
theorem d_F_commit_40 : decode prog_1_method_11_code 40 = .ok (.iload_n 2, 1) := by decide +kernel
theorem d_F_commit_41 : decode prog_1_method_11_code 41 = .ok (.ireturn, 1) := by decide +kernel
theorem d_Engine_tryCommit_0 : decode prog_2_method_17_code 0 = .ok (.aload_n 0, 1) := by decide +kernel
theorem d_Engine_tryCommit_1 : decode prog_2_method_17_code 1 = .ok (.aload_n 1, 1) := by decide +kernel
theorem d_Engine_tryCommit_2 : decode prog_2_method_17_code 2 = .ok (.invokevirtual 185, 3) := by decide +kernel
theorem d_Engine_tryCommit_5 : decode prog_2_method_17_code 5 = .ok (.ifCond .ne 22, 3) := by decide +kernel
theorem d_Engine_tryCommit_8 : decode prog_2_method_17_code 8 = .ok (.aload_n 0, 1) := by decide +kernel
theorem d_Engine_tryCommit_9 : decode prog_2_method_17_code 9 = .ok (.aload_n 1, 1) := by decide +kernel
theorem d_Engine_tryCommit_10 : decode prog_2_method_17_code 10 = .ok (.getfield 92, 3) := by decide +kernel
theorem d_Engine_tryCommit_13 : decode prog_2_method_17_code 13 = .ok (.aload_n 1, 1) := by decide +kernel
theorem d_Engine_tryCommit_14 : decode prog_2_method_17_code 14 = .ok (.getfield 81, 3) := by decide +kernel
theorem d_Engine_tryCommit_17 : decode prog_2_method_17_code 17 = .ok (.invokevirtual 188, 3) := by decide +kernel
theorem d_Engine_tryCommit_20 : decode prog_2_method_17_code 20 = .ok (.ifCond .ne 7, 3) := by decide +kernel
theorem d_Engine_tryCommit_23 : decode prog_2_method_17_code 23 = .ok (.iconst 1, 1) := by decide +kernel
theorem d_Engine_tryCommit_24 : decode prog_2_method_17_code 24 = .ok (.goto 4, 3) := by decide +kernel
theorem d_Engine_tryCommit_27 : decode prog_2_method_17_code 27 = .ok (.iconst 0, 1) := by decide +kernel
theorem d_Engine_tryCommit_28 : decode prog_2_method_17_code 28 = .ok (.istore_n 2, 1) := by decide +kernel
theorem d_Engine_tryCommit_29 : decode prog_2_method_17_code 29 = .ok (.iload_n 2, 1) := by decide +kernel
theorem d_Engine_tryCommit_30 : decode prog_2_method_17_code 30 = .ok (.ifCond .eq 11, 3) := by decide +kernel
theorem d_Engine_tryCommit_33 : decode prog_2_method_17_code 33 = .ok (.aload_n 0, 1) := by decide +kernel
theorem d_Engine_tryCommit_34 : decode prog_2_method_17_code 34 = .ok (.aload_n 1, 1) := by decide +kernel
theorem d_Engine_tryCommit_35 : decode prog_2_method_17_code 35 = .ok (.invokevirtual 192, 3) := by decide +kernel
theorem d_Engine_tryCommit_38 : decode prog_2_method_17_code 38 = .ok (.goto 9, 3) := by decide +kernel
theorem d_Engine_tryCommit_41 : decode prog_2_method_17_code 41 = .ok (.aload_n 0, 1) := by decide +kernel
theorem d_Engine_tryCommit_42 : decode prog_2_method_17_code 42 = .ok (.aload_n 1, 1) := by decide +kernel
theorem d_Engine_tryCommit_43 : decode prog_2_method_17_code 43 = .ok (.invokevirtual 114, 3) := by decide +kernel
theorem d_Engine_tryCommit_46 : decode prog_2_method_17_code 46 = .ok (.pop, 1) := by decide +kernel
theorem d_Engine_tryCommit_47 : decode prog_2_method_17_code 47 = .ok (.iload_n 2, 1) := by decide +kernel
theorem d_Engine_tryCommit_48 : decode prog_2_method_17_code 48 = .ok (.ifCond .eq 7, 3) := by decide +kernel
theorem d_Engine_tryCommit_51 : decode prog_2_method_17_code 51 = .ok (.iconst 0, 1) := by decide +kernel
theorem d_Engine_tryCommit_52 : decode prog_2_method_17_code 52 = .ok (.goto 4, 3) := by decide +kernel
theorem d_Engine_tryCommit_55 : decode prog_2_method_17_code 55 = .ok (.iconst 3, 1) := by decide +kernel
theorem d_Engine_tryCommit_56 : decode prog_2_method_17_code 56 = .ok (.ireturn, 1) := by decide +kernel
theorem d_Engine_hasStaleRead_0 : decode prog_2_method_18_code 0 = .ok (.iconst 0, 1) := by decide +kernel
theorem d_Engine_hasStaleRead_1 : decode prog_2_method_18_code 1 = .ok (.istore_n 2, 1) := by decide +kernel
theorem d_Engine_hasStaleRead_2 : decode prog_2_method_18_code 2 = .ok (.iload_n 2, 1) := by decide +kernel
theorem d_Engine_hasStaleRead_3 : decode prog_2_method_18_code 3 = .ok (.bipush 6, 2) := by decide +kernel
theorem d_Engine_hasStaleRead_5 : decode prog_2_method_18_code 5 = .ok (.if_icmp .ge 32, 3) := by decide +kernel
theorem d_Engine_hasStaleRead_8 : decode prog_2_method_18_code 8 = .ok (.aload_n 1, 1) := by decide +kernel
theorem d_Engine_hasStaleRead_9 : decode prog_2_method_18_code 9 = .ok (.iload_n 2, 1) := by decide +kernel
theorem d_Engine_hasStaleRead_10 : decode prog_2_method_18_code 10 = .ok (.invokevirtual 195, 3) := by decide +kernel
theorem d_Engine_hasStaleRead_13 : decode prog_2_method_18_code 13 = .ok (.ifCond .eq 18, 3) := by decide +kernel
theorem d_Engine_hasStaleRead_16 : decode prog_2_method_18_code 16 = .ok (.aload_n 0, 1) := by decide +kernel
theorem d_Engine_hasStaleRead_17 : decode prog_2_method_18_code 17 = .ok (.getfield 39, 3) := by decide +kernel
theorem d_Engine_hasStaleRead_20 : decode prog_2_method_18_code 20 = .ok (.iload_n 2, 1) := by decide +kernel
theorem d_Engine_hasStaleRead_21 : decode prog_2_method_18_code 21 = .ok (.iaload, 1) := by decide +kernel
theorem d_Engine_hasStaleRead_22 : decode prog_2_method_18_code 22 = .ok (.aload_n 1, 1) := by decide +kernel
theorem d_Engine_hasStaleRead_23 : decode prog_2_method_18_code 23 = .ok (.getfield 151, 3) := by decide +kernel
theorem d_Engine_hasStaleRead_26 : decode prog_2_method_18_code 26 = .ok (.if_icmp .le 5, 3) := by decide +kernel
theorem d_Engine_hasStaleRead_29 : decode prog_2_method_18_code 29 = .ok (.iconst 1, 1) := by decide +kernel
theorem d_Engine_hasStaleRead_30 : decode prog_2_method_18_code 30 = .ok (.ireturn, 1) := by decide +kernel
theorem d_Engine_hasStaleRead_31 : decode prog_2_method_18_code 31 = .ok (.iinc 2 1, 3) := by decide +kernel
theorem d_Engine_hasStaleRead_34 : decode prog_2_method_18_code 34 = .ok (.goto (-32), 3) := by decide +kernel
theorem d_Engine_hasStaleRead_37 : decode prog_2_method_18_code 37 = .ok (.iconst 0, 1) := by decide +kernel
theorem d_Engine_hasStaleRead_38 : decode prog_2_method_18_code 38 = .ok (.istore_n 2, 1) := by decide +kernel
theorem d_Engine_hasStaleRead_39 : decode prog_2_method_18_code 39 = .ok (.iload_n 2, 1) := by decide +kernel
theorem d_Engine_hasStaleRead_40 : decode prog_2_method_18_code 40 = .ok (.aload_n 1, 1) := by decide +kernel
theorem d_Engine_hasStaleRead_41 : decode prog_2_method_18_code 41 = .ok (.getfield 198, 3) := by decide +kernel
theorem d_Engine_hasStaleRead_44 : decode prog_2_method_18_code 44 = .ok (.if_icmp .ge 31, 3) := by decide +kernel
theorem d_Engine_hasStaleRead_47 : decode prog_2_method_18_code 47 = .ok (.aload_n 0, 1) := by decide +kernel
theorem d_Engine_hasStaleRead_48 : decode prog_2_method_18_code 48 = .ok (.aload_n 1, 1) := by decide +kernel
theorem d_Engine_hasStaleRead_49 : decode prog_2_method_18_code 49 = .ok (.aload_n 1, 1) := by decide +kernel
theorem d_Engine_hasStaleRead_50 : decode prog_2_method_18_code 50 = .ok (.getfield 201, 3) := by decide +kernel
theorem d_Engine_hasStaleRead_53 : decode prog_2_method_18_code 53 = .ok (.iload_n 2, 1) := by decide +kernel
theorem d_Engine_hasStaleRead_54 : decode prog_2_method_18_code 54 = .ok (.iaload, 1) := by decide +kernel
theorem d_Engine_hasStaleRead_55 : decode prog_2_method_18_code 55 = .ok (.aload_n 1, 1) := by decide +kernel
theorem d_Engine_hasStaleRead_56 : decode prog_2_method_18_code 56 = .ok (.getfield 204, 3) := by decide +kernel
theorem d_Engine_hasStaleRead_59 : decode prog_2_method_18_code 59 = .ok (.iload_n 2, 1) := by decide +kernel
theorem d_Engine_hasStaleRead_60 : decode prog_2_method_18_code 60 = .ok (.iaload, 1) := by decide +kernel
theorem d_Engine_hasStaleRead_61 : decode prog_2_method_18_code 61 = .ok (.invokevirtual 147, 3) := by decide +kernel
theorem d_Engine_hasStaleRead_64 : decode prog_2_method_18_code 64 = .ok (.ifCond .eq 5, 3) := by decide +kernel
theorem d_Engine_hasStaleRead_67 : decode prog_2_method_18_code 67 = .ok (.iconst 1, 1) := by decide +kernel
theorem d_Engine_hasStaleRead_68 : decode prog_2_method_18_code 68 = .ok (.ireturn, 1) := by decide +kernel
theorem d_Engine_hasStaleRead_69 : decode prog_2_method_18_code 69 = .ok (.iinc 2 1, 3) := by decide +kernel
theorem d_Engine_hasStaleRead_72 : decode prog_2_method_18_code 72 = .ok (.goto (-33), 3) := by decide +kernel
theorem d_Engine_hasStaleRead_75 : decode prog_2_method_18_code 75 = .ok (.iconst 0, 1) := by decide +kernel
theorem d_Engine_hasStaleRead_76 : decode prog_2_method_18_code 76 = .ok (.ireturn, 1) := by decide +kernel
theorem d_Engine_overfills_0 : decode prog_2_method_20_code 0 = .ok (.iconst 0, 1) := by decide +kernel
theorem d_Engine_overfills_1 : decode prog_2_method_20_code 1 = .ok (.istore_n 3, 1) := by decide +kernel
theorem d_Engine_overfills_2 : decode prog_2_method_20_code 2 = .ok (.iload_n 3, 1) := by decide +kernel
theorem d_Engine_overfills_3 : decode prog_2_method_20_code 3 = .ok (.bipush 6, 2) := by decide +kernel
theorem d_Engine_overfills_5 : decode prog_2_method_20_code 5 = .ok (.if_icmp .ge 97, 3) := by decide +kernel
theorem d_Engine_overfills_8 : decode prog_2_method_20_code 8 = .ok (.iconst 0, 1) := by decide +kernel
theorem d_Engine_overfills_9 : decode prog_2_method_20_code 9 = .ok (.istore 4, 2) := by decide +kernel
theorem d_Engine_overfills_11 : decode prog_2_method_20_code 11 = .ok (.iload_n 3, 1) := by decide +kernel
theorem d_Engine_overfills_12 : decode prog_2_method_20_code 12 = .ok (.bipush 8, 2) := by decide +kernel
theorem d_Engine_overfills_14 : decode prog_2_method_20_code 14 = .ok (.imul, 1) := by decide +kernel
theorem d_Engine_overfills_15 : decode prog_2_method_20_code 15 = .ok (.istore 5, 2) := by decide +kernel
theorem d_Engine_overfills_17 : decode prog_2_method_20_code 17 = .ok (.iload 5, 2) := by decide +kernel
theorem d_Engine_overfills_19 : decode prog_2_method_20_code 19 = .ok (.iload_n 3, 1) := by decide +kernel
theorem d_Engine_overfills_20 : decode prog_2_method_20_code 20 = .ok (.iconst 1, 1) := by decide +kernel
theorem d_Engine_overfills_21 : decode prog_2_method_20_code 21 = .ok (.iadd, 1) := by decide +kernel
theorem d_Engine_overfills_22 : decode prog_2_method_20_code 22 = .ok (.bipush 8, 2) := by decide +kernel
theorem d_Engine_overfills_24 : decode prog_2_method_20_code 24 = .ok (.imul, 1) := by decide +kernel
theorem d_Engine_overfills_25 : decode prog_2_method_20_code 25 = .ok (.if_icmp .ge 62, 3) := by decide +kernel
theorem d_Engine_overfills_28 : decode prog_2_method_20_code 28 = .ok (.aload_n 0, 1) := by decide +kernel
theorem d_Engine_overfills_29 : decode prog_2_method_20_code 29 = .ok (.getfield 12, 3) := by decide +kernel
theorem d_Engine_overfills_32 : decode prog_2_method_20_code 32 = .ok (.iload 5, 2) := by decide +kernel
theorem d_Engine_overfills_34 : decode prog_2_method_20_code 34 = .ok (.invokevirtual 207, 3) := by decide +kernel
theorem d_Engine_overfills_37 : decode prog_2_method_20_code 37 = .ok (.ldc 210, 2) := by decide +kernel
theorem d_Engine_overfills_39 : decode prog_2_method_20_code 39 = .ok (.if_icmp .eq 24, 3) := by decide +kernel
theorem d_Engine_overfills_42 : decode prog_2_method_20_code 42 = .ok (.aload_n 0, 1) := by decide +kernel
theorem d_Engine_overfills_43 : decode prog_2_method_20_code 43 = .ok (.iload_n 1, 1) := by decide +kernel
theorem d_Engine_overfills_44 : decode prog_2_method_20_code 44 = .ok (.iload_n 3, 1) := by decide +kernel
theorem d_Engine_overfills_45 : decode prog_2_method_20_code 45 = .ok (.aload_n 0, 1) := by decide +kernel
theorem d_Engine_overfills_46 : decode prog_2_method_20_code 46 = .ok (.getfield 12, 3) := by decide +kernel
theorem d_Engine_overfills_49 : decode prog_2_method_20_code 49 = .ok (.iload 5, 2) := by decide +kernel
theorem d_Engine_overfills_51 : decode prog_2_method_20_code 51 = .ok (.invokevirtual 207, 3) := by decide +kernel
theorem d_Engine_overfills_54 : decode prog_2_method_20_code 54 = .ok (.invokevirtual 211, 3) := by decide +kernel
theorem d_Engine_overfills_57 : decode prog_2_method_20_code 57 = .ok (.ifCond .ne 6, 3) := by decide +kernel
theorem d_Engine_overfills_60 : decode prog_2_method_20_code 60 = .ok (.iinc 4 1, 3) := by decide +kernel
theorem d_Engine_overfills_63 : decode prog_2_method_20_code 63 = .ok (.aload_n 0, 1) := by decide +kernel
theorem d_Engine_overfills_64 : decode prog_2_method_20_code 64 = .ok (.iload_n 1, 1) := by decide +kernel
theorem d_Engine_overfills_65 : decode prog_2_method_20_code 65 = .ok (.iload_n 3, 1) := by decide +kernel
theorem d_Engine_overfills_66 : decode prog_2_method_20_code 66 = .ok (.aload_n 2, 1) := by decide +kernel
theorem d_Engine_overfills_67 : decode prog_2_method_20_code 67 = .ok (.iload 5, 2) := by decide +kernel
theorem d_Engine_overfills_69 : decode prog_2_method_20_code 69 = .ok (.invokevirtual 207, 3) := by decide +kernel
theorem d_Engine_overfills_72 : decode prog_2_method_20_code 72 = .ok (.invokevirtual 211, 3) := by decide +kernel
theorem d_Engine_overfills_75 : decode prog_2_method_20_code 75 = .ok (.ifCond .eq 6, 3) := by decide +kernel
theorem d_Engine_overfills_78 : decode prog_2_method_20_code 78 = .ok (.iinc 4 1, 3) := by decide +kernel
theorem d_Engine_overfills_81 : decode prog_2_method_20_code 81 = .ok (.iinc 5 1, 3) := by decide +kernel
theorem d_Engine_overfills_84 : decode prog_2_method_20_code 84 = .ok (.goto (-67), 3) := by decide +kernel
theorem d_Engine_overfills_87 : decode prog_2_method_20_code 87 = .ok (.iload 4, 2) := by decide +kernel
theorem d_Engine_overfills_89 : decode prog_2_method_20_code 89 = .ok (.bipush 8, 2) := by decide +kernel
theorem d_Engine_overfills_91 : decode prog_2_method_20_code 91 = .ok (.if_icmp .le 5, 3) := by decide +kernel
theorem d_Engine_overfills_94 : decode prog_2_method_20_code 94 = .ok (.iconst 1, 1) := by decide +kernel
theorem d_Engine_overfills_95 : decode prog_2_method_20_code 95 = .ok (.ireturn, 1) := by decide +kernel
theorem d_Engine_overfills_96 : decode prog_2_method_20_code 96 = .ok (.iinc 3 1, 3) := by decide +kernel
theorem d_Engine_overfills_99 : decode prog_2_method_20_code 99 = .ok (.goto (-97), 3) := by decide +kernel
theorem d_Engine_overfills_102 : decode prog_2_method_20_code 102 = .ok (.iconst 0, 1) := by decide +kernel
theorem d_Engine_overfills_103 : decode prog_2_method_20_code 103 = .ok (.ireturn, 1) := by decide +kernel
theorem d_Engine_isWrittenBy_0 : decode prog_2_method_19_code 0 = .ok (.iload_n 2, 1) := by decide +kernel
theorem d_Engine_isWrittenBy_1 : decode prog_2_method_19_code 1 = .ok (.iload_n 3, 1) := by decide +kernel
theorem d_Engine_isWrittenBy_2 : decode prog_2_method_19_code 2 = .ok (.invokestatic 140, 3) := by decide +kernel
theorem d_Engine_isWrittenBy_5 : decode prog_2_method_19_code 5 = .ok (.istore 4, 2) := by decide +kernel
theorem d_Engine_isWrittenBy_7 : decode prog_2_method_19_code 7 = .ok (.iload 4, 2) := by decide +kernel
theorem d_Engine_isWrittenBy_9 : decode prog_2_method_19_code 9 = .ok (.iconst (-1), 1) := by decide +kernel
theorem d_Engine_isWrittenBy_10 : decode prog_2_method_19_code 10 = .ok (.if_icmp .eq 18, 3) := by decide +kernel
theorem d_Engine_isWrittenBy_13 : decode prog_2_method_19_code 13 = .ok (.aload_n 0, 1) := by decide +kernel
theorem d_Engine_isWrittenBy_14 : decode prog_2_method_19_code 14 = .ok (.getfield 32, 3) := by decide +kernel
theorem d_Engine_isWrittenBy_17 : decode prog_2_method_19_code 17 = .ok (.iload 4, 2) := by decide +kernel
theorem d_Engine_isWrittenBy_19 : decode prog_2_method_19_code 19 = .ok (.iaload, 1) := by decide +kernel
theorem d_Engine_isWrittenBy_20 : decode prog_2_method_19_code 20 = .ok (.iload_n 1, 1) := by decide +kernel
theorem d_Engine_isWrittenBy_21 : decode prog_2_method_19_code 21 = .ok (.if_icmp .ne 7, 3) := by decide +kernel
theorem d_Engine_isWrittenBy_24 : decode prog_2_method_19_code 24 = .ok (.iconst 1, 1) := by decide +kernel
theorem d_Engine_isWrittenBy_25 : decode prog_2_method_19_code 25 = .ok (.goto 4, 3) := by decide +kernel
theorem d_Engine_isWrittenBy_28 : decode prog_2_method_19_code 28 = .ok (.iconst 0, 1) := by decide +kernel
theorem d_Engine_isWrittenBy_29 : decode prog_2_method_19_code 29 = .ok (.ireturn, 1) := by decide +kernel
theorem d_Engine_store_0 : decode prog_2_method_21_code 0 = .ok (.iconst 0, 1) := by decide +kernel
theorem d_Engine_store_1 : decode prog_2_method_21_code 1 = .ok (.istore_n 2, 1) := by decide +kernel
theorem d_Engine_store_2 : decode prog_2_method_21_code 2 = .ok (.iload_n 2, 1) := by decide +kernel
theorem d_Engine_store_3 : decode prog_2_method_21_code 3 = .ok (.bipush 48, 2) := by decide +kernel
theorem d_Engine_store_5 : decode prog_2_method_21_code 5 = .ok (.if_icmp .ge 40, 3) := by decide +kernel
theorem d_Engine_store_8 : decode prog_2_method_21_code 8 = .ok (.aload_n 0, 1) := by decide +kernel
theorem d_Engine_store_9 : decode prog_2_method_21_code 9 = .ok (.aload_n 1, 1) := by decide +kernel
theorem d_Engine_store_10 : decode prog_2_method_21_code 10 = .ok (.getfield 92, 3) := by decide +kernel
theorem d_Engine_store_13 : decode prog_2_method_21_code 13 = .ok (.iload_n 2, 1) := by decide +kernel
theorem d_Engine_store_14 : decode prog_2_method_21_code 14 = .ok (.bipush 8, 2) := by decide +kernel
theorem d_Engine_store_16 : decode prog_2_method_21_code 16 = .ok (.idiv, 1) := by decide +kernel
theorem d_Engine_store_17 : decode prog_2_method_21_code 17 = .ok (.aload_n 0, 1) := by decide +kernel
theorem d_Engine_store_18 : decode prog_2_method_21_code 18 = .ok (.getfield 12, 3) := by decide +kernel
theorem d_Engine_store_21 : decode prog_2_method_21_code 21 = .ok (.iload_n 2, 1) := by decide +kernel
theorem d_Engine_store_22 : decode prog_2_method_21_code 22 = .ok (.invokevirtual 207, 3) := by decide +kernel
theorem d_Engine_store_25 : decode prog_2_method_21_code 25 = .ok (.invokevirtual 211, 3) := by decide +kernel
theorem d_Engine_store_28 : decode prog_2_method_21_code 28 = .ok (.ifCond .eq 11, 3) := by decide +kernel
theorem d_Engine_store_31 : decode prog_2_method_21_code 31 = .ok (.aload_n 0, 1) := by decide +kernel
theorem d_Engine_store_32 : decode prog_2_method_21_code 32 = .ok (.getfield 12, 3) := by decide +kernel
theorem d_Engine_store_35 : decode prog_2_method_21_code 35 = .ok (.iload_n 2, 1) := by decide +kernel
theorem d_Engine_store_36 : decode prog_2_method_21_code 36 = .ok (.invokevirtual 215, 3) := by decide +kernel
theorem d_Engine_store_39 : decode prog_2_method_21_code 39 = .ok (.iinc 2 1, 3) := by decide +kernel
theorem d_Engine_store_42 : decode prog_2_method_21_code 42 = .ok (.goto (-40), 3) := by decide +kernel
theorem d_Engine_store_45 : decode prog_2_method_21_code 45 = .ok (.iconst 0, 1) := by decide +kernel
theorem d_Engine_store_46 : decode prog_2_method_21_code 46 = .ok (.istore_n 2, 1) := by decide +kernel
theorem d_Engine_store_47 : decode prog_2_method_21_code 47 = .ok (.iload_n 2, 1) := by decide +kernel
theorem d_Engine_store_48 : decode prog_2_method_21_code 48 = .ok (.bipush 48, 2) := by decide +kernel
theorem d_Engine_store_50 : decode prog_2_method_21_code 50 = .ok (.if_icmp .ge 70, 3) := by decide +kernel
theorem d_Engine_store_53 : decode prog_2_method_21_code 53 = .ok (.iload_n 2, 1) := by decide +kernel
theorem d_Engine_store_54 : decode prog_2_method_21_code 54 = .ok (.bipush 8, 2) := by decide +kernel
theorem d_Engine_store_56 : decode prog_2_method_21_code 56 = .ok (.idiv, 1) := by decide +kernel
theorem d_Engine_store_57 : decode prog_2_method_21_code 57 = .ok (.istore_n 3, 1) := by decide +kernel
theorem d_Engine_store_58 : decode prog_2_method_21_code 58 = .ok (.aload_n 0, 1) := by decide +kernel
theorem d_Engine_store_59 : decode prog_2_method_21_code 59 = .ok (.getfield 12, 3) := by decide +kernel
theorem d_Engine_store_62 : decode prog_2_method_21_code 62 = .ok (.iload_n 3, 1) := by decide +kernel
theorem d_Engine_store_63 : decode prog_2_method_21_code 63 = .ok (.invokevirtual 218, 3) := by decide +kernel
theorem d_Engine_store_66 : decode prog_2_method_21_code 66 = .ok (.istore 4, 2) := by decide +kernel
theorem d_Engine_store_68 : decode prog_2_method_21_code 68 = .ok (.iload 4, 2) := by decide +kernel
theorem d_Engine_store_70 : decode prog_2_method_21_code 70 = .ok (.iconst (-1), 1) := by decide +kernel
theorem d_Engine_store_71 : decode prog_2_method_21_code 71 = .ok (.if_icmp .eq 43, 3) := by decide +kernel
theorem d_Engine_store_74 : decode prog_2_method_21_code 74 = .ok (.aload_n 0, 1) := by decide +kernel
theorem d_Engine_store_75 : decode prog_2_method_21_code 75 = .ok (.aload_n 1, 1) := by decide +kernel
theorem d_Engine_store_76 : decode prog_2_method_21_code 76 = .ok (.getfield 92, 3) := by decide +kernel
theorem d_Engine_store_79 : decode prog_2_method_21_code 79 = .ok (.iload_n 3, 1) := by decide +kernel
theorem d_Engine_store_80 : decode prog_2_method_21_code 80 = .ok (.aload_n 1, 1) := by decide +kernel
theorem d_Engine_store_81 : decode prog_2_method_21_code 81 = .ok (.getfield 81, 3) := by decide +kernel
theorem d_Engine_store_84 : decode prog_2_method_21_code 84 = .ok (.iload_n 2, 1) := by decide +kernel
theorem d_Engine_store_85 : decode prog_2_method_21_code 85 = .ok (.invokevirtual 207, 3) := by decide +kernel
theorem d_Engine_store_88 : decode prog_2_method_21_code 88 = .ok (.invokevirtual 211, 3) := by decide +kernel
theorem d_Engine_store_91 : decode prog_2_method_21_code 91 = .ok (.ifCond .eq 23, 3) := by decide +kernel
theorem d_Engine_store_94 : decode prog_2_method_21_code 94 = .ok (.aload_n 0, 1) := by decide +kernel
theorem d_Engine_store_95 : decode prog_2_method_21_code 95 = .ok (.getfield 12, 3) := by decide +kernel
theorem d_Engine_store_98 : decode prog_2_method_21_code 98 = .ok (.iload 4, 2) := by decide +kernel
theorem d_Engine_store_100 : decode prog_2_method_21_code 100 = .ok (.aload_n 1, 1) := by decide +kernel
theorem d_Engine_store_101 : decode prog_2_method_21_code 101 = .ok (.getfield 81, 3) := by decide +kernel
theorem d_Engine_store_104 : decode prog_2_method_21_code 104 = .ok (.getfield 221, 3) := by decide +kernel
theorem d_Engine_store_107 : decode prog_2_method_21_code 107 = .ok (.iload_n 2, 1) := by decide +kernel
theorem d_Engine_store_108 : decode prog_2_method_21_code 108 = .ok (.invokestatic 224, 3) := by decide +kernel
theorem d_Engine_store_111 : decode prog_2_method_21_code 111 = .ok (.invokevirtual 227, 3) := by decide +kernel
theorem d_Engine_store_114 : decode prog_2_method_21_code 114 = .ok (.iinc 2 1, 3) := by decide +kernel
theorem d_Engine_store_117 : decode prog_2_method_21_code 117 = .ok (.goto (-70), 3) := by decide +kernel
theorem d_Engine_store_120 : decode prog_2_method_21_code 120 = .ok (.aload_n 0, 1) := by decide +kernel
theorem d_Engine_store_121 : decode prog_2_method_21_code 121 = .ok (.aload_n 1, 1) := by decide +kernel
theorem d_Engine_store_122 : decode prog_2_method_21_code 122 = .ok (.invokevirtual 231, 3) := by decide +kernel
theorem d_Engine_store_125 : decode prog_2_method_21_code 125 = .ok (.aload_n 0, 1) := by decide +kernel
theorem d_Engine_store_126 : decode prog_2_method_21_code 126 = .ok (.aload_n 1, 1) := by decide +kernel
theorem d_Engine_store_127 : decode prog_2_method_21_code 127 = .ok (.iconst 2, 1) := by decide +kernel
theorem d_Engine_store_128 : decode prog_2_method_21_code 128 = .ok (.invokevirtual 175, 3) := by decide +kernel
theorem d_Engine_store_131 : decode prog_2_method_21_code 131 = .ok (.aload_n 0, 1) := by decide +kernel
theorem d_Engine_store_132 : decode prog_2_method_21_code 132 = .ok (.getfield 28, 3) := by decide +kernel
theorem d_Engine_store_135 : decode prog_2_method_21_code 135 = .ok (.iconst 1, 1) := by decide +kernel
theorem d_Engine_store_136 : decode prog_2_method_21_code 136 = .ok (.aload_n 1, 1) := by decide +kernel
theorem d_Engine_store_137 : decode prog_2_method_21_code 137 = .ok (.getfield 92, 3) := by decide +kernel
theorem d_Engine_store_140 : decode prog_2_method_21_code 140 = .ok (.ldc 210, 2) := by decide +kernel
theorem d_Engine_store_142 : decode prog_2_method_21_code 142 = .ok (.ldc 210, 2) := by decide +kernel
theorem d_Engine_store_144 : decode prog_2_method_21_code 144 = .ok (.invokevirtual 234, 3) := by decide +kernel
theorem d_Engine_store_147 : decode prog_2_method_21_code 147 = .ok (.aload_n 0, 1) := by decide +kernel
theorem d_Engine_store_148 : decode prog_2_method_21_code 148 = .ok (.getfield 28, 3) := by decide +kernel
theorem d_Engine_store_151 : decode prog_2_method_21_code 151 = .ok (.invokevirtual 237, 3) := by decide +kernel
theorem d_Engine_store_154 : decode prog_2_method_21_code 154 = .ok (.return_, 1) := by decide +kernel
theorem d_Engine_stampWrites_0 : decode prog_2_method_22_code 0 = .ok (.aload_n 0, 1) := by decide +kernel
theorem d_Engine_stampWrites_1 : decode prog_2_method_22_code 1 = .ok (.dup, 1) := by decide +kernel
theorem d_Engine_stampWrites_2 : decode prog_2_method_22_code 2 = .ok (.getfield 74, 3) := by decide +kernel
theorem d_Engine_stampWrites_5 : decode prog_2_method_22_code 5 = .ok (.iconst 1, 1) := by decide +kernel
theorem d_Engine_stampWrites_6 : decode prog_2_method_22_code 6 = .ok (.iadd, 1) := by decide +kernel
theorem d_Engine_stampWrites_7 : decode prog_2_method_22_code 7 = .ok (.putfield 74, 3) := by decide +kernel
theorem d_Engine_stampWrites_10 : decode prog_2_method_22_code 10 = .ok (.iconst 0, 1) := by decide +kernel
theorem d_Engine_stampWrites_11 : decode prog_2_method_22_code 11 = .ok (.istore_n 2, 1) := by decide +kernel
theorem d_Engine_stampWrites_12 : decode prog_2_method_22_code 12 = .ok (.iload_n 2, 1) := by decide +kernel
theorem d_Engine_stampWrites_13 : decode prog_2_method_22_code 13 = .ok (.aload_n 1, 1) := by decide +kernel
theorem d_Engine_stampWrites_14 : decode prog_2_method_22_code 14 = .ok (.getfield 179, 3) := by decide +kernel
theorem d_Engine_stampWrites_17 : decode prog_2_method_22_code 17 = .ok (.if_icmp .ge 40, 3) := by decide +kernel
theorem d_Engine_stampWrites_20 : decode prog_2_method_22_code 20 = .ok (.aload_n 1, 1) := by decide +kernel
theorem d_Engine_stampWrites_21 : decode prog_2_method_22_code 21 = .ok (.getfield 182, 3) := by decide +kernel
theorem d_Engine_stampWrites_24 : decode prog_2_method_22_code 24 = .ok (.iload_n 2, 1) := by decide +kernel
theorem d_Engine_stampWrites_25 : decode prog_2_method_22_code 25 = .ok (.iaload, 1) := by decide +kernel
theorem d_Engine_stampWrites_26 : decode prog_2_method_22_code 26 = .ok (.istore_n 3, 1) := by decide +kernel
theorem d_Engine_stampWrites_27 : decode prog_2_method_22_code 27 = .ok (.aload_n 0, 1) := by decide +kernel
theorem d_Engine_stampWrites_28 : decode prog_2_method_22_code 28 = .ok (.getfield 36, 3) := by decide +kernel
theorem d_Engine_stampWrites_31 : decode prog_2_method_22_code 31 = .ok (.iload_n 3, 1) := by decide +kernel
theorem d_Engine_stampWrites_32 : decode prog_2_method_22_code 32 = .ok (.aload_n 0, 1) := by decide +kernel
theorem d_Engine_stampWrites_33 : decode prog_2_method_22_code 33 = .ok (.getfield 74, 3) := by decide +kernel
theorem d_Engine_stampWrites_36 : decode prog_2_method_22_code 36 = .ok (.iastore, 1) := by decide +kernel
theorem d_Engine_stampWrites_37 : decode prog_2_method_22_code 37 = .ok (.aload_n 0, 1) := by decide +kernel
theorem d_Engine_stampWrites_38 : decode prog_2_method_22_code 38 = .ok (.getfield 39, 3) := by decide +kernel
theorem d_Engine_stampWrites_41 : decode prog_2_method_22_code 41 = .ok (.iload_n 3, 1) := by decide +kernel
theorem d_Engine_stampWrites_42 : decode prog_2_method_22_code 42 = .ok (.sipush 2001, 3) := by decide +kernel
theorem d_Engine_stampWrites_45 : decode prog_2_method_22_code 45 = .ok (.idiv, 1) := by decide +kernel
theorem d_Engine_stampWrites_46 : decode prog_2_method_22_code 46 = .ok (.aload_n 0, 1) := by decide +kernel
theorem d_Engine_stampWrites_47 : decode prog_2_method_22_code 47 = .ok (.getfield 74, 3) := by decide +kernel
theorem d_Engine_stampWrites_50 : decode prog_2_method_22_code 50 = .ok (.iastore, 1) := by decide +kernel
theorem d_Engine_stampWrites_51 : decode prog_2_method_22_code 51 = .ok (.iinc 2 1, 3) := by decide +kernel
theorem d_Engine_stampWrites_54 : decode prog_2_method_22_code 54 = .ok (.goto (-42), 3) := by decide +kernel
theorem d_Engine_stampWrites_57 : decode prog_2_method_22_code 57 = .ok (.return_, 1) := by decide +kernel
theorem d_F_refreshViews_0 : decode prog_1_method_62_code 0 = .ok (.iconst 0, 1) := by decide +kernel
theorem d_F_refreshViews_1 : decode prog_1_method_62_code 1 = .ok (.istore_n 1, 1) := by decide +kernel
theorem d_F_refreshViews_2 : decode prog_1_method_62_code 2 = .ok (.iload_n 1, 1) := by decide +kernel
theorem d_F_refreshViews_3 : decode prog_1_method_62_code 3 = .ok (.aload_n 0, 1) := by decide +kernel
theorem d_F_refreshViews_4 : decode prog_1_method_62_code 4 = .ok (.getfield 46, 3) := by decide +kernel
theorem d_F_refreshViews_7 : decode prog_1_method_62_code 7 = .ok (.invokevirtual 147, 3) := by decide +kernel
theorem d_F_refreshViews_10 : decode prog_1_method_62_code 10 = .ok (.if_icmp .ge 49, 3) := by decide +kernel
theorem d_F_refreshViews_13 : decode prog_1_method_62_code 13 = .ok (.aload_n 0, 1) := by decide +kernel
theorem d_F_refreshViews_14 : decode prog_1_method_62_code 14 = .ok (.getfield 49, 3) := by decide +kernel
theorem d_F_refreshViews_17 : decode prog_1_method_62_code 17 = .ok (.iload_n 1, 1) := by decide +kernel
theorem d_F_refreshViews_18 : decode prog_1_method_62_code 18 = .ok (.invokevirtual 270, 3) := by decide +kernel
theorem d_F_refreshViews_21 : decode prog_1_method_62_code 21 = .ok (.checkcast 52, 3) := by decide +kernel
theorem d_F_refreshViews_24 : decode prog_1_method_62_code 24 = .ok (.aload_n 0, 1) := by decide +kernel
theorem d_F_refreshViews_25 : decode prog_1_method_62_code 25 = .ok (.getfield 28, 3) := by decide +kernel
theorem d_F_refreshViews_28 : decode prog_1_method_62_code 28 = .ok (.aload_n 0, 1) := by decide +kernel
theorem d_F_refreshViews_29 : decode prog_1_method_62_code 29 = .ok (.getfield 46, 3) := by decide +kernel
theorem d_F_refreshViews_32 : decode prog_1_method_62_code 32 = .ok (.iload_n 1, 1) := by decide +kernel
theorem d_F_refreshViews_33 : decode prog_1_method_62_code 33 = .ok (.invokevirtual 270, 3) := by decide +kernel
theorem d_F_refreshViews_36 : decode prog_1_method_62_code 36 = .ok (.checkcast 63, 3) := by decide +kernel
theorem d_F_refreshViews_39 : decode prog_1_method_62_code 39 = .ok (.aload_n 0, 1) := by decide +kernel
theorem d_F_refreshViews_40 : decode prog_1_method_62_code 40 = .ok (.getfield 21, 3) := by decide +kernel
theorem d_F_refreshViews_43 : decode prog_1_method_62_code 43 = .ok (.getfield 110, 3) := by decide +kernel
theorem d_F_refreshViews_46 : decode prog_1_method_62_code 46 = .ok (.iconst 0, 1) := by decide +kernel
theorem d_F_refreshViews_47 : decode prog_1_method_62_code 47 = .ok (.invokevirtual 318, 3) := by decide +kernel
theorem d_F_refreshViews_50 : decode prog_1_method_62_code 50 = .ok (.invokevirtual 278, 3) := by decide +kernel
theorem d_F_refreshViews_53 : decode prog_1_method_62_code 53 = .ok (.iinc 1 1, 3) := by decide +kernel
theorem d_F_refreshViews_56 : decode prog_1_method_62_code 56 = .ok (.goto (-54), 3) := by decide +kernel
theorem d_F_refreshViews_59 : decode prog_1_method_62_code 59 = .ok (.return_, 1) := by decide +kernel
theorem d_Evaluator_evaluate_0 : decode prog_3_method_2_code 0 = .ok (.aload_n 0, 1) := by decide +kernel
theorem d_Evaluator_evaluate_1 : decode prog_3_method_2_code 1 = .ok (.iconst 0, 1) := by decide +kernel
theorem d_Evaluator_evaluate_2 : decode prog_3_method_2_code 2 = .ok (.putfield 33, 3) := by decide +kernel
theorem d_Evaluator_evaluate_5 : decode prog_3_method_2_code 5 = .ok (.aload_n 0, 1) := by decide +kernel
theorem d_Evaluator_evaluate_6 : decode prog_3_method_2_code 6 = .ok (.iconst 0, 1) := by decide +kernel
theorem d_Evaluator_evaluate_7 : decode prog_3_method_2_code 7 = .ok (.putfield 37, 3) := by decide +kernel
theorem d_Evaluator_evaluate_10 : decode prog_3_method_2_code 10 = .ok (.iconst 0, 1) := by decide +kernel
theorem d_Evaluator_evaluate_11 : decode prog_3_method_2_code 11 = .ok (.istore 4, 2) := by decide +kernel
theorem d_Evaluator_evaluate_13 : decode prog_3_method_2_code 13 = .ok (.iload 4, 2) := by decide +kernel
theorem d_Evaluator_evaluate_15 : decode prog_3_method_2_code 15 = .ok (.aload_n 1, 1) := by decide +kernel
theorem d_Evaluator_evaluate_16 : decode prog_3_method_2_code 16 = .ok (.getfield 41, 3) := by decide +kernel
theorem d_Evaluator_evaluate_19 : decode prog_3_method_2_code 19 = .ok (.if_icmp .ge 25, 3) := by decide +kernel
theorem d_Evaluator_evaluate_22 : decode prog_3_method_2_code 22 = .ok (.aload_n 0, 1) := by decide +kernel
theorem d_Evaluator_evaluate_23 : decode prog_3_method_2_code 23 = .ok (.getfield 37, 3) := by decide +kernel
theorem d_Evaluator_evaluate_26 : decode prog_3_method_2_code 26 = .ok (.ifCond .ne 18, 3) := by decide +kernel
theorem d_Evaluator_evaluate_29 : decode prog_3_method_2_code 29 = .ok (.aload_n 0, 1) := by decide +kernel
theorem d_Evaluator_evaluate_30 : decode prog_3_method_2_code 30 = .ok (.aload_n 1, 1) := by decide +kernel
theorem d_Evaluator_evaluate_31 : decode prog_3_method_2_code 31 = .ok (.iload 4, 2) := by decide +kernel
theorem d_Evaluator_evaluate_33 : decode prog_3_method_2_code 33 = .ok (.aload_n 2, 1) := by decide +kernel
theorem d_Evaluator_evaluate_34 : decode prog_3_method_2_code 34 = .ok (.iload_n 3, 1) := by decide +kernel
theorem d_Evaluator_evaluate_35 : decode prog_3_method_2_code 35 = .ok (.invokevirtual 46, 3) := by decide +kernel
theorem d_Evaluator_evaluate_38 : decode prog_3_method_2_code 38 = .ok (.iinc 4 1, 3) := by decide +kernel
theorem d_Evaluator_evaluate_41 : decode prog_3_method_2_code 41 = .ok (.goto (-28), 3) := by decide +kernel
theorem d_Evaluator_evaluate_44 : decode prog_3_method_2_code 44 = .ok (.aload_n 0, 1) := by decide +kernel
theorem d_Evaluator_evaluate_45 : decode prog_3_method_2_code 45 = .ok (.getfield 37, 3) := by decide +kernel
theorem d_Evaluator_evaluate_48 : decode prog_3_method_2_code 48 = .ok (.ifCond .ne 11, 3) := by decide +kernel
theorem d_Evaluator_evaluate_51 : decode prog_3_method_2_code 51 = .ok (.aload_n 0, 1) := by decide +kernel
theorem d_Evaluator_evaluate_52 : decode prog_3_method_2_code 52 = .ok (.getfield 33, 3) := by decide +kernel
theorem d_Evaluator_evaluate_55 : decode prog_3_method_2_code 55 = .ok (.iconst 1, 1) := by decide +kernel
theorem d_Evaluator_evaluate_56 : decode prog_3_method_2_code 56 = .ok (.if_icmp .eq 5, 3) := by decide +kernel
theorem d_Evaluator_evaluate_59 : decode prog_3_method_2_code 59 = .ok (.aconst_null, 1) := by decide +kernel
theorem d_Evaluator_evaluate_60 : decode prog_3_method_2_code 60 = .ok (.areturn, 1) := by decide +kernel
theorem d_Evaluator_evaluate_61 : decode prog_3_method_2_code 61 = .ok (.aload_n 0, 1) := by decide +kernel
theorem d_Evaluator_evaluate_62 : decode prog_3_method_2_code 62 = .ok (.getfield 11, 3) := by decide +kernel
theorem d_Evaluator_evaluate_65 : decode prog_3_method_2_code 65 = .ok (.iconst 0, 1) := by decide +kernel
theorem d_Evaluator_evaluate_66 : decode prog_3_method_2_code 66 = .ok (.aaload, 1) := by decide +kernel
theorem d_Evaluator_evaluate_67 : decode prog_3_method_2_code 67 = .ok (.astore 4, 2) := by decide +kernel
theorem d_Evaluator_evaluate_69 : decode prog_3_method_2_code 69 = .ok (.aload 4, 2) := by decide +kernel
theorem d_Evaluator_evaluate_71 : decode prog_3_method_2_code 71 = .ok (.aload_n 0, 1) := by decide +kernel
theorem d_Evaluator_evaluate_72 : decode prog_3_method_2_code 72 = .ok (.getfield 17, 3) := by decide +kernel
theorem d_Evaluator_evaluate_75 : decode prog_3_method_2_code 75 = .ok (.aload_n 0, 1) := by decide +kernel
theorem d_Evaluator_evaluate_76 : decode prog_3_method_2_code 76 = .ok (.getfield 21, 3) := by decide +kernel
theorem d_Evaluator_evaluate_79 : decode prog_3_method_2_code 79 = .ok (.invokevirtual 50, 3) := by decide +kernel
theorem d_Evaluator_evaluate_82 : decode prog_3_method_2_code 82 = .ok (.aload_n 0, 1) := by decide +kernel
theorem d_Evaluator_evaluate_83 : decode prog_3_method_2_code 83 = .ok (.getfield 11, 3) := by decide +kernel
theorem d_Evaluator_evaluate_86 : decode prog_3_method_2_code 86 = .ok (.iconst 1, 1) := by decide +kernel
theorem d_Evaluator_evaluate_87 : decode prog_3_method_2_code 87 = .ok (.aaload, 1) := by decide +kernel
theorem d_Evaluator_evaluate_88 : decode prog_3_method_2_code 88 = .ok (.aload 4, 2) := by decide +kernel
theorem d_Evaluator_evaluate_90 : decode prog_3_method_2_code 90 = .ok (.getfield 54, 3) := by decide +kernel
theorem d_Evaluator_evaluate_93 : decode prog_3_method_2_code 93 = .ok (.invokevirtual 57, 3) := by decide +kernel
theorem d_Evaluator_evaluate_96 : decode prog_3_method_2_code 96 = .ok (.iconst 0, 1) := by decide +kernel
theorem d_Evaluator_evaluate_97 : decode prog_3_method_2_code 97 = .ok (.istore 5, 2) := by decide +kernel
theorem d_Evaluator_evaluate_99 : decode prog_3_method_2_code 99 = .ok (.iload 5, 2) := by decide +kernel
theorem d_Evaluator_evaluate_101 : decode prog_3_method_2_code 101 = .ok (.aload 4, 2) := by decide +kernel
theorem d_Evaluator_evaluate_103 : decode prog_3_method_2_code 103 = .ok (.getfield 61, 3) := by decide +kernel
theorem d_Evaluator_evaluate_106 : decode prog_3_method_2_code 106 = .ok (.if_icmp .ge 27, 3) := by decide +kernel
theorem d_Evaluator_evaluate_109 : decode prog_3_method_2_code 109 = .ok (.aload_n 0, 1) := by decide +kernel
theorem d_Evaluator_evaluate_110 : decode prog_3_method_2_code 110 = .ok (.getfield 11, 3) := by decide +kernel
theorem d_Evaluator_evaluate_113 : decode prog_3_method_2_code 113 = .ok (.iconst 1, 1) := by decide +kernel
theorem d_Evaluator_evaluate_114 : decode prog_3_method_2_code 114 = .ok (.aaload, 1) := by decide +kernel
theorem d_Evaluator_evaluate_115 : decode prog_3_method_2_code 115 = .ok (.aload 4, 2) := by decide +kernel
theorem d_Evaluator_evaluate_117 : decode prog_3_method_2_code 117 = .ok (.aload_n 0, 1) := by decide +kernel
theorem d_Evaluator_evaluate_118 : decode prog_3_method_2_code 118 = .ok (.getfield 17, 3) := by decide +kernel
theorem d_Evaluator_evaluate_121 : decode prog_3_method_2_code 121 = .ok (.iload 5, 2) := by decide +kernel
theorem d_Evaluator_evaluate_123 : decode prog_3_method_2_code 123 = .ok (.iaload, 1) := by decide +kernel
theorem d_Evaluator_evaluate_124 : decode prog_3_method_2_code 124 = .ok (.invokevirtual 64, 3) := by decide +kernel
theorem d_Evaluator_evaluate_127 : decode prog_3_method_2_code 127 = .ok (.iinc 5 1, 3) := by decide +kernel
theorem d_Evaluator_evaluate_130 : decode prog_3_method_2_code 130 = .ok (.goto (-31), 3) := by decide +kernel
theorem d_Evaluator_evaluate_133 : decode prog_3_method_2_code 133 = .ok (.aload_n 0, 1) := by decide +kernel
theorem d_Evaluator_evaluate_134 : decode prog_3_method_2_code 134 = .ok (.getfield 11, 3) := by decide +kernel
theorem d_Evaluator_evaluate_137 : decode prog_3_method_2_code 137 = .ok (.iconst 1, 1) := by decide +kernel
theorem d_Evaluator_evaluate_138 : decode prog_3_method_2_code 138 = .ok (.aaload, 1) := by decide +kernel
theorem d_Evaluator_evaluate_139 : decode prog_3_method_2_code 139 = .ok (.areturn, 1) := by decide +kernel
theorem d_Evaluator_step_0 : decode prog_3_method_3_code 0 = .ok (.aload_n 1, 1) := by decide +kernel
theorem d_Evaluator_step_1 : decode prog_3_method_3_code 1 = .ok (.getfield 68, 3) := by decide +kernel
theorem d_Evaluator_step_4 : decode prog_3_method_3_code 4 = .ok (.iload_n 2, 1) := by decide +kernel
theorem d_Evaluator_step_5 : decode prog_3_method_3_code 5 = .ok (.iaload, 1) := by decide +kernel
theorem d_Evaluator_step_6 : decode prog_3_method_3_code 6 = .ok (.istore 5, 2) := by decide +kernel
theorem d_Evaluator_step_8 : decode prog_3_method_3_code 8 = .ok (.iload 5, 2) := by decide +kernel
theorem d_Evaluator_step_10 : decode prog_3_method_3_code 10 = .ok (.ifCond .ne 7, 3) := by decide +kernel
theorem d_Evaluator_step_13 : decode prog_3_method_3_code 13 = .ok (.iconst 0, 1) := by decide +kernel
theorem d_Evaluator_step_14 : decode prog_3_method_3_code 14 = .ok (.goto 21, 3) := by decide +kernel
theorem d_Evaluator_step_17 : decode prog_3_method_3_code 17 = .ok (.iload 5, 2) := by decide +kernel
theorem d_Evaluator_step_19 : decode prog_3_method_3_code 19 = .ok (.iconst 4, 1) := by decide +kernel
theorem d_Evaluator_step_20 : decode prog_3_method_3_code 20 = .ok (.if_icmp .eq 10, 3) := by decide +kernel
theorem d_Evaluator_step_23 : decode prog_3_method_3_code 23 = .ok (.iload 5, 2) := by decide +kernel
theorem d_Evaluator_step_25 : decode prog_3_method_3_code 25 = .ok (.bipush 7, 2) := by decide +kernel
theorem d_Evaluator_step_27 : decode prog_3_method_3_code 27 = .ok (.if_icmp .ne 7, 3) := by decide +kernel
theorem d_Evaluator_step_30 : decode prog_3_method_3_code 30 = .ok (.iconst 2, 1) := by decide +kernel
theorem d_Evaluator_step_31 : decode prog_3_method_3_code 31 = .ok (.goto 4, 3) := by decide +kernel
theorem d_Evaluator_step_34 : decode prog_3_method_3_code 34 = .ok (.iconst 1, 1) := by decide +kernel
theorem d_Evaluator_step_35 : decode prog_3_method_3_code 35 = .ok (.istore 6, 2) := by decide +kernel
theorem d_Evaluator_step_37 : decode prog_3_method_3_code 37 = .ok (.aload_n 0, 1) := by decide +kernel
theorem d_Evaluator_step_38 : decode prog_3_method_3_code 38 = .ok (.getfield 33, 3) := by decide +kernel
theorem d_Evaluator_step_41 : decode prog_3_method_3_code 41 = .ok (.iload 6, 2) := by decide +kernel
theorem d_Evaluator_step_43 : decode prog_3_method_3_code 43 = .ok (.if_icmp .lt 15, 3) := by decide +kernel
theorem d_Evaluator_step_46 : decode prog_3_method_3_code 46 = .ok (.aload_n 0, 1) := by decide +kernel
theorem d_Evaluator_step_47 : decode prog_3_method_3_code 47 = .ok (.getfield 33, 3) := by decide +kernel
theorem d_Evaluator_step_50 : decode prog_3_method_3_code 50 = .ok (.aload_n 0, 1) := by decide +kernel
theorem d_Evaluator_step_51 : decode prog_3_method_3_code 51 = .ok (.getfield 11, 3) := by decide +kernel
theorem d_Evaluator_step_54 : decode prog_3_method_3_code 54 = .ok (.arraylength, 1) := by decide +kernel
theorem d_Evaluator_step_55 : decode prog_3_method_3_code 55 = .ok (.if_icmp .lt 9, 3) := by decide +kernel
theorem d_Evaluator_step_58 : decode prog_3_method_3_code 58 = .ok (.aload_n 0, 1) := by decide +kernel
theorem d_Evaluator_step_59 : decode prog_3_method_3_code 59 = .ok (.iconst 1, 1) := by decide +kernel
theorem d_Evaluator_step_60 : decode prog_3_method_3_code 60 = .ok (.putfield 37, 3) := by decide +kernel
theorem d_Evaluator_step_63 : decode prog_3_method_3_code 63 = .ok (.return_, 1) := by decide +kernel
theorem d_Evaluator_step_64 : decode prog_3_method_3_code 64 = .ok (.aload_n 0, 1) := by decide +kernel
theorem d_Evaluator_step_65 : decode prog_3_method_3_code 65 = .ok (.getfield 11, 3) := by decide +kernel
theorem d_Evaluator_step_68 : decode prog_3_method_3_code 68 = .ok (.aload_n 0, 1) := by decide +kernel
theorem d_Evaluator_step_69 : decode prog_3_method_3_code 69 = .ok (.getfield 33, 3) := by decide +kernel
theorem d_Evaluator_step_72 : decode prog_3_method_3_code 72 = .ok (.aaload, 1) := by decide +kernel
theorem d_Evaluator_step_73 : decode prog_3_method_3_code 73 = .ok (.astore 7, 2) := by decide +kernel
theorem d_Evaluator_step_75 : decode prog_3_method_3_code 75 = .ok (.aload 7, 2) := by decide +kernel
theorem d_Evaluator_step_77 : decode prog_3_method_3_code 77 = .ok (.aload_n 1, 1) := by decide +kernel
theorem d_Evaluator_step_78 : decode prog_3_method_3_code 78 = .ok (.getfield 71, 3) := by decide +kernel
theorem d_Evaluator_step_81 : decode prog_3_method_3_code 81 = .ok (.iload_n 2, 1) := by decide +kernel
theorem d_Evaluator_step_82 : decode prog_3_method_3_code 82 = .ok (.iaload, 1) := by decide +kernel
theorem d_Evaluator_step_83 : decode prog_3_method_3_code 83 = .ok (.invokevirtual 57, 3) := by decide +kernel
theorem d_Evaluator_step_86 : decode prog_3_method_3_code 86 = .ok (.iload 6, 2) := by decide +kernel
theorem d_Evaluator_step_88 : decode prog_3_method_3_code 88 = .ok (.ifCond .ne 21, 3) := by decide +kernel
theorem d_Evaluator_step_91 : decode prog_3_method_3_code 91 = .ok (.aload_n 0, 1) := by decide +kernel
theorem d_Evaluator_step_92 : decode prog_3_method_3_code 92 = .ok (.aload 7, 2) := by decide +kernel
theorem d_Evaluator_step_94 : decode prog_3_method_3_code 94 = .ok (.aload_n 1, 1) := by decide +kernel
theorem d_Evaluator_step_95 : decode prog_3_method_3_code 95 = .ok (.iload_n 2, 1) := by decide +kernel
theorem d_Evaluator_step_96 : decode prog_3_method_3_code 96 = .ok (.iconst 0, 1) := by decide +kernel
theorem d_Evaluator_step_97 : decode prog_3_method_3_code 97 = .ok (.invokevirtual 74, 3) := by decide +kernel
theorem d_Evaluator_step_100 : decode prog_3_method_3_code 100 = .ok (.aload_n 3, 1) := by decide +kernel
theorem d_Evaluator_step_101 : decode prog_3_method_3_code 101 = .ok (.iload 4, 2) := by decide +kernel
theorem d_Evaluator_step_103 : decode prog_3_method_3_code 103 = .ok (.invokevirtual 78, 3) := by decide +kernel
theorem d_Evaluator_step_106 : decode prog_3_method_3_code 106 = .ok (.goto 103, 3) := by decide +kernel
theorem d_Evaluator_step_109 : decode prog_3_method_3_code 109 = .ok (.iload 6, 2) := by decide +kernel
theorem d_Evaluator_step_111 : decode prog_3_method_3_code 111 = .ok (.iconst 1, 1) := by decide +kernel
theorem d_Evaluator_step_112 : decode prog_3_method_3_code 112 = .ok (.if_icmp .ne 25, 3) := by decide +kernel
theorem d_Evaluator_step_115 : decode prog_3_method_3_code 115 = .ok (.aload_n 0, 1) := by decide +kernel
theorem d_Evaluator_step_116 : decode prog_3_method_3_code 116 = .ok (.aload 7, 2) := by decide +kernel
theorem d_Evaluator_step_118 : decode prog_3_method_3_code 118 = .ok (.aload_n 0, 1) := by decide +kernel
theorem d_Evaluator_step_119 : decode prog_3_method_3_code 119 = .ok (.getfield 11, 3) := by decide +kernel
theorem d_Evaluator_step_122 : decode prog_3_method_3_code 122 = .ok (.aload_n 0, 1) := by decide +kernel
theorem d_Evaluator_step_123 : decode prog_3_method_3_code 123 = .ok (.getfield 33, 3) := by decide +kernel
theorem d_Evaluator_step_126 : decode prog_3_method_3_code 126 = .ok (.iconst 1, 1) := by decide +kernel
theorem d_Evaluator_step_127 : decode prog_3_method_3_code 127 = .ok (.isub, 1) := by decide +kernel
theorem d_Evaluator_step_128 : decode prog_3_method_3_code 128 = .ok (.aaload, 1) := by decide +kernel
theorem d_Evaluator_step_129 : decode prog_3_method_3_code 129 = .ok (.aload_n 1, 1) := by decide +kernel
theorem d_Evaluator_step_130 : decode prog_3_method_3_code 130 = .ok (.iload_n 2, 1) := by decide +kernel
theorem d_Evaluator_step_131 : decode prog_3_method_3_code 131 = .ok (.invokevirtual 82, 3) := by decide +kernel
theorem d_Evaluator_step_134 : decode prog_3_method_3_code 134 = .ok (.goto 75, 3) := by decide +kernel
theorem d_Evaluator_step_137 : decode prog_3_method_3_code 137 = .ok (.iload 5, 2) := by decide +kernel
theorem d_Evaluator_step_139 : decode prog_3_method_3_code 139 = .ok (.iconst 4, 1) := by decide +kernel
theorem d_Evaluator_step_140 : decode prog_3_method_3_code 140 = .ok (.if_icmp .ne 36, 3) := by decide +kernel
theorem d_Evaluator_step_143 : decode prog_3_method_3_code 143 = .ok (.aload_n 0, 1) := by decide +kernel
theorem d_Evaluator_step_144 : decode prog_3_method_3_code 144 = .ok (.aload 7, 2) := by decide +kernel
theorem d_Evaluator_step_146 : decode prog_3_method_3_code 146 = .ok (.aload_n 0, 1) := by decide +kernel
theorem d_Evaluator_step_147 : decode prog_3_method_3_code 147 = .ok (.getfield 11, 3) := by decide +kernel
theorem d_Evaluator_step_150 : decode prog_3_method_3_code 150 = .ok (.aload_n 0, 1) := by decide +kernel
theorem d_Evaluator_step_151 : decode prog_3_method_3_code 151 = .ok (.getfield 33, 3) := by decide +kernel
theorem d_Evaluator_step_154 : decode prog_3_method_3_code 154 = .ok (.iconst 2, 1) := by decide +kernel
theorem d_Evaluator_step_155 : decode prog_3_method_3_code 155 = .ok (.isub, 1) := by decide +kernel
theorem d_Evaluator_step_156 : decode prog_3_method_3_code 156 = .ok (.aaload, 1) := by decide +kernel
theorem d_Evaluator_step_157 : decode prog_3_method_3_code 157 = .ok (.aload_n 0, 1) := by decide +kernel
theorem d_Evaluator_step_158 : decode prog_3_method_3_code 158 = .ok (.getfield 11, 3) := by decide +kernel
theorem d_Evaluator_step_161 : decode prog_3_method_3_code 161 = .ok (.aload_n 0, 1) := by decide +kernel
theorem d_Evaluator_step_162 : decode prog_3_method_3_code 162 = .ok (.getfield 33, 3) := by decide +kernel
theorem d_Evaluator_step_165 : decode prog_3_method_3_code 165 = .ok (.iconst 1, 1) := by decide +kernel
theorem d_Evaluator_step_166 : decode prog_3_method_3_code 166 = .ok (.isub, 1) := by decide +kernel
theorem d_Evaluator_step_167 : decode prog_3_method_3_code 167 = .ok (.aaload, 1) := by decide +kernel
theorem d_Evaluator_step_168 : decode prog_3_method_3_code 168 = .ok (.aload_n 1, 1) := by decide +kernel
theorem d_Evaluator_step_169 : decode prog_3_method_3_code 169 = .ok (.iload_n 2, 1) := by decide +kernel
theorem d_Evaluator_step_170 : decode prog_3_method_3_code 170 = .ok (.invokevirtual 86, 3) := by decide +kernel
theorem d_Evaluator_step_173 : decode prog_3_method_3_code 173 = .ok (.goto 36, 3) := by decide +kernel
theorem d_Evaluator_step_176 : decode prog_3_method_3_code 176 = .ok (.aload 7, 2) := by decide +kernel
theorem d_Evaluator_step_178 : decode prog_3_method_3_code 178 = .ok (.aload_n 0, 1) := by decide +kernel
theorem d_Evaluator_step_179 : decode prog_3_method_3_code 179 = .ok (.getfield 11, 3) := by decide +kernel
theorem d_Evaluator_step_182 : decode prog_3_method_3_code 182 = .ok (.aload_n 0, 1) := by decide +kernel
theorem d_Evaluator_step_183 : decode prog_3_method_3_code 183 = .ok (.getfield 33, 3) := by decide +kernel
theorem d_Evaluator_step_186 : decode prog_3_method_3_code 186 = .ok (.iconst 2, 1) := by decide +kernel
theorem d_Evaluator_step_187 : decode prog_3_method_3_code 187 = .ok (.isub, 1) := by decide +kernel
theorem d_Evaluator_step_188 : decode prog_3_method_3_code 188 = .ok (.aaload, 1) := by decide +kernel
theorem d_Evaluator_step_189 : decode prog_3_method_3_code 189 = .ok (.aload_n 0, 1) := by decide +kernel
theorem d_Evaluator_step_190 : decode prog_3_method_3_code 190 = .ok (.getfield 11, 3) := by decide +kernel
theorem d_Evaluator_step_193 : decode prog_3_method_3_code 193 = .ok (.aload_n 0, 1) := by decide +kernel
theorem d_Evaluator_step_194 : decode prog_3_method_3_code 194 = .ok (.getfield 33, 3) := by decide +kernel
theorem d_Evaluator_step_197 : decode prog_3_method_3_code 197 = .ok (.iconst 1, 1) := by decide +kernel
theorem d_Evaluator_step_198 : decode prog_3_method_3_code 198 = .ok (.isub, 1) := by decide +kernel
theorem d_Evaluator_step_199 : decode prog_3_method_3_code 199 = .ok (.aaload, 1) := by decide +kernel
theorem d_Evaluator_step_200 : decode prog_3_method_3_code 200 = .ok (.aload_n 1, 1) := by decide +kernel
theorem d_Evaluator_step_201 : decode prog_3_method_3_code 201 = .ok (.iload_n 2, 1) := by decide +kernel
theorem d_Evaluator_step_202 : decode prog_3_method_3_code 202 = .ok (.iconst 0, 1) := by decide +kernel
theorem d_Evaluator_step_203 : decode prog_3_method_3_code 203 = .ok (.invokevirtual 74, 3) := by decide +kernel
theorem d_Evaluator_step_206 : decode prog_3_method_3_code 206 = .ok (.invokestatic 90, 3) := by decide +kernel
theorem d_Evaluator_step_209 : decode prog_3_method_3_code 209 = .ok (.aload_n 0, 1) := by decide +kernel
theorem d_Evaluator_step_210 : decode prog_3_method_3_code 210 = .ok (.getfield 33, 3) := by decide +kernel
theorem d_Evaluator_step_213 : decode prog_3_method_3_code 213 = .ok (.iload 6, 2) := by decide +kernel
theorem d_Evaluator_step_215 : decode prog_3_method_3_code 215 = .ok (.isub, 1) := by decide +kernel
theorem d_Evaluator_step_216 : decode prog_3_method_3_code 216 = .ok (.istore 8, 2) := by decide +kernel
theorem d_Evaluator_step_218 : decode prog_3_method_3_code 218 = .ok (.aload_n 0, 1) := by decide +kernel
theorem d_Evaluator_step_219 : decode prog_3_method_3_code 219 = .ok (.getfield 11, 3) := by decide +kernel
theorem d_Evaluator_step_222 : decode prog_3_method_3_code 222 = .ok (.aload_n 0, 1) := by decide +kernel
theorem d_Evaluator_step_223 : decode prog_3_method_3_code 223 = .ok (.getfield 33, 3) := by decide +kernel
theorem d_Evaluator_step_226 : decode prog_3_method_3_code 226 = .ok (.aload_n 0, 1) := by decide +kernel
theorem d_Evaluator_step_227 : decode prog_3_method_3_code 227 = .ok (.getfield 11, 3) := by decide +kernel
theorem d_Evaluator_step_230 : decode prog_3_method_3_code 230 = .ok (.iload 8, 2) := by decide +kernel
theorem d_Evaluator_step_232 : decode prog_3_method_3_code 232 = .ok (.aaload, 1) := by decide +kernel
theorem d_Evaluator_step_233 : decode prog_3_method_3_code 233 = .ok (.aastore, 1) := by decide +kernel
theorem d_Evaluator_step_234 : decode prog_3_method_3_code 234 = .ok (.aload_n 0, 1) := by decide +kernel
theorem d_Evaluator_step_235 : decode prog_3_method_3_code 235 = .ok (.getfield 11, 3) := by decide +kernel
theorem d_Evaluator_step_238 : decode prog_3_method_3_code 238 = .ok (.iload 8, 2) := by decide +kernel
theorem d_Evaluator_step_240 : decode prog_3_method_3_code 240 = .ok (.aload 7, 2) := by decide +kernel
theorem d_Evaluator_step_242 : decode prog_3_method_3_code 242 = .ok (.aastore, 1) := by decide +kernel
theorem d_Evaluator_step_243 : decode prog_3_method_3_code 243 = .ok (.aload_n 0, 1) := by decide +kernel
theorem d_Evaluator_step_244 : decode prog_3_method_3_code 244 = .ok (.iload 8, 2) := by decide +kernel
theorem d_Evaluator_step_246 : decode prog_3_method_3_code 246 = .ok (.iconst 1, 1) := by decide +kernel
theorem d_Evaluator_step_247 : decode prog_3_method_3_code 247 = .ok (.iadd, 1) := by decide +kernel
theorem d_Evaluator_step_248 : decode prog_3_method_3_code 248 = .ok (.putfield 33, 3) := by decide +kernel
theorem d_Evaluator_step_251 : decode prog_3_method_3_code 251 = .ok (.return_, 1) := by decide +kernel
theorem d_Evaluator_scanInto_0 : decode prog_3_method_4_code 0 = .ok (.iload_n 2, 1) := by decide +kernel
theorem d_Evaluator_scanInto_1 : decode prog_3_method_4_code 1 = .ok (.bipush 8, 2) := by decide +kernel
theorem d_Evaluator_scanInto_3 : decode prog_3_method_4_code 3 = .ok (.imul, 1) := by decide +kernel
theorem d_Evaluator_scanInto_4 : decode prog_3_method_4_code 4 = .ok (.istore 5, 2) := by decide +kernel
theorem d_Evaluator_scanInto_6 : decode prog_3_method_4_code 6 = .ok (.iload 5, 2) := by decide +kernel
theorem d_Evaluator_scanInto_8 : decode prog_3_method_4_code 8 = .ok (.iload_n 2, 1) := by decide +kernel
theorem d_Evaluator_scanInto_9 : decode prog_3_method_4_code 9 = .ok (.iconst 1, 1) := by decide +kernel
theorem d_Evaluator_scanInto_10 : decode prog_3_method_4_code 10 = .ok (.iadd, 1) := by decide +kernel
theorem d_Evaluator_scanInto_11 : decode prog_3_method_4_code 11 = .ok (.bipush 8, 2) := by decide +kernel
theorem d_Evaluator_scanInto_13 : decode prog_3_method_4_code 13 = .ok (.imul, 1) := by decide +kernel
theorem d_Evaluator_scanInto_14 : decode prog_3_method_4_code 14 = .ok (.if_icmp .ge 56, 3) := by decide +kernel
theorem d_Evaluator_scanInto_17 : decode prog_3_method_4_code 17 = .ok (.iload 5, 2) := by decide +kernel
theorem d_Evaluator_scanInto_19 : decode prog_3_method_4_code 19 = .ok (.invokestatic 94, 3) := by decide +kernel
theorem d_Evaluator_scanInto_22 : decode prog_3_method_4_code 22 = .ok (.istore 6, 2) := by decide +kernel
theorem d_Evaluator_scanInto_24 : decode prog_3_method_4_code 24 = .ok (.aload_n 3, 1) := by decide +kernel
theorem d_Evaluator_scanInto_25 : decode prog_3_method_4_code 25 = .ok (.iload 5, 2) := by decide +kernel
theorem d_Evaluator_scanInto_27 : decode prog_3_method_4_code 27 = .ok (.invokevirtual 100, 3) := by decide +kernel
theorem d_Evaluator_scanInto_30 : decode prog_3_method_4_code 30 = .ok (.ldc 103, 2) := by decide +kernel
theorem d_Evaluator_scanInto_32 : decode prog_3_method_4_code 32 = .ok (.if_icmp .eq 32, 3) := by decide +kernel
theorem d_Evaluator_scanInto_35 : decode prog_3_method_4_code 35 = .ok (.aload_n 0, 1) := by decide +kernel
theorem d_Evaluator_scanInto_36 : decode prog_3_method_4_code 36 = .ok (.getfield 28, 3) := by decide +kernel
theorem d_Evaluator_scanInto_39 : decode prog_3_method_4_code 39 = .ok (.iload 4, 2) := by decide +kernel
theorem d_Evaluator_scanInto_41 : decode prog_3_method_4_code 41 = .ok (.iload_n 2, 1) := by decide +kernel
theorem d_Evaluator_scanInto_42 : decode prog_3_method_4_code 42 = .ok (.aload_n 3, 1) := by decide +kernel
theorem d_Evaluator_scanInto_43 : decode prog_3_method_4_code 43 = .ok (.getfield 104, 3) := by decide +kernel
theorem d_Evaluator_scanInto_46 : decode prog_3_method_4_code 46 = .ok (.iload 6, 2) := by decide +kernel
theorem d_Evaluator_scanInto_48 : decode prog_3_method_4_code 48 = .ok (.invokevirtual 107, 3) := by decide +kernel
theorem d_Evaluator_scanInto_51 : decode prog_3_method_4_code 51 = .ok (.ifCond .eq 13, 3) := by decide +kernel
theorem d_Evaluator_scanInto_54 : decode prog_3_method_4_code 54 = .ok (.aload_n 1, 1) := by decide +kernel
theorem d_Evaluator_scanInto_55 : decode prog_3_method_4_code 55 = .ok (.aload_n 3, 1) := by decide +kernel
theorem d_Evaluator_scanInto_56 : decode prog_3_method_4_code 56 = .ok (.getfield 104, 3) := by decide +kernel
theorem d_Evaluator_scanInto_59 : decode prog_3_method_4_code 59 = .ok (.iload 6, 2) := by decide +kernel
theorem d_Evaluator_scanInto_61 : decode prog_3_method_4_code 61 = .ok (.invokevirtual 113, 3) := by decide +kernel
theorem d_Evaluator_scanInto_64 : decode prog_3_method_4_code 64 = .ok (.iinc 5 1, 3) := by decide +kernel
theorem d_Evaluator_scanInto_67 : decode prog_3_method_4_code 67 = .ok (.goto (-61), 3) := by decide +kernel
theorem d_Evaluator_scanInto_70 : decode prog_3_method_4_code 70 = .ok (.return_, 1) := by decide +kernel
theorem d_Evaluator_changeInto_0 : decode prog_3_method_5_code 0 = .ok (.aload_n 3, 1) := by decide +kernel
theorem d_Evaluator_changeInto_1 : decode prog_3_method_5_code 1 = .ok (.iload 4, 2) := by decide +kernel
theorem d_Evaluator_changeInto_3 : decode prog_3_method_5_code 3 = .ok (.iconst 0, 1) := by decide +kernel
theorem d_Evaluator_changeInto_4 : decode prog_3_method_5_code 4 = .ok (.invokevirtual 74, 3) := by decide +kernel
theorem d_Evaluator_changeInto_7 : decode prog_3_method_5_code 7 = .ok (.istore 5, 2) := by decide +kernel
theorem d_Evaluator_changeInto_9 : decode prog_3_method_5_code 9 = .ok (.aload_n 3, 1) := by decide +kernel
theorem d_Evaluator_changeInto_10 : decode prog_3_method_5_code 10 = .ok (.iload 4, 2) := by decide +kernel
theorem d_Evaluator_changeInto_12 : decode prog_3_method_5_code 12 = .ok (.iconst 1, 1) := by decide +kernel
theorem d_Evaluator_changeInto_13 : decode prog_3_method_5_code 13 = .ok (.invokevirtual 74, 3) := by decide +kernel
theorem d_Evaluator_changeInto_16 : decode prog_3_method_5_code 16 = .ok (.istore 6, 2) := by decide +kernel
theorem d_Evaluator_changeInto_18 : decode prog_3_method_5_code 18 = .ok (.aload_n 3, 1) := by decide +kernel
theorem d_Evaluator_changeInto_19 : decode prog_3_method_5_code 19 = .ok (.iload 4, 2) := by decide +kernel
theorem d_Evaluator_changeInto_21 : decode prog_3_method_5_code 21 = .ok (.iconst 2, 1) := by decide +kernel
theorem d_Evaluator_changeInto_22 : decode prog_3_method_5_code 22 = .ok (.invokevirtual 74, 3) := by decide +kernel
theorem d_Evaluator_changeInto_25 : decode prog_3_method_5_code 25 = .ok (.istore 7, 2) := by decide +kernel
theorem d_Evaluator_changeInto_27 : decode prog_3_method_5_code 27 = .ok (.aload_n 3, 1) := by decide +kernel
theorem d_Evaluator_changeInto_28 : decode prog_3_method_5_code 28 = .ok (.iload 4, 2) := by decide +kernel
theorem d_Evaluator_changeInto_30 : decode prog_3_method_5_code 30 = .ok (.iconst 3, 1) := by decide +kernel
theorem d_Evaluator_changeInto_31 : decode prog_3_method_5_code 31 = .ok (.invokevirtual 74, 3) := by decide +kernel
theorem d_Evaluator_changeInto_34 : decode prog_3_method_5_code 34 = .ok (.ifCond .eq 7, 3) := by decide +kernel
theorem d_Evaluator_changeInto_37 : decode prog_3_method_5_code 37 = .ok (.iconst 1, 1) := by decide +kernel
theorem d_Evaluator_changeInto_38 : decode prog_3_method_5_code 38 = .ok (.goto 4, 3) := by decide +kernel
theorem d_Evaluator_changeInto_41 : decode prog_3_method_5_code 41 = .ok (.iconst 0, 1) := by decide +kernel
theorem d_Evaluator_changeInto_42 : decode prog_3_method_5_code 42 = .ok (.istore 8, 2) := by decide +kernel
theorem d_Evaluator_changeInto_44 : decode prog_3_method_5_code 44 = .ok (.aload_n 3, 1) := by decide +kernel
theorem d_Evaluator_changeInto_45 : decode prog_3_method_5_code 45 = .ok (.getfield 68, 3) := by decide +kernel
theorem d_Evaluator_changeInto_48 : decode prog_3_method_5_code 48 = .ok (.iload 4, 2) := by decide +kernel
theorem d_Evaluator_changeInto_50 : decode prog_3_method_5_code 50 = .ok (.iaload, 1) := by decide +kernel
theorem d_Evaluator_changeInto_51 : decode prog_3_method_5_code 51 = .ok (.tableswitch 93 1 5 #[33, 50, 67, 93, 82], 33) := by decide +kernel
theorem d_Evaluator_changeInto_84 : decode prog_3_method_5_code 84 = .ok (.aload_n 0, 1) := by decide +kernel
theorem d_Evaluator_changeInto_85 : decode prog_3_method_5_code 85 = .ok (.aload_n 1, 1) := by decide +kernel
theorem d_Evaluator_changeInto_86 : decode prog_3_method_5_code 86 = .ok (.aload_n 2, 1) := by decide +kernel
theorem d_Evaluator_changeInto_87 : decode prog_3_method_5_code 87 = .ok (.iload 5, 2) := by decide +kernel
theorem d_Evaluator_changeInto_89 : decode prog_3_method_5_code 89 = .ok (.iload 6, 2) := by decide +kernel
theorem d_Evaluator_changeInto_91 : decode prog_3_method_5_code 91 = .ok (.iload 7, 2) := by decide +kernel
theorem d_Evaluator_changeInto_93 : decode prog_3_method_5_code 93 = .ok (.iload 8, 2) := by decide +kernel
theorem d_Evaluator_changeInto_95 : decode prog_3_method_5_code 95 = .ok (.invokevirtual 117, 3) := by decide +kernel
theorem d_Evaluator_changeInto_98 : decode prog_3_method_5_code 98 = .ok (.goto 58, 3) := by decide +kernel
theorem d_Evaluator_changeInto_101 : decode prog_3_method_5_code 101 = .ok (.aload_n 0, 1) := by decide +kernel
theorem d_Evaluator_changeInto_102 : decode prog_3_method_5_code 102 = .ok (.aload_n 1, 1) := by decide +kernel
theorem d_Evaluator_changeInto_103 : decode prog_3_method_5_code 103 = .ok (.aload_n 2, 1) := by decide +kernel
theorem d_Evaluator_changeInto_104 : decode prog_3_method_5_code 104 = .ok (.iload 5, 2) := by decide +kernel
theorem d_Evaluator_changeInto_106 : decode prog_3_method_5_code 106 = .ok (.iload 6, 2) := by decide +kernel
theorem d_Evaluator_changeInto_108 : decode prog_3_method_5_code 108 = .ok (.iload 7, 2) := by decide +kernel
theorem d_Evaluator_changeInto_110 : decode prog_3_method_5_code 110 = .ok (.iload 8, 2) := by decide +kernel
theorem d_Evaluator_changeInto_112 : decode prog_3_method_5_code 112 = .ok (.invokevirtual 121, 3) := by decide +kernel
theorem d_Evaluator_changeInto_115 : decode prog_3_method_5_code 115 = .ok (.goto 41, 3) := by decide +kernel
theorem d_Evaluator_changeInto_118 : decode prog_3_method_5_code 118 = .ok (.aload_n 0, 1) := by decide +kernel
theorem d_Evaluator_changeInto_119 : decode prog_3_method_5_code 119 = .ok (.aload_n 1, 1) := by decide +kernel
theorem d_Evaluator_changeInto_120 : decode prog_3_method_5_code 120 = .ok (.aload_n 2, 1) := by decide +kernel
theorem d_Evaluator_changeInto_121 : decode prog_3_method_5_code 121 = .ok (.iload 5, 2) := by decide +kernel
theorem d_Evaluator_changeInto_123 : decode prog_3_method_5_code 123 = .ok (.iload 6, 2) := by decide +kernel
theorem d_Evaluator_changeInto_125 : decode prog_3_method_5_code 125 = .ok (.iload 7, 2) := by decide +kernel
theorem d_Evaluator_changeInto_127 : decode prog_3_method_5_code 127 = .ok (.invokevirtual 124, 3) := by decide +kernel
theorem d_Evaluator_changeInto_130 : decode prog_3_method_5_code 130 = .ok (.goto 26, 3) := by decide +kernel
theorem d_Evaluator_changeInto_133 : decode prog_3_method_5_code 133 = .ok (.aload_n 0, 1) := by decide +kernel
theorem d_Evaluator_changeInto_134 : decode prog_3_method_5_code 134 = .ok (.aload_n 1, 1) := by decide +kernel
theorem d_Evaluator_changeInto_135 : decode prog_3_method_5_code 135 = .ok (.aload_n 2, 1) := by decide +kernel
theorem d_Evaluator_changeInto_136 : decode prog_3_method_5_code 136 = .ok (.iload 5, 2) := by decide +kernel
theorem d_Evaluator_changeInto_138 : decode prog_3_method_5_code 138 = .ok (.invokevirtual 128, 3) := by decide +kernel
theorem d_Evaluator_changeInto_141 : decode prog_3_method_5_code 141 = .ok (.goto 15, 3) := by decide +kernel
theorem d_Evaluator_changeInto_144 : decode prog_3_method_5_code 144 = .ok (.aload_n 0, 1) := by decide +kernel
theorem d_Evaluator_changeInto_145 : decode prog_3_method_5_code 145 = .ok (.aload_n 1, 1) := by decide +kernel
theorem d_Evaluator_changeInto_146 : decode prog_3_method_5_code 146 = .ok (.aload_n 2, 1) := by decide +kernel
theorem d_Evaluator_changeInto_147 : decode prog_3_method_5_code 147 = .ok (.iload 5, 2) := by decide +kernel
theorem d_Evaluator_changeInto_149 : decode prog_3_method_5_code 149 = .ok (.iload 6, 2) := by decide +kernel
theorem d_Evaluator_changeInto_151 : decode prog_3_method_5_code 151 = .ok (.iload 7, 2) := by decide +kernel
theorem d_Evaluator_changeInto_153 : decode prog_3_method_5_code 153 = .ok (.invokevirtual 132, 3) := by decide +kernel
theorem d_Evaluator_changeInto_156 : decode prog_3_method_5_code 156 = .ok (.return_, 1) := by decide +kernel
theorem d_Evaluator_filterInto_0 : decode prog_3_method_6_code 0 = .ok (.iconst 0, 1) := by decide +kernel
theorem d_Evaluator_filterInto_1 : decode prog_3_method_6_code 1 = .ok (.istore 7, 2) := by decide +kernel
theorem d_Evaluator_filterInto_3 : decode prog_3_method_6_code 3 = .ok (.iload 7, 2) := by decide +kernel
theorem d_Evaluator_filterInto_5 : decode prog_3_method_6_code 5 = .ok (.aload_n 2, 1) := by decide +kernel
theorem d_Evaluator_filterInto_6 : decode prog_3_method_6_code 6 = .ok (.getfield 61, 3) := by decide +kernel
theorem d_Evaluator_filterInto_9 : decode prog_3_method_6_code 9 = .ok (.if_icmp .ge 43, 3) := by decide +kernel
theorem d_Evaluator_filterInto_12 : decode prog_3_method_6_code 12 = .ok (.aload_n 2, 1) := by decide +kernel
theorem d_Evaluator_filterInto_13 : decode prog_3_method_6_code 13 = .ok (.iload 7, 2) := by decide +kernel
theorem d_Evaluator_filterInto_15 : decode prog_3_method_6_code 15 = .ok (.iload_n 3, 1) := by decide +kernel
theorem d_Evaluator_filterInto_16 : decode prog_3_method_6_code 16 = .ok (.invokevirtual 135, 3) := by decide +kernel
theorem d_Evaluator_filterInto_19 : decode prog_3_method_6_code 19 = .ok (.iload 4, 2) := by decide +kernel
theorem d_Evaluator_filterInto_21 : decode prog_3_method_6_code 21 = .ok (.iload 5, 2) := by decide +kernel
theorem d_Evaluator_filterInto_23 : decode prog_3_method_6_code 23 = .ok (.invokestatic 138, 3) := by decide +kernel
theorem d_Evaluator_filterInto_26 : decode prog_3_method_6_code 26 = .ok (.iload 6, 2) := by decide +kernel
theorem d_Evaluator_filterInto_28 : decode prog_3_method_6_code 28 = .ok (.ifCond .eq 7, 3) := by decide +kernel
theorem d_Evaluator_filterInto_31 : decode prog_3_method_6_code 31 = .ok (.iconst 0, 1) := by decide +kernel
theorem d_Evaluator_filterInto_32 : decode prog_3_method_6_code 32 = .ok (.goto 4, 3) := by decide +kernel
theorem d_Evaluator_filterInto_35 : decode prog_3_method_6_code 35 = .ok (.iconst 1, 1) := by decide +kernel
theorem d_Evaluator_filterInto_36 : decode prog_3_method_6_code 36 = .ok (.if_icmp .ne 10, 3) := by decide +kernel
theorem d_Evaluator_filterInto_39 : decode prog_3_method_6_code 39 = .ok (.aload_n 1, 1) := by decide +kernel
theorem d_Evaluator_filterInto_40 : decode prog_3_method_6_code 40 = .ok (.aload_n 2, 1) := by decide +kernel
theorem d_Evaluator_filterInto_41 : decode prog_3_method_6_code 41 = .ok (.iload 7, 2) := by decide +kernel
theorem d_Evaluator_filterInto_43 : decode prog_3_method_6_code 43 = .ok (.invokevirtual 64, 3) := by decide +kernel
theorem d_Evaluator_filterInto_46 : decode prog_3_method_6_code 46 = .ok (.iinc 7 1, 3) := by decide +kernel
theorem d_Evaluator_filterInto_49 : decode prog_3_method_6_code 49 = .ok (.goto (-46), 3) := by decide +kernel
theorem d_Evaluator_filterInto_52 : decode prog_3_method_6_code 52 = .ok (.return_, 1) := by decide +kernel
theorem d_Evaluator_pairInto_0 : decode prog_3_method_7_code 0 = .ok (.iconst 0, 1) := by decide +kernel
theorem d_Evaluator_pairInto_1 : decode prog_3_method_7_code 1 = .ok (.istore 7, 2) := by decide +kernel
theorem d_Evaluator_pairInto_3 : decode prog_3_method_7_code 3 = .ok (.iload 7, 2) := by decide +kernel
theorem d_Evaluator_pairInto_5 : decode prog_3_method_7_code 5 = .ok (.aload_n 2, 1) := by decide +kernel
theorem d_Evaluator_pairInto_6 : decode prog_3_method_7_code 6 = .ok (.getfield 61, 3) := by decide +kernel
theorem d_Evaluator_pairInto_9 : decode prog_3_method_7_code 9 = .ok (.if_icmp .ge 49, 3) := by decide +kernel
theorem d_Evaluator_pairInto_12 : decode prog_3_method_7_code 12 = .ok (.aload_n 2, 1) := by decide +kernel
theorem d_Evaluator_pairInto_13 : decode prog_3_method_7_code 13 = .ok (.iload 7, 2) := by decide +kernel
theorem d_Evaluator_pairInto_15 : decode prog_3_method_7_code 15 = .ok (.iload_n 3, 1) := by decide +kernel
theorem d_Evaluator_pairInto_16 : decode prog_3_method_7_code 16 = .ok (.invokevirtual 135, 3) := by decide +kernel
theorem d_Evaluator_pairInto_19 : decode prog_3_method_7_code 19 = .ok (.iload 4, 2) := by decide +kernel
theorem d_Evaluator_pairInto_21 : decode prog_3_method_7_code 21 = .ok (.aload_n 2, 1) := by decide +kernel
theorem d_Evaluator_pairInto_22 : decode prog_3_method_7_code 22 = .ok (.iload 7, 2) := by decide +kernel
theorem d_Evaluator_pairInto_24 : decode prog_3_method_7_code 24 = .ok (.iload 5, 2) := by decide +kernel
theorem d_Evaluator_pairInto_26 : decode prog_3_method_7_code 26 = .ok (.invokevirtual 135, 3) := by decide +kernel
theorem d_Evaluator_pairInto_29 : decode prog_3_method_7_code 29 = .ok (.invokestatic 138, 3) := by decide +kernel
theorem d_Evaluator_pairInto_32 : decode prog_3_method_7_code 32 = .ok (.iload 6, 2) := by decide +kernel
theorem d_Evaluator_pairInto_34 : decode prog_3_method_7_code 34 = .ok (.ifCond .eq 7, 3) := by decide +kernel
theorem d_Evaluator_pairInto_37 : decode prog_3_method_7_code 37 = .ok (.iconst 0, 1) := by decide +kernel
theorem d_Evaluator_pairInto_38 : decode prog_3_method_7_code 38 = .ok (.goto 4, 3) := by decide +kernel
theorem d_Evaluator_pairInto_41 : decode prog_3_method_7_code 41 = .ok (.iconst 1, 1) := by decide +kernel
theorem d_Evaluator_pairInto_42 : decode prog_3_method_7_code 42 = .ok (.if_icmp .ne 10, 3) := by decide +kernel
theorem d_Evaluator_pairInto_45 : decode prog_3_method_7_code 45 = .ok (.aload_n 1, 1) := by decide +kernel
theorem d_Evaluator_pairInto_46 : decode prog_3_method_7_code 46 = .ok (.aload_n 2, 1) := by decide +kernel
theorem d_Evaluator_pairInto_47 : decode prog_3_method_7_code 47 = .ok (.iload 7, 2) := by decide +kernel
theorem d_Evaluator_pairInto_49 : decode prog_3_method_7_code 49 = .ok (.invokevirtual 64, 3) := by decide +kernel
theorem d_Evaluator_pairInto_52 : decode prog_3_method_7_code 52 = .ok (.iinc 7 1, 3) := by decide +kernel
theorem d_Evaluator_pairInto_55 : decode prog_3_method_7_code 55 = .ok (.goto (-52), 3) := by decide +kernel
theorem d_Evaluator_pairInto_58 : decode prog_3_method_7_code 58 = .ok (.return_, 1) := by decide +kernel
theorem d_Evaluator_ratioInto_0 : decode prog_3_method_8_code 0 = .ok (.iconst 0, 1) := by decide +kernel
theorem d_Evaluator_ratioInto_1 : decode prog_3_method_8_code 1 = .ok (.istore 6, 2) := by decide +kernel
theorem d_Evaluator_ratioInto_3 : decode prog_3_method_8_code 3 = .ok (.iload 6, 2) := by decide +kernel
theorem d_Evaluator_ratioInto_5 : decode prog_3_method_8_code 5 = .ok (.aload_n 2, 1) := by decide +kernel
theorem d_Evaluator_ratioInto_6 : decode prog_3_method_8_code 6 = .ok (.getfield 61, 3) := by decide +kernel
theorem d_Evaluator_ratioInto_9 : decode prog_3_method_8_code 9 = .ok (.if_icmp .ge 75, 3) := by decide +kernel
theorem d_Evaluator_ratioInto_12 : decode prog_3_method_8_code 12 = .ok (.aload_n 2, 1) := by decide +kernel
theorem d_Evaluator_ratioInto_13 : decode prog_3_method_8_code 13 = .ok (.iload 6, 2) := by decide +kernel
theorem d_Evaluator_ratioInto_15 : decode prog_3_method_8_code 15 = .ok (.iload_n 3, 1) := by decide +kernel
theorem d_Evaluator_ratioInto_16 : decode prog_3_method_8_code 16 = .ok (.invokevirtual 135, 3) := by decide +kernel
theorem d_Evaluator_ratioInto_19 : decode prog_3_method_8_code 19 = .ok (.istore 7, 2) := by decide +kernel
theorem d_Evaluator_ratioInto_21 : decode prog_3_method_8_code 21 = .ok (.aload_n 2, 1) := by decide +kernel
theorem d_Evaluator_ratioInto_22 : decode prog_3_method_8_code 22 = .ok (.iload 6, 2) := by decide +kernel
theorem d_Evaluator_ratioInto_24 : decode prog_3_method_8_code 24 = .ok (.iload 4, 2) := by decide +kernel
theorem d_Evaluator_ratioInto_26 : decode prog_3_method_8_code 26 = .ok (.invokevirtual 135, 3) := by decide +kernel
theorem d_Evaluator_ratioInto_29 : decode prog_3_method_8_code 29 = .ok (.istore 8, 2) := by decide +kernel
theorem d_Evaluator_ratioInto_31 : decode prog_3_method_8_code 31 = .ok (.iload 7, 2) := by decide +kernel
theorem d_Evaluator_ratioInto_33 : decode prog_3_method_8_code 33 = .ok (.ldc 103, 2) := by decide +kernel
theorem d_Evaluator_ratioInto_35 : decode prog_3_method_8_code 35 = .ok (.if_icmp .eq 43, 3) := by decide +kernel
theorem d_Evaluator_ratioInto_38 : decode prog_3_method_8_code 38 = .ok (.iload 8, 2) := by decide +kernel
theorem d_Evaluator_ratioInto_40 : decode prog_3_method_8_code 40 = .ok (.ldc 103, 2) := by decide +kernel
theorem d_Evaluator_ratioInto_42 : decode prog_3_method_8_code 42 = .ok (.if_icmp .ne 6, 3) := by decide +kernel
theorem d_Evaluator_ratioInto_45 : decode prog_3_method_8_code 45 = .ok (.goto 33, 3) := by decide +kernel
theorem d_Evaluator_ratioInto_48 : decode prog_3_method_8_code 48 = .ok (.iload 8, 2) := by decide +kernel
theorem d_Evaluator_ratioInto_50 : decode prog_3_method_8_code 50 = .ok (.ifCond .ne 11, 3) := by decide +kernel
theorem d_Evaluator_ratioInto_53 : decode prog_3_method_8_code 53 = .ok (.aload_n 0, 1) := by decide +kernel
theorem d_Evaluator_ratioInto_54 : decode prog_3_method_8_code 54 = .ok (.iconst 1, 1) := by decide +kernel
theorem d_Evaluator_ratioInto_55 : decode prog_3_method_8_code 55 = .ok (.putfield 37, 3) := by decide +kernel
theorem d_Evaluator_ratioInto_58 : decode prog_3_method_8_code 58 = .ok (.goto 20, 3) := by decide +kernel
theorem d_Evaluator_ratioInto_61 : decode prog_3_method_8_code 61 = .ok (.iload 7, 2) := by decide +kernel
theorem d_Evaluator_ratioInto_63 : decode prog_3_method_8_code 63 = .ok (.iload 8, 2) := by decide +kernel
theorem d_Evaluator_ratioInto_65 : decode prog_3_method_8_code 65 = .ok (.idiv, 1) := by decide +kernel
theorem d_Evaluator_ratioInto_66 : decode prog_3_method_8_code 66 = .ok (.iload 5, 2) := by decide +kernel
theorem d_Evaluator_ratioInto_68 : decode prog_3_method_8_code 68 = .ok (.if_icmp .ne 10, 3) := by decide +kernel
theorem d_Evaluator_ratioInto_71 : decode prog_3_method_8_code 71 = .ok (.aload_n 1, 1) := by decide +kernel
theorem d_Evaluator_ratioInto_72 : decode prog_3_method_8_code 72 = .ok (.aload_n 2, 1) := by decide +kernel
theorem d_Evaluator_ratioInto_73 : decode prog_3_method_8_code 73 = .ok (.iload 6, 2) := by decide +kernel
theorem d_Evaluator_ratioInto_75 : decode prog_3_method_8_code 75 = .ok (.invokevirtual 64, 3) := by decide +kernel
theorem d_Evaluator_ratioInto_78 : decode prog_3_method_8_code 78 = .ok (.iinc 6 1, 3) := by decide +kernel
theorem d_Evaluator_ratioInto_81 : decode prog_3_method_8_code 81 = .ok (.goto (-78), 3) := by decide +kernel
theorem d_Evaluator_ratioInto_84 : decode prog_3_method_8_code 84 = .ok (.return_, 1) := by decide +kernel
theorem d_Evaluator_keepInto_0 : decode prog_3_method_9_code 0 = .ok (.iconst 0, 1) := by decide +kernel
theorem d_Evaluator_keepInto_1 : decode prog_3_method_9_code 1 = .ok (.istore 4, 2) := by decide +kernel
theorem d_Evaluator_keepInto_3 : decode prog_3_method_9_code 3 = .ok (.iload 4, 2) := by decide +kernel
theorem d_Evaluator_keepInto_5 : decode prog_3_method_9_code 5 = .ok (.aload_n 2, 1) := by decide +kernel
theorem d_Evaluator_keepInto_6 : decode prog_3_method_9_code 6 = .ok (.getfield 61, 3) := by decide +kernel
theorem d_Evaluator_keepInto_9 : decode prog_3_method_9_code 9 = .ok (.if_icmp .ge 63, 3) := by decide +kernel
theorem d_Evaluator_keepInto_12 : decode prog_3_method_9_code 12 = .ok (.iload 4, 2) := by decide +kernel
theorem d_Evaluator_keepInto_14 : decode prog_3_method_9_code 14 = .ok (.aload_n 1, 1) := by decide +kernel
theorem d_Evaluator_keepInto_15 : decode prog_3_method_9_code 15 = .ok (.getfield 54, 3) := by decide +kernel
theorem d_Evaluator_keepInto_18 : decode prog_3_method_9_code 18 = .ok (.imul, 1) := by decide +kernel
theorem d_Evaluator_keepInto_19 : decode prog_3_method_9_code 19 = .ok (.istore 5, 2) := by decide +kernel
theorem d_Evaluator_keepInto_21 : decode prog_3_method_9_code 21 = .ok (.iconst 0, 1) := by decide +kernel
theorem d_Evaluator_keepInto_22 : decode prog_3_method_9_code 22 = .ok (.istore 6, 2) := by decide +kernel
theorem d_Evaluator_keepInto_24 : decode prog_3_method_9_code 24 = .ok (.iload 6, 2) := by decide +kernel
theorem d_Evaluator_keepInto_26 : decode prog_3_method_9_code 26 = .ok (.aload_n 2, 1) := by decide +kernel
theorem d_Evaluator_keepInto_27 : decode prog_3_method_9_code 27 = .ok (.getfield 54, 3) := by decide +kernel
theorem d_Evaluator_keepInto_30 : decode prog_3_method_9_code 30 = .ok (.if_icmp .ge 36, 3) := by decide +kernel
theorem d_Evaluator_keepInto_33 : decode prog_3_method_9_code 33 = .ok (.iload_n 3, 1) := by decide +kernel
theorem d_Evaluator_keepInto_34 : decode prog_3_method_9_code 34 = .ok (.iload 6, 2) := by decide +kernel
theorem d_Evaluator_keepInto_36 : decode prog_3_method_9_code 36 = .ok (.ishr, 1) := by decide +kernel
theorem d_Evaluator_keepInto_37 : decode prog_3_method_9_code 37 = .ok (.iconst 1, 1) := by decide +kernel
theorem d_Evaluator_keepInto_38 : decode prog_3_method_9_code 38 = .ok (.iand, 1) := by decide +kernel
theorem d_Evaluator_keepInto_39 : decode prog_3_method_9_code 39 = .ok (.ifCond .eq 21, 3) := by decide +kernel
theorem d_Evaluator_keepInto_42 : decode prog_3_method_9_code 42 = .ok (.aload_n 1, 1) := by decide +kernel
theorem d_Evaluator_keepInto_43 : decode prog_3_method_9_code 43 = .ok (.getfield 142, 3) := by decide +kernel
theorem d_Evaluator_keepInto_46 : decode prog_3_method_9_code 46 = .ok (.iload 5, 2) := by decide +kernel
theorem d_Evaluator_keepInto_48 : decode prog_3_method_9_code 48 = .ok (.aload_n 2, 1) := by decide +kernel
theorem d_Evaluator_keepInto_49 : decode prog_3_method_9_code 49 = .ok (.iload 4, 2) := by decide +kernel
theorem d_Evaluator_keepInto_51 : decode prog_3_method_9_code 51 = .ok (.iload 6, 2) := by decide +kernel
theorem d_Evaluator_keepInto_53 : decode prog_3_method_9_code 53 = .ok (.invokevirtual 135, 3) := by decide +kernel
theorem d_Evaluator_keepInto_56 : decode prog_3_method_9_code 56 = .ok (.iastore, 1) := by decide +kernel
theorem d_Evaluator_keepInto_57 : decode prog_3_method_9_code 57 = .ok (.iinc 5 1, 3) := by decide +kernel
theorem d_Evaluator_keepInto_60 : decode prog_3_method_9_code 60 = .ok (.iinc 6 1, 3) := by decide +kernel
theorem d_Evaluator_keepInto_63 : decode prog_3_method_9_code 63 = .ok (.goto (-39), 3) := by decide +kernel
theorem d_Evaluator_keepInto_66 : decode prog_3_method_9_code 66 = .ok (.iinc 4 1, 3) := by decide +kernel
theorem d_Evaluator_keepInto_69 : decode prog_3_method_9_code 69 = .ok (.goto (-66), 3) := by decide +kernel
theorem d_Evaluator_keepInto_72 : decode prog_3_method_9_code 72 = .ok (.aload_n 1, 1) := by decide +kernel
theorem d_Evaluator_keepInto_73 : decode prog_3_method_9_code 73 = .ok (.aload_n 2, 1) := by decide +kernel
theorem d_Evaluator_keepInto_74 : decode prog_3_method_9_code 74 = .ok (.getfield 61, 3) := by decide +kernel
theorem d_Evaluator_keepInto_77 : decode prog_3_method_9_code 77 = .ok (.putfield 61, 3) := by decide +kernel
theorem d_Evaluator_keepInto_80 : decode prog_3_method_9_code 80 = .ok (.return_, 1) := by decide +kernel
theorem d_Evaluator_groupInto_0 : decode prog_3_method_10_code 0 = .ok (.iload_n 3, 1) := by decide +kernel
theorem d_Evaluator_groupInto_1 : decode prog_3_method_10_code 1 = .ok (.iconst (-1), 1) := by decide +kernel
theorem d_Evaluator_groupInto_2 : decode prog_3_method_10_code 2 = .ok (.if_icmp .ne 11, 3) := by decide +kernel
theorem d_Evaluator_groupInto_5 : decode prog_3_method_10_code 5 = .ok (.aload_n 1, 1) := by decide +kernel
theorem d_Evaluator_groupInto_6 : decode prog_3_method_10_code 6 = .ok (.ldc 103, 2) := by decide +kernel
theorem d_Evaluator_groupInto_8 : decode prog_3_method_10_code 8 = .ok (.iload 4, 2) := by decide +kernel
theorem d_Evaluator_groupInto_10 : decode prog_3_method_10_code 10 = .ok (.invokestatic 143, 3) := by decide +kernel
theorem d_Evaluator_groupInto_13 : decode prog_3_method_10_code 13 = .ok (.iconst 0, 1) := by decide +kernel
theorem d_Evaluator_groupInto_14 : decode prog_3_method_10_code 14 = .ok (.istore 6, 2) := by decide +kernel
theorem d_Evaluator_groupInto_16 : decode prog_3_method_10_code 16 = .ok (.iload 6, 2) := by decide +kernel
theorem d_Evaluator_groupInto_18 : decode prog_3_method_10_code 18 = .ok (.aload_n 2, 1) := by decide +kernel
theorem d_Evaluator_groupInto_19 : decode prog_3_method_10_code 19 = .ok (.getfield 61, 3) := by decide +kernel
theorem d_Evaluator_groupInto_22 : decode prog_3_method_10_code 22 = .ok (.if_icmp .ge 96, 3) := by decide +kernel
theorem d_Evaluator_groupInto_25 : decode prog_3_method_10_code 25 = .ok (.iload_n 3, 1) := by decide +kernel
theorem d_Evaluator_groupInto_26 : decode prog_3_method_10_code 26 = .ok (.iconst (-1), 1) := by decide +kernel
theorem d_Evaluator_groupInto_27 : decode prog_3_method_10_code 27 = .ok (.if_icmp .ne 8, 3) := by decide +kernel
theorem d_Evaluator_groupInto_30 : decode prog_3_method_10_code 30 = .ok (.ldc 103, 2) := by decide +kernel
theorem d_Evaluator_groupInto_32 : decode prog_3_method_10_code 32 = .ok (.goto 10, 3) := by decide +kernel
theorem d_Evaluator_groupInto_35 : decode prog_3_method_10_code 35 = .ok (.aload_n 2, 1) := by decide +kernel
theorem d_Evaluator_groupInto_36 : decode prog_3_method_10_code 36 = .ok (.iload 6, 2) := by decide +kernel
theorem d_Evaluator_groupInto_38 : decode prog_3_method_10_code 38 = .ok (.iload_n 3, 1) := by decide +kernel
theorem d_Evaluator_groupInto_39 : decode prog_3_method_10_code 39 = .ok (.invokevirtual 135, 3) := by decide +kernel
theorem d_Evaluator_groupInto_42 : decode prog_3_method_10_code 42 = .ok (.istore 7, 2) := by decide +kernel
theorem d_Evaluator_groupInto_44 : decode prog_3_method_10_code 44 = .ok (.aload_n 1, 1) := by decide +kernel
theorem d_Evaluator_groupInto_45 : decode prog_3_method_10_code 45 = .ok (.iload 7, 2) := by decide +kernel
theorem d_Evaluator_groupInto_47 : decode prog_3_method_10_code 47 = .ok (.invokestatic 147, 3) := by decide +kernel
theorem d_Evaluator_groupInto_50 : decode prog_3_method_10_code 50 = .ok (.istore 8, 2) := by decide +kernel
theorem d_Evaluator_groupInto_52 : decode prog_3_method_10_code 52 = .ok (.iload 8, 2) := by decide +kernel
theorem d_Evaluator_groupInto_54 : decode prog_3_method_10_code 54 = .ok (.iconst (-1), 1) := by decide +kernel
theorem d_Evaluator_groupInto_55 : decode prog_3_method_10_code 55 = .ok (.if_icmp .ne 19, 3) := by decide +kernel
theorem d_Evaluator_groupInto_58 : decode prog_3_method_10_code 58 = .ok (.aload_n 1, 1) := by decide +kernel
theorem d_Evaluator_groupInto_59 : decode prog_3_method_10_code 59 = .ok (.iload 7, 2) := by decide +kernel
theorem d_Evaluator_groupInto_61 : decode prog_3_method_10_code 61 = .ok (.iload 4, 2) := by decide +kernel
theorem d_Evaluator_groupInto_63 : decode prog_3_method_10_code 63 = .ok (.invokestatic 143, 3) := by decide +kernel
theorem d_Evaluator_groupInto_66 : decode prog_3_method_10_code 66 = .ok (.aload_n 1, 1) := by decide +kernel
theorem d_Evaluator_groupInto_67 : decode prog_3_method_10_code 67 = .ok (.getfield 61, 3) := by decide +kernel
theorem d_Evaluator_groupInto_70 : decode prog_3_method_10_code 70 = .ok (.iconst 1, 1) := by decide +kernel
theorem d_Evaluator_groupInto_71 : decode prog_3_method_10_code 71 = .ok (.isub, 1) := by decide +kernel
theorem d_Evaluator_groupInto_72 : decode prog_3_method_10_code 72 = .ok (.istore 8, 2) := by decide +kernel
theorem d_Evaluator_groupInto_74 : decode prog_3_method_10_code 74 = .ok (.iload 8, 2) := by decide +kernel
theorem d_Evaluator_groupInto_76 : decode prog_3_method_10_code 76 = .ok (.aload_n 1, 1) := by decide +kernel
theorem d_Evaluator_groupInto_77 : decode prog_3_method_10_code 77 = .ok (.getfield 54, 3) := by decide +kernel
theorem d_Evaluator_groupInto_80 : decode prog_3_method_10_code 80 = .ok (.imul, 1) := by decide +kernel
theorem d_Evaluator_groupInto_81 : decode prog_3_method_10_code 81 = .ok (.iconst 1, 1) := by decide +kernel
theorem d_Evaluator_groupInto_82 : decode prog_3_method_10_code 82 = .ok (.iadd, 1) := by decide +kernel
theorem d_Evaluator_groupInto_83 : decode prog_3_method_10_code 83 = .ok (.istore 9, 2) := by decide +kernel
theorem d_Evaluator_groupInto_85 : decode prog_3_method_10_code 85 = .ok (.aload_n 1, 1) := by decide +kernel
theorem d_Evaluator_groupInto_86 : decode prog_3_method_10_code 86 = .ok (.getfield 142, 3) := by decide +kernel
theorem d_Evaluator_groupInto_89 : decode prog_3_method_10_code 89 = .ok (.iload 9, 2) := by decide +kernel
theorem d_Evaluator_groupInto_91 : decode prog_3_method_10_code 91 = .ok (.aload_n 1, 1) := by decide +kernel
theorem d_Evaluator_groupInto_92 : decode prog_3_method_10_code 92 = .ok (.getfield 142, 3) := by decide +kernel
theorem d_Evaluator_groupInto_95 : decode prog_3_method_10_code 95 = .ok (.iload 9, 2) := by decide +kernel
theorem d_Evaluator_groupInto_97 : decode prog_3_method_10_code 97 = .ok (.iaload, 1) := by decide +kernel
theorem d_Evaluator_groupInto_98 : decode prog_3_method_10_code 98 = .ok (.iload 4, 2) := by decide +kernel
theorem d_Evaluator_groupInto_100 : decode prog_3_method_10_code 100 = .ok (.aload_n 2, 1) := by decide +kernel
theorem d_Evaluator_groupInto_101 : decode prog_3_method_10_code 101 = .ok (.iload 6, 2) := by decide +kernel
theorem d_Evaluator_groupInto_103 : decode prog_3_method_10_code 103 = .ok (.iload 5, 2) := by decide +kernel
theorem d_Evaluator_groupInto_105 : decode prog_3_method_10_code 105 = .ok (.invokevirtual 135, 3) := by decide +kernel
theorem d_Evaluator_groupInto_108 : decode prog_3_method_10_code 108 = .ok (.invokestatic 151, 3) := by decide +kernel
theorem d_Evaluator_groupInto_111 : decode prog_3_method_10_code 111 = .ok (.iastore, 1) := by decide +kernel
theorem d_Evaluator_groupInto_112 : decode prog_3_method_10_code 112 = .ok (.iinc 6 1, 3) := by decide +kernel
theorem d_Evaluator_groupInto_115 : decode prog_3_method_10_code 115 = .ok (.goto (-99), 3) := by decide +kernel
theorem d_Evaluator_groupInto_118 : decode prog_3_method_10_code 118 = .ok (.return_, 1) := by decide +kernel
theorem d_Evaluator_addGroup_0 : decode prog_3_method_12_code 0 = .ok (.aload_n 0, 1) := by decide +kernel
theorem d_Evaluator_addGroup_1 : decode prog_3_method_12_code 1 = .ok (.getfield 61, 3) := by decide +kernel
theorem d_Evaluator_addGroup_4 : decode prog_3_method_12_code 4 = .ok (.aload_n 0, 1) := by decide +kernel
theorem d_Evaluator_addGroup_5 : decode prog_3_method_12_code 5 = .ok (.getfield 54, 3) := by decide +kernel
theorem d_Evaluator_addGroup_8 : decode prog_3_method_12_code 8 = .ok (.imul, 1) := by decide +kernel
theorem d_Evaluator_addGroup_9 : decode prog_3_method_12_code 9 = .ok (.istore_n 3, 1) := by decide +kernel
theorem d_Evaluator_addGroup_10 : decode prog_3_method_12_code 10 = .ok (.aload_n 0, 1) := by decide +kernel
theorem d_Evaluator_addGroup_11 : decode prog_3_method_12_code 11 = .ok (.getfield 142, 3) := by decide +kernel
theorem d_Evaluator_addGroup_14 : decode prog_3_method_12_code 14 = .ok (.iload_n 3, 1) := by decide +kernel
theorem d_Evaluator_addGroup_15 : decode prog_3_method_12_code 15 = .ok (.iload_n 1, 1) := by decide +kernel
theorem d_Evaluator_addGroup_16 : decode prog_3_method_12_code 16 = .ok (.iastore, 1) := by decide +kernel
theorem d_Evaluator_addGroup_17 : decode prog_3_method_12_code 17 = .ok (.aload_n 0, 1) := by decide +kernel
theorem d_Evaluator_addGroup_18 : decode prog_3_method_12_code 18 = .ok (.getfield 142, 3) := by decide +kernel
theorem d_Evaluator_addGroup_21 : decode prog_3_method_12_code 21 = .ok (.iload_n 3, 1) := by decide +kernel
theorem d_Evaluator_addGroup_22 : decode prog_3_method_12_code 22 = .ok (.iconst 1, 1) := by decide +kernel
theorem d_Evaluator_addGroup_23 : decode prog_3_method_12_code 23 = .ok (.iadd, 1) := by decide +kernel
theorem d_Evaluator_addGroup_24 : decode prog_3_method_12_code 24 = .ok (.iload_n 2, 1) := by decide +kernel
theorem d_Evaluator_addGroup_25 : decode prog_3_method_12_code 25 = .ok (.ifCond .ne 7, 3) := by decide +kernel
theorem d_Evaluator_addGroup_28 : decode prog_3_method_12_code 28 = .ok (.iconst 0, 1) := by decide +kernel
theorem d_Evaluator_addGroup_29 : decode prog_3_method_12_code 29 = .ok (.goto 5, 3) := by decide +kernel
theorem d_Evaluator_addGroup_32 : decode prog_3_method_12_code 32 = .ok (.ldc 103, 2) := by decide +kernel
theorem d_Evaluator_addGroup_34 : decode prog_3_method_12_code 34 = .ok (.iastore, 1) := by decide +kernel
theorem d_Evaluator_addGroup_35 : decode prog_3_method_12_code 35 = .ok (.aload_n 0, 1) := by decide +kernel
theorem d_Evaluator_addGroup_36 : decode prog_3_method_12_code 36 = .ok (.dup, 1) := by decide +kernel
theorem d_Evaluator_addGroup_37 : decode prog_3_method_12_code 37 = .ok (.getfield 61, 3) := by decide +kernel
theorem d_Evaluator_addGroup_40 : decode prog_3_method_12_code 40 = .ok (.iconst 1, 1) := by decide +kernel
theorem d_Evaluator_addGroup_41 : decode prog_3_method_12_code 41 = .ok (.iadd, 1) := by decide +kernel
theorem d_Evaluator_addGroup_42 : decode prog_3_method_12_code 42 = .ok (.putfield 61, 3) := by decide +kernel
theorem d_Evaluator_addGroup_45 : decode prog_3_method_12_code 45 = .ok (.return_, 1) := by decide +kernel
theorem d_Evaluator_groupOf_0 : decode prog_3_method_11_code 0 = .ok (.iconst 0, 1) := by decide +kernel
theorem d_Evaluator_groupOf_1 : decode prog_3_method_11_code 1 = .ok (.istore_n 2, 1) := by decide +kernel
theorem d_Evaluator_groupOf_2 : decode prog_3_method_11_code 2 = .ok (.iload_n 2, 1) := by decide +kernel
theorem d_Evaluator_groupOf_3 : decode prog_3_method_11_code 3 = .ok (.aload_n 0, 1) := by decide +kernel
theorem d_Evaluator_groupOf_4 : decode prog_3_method_11_code 4 = .ok (.getfield 61, 3) := by decide +kernel
theorem d_Evaluator_groupOf_7 : decode prog_3_method_11_code 7 = .ok (.if_icmp .ge 21, 3) := by decide +kernel
theorem d_Evaluator_groupOf_10 : decode prog_3_method_11_code 10 = .ok (.aload_n 0, 1) := by decide +kernel
theorem d_Evaluator_groupOf_11 : decode prog_3_method_11_code 11 = .ok (.iload_n 2, 1) := by decide +kernel
theorem d_Evaluator_groupOf_12 : decode prog_3_method_11_code 12 = .ok (.iconst 0, 1) := by decide +kernel
theorem d_Evaluator_groupOf_13 : decode prog_3_method_11_code 13 = .ok (.invokevirtual 135, 3) := by decide +kernel
theorem d_Evaluator_groupOf_16 : decode prog_3_method_11_code 16 = .ok (.iload_n 1, 1) := by decide +kernel
theorem d_Evaluator_groupOf_17 : decode prog_3_method_11_code 17 = .ok (.if_icmp .ne 5, 3) := by decide +kernel
theorem d_Evaluator_groupOf_20 : decode prog_3_method_11_code 20 = .ok (.iload_n 2, 1) := by decide +kernel
theorem d_Evaluator_groupOf_21 : decode prog_3_method_11_code 21 = .ok (.ireturn, 1) := by decide +kernel
theorem d_Evaluator_groupOf_22 : decode prog_3_method_11_code 22 = .ok (.iinc 2 1, 3) := by decide +kernel
theorem d_Evaluator_groupOf_25 : decode prog_3_method_11_code 25 = .ok (.goto (-23), 3) := by decide +kernel
theorem d_Evaluator_groupOf_28 : decode prog_3_method_11_code 28 = .ok (.iconst (-1), 1) := by decide +kernel
theorem d_Evaluator_groupOf_29 : decode prog_3_method_11_code 29 = .ok (.ireturn, 1) := by decide +kernel
theorem d_Evaluator_gathered_0 : decode prog_3_method_13_code 0 = .ok (.iload_n 1, 1) := by decide +kernel
theorem d_Evaluator_gathered_1 : decode prog_3_method_13_code 1 = .ok (.ifCond .ne 7, 3) := by decide +kernel
theorem d_Evaluator_gathered_4 : decode prog_3_method_13_code 4 = .ok (.iload_n 0, 1) := by decide +kernel
theorem d_Evaluator_gathered_5 : decode prog_3_method_13_code 5 = .ok (.iconst 1, 1) := by decide +kernel
theorem d_Evaluator_gathered_6 : decode prog_3_method_13_code 6 = .ok (.iadd, 1) := by decide +kernel
theorem d_Evaluator_gathered_7 : decode prog_3_method_13_code 7 = .ok (.ireturn, 1) := by decide +kernel
theorem d_Evaluator_gathered_8 : decode prog_3_method_13_code 8 = .ok (.iload_n 2, 1) := by decide +kernel
theorem d_Evaluator_gathered_9 : decode prog_3_method_13_code 9 = .ok (.ldc 103, 2) := by decide +kernel
theorem d_Evaluator_gathered_11 : decode prog_3_method_13_code 11 = .ok (.if_icmp .ne 5, 3) := by decide +kernel
theorem d_Evaluator_gathered_14 : decode prog_3_method_13_code 14 = .ok (.iload_n 0, 1) := by decide +kernel
theorem d_Evaluator_gathered_15 : decode prog_3_method_13_code 15 = .ok (.ireturn, 1) := by decide +kernel
theorem d_Evaluator_gathered_16 : decode prog_3_method_13_code 16 = .ok (.iload_n 0, 1) := by decide +kernel
theorem d_Evaluator_gathered_17 : decode prog_3_method_13_code 17 = .ok (.ldc 103, 2) := by decide +kernel
theorem d_Evaluator_gathered_19 : decode prog_3_method_13_code 19 = .ok (.if_icmp .ne 5, 3) := by decide +kernel
theorem d_Evaluator_gathered_22 : decode prog_3_method_13_code 22 = .ok (.iload_n 2, 1) := by decide +kernel
theorem d_Evaluator_gathered_23 : decode prog_3_method_13_code 23 = .ok (.ireturn, 1) := by decide +kernel
theorem d_Evaluator_gathered_24 : decode prog_3_method_13_code 24 = .ok (.iload_n 1, 1) := by decide +kernel
theorem d_Evaluator_gathered_25 : decode prog_3_method_13_code 25 = .ok (.iconst 1, 1) := by decide +kernel
theorem d_Evaluator_gathered_26 : decode prog_3_method_13_code 26 = .ok (.if_icmp .ne 9, 3) := by decide +kernel
theorem d_Evaluator_gathered_29 : decode prog_3_method_13_code 29 = .ok (.iload_n 0, 1) := by decide +kernel
theorem d_Evaluator_gathered_30 : decode prog_3_method_13_code 30 = .ok (.iload_n 2, 1) := by decide +kernel
theorem d_Evaluator_gathered_31 : decode prog_3_method_13_code 31 = .ok (.iadd, 1) := by decide +kernel
theorem d_Evaluator_gathered_32 : decode prog_3_method_13_code 32 = .ok (.goto 21, 3) := by decide +kernel
theorem d_Evaluator_gathered_35 : decode prog_3_method_13_code 35 = .ok (.iload_n 1, 1) := by decide +kernel
theorem d_Evaluator_gathered_36 : decode prog_3_method_13_code 36 = .ok (.iconst 2, 1) := by decide +kernel
theorem d_Evaluator_gathered_37 : decode prog_3_method_13_code 37 = .ok (.if_icmp .ne 11, 3) := by decide +kernel
theorem d_Evaluator_gathered_40 : decode prog_3_method_13_code 40 = .ok (.iload_n 0, 1) := by decide +kernel
theorem d_Evaluator_gathered_41 : decode prog_3_method_13_code 41 = .ok (.iload_n 2, 1) := by decide +kernel
theorem d_Evaluator_gathered_42 : decode prog_3_method_13_code 42 = .ok (.invokestatic 154, 3) := by decide +kernel
theorem d_Evaluator_gathered_45 : decode prog_3_method_13_code 45 = .ok (.goto 8, 3) := by decide +kernel
theorem d_Evaluator_gathered_48 : decode prog_3_method_13_code 48 = .ok (.iload_n 0, 1) := by decide +kernel
theorem d_Evaluator_gathered_49 : decode prog_3_method_13_code 49 = .ok (.iload_n 2, 1) := by decide +kernel
theorem d_Evaluator_gathered_50 : decode prog_3_method_13_code 50 = .ok (.invokestatic 159, 3) := by decide +kernel
theorem d_Evaluator_gathered_53 : decode prog_3_method_13_code 53 = .ok (.ireturn, 1) := by decide +kernel
theorem d_Evaluator_joinInto_0 : decode prog_3_method_14_code 0 = .ok (.aload 4, 2) := by decide +kernel
theorem d_Evaluator_joinInto_2 : decode prog_3_method_14_code 2 = .ok (.iload 5, 2) := by decide +kernel
theorem d_Evaluator_joinInto_4 : decode prog_3_method_14_code 4 = .ok (.iconst 0, 1) := by decide +kernel
theorem d_Evaluator_joinInto_5 : decode prog_3_method_14_code 5 = .ok (.invokevirtual 74, 3) := by decide +kernel
theorem d_Evaluator_joinInto_8 : decode prog_3_method_14_code 8 = .ok (.istore 6, 2) := by decide +kernel
theorem d_Evaluator_joinInto_10 : decode prog_3_method_14_code 10 = .ok (.aload 4, 2) := by decide +kernel
theorem d_Evaluator_joinInto_12 : decode prog_3_method_14_code 12 = .ok (.iload 5, 2) := by decide +kernel
theorem d_Evaluator_joinInto_14 : decode prog_3_method_14_code 14 = .ok (.iconst 1, 1) := by decide +kernel
theorem d_Evaluator_joinInto_15 : decode prog_3_method_14_code 15 = .ok (.invokevirtual 74, 3) := by decide +kernel
theorem d_Evaluator_joinInto_18 : decode prog_3_method_14_code 18 = .ok (.istore 7, 2) := by decide +kernel
theorem d_Evaluator_joinInto_20 : decode prog_3_method_14_code 20 = .ok (.aload 4, 2) := by decide +kernel
theorem d_Evaluator_joinInto_22 : decode prog_3_method_14_code 22 = .ok (.iload 5, 2) := by decide +kernel
theorem d_Evaluator_joinInto_24 : decode prog_3_method_14_code 24 = .ok (.iconst 2, 1) := by decide +kernel
theorem d_Evaluator_joinInto_25 : decode prog_3_method_14_code 25 = .ok (.invokevirtual 74, 3) := by decide +kernel
theorem d_Evaluator_joinInto_28 : decode prog_3_method_14_code 28 = .ok (.istore 8, 2) := by decide +kernel
theorem d_Evaluator_joinInto_30 : decode prog_3_method_14_code 30 = .ok (.iconst 0, 1) := by decide +kernel
theorem d_Evaluator_joinInto_31 : decode prog_3_method_14_code 31 = .ok (.istore 9, 2) := by decide +kernel
theorem d_Evaluator_joinInto_33 : decode prog_3_method_14_code 33 = .ok (.iload 9, 2) := by decide +kernel
theorem d_Evaluator_joinInto_35 : decode prog_3_method_14_code 35 = .ok (.aload_n 3, 1) := by decide +kernel
theorem d_Evaluator_joinInto_36 : decode prog_3_method_14_code 36 = .ok (.getfield 61, 3) := by decide +kernel
theorem d_Evaluator_joinInto_39 : decode prog_3_method_14_code 39 = .ok (.if_icmp .ge 17, 3) := by decide +kernel
theorem d_Evaluator_joinInto_42 : decode prog_3_method_14_code 42 = .ok (.aload_n 0, 1) := by decide +kernel
theorem d_Evaluator_joinInto_43 : decode prog_3_method_14_code 43 = .ok (.getfield 24, 3) := by decide +kernel
theorem d_Evaluator_joinInto_46 : decode prog_3_method_14_code 46 = .ok (.iload 9, 2) := by decide +kernel
theorem d_Evaluator_joinInto_48 : decode prog_3_method_14_code 48 = .ok (.iconst 0, 1) := by decide +kernel
theorem d_Evaluator_joinInto_49 : decode prog_3_method_14_code 49 = .ok (.bastore, 1) := by decide +kernel
theorem d_Evaluator_joinInto_50 : decode prog_3_method_14_code 50 = .ok (.iinc 9 1, 3) := by decide +kernel
theorem d_Evaluator_joinInto_53 : decode prog_3_method_14_code 53 = .ok (.goto (-20), 3) := by decide +kernel
theorem d_Evaluator_joinInto_56 : decode prog_3_method_14_code 56 = .ok (.iconst 0, 1) := by decide +kernel
theorem d_Evaluator_joinInto_57 : decode prog_3_method_14_code 57 = .ok (.istore 9, 2) := by decide +kernel
theorem d_Evaluator_joinInto_59 : decode prog_3_method_14_code 59 = .ok (.iload 9, 2) := by decide +kernel
theorem d_Evaluator_joinInto_61 : decode prog_3_method_14_code 61 = .ok (.aload_n 2, 1) := by decide +kernel
theorem d_Evaluator_joinInto_62 : decode prog_3_method_14_code 62 = .ok (.getfield 61, 3) := by decide +kernel
theorem d_Evaluator_joinInto_65 : decode prog_3_method_14_code 65 = .ok (.if_icmp .ge 96, 3) := by decide +kernel
theorem d_Evaluator_joinInto_68 : decode prog_3_method_14_code 68 = .ok (.iconst 1, 1) := by decide +kernel
theorem d_Evaluator_joinInto_69 : decode prog_3_method_14_code 69 = .ok (.istore 10, 2) := by decide +kernel
theorem d_Evaluator_joinInto_71 : decode prog_3_method_14_code 71 = .ok (.iconst 0, 1) := by decide +kernel
theorem d_Evaluator_joinInto_72 : decode prog_3_method_14_code 72 = .ok (.istore 11, 2) := by decide +kernel
theorem d_Evaluator_joinInto_74 : decode prog_3_method_14_code 74 = .ok (.iload 11, 2) := by decide +kernel
theorem d_Evaluator_joinInto_76 : decode prog_3_method_14_code 76 = .ok (.aload_n 3, 1) := by decide +kernel
theorem d_Evaluator_joinInto_77 : decode prog_3_method_14_code 77 = .ok (.getfield 61, 3) := by decide +kernel
theorem d_Evaluator_joinInto_80 : decode prog_3_method_14_code 80 = .ok (.if_icmp .ge 63, 3) := by decide +kernel
theorem d_Evaluator_joinInto_83 : decode prog_3_method_14_code 83 = .ok (.aload_n 2, 1) := by decide +kernel
theorem d_Evaluator_joinInto_84 : decode prog_3_method_14_code 84 = .ok (.iload 9, 2) := by decide +kernel
theorem d_Evaluator_joinInto_86 : decode prog_3_method_14_code 86 = .ok (.iload 7, 2) := by decide +kernel
theorem d_Evaluator_joinInto_88 : decode prog_3_method_14_code 88 = .ok (.invokevirtual 135, 3) := by decide +kernel
theorem d_Evaluator_joinInto_91 : decode prog_3_method_14_code 91 = .ok (.iconst 1, 1) := by decide +kernel
theorem d_Evaluator_joinInto_92 : decode prog_3_method_14_code 92 = .ok (.aload_n 3, 1) := by decide +kernel
theorem d_Evaluator_joinInto_93 : decode prog_3_method_14_code 93 = .ok (.iload 11, 2) := by decide +kernel
theorem d_Evaluator_joinInto_95 : decode prog_3_method_14_code 95 = .ok (.iload 8, 2) := by decide +kernel
theorem d_Evaluator_joinInto_97 : decode prog_3_method_14_code 97 = .ok (.invokevirtual 135, 3) := by decide +kernel
theorem d_Evaluator_joinInto_100 : decode prog_3_method_14_code 100 = .ok (.invokestatic 138, 3) := by decide +kernel
theorem d_Evaluator_joinInto_103 : decode prog_3_method_14_code 103 = .ok (.iconst 1, 1) := by decide +kernel
theorem d_Evaluator_joinInto_104 : decode prog_3_method_14_code 104 = .ok (.if_icmp .eq 6, 3) := by decide +kernel
theorem d_Evaluator_joinInto_107 : decode prog_3_method_14_code 107 = .ok (.goto 30, 3) := by decide +kernel
theorem d_Evaluator_joinInto_110 : decode prog_3_method_14_code 110 = .ok (.iconst 0, 1) := by decide +kernel
theorem d_Evaluator_joinInto_111 : decode prog_3_method_14_code 111 = .ok (.istore 10, 2) := by decide +kernel
theorem d_Evaluator_joinInto_113 : decode prog_3_method_14_code 113 = .ok (.aload_n 0, 1) := by decide +kernel
theorem d_Evaluator_joinInto_114 : decode prog_3_method_14_code 114 = .ok (.getfield 24, 3) := by decide +kernel
theorem d_Evaluator_joinInto_117 : decode prog_3_method_14_code 117 = .ok (.iload 11, 2) := by decide +kernel
theorem d_Evaluator_joinInto_119 : decode prog_3_method_14_code 119 = .ok (.iconst 1, 1) := by decide +kernel
theorem d_Evaluator_joinInto_120 : decode prog_3_method_14_code 120 = .ok (.bastore, 1) := by decide +kernel
theorem d_Evaluator_joinInto_121 : decode prog_3_method_14_code 121 = .ok (.iload 6, 2) := by decide +kernel
theorem d_Evaluator_joinInto_123 : decode prog_3_method_14_code 123 = .ok (.iconst 2, 1) := by decide +kernel
theorem d_Evaluator_joinInto_124 : decode prog_3_method_14_code 124 = .ok (.if_icmp .gt 13, 3) := by decide +kernel
theorem d_Evaluator_joinInto_127 : decode prog_3_method_14_code 127 = .ok (.aload_n 1, 1) := by decide +kernel
theorem d_Evaluator_joinInto_128 : decode prog_3_method_14_code 128 = .ok (.aload_n 2, 1) := by decide +kernel
theorem d_Evaluator_joinInto_129 : decode prog_3_method_14_code 129 = .ok (.iload 9, 2) := by decide +kernel
theorem d_Evaluator_joinInto_131 : decode prog_3_method_14_code 131 = .ok (.aload_n 3, 1) := by decide +kernel
theorem d_Evaluator_joinInto_132 : decode prog_3_method_14_code 132 = .ok (.iload 11, 2) := by decide +kernel
theorem d_Evaluator_joinInto_134 : decode prog_3_method_14_code 134 = .ok (.invokevirtual 162, 3) := by decide +kernel
theorem d_Evaluator_joinInto_137 : decode prog_3_method_14_code 137 = .ok (.iinc 11 1, 3) := by decide +kernel
theorem d_Evaluator_joinInto_140 : decode prog_3_method_14_code 140 = .ok (.goto (-66), 3) := by decide +kernel
theorem d_Evaluator_joinInto_143 : decode prog_3_method_14_code 143 = .ok (.aload_n 1, 1) := by decide +kernel
theorem d_Evaluator_joinInto_144 : decode prog_3_method_14_code 144 = .ok (.aload_n 2, 1) := by decide +kernel
theorem d_Evaluator_joinInto_145 : decode prog_3_method_14_code 145 = .ok (.iload 9, 2) := by decide +kernel
theorem d_Evaluator_joinInto_147 : decode prog_3_method_14_code 147 = .ok (.aload_n 3, 1) := by decide +kernel
theorem d_Evaluator_joinInto_148 : decode prog_3_method_14_code 148 = .ok (.iload 6, 2) := by decide +kernel
theorem d_Evaluator_joinInto_150 : decode prog_3_method_14_code 150 = .ok (.iload 10, 2) := by decide +kernel
theorem d_Evaluator_joinInto_152 : decode prog_3_method_14_code 152 = .ok (.invokestatic 166, 3) := by decide +kernel
theorem d_Evaluator_joinInto_155 : decode prog_3_method_14_code 155 = .ok (.iinc 9 1, 3) := by decide +kernel
theorem d_Evaluator_joinInto_158 : decode prog_3_method_14_code 158 = .ok (.goto (-99), 3) := by decide +kernel
theorem d_Evaluator_joinInto_161 : decode prog_3_method_14_code 161 = .ok (.iconst 0, 1) := by decide +kernel
theorem d_Evaluator_joinInto_162 : decode prog_3_method_14_code 162 = .ok (.istore 9, 2) := by decide +kernel
theorem d_Evaluator_joinInto_164 : decode prog_3_method_14_code 164 = .ok (.iload 9, 2) := by decide +kernel
theorem d_Evaluator_joinInto_166 : decode prog_3_method_14_code 166 = .ok (.aload_n 3, 1) := by decide +kernel
theorem d_Evaluator_joinInto_167 : decode prog_3_method_14_code 167 = .ok (.getfield 61, 3) := by decide +kernel
theorem d_Evaluator_joinInto_170 : decode prog_3_method_14_code 170 = .ok (.if_icmp .ge 34, 3) := by decide +kernel
theorem d_Evaluator_joinInto_173 : decode prog_3_method_14_code 173 = .ok (.iload 6, 2) := by decide +kernel
theorem d_Evaluator_joinInto_175 : decode prog_3_method_14_code 175 = .ok (.iconst 2, 1) := by decide +kernel
theorem d_Evaluator_joinInto_176 : decode prog_3_method_14_code 176 = .ok (.if_icmp .ne 28, 3) := by decide +kernel
theorem d_Evaluator_joinInto_179 : decode prog_3_method_14_code 179 = .ok (.aload_n 0, 1) := by decide +kernel
theorem d_Evaluator_joinInto_180 : decode prog_3_method_14_code 180 = .ok (.getfield 24, 3) := by decide +kernel
theorem d_Evaluator_joinInto_183 : decode prog_3_method_14_code 183 = .ok (.iload 9, 2) := by decide +kernel
theorem d_Evaluator_joinInto_185 : decode prog_3_method_14_code 185 = .ok (.baload, 1) := by decide +kernel
theorem d_Evaluator_joinInto_186 : decode prog_3_method_14_code 186 = .ok (.ifCond .ne 12, 3) := by decide +kernel
theorem d_Evaluator_joinInto_189 : decode prog_3_method_14_code 189 = .ok (.aload_n 1, 1) := by decide +kernel
theorem d_Evaluator_joinInto_190 : decode prog_3_method_14_code 190 = .ok (.aload_n 2, 1) := by decide +kernel
theorem d_Evaluator_joinInto_191 : decode prog_3_method_14_code 191 = .ok (.iconst (-1), 1) := by decide +kernel
theorem d_Evaluator_joinInto_192 : decode prog_3_method_14_code 192 = .ok (.aload_n 3, 1) := by decide +kernel
theorem d_Evaluator_joinInto_193 : decode prog_3_method_14_code 193 = .ok (.iload 9, 2) := by decide +kernel
theorem d_Evaluator_joinInto_195 : decode prog_3_method_14_code 195 = .ok (.invokevirtual 162, 3) := by decide +kernel
theorem d_Evaluator_joinInto_198 : decode prog_3_method_14_code 198 = .ok (.iinc 9 1, 3) := by decide +kernel
theorem d_Evaluator_joinInto_201 : decode prog_3_method_14_code 201 = .ok (.goto (-37), 3) := by decide +kernel
theorem d_Evaluator_joinInto_204 : decode prog_3_method_14_code 204 = .ok (.return_, 1) := by decide +kernel
theorem d_Evaluator_addLeft_0 : decode prog_3_method_15_code 0 = .ok (.iload 5, 2) := by decide +kernel
theorem d_Evaluator_addLeft_2 : decode prog_3_method_15_code 2 = .ok (.ifCond .eq 26, 3) := by decide +kernel
theorem d_Evaluator_addLeft_5 : decode prog_3_method_15_code 5 = .ok (.iload 4, 2) := by decide +kernel
theorem d_Evaluator_addLeft_7 : decode prog_3_method_15_code 7 = .ok (.iconst 1, 1) := by decide +kernel
theorem d_Evaluator_addLeft_8 : decode prog_3_method_15_code 8 = .ok (.if_icmp .eq 9, 3) := by decide +kernel
theorem d_Evaluator_addLeft_11 : decode prog_3_method_15_code 11 = .ok (.iload 4, 2) := by decide +kernel
theorem d_Evaluator_addLeft_13 : decode prog_3_method_15_code 13 = .ok (.iconst 2, 1) := by decide +kernel
theorem d_Evaluator_addLeft_14 : decode prog_3_method_15_code 14 = .ok (.if_icmp .ne 14, 3) := by decide +kernel
theorem d_Evaluator_addLeft_17 : decode prog_3_method_15_code 17 = .ok (.aload_n 0, 1) := by decide +kernel
theorem d_Evaluator_addLeft_18 : decode prog_3_method_15_code 18 = .ok (.aload_n 1, 1) := by decide +kernel
theorem d_Evaluator_addLeft_19 : decode prog_3_method_15_code 19 = .ok (.iload_n 2, 1) := by decide +kernel
theorem d_Evaluator_addLeft_20 : decode prog_3_method_15_code 20 = .ok (.aload_n 3, 1) := by decide +kernel
theorem d_Evaluator_addLeft_21 : decode prog_3_method_15_code 21 = .ok (.iconst (-1), 1) := by decide +kernel
theorem d_Evaluator_addLeft_22 : decode prog_3_method_15_code 22 = .ok (.invokevirtual 162, 3) := by decide +kernel
theorem d_Evaluator_addLeft_25 : decode prog_3_method_15_code 25 = .ok (.goto 24, 3) := by decide +kernel
theorem d_Evaluator_addLeft_28 : decode prog_3_method_15_code 28 = .ok (.iload 4, 2) := by decide +kernel
theorem d_Evaluator_addLeft_30 : decode prog_3_method_15_code 30 = .ok (.iload 5, 2) := by decide +kernel
theorem d_Evaluator_addLeft_32 : decode prog_3_method_15_code 32 = .ok (.ifCond .eq 7, 3) := by decide +kernel
theorem d_Evaluator_addLeft_35 : decode prog_3_method_15_code 35 = .ok (.iconst 4, 1) := by decide +kernel
theorem d_Evaluator_addLeft_36 : decode prog_3_method_15_code 36 = .ok (.goto 4, 3) := by decide +kernel
theorem d_Evaluator_addLeft_39 : decode prog_3_method_15_code 39 = .ok (.iconst 3, 1) := by decide +kernel
theorem d_Evaluator_addLeft_40 : decode prog_3_method_15_code 40 = .ok (.if_icmp .ne 9, 3) := by decide +kernel
theorem d_Evaluator_addLeft_43 : decode prog_3_method_15_code 43 = .ok (.aload_n 0, 1) := by decide +kernel
theorem d_Evaluator_addLeft_44 : decode prog_3_method_15_code 44 = .ok (.aload_n 1, 1) := by decide +kernel
theorem d_Evaluator_addLeft_45 : decode prog_3_method_15_code 45 = .ok (.iload_n 2, 1) := by decide +kernel
theorem d_Evaluator_addLeft_46 : decode prog_3_method_15_code 46 = .ok (.invokevirtual 64, 3) := by decide +kernel
theorem d_Evaluator_addLeft_49 : decode prog_3_method_15_code 49 = .ok (.return_, 1) := by decide +kernel
theorem d_Evaluator_combineInto_0 : decode prog_3_method_16_code 0 = .ok (.iconst 0, 1) := by decide +kernel
theorem d_Evaluator_combineInto_1 : decode prog_3_method_16_code 1 = .ok (.istore 4, 2) := by decide +kernel
theorem d_Evaluator_combineInto_3 : decode prog_3_method_16_code 3 = .ok (.iload 4, 2) := by decide +kernel
theorem d_Evaluator_combineInto_5 : decode prog_3_method_16_code 5 = .ok (.aload_n 1, 1) := by decide +kernel
theorem d_Evaluator_combineInto_6 : decode prog_3_method_16_code 6 = .ok (.getfield 61, 3) := by decide +kernel
theorem d_Evaluator_combineInto_9 : decode prog_3_method_16_code 9 = .ok (.if_icmp .ge 40, 3) := by decide +kernel
theorem d_Evaluator_combineInto_12 : decode prog_3_method_16_code 12 = .ok (.iload_n 3, 1) := by decide +kernel
theorem d_Evaluator_combineInto_13 : decode prog_3_method_16_code 13 = .ok (.ifCond .eq 23, 3) := by decide +kernel
theorem d_Evaluator_combineInto_16 : decode prog_3_method_16_code 16 = .ok (.aload_n 2, 1) := by decide +kernel
theorem d_Evaluator_combineInto_17 : decode prog_3_method_16_code 17 = .ok (.aload_n 1, 1) := by decide +kernel
theorem d_Evaluator_combineInto_18 : decode prog_3_method_16_code 18 = .ok (.iload 4, 2) := by decide +kernel
theorem d_Evaluator_combineInto_20 : decode prog_3_method_16_code 20 = .ok (.invokevirtual 170, 3) := by decide +kernel
theorem d_Evaluator_combineInto_23 : decode prog_3_method_16_code 23 = .ok (.iload_n 3, 1) := by decide +kernel
theorem d_Evaluator_combineInto_24 : decode prog_3_method_16_code 24 = .ok (.iconst 1, 1) := by decide +kernel
theorem d_Evaluator_combineInto_25 : decode prog_3_method_16_code 25 = .ok (.if_icmp .ne 7, 3) := by decide +kernel
theorem d_Evaluator_combineInto_28 : decode prog_3_method_16_code 28 = .ok (.iconst 1, 1) := by decide +kernel
theorem d_Evaluator_combineInto_29 : decode prog_3_method_16_code 29 = .ok (.goto 4, 3) := by decide +kernel
theorem d_Evaluator_combineInto_32 : decode prog_3_method_16_code 32 = .ok (.iconst 0, 1) := by decide +kernel
theorem d_Evaluator_combineInto_33 : decode prog_3_method_16_code 33 = .ok (.if_icmp .ne 10, 3) := by decide +kernel
theorem d_Evaluator_combineInto_36 : decode prog_3_method_16_code 36 = .ok (.aload_n 0, 1) := by decide +kernel
theorem d_Evaluator_combineInto_37 : decode prog_3_method_16_code 37 = .ok (.aload_n 1, 1) := by decide +kernel
theorem d_Evaluator_combineInto_38 : decode prog_3_method_16_code 38 = .ok (.iload 4, 2) := by decide +kernel
theorem d_Evaluator_combineInto_40 : decode prog_3_method_16_code 40 = .ok (.invokevirtual 174, 3) := by decide +kernel
theorem d_Evaluator_combineInto_43 : decode prog_3_method_16_code 43 = .ok (.iinc 4 1, 3) := by decide +kernel
theorem d_Evaluator_combineInto_46 : decode prog_3_method_16_code 46 = .ok (.goto (-43), 3) := by decide +kernel
theorem d_Evaluator_combineInto_49 : decode prog_3_method_16_code 49 = .ok (.iconst 0, 1) := by decide +kernel
theorem d_Evaluator_combineInto_50 : decode prog_3_method_16_code 50 = .ok (.istore 4, 2) := by decide +kernel
theorem d_Evaluator_combineInto_52 : decode prog_3_method_16_code 52 = .ok (.iload 4, 2) := by decide +kernel
theorem d_Evaluator_combineInto_54 : decode prog_3_method_16_code 54 = .ok (.aload_n 2, 1) := by decide +kernel
theorem d_Evaluator_combineInto_55 : decode prog_3_method_16_code 55 = .ok (.getfield 61, 3) := by decide +kernel
theorem d_Evaluator_combineInto_58 : decode prog_3_method_16_code 58 = .ok (.if_icmp .ge 20, 3) := by decide +kernel
theorem d_Evaluator_combineInto_61 : decode prog_3_method_16_code 61 = .ok (.iload_n 3, 1) := by decide +kernel
theorem d_Evaluator_combineInto_62 : decode prog_3_method_16_code 62 = .ok (.ifCond .ne 16, 3) := by decide +kernel
theorem d_Evaluator_combineInto_65 : decode prog_3_method_16_code 65 = .ok (.aload_n 0, 1) := by decide +kernel
theorem d_Evaluator_combineInto_66 : decode prog_3_method_16_code 66 = .ok (.aload_n 2, 1) := by decide +kernel
theorem d_Evaluator_combineInto_67 : decode prog_3_method_16_code 67 = .ok (.iload 4, 2) := by decide +kernel
theorem d_Evaluator_combineInto_69 : decode prog_3_method_16_code 69 = .ok (.invokevirtual 174, 3) := by decide +kernel
theorem d_Evaluator_combineInto_72 : decode prog_3_method_16_code 72 = .ok (.iinc 4 1, 3) := by decide +kernel
theorem d_Evaluator_combineInto_75 : decode prog_3_method_16_code 75 = .ok (.goto (-23), 3) := by decide +kernel
theorem d_Evaluator_combineInto_78 : decode prog_3_method_16_code 78 = .ok (.return_, 1) := by decide +kernel
theorem d_F_abort_0 : decode prog_1_method_12_code 0 = .ok (.aload_n 0, 1) := by decide +kernel
theorem d_F_abort_1 : decode prog_1_method_12_code 1 = .ok (.iload_n 1, 1) := by decide +kernel
theorem d_F_abort_2 : decode prog_1_method_12_code 2 = .ok (.invokevirtual 194, 3) := by decide +kernel
theorem d_F_abort_5 : decode prog_1_method_12_code 5 = .ok (.astore_n 2, 1) := by decide +kernel
theorem d_F_abort_6 : decode prog_1_method_12_code 6 = .ok (.aload_n 2, 1) := by decide +kernel
theorem d_F_abort_7 : decode prog_1_method_12_code 7 = .ok (.invokevirtual 197, 3) := by decide +kernel
theorem d_F_abort_10 : decode prog_1_method_12_code 10 = .ok (.invokestatic 82, 3) := by decide +kernel
theorem d_F_abort_13 : decode prog_1_method_12_code 13 = .ok (.aload_n 0, 1) := by decide +kernel
theorem d_F_abort_14 : decode prog_1_method_12_code 14 = .ok (.getfield 21, 3) := by decide +kernel
theorem d_F_abort_17 : decode prog_1_method_12_code 17 = .ok (.aload_n 2, 1) := by decide +kernel
theorem d_F_abort_18 : decode prog_1_method_12_code 18 = .ok (.invokevirtual 200, 3) := by decide +kernel
theorem d_F_abort_21 : decode prog_1_method_12_code 21 = .ok (.istore_n 3, 1) := by decide +kernel
theorem d_F_abort_22 : decode prog_1_method_12_code 22 = .ok (.aload_n 0, 1) := by decide +kernel
theorem d_F_abort_23 : decode prog_1_method_12_code 23 = .ok (.getfield 21, 3) := by decide +kernel
theorem d_F_abort_26 : decode prog_1_method_12_code 26 = .ok (.aconst_null, 1) := by decide +kernel
theorem d_F_abort_27 : decode prog_1_method_12_code 27 = .ok (.invokevirtual 173, 3) := by decide +kernel
theorem d_F_abort_30 : decode prog_1_method_12_code 30 = .ok (.iload_n 3, 1) := by decide +kernel
theorem d_F_abort_31 : decode prog_1_method_12_code 31 = .ok (.ireturn, 1) := by decide +kernel
theorem d_F_state_0 : decode prog_1_method_13_code 0 = .ok (.aload_n 0, 1) := by decide +kernel
theorem d_F_state_1 : decode prog_1_method_13_code 1 = .ok (.iload_n 1, 1) := by decide +kernel
theorem d_F_state_2 : decode prog_1_method_13_code 2 = .ok (.invokevirtual 194, 3) := by decide +kernel
theorem d_F_state_5 : decode prog_1_method_13_code 5 = .ok (.getfield 203, 3) := by decide +kernel
theorem d_F_state_8 : decode prog_1_method_13_code 8 = .ok (.ireturn, 1) := by decide +kernel
theorem d_F_outcome_0 : decode prog_1_method_14_code 0 = .ok (.aload_n 0, 1) := by decide +kernel
theorem d_F_outcome_1 : decode prog_1_method_14_code 1 = .ok (.iload_n 1, 1) := by decide +kernel
theorem d_F_outcome_2 : decode prog_1_method_14_code 2 = .ok (.invokevirtual 194, 3) := by decide +kernel
theorem d_F_outcome_5 : decode prog_1_method_14_code 5 = .ok (.getfield 177, 3) := by decide +kernel
theorem d_F_outcome_8 : decode prog_1_method_14_code 8 = .ok (.ireturn, 1) := by decide +kernel
theorem d_F_waitsFor_0 : decode prog_1_method_15_code 0 = .ok (.aload_n 0, 1) := by decide +kernel
theorem d_F_waitsFor_1 : decode prog_1_method_15_code 1 = .ok (.iload_n 1, 1) := by decide +kernel
theorem d_F_waitsFor_2 : decode prog_1_method_15_code 2 = .ok (.invokevirtual 194, 3) := by decide +kernel
theorem d_F_waitsFor_5 : decode prog_1_method_15_code 5 = .ok (.getfield 206, 3) := by decide +kernel
theorem d_F_waitsFor_8 : decode prog_1_method_15_code 8 = .ok (.ireturn, 1) := by decide +kernel
theorem d_F_hasRead_0 : decode prog_1_method_16_code 0 = .ok (.aload_n 0, 1) := by decide +kernel
theorem d_F_hasRead_1 : decode prog_1_method_16_code 1 = .ok (.getfield 21, 3) := by decide +kernel
theorem d_F_hasRead_4 : decode prog_1_method_16_code 4 = .ok (.iload_n 1, 1) := by decide +kernel
theorem d_F_hasRead_5 : decode prog_1_method_16_code 5 = .ok (.invokevirtual 157, 3) := by decide +kernel
theorem d_F_hasRead_8 : decode prog_1_method_16_code 8 = .ok (.ifCond .eq 18, 3) := by decide +kernel
theorem d_F_hasRead_11 : decode prog_1_method_16_code 11 = .ok (.aload_n 0, 1) := by decide +kernel
theorem d_F_hasRead_12 : decode prog_1_method_16_code 12 = .ok (.getfield 12, 3) := by decide +kernel
theorem d_F_hasRead_15 : decode prog_1_method_16_code 15 = .ok (.iload_n 2, 1) := by decide +kernel
theorem d_F_hasRead_16 : decode prog_1_method_16_code 16 = .ok (.invokevirtual 123, 3) := by decide +kernel
theorem d_F_hasRead_19 : decode prog_1_method_16_code 19 = .ok (.ifCond .eq 7, 3) := by decide +kernel
theorem d_F_hasRead_22 : decode prog_1_method_16_code 22 = .ok (.iconst 1, 1) := by decide +kernel
theorem d_F_hasRead_23 : decode prog_1_method_16_code 23 = .ok (.goto 4, 3) := by decide +kernel
theorem d_F_hasRead_26 : decode prog_1_method_16_code 26 = .ok (.iconst 0, 1) := by decide +kernel
theorem d_F_hasRead_27 : decode prog_1_method_16_code 27 = .ok (.invokestatic 97, 3) := by decide +kernel
theorem d_F_hasRead_30 : decode prog_1_method_16_code 30 = .ok (.aload_n 0, 1) := by decide +kernel
theorem d_F_hasRead_31 : decode prog_1_method_16_code 31 = .ok (.iload_n 1, 1) := by decide +kernel
theorem d_F_hasRead_32 : decode prog_1_method_16_code 32 = .ok (.invokevirtual 194, 3) := by decide +kernel
theorem d_F_hasRead_35 : decode prog_1_method_16_code 35 = .ok (.iload_n 2, 1) := by decide +kernel
theorem d_F_hasRead_36 : decode prog_1_method_16_code 36 = .ok (.iload_n 3, 1) := by decide +kernel
theorem d_F_hasRead_37 : decode prog_1_method_16_code 37 = .ok (.invokevirtual 209, 3) := by decide +kernel
theorem d_F_hasRead_40 : decode prog_1_method_16_code 40 = .ok (.ireturn, 1) := by decide +kernel
theorem d_F_own_0 : decode prog_1_method_17_code 0 = .ok (.aload_n 0, 1) := by decide +kernel
theorem d_F_own_1 : decode prog_1_method_17_code 1 = .ok (.getfield 21, 3) := by decide +kernel
theorem d_F_own_4 : decode prog_1_method_17_code 4 = .ok (.iload_n 1, 1) := by decide +kernel
theorem d_F_own_5 : decode prog_1_method_17_code 5 = .ok (.invokevirtual 157, 3) := by decide +kernel
theorem d_F_own_8 : decode prog_1_method_17_code 8 = .ok (.ifCond .eq 20, 3) := by decide +kernel
theorem d_F_own_11 : decode prog_1_method_17_code 11 = .ok (.aload_n 0, 1) := by decide +kernel
theorem d_F_own_12 : decode prog_1_method_17_code 12 = .ok (.getfield 12, 3) := by decide +kernel
theorem d_F_own_15 : decode prog_1_method_17_code 15 = .ok (.iload_n 2, 1) := by decide +kernel
theorem d_F_own_16 : decode prog_1_method_17_code 16 = .ok (.iload 4, 2) := by decide +kernel
theorem d_F_own_18 : decode prog_1_method_17_code 18 = .ok (.invokevirtual 93, 3) := by decide +kernel
theorem d_F_own_21 : decode prog_1_method_17_code 21 = .ok (.ifCond .eq 7, 3) := by decide +kernel
theorem d_F_own_24 : decode prog_1_method_17_code 24 = .ok (.iconst 1, 1) := by decide +kernel
theorem d_F_own_25 : decode prog_1_method_17_code 25 = .ok (.goto 4, 3) := by decide +kernel
theorem d_F_own_28 : decode prog_1_method_17_code 28 = .ok (.iconst 0, 1) := by decide +kernel
theorem d_F_own_29 : decode prog_1_method_17_code 29 = .ok (.invokestatic 97, 3) := by decide +kernel
theorem d_F_own_32 : decode prog_1_method_17_code 32 = .ok (.aload_n 0, 1) := by decide +kernel
theorem d_F_own_33 : decode prog_1_method_17_code 33 = .ok (.iload_n 1, 1) := by decide +kernel
theorem d_F_own_34 : decode prog_1_method_17_code 34 = .ok (.invokevirtual 194, 3) := by decide +kernel
theorem d_F_own_37 : decode prog_1_method_17_code 37 = .ok (.astore 5, 2) := by decide +kernel
theorem d_F_own_39 : decode prog_1_method_17_code 39 = .ok (.aload 5, 2) := by decide +kernel
theorem d_F_own_41 : decode prog_1_method_17_code 41 = .ok (.invokevirtual 197, 3) := by decide +kernel
theorem d_F_own_44 : decode prog_1_method_17_code 44 = .ok (.ifCond .eq 18, 3) := by decide +kernel
theorem d_F_own_47 : decode prog_1_method_17_code 47 = .ok (.aload 5, 2) := by decide +kernel
theorem d_F_own_49 : decode prog_1_method_17_code 49 = .ok (.getfield 212, 3) := by decide +kernel
theorem d_F_own_52 : decode prog_1_method_17_code 52 = .ok (.iload_n 2, 1) := by decide +kernel
theorem d_F_own_53 : decode prog_1_method_17_code 53 = .ok (.iload_n 3, 1) := by decide +kernel
theorem d_F_own_54 : decode prog_1_method_17_code 54 = .ok (.iload 4, 2) := by decide +kernel
theorem d_F_own_56 : decode prog_1_method_17_code 56 = .ok (.invokevirtual 215, 3) := by decide +kernel
theorem d_F_own_59 : decode prog_1_method_17_code 59 = .ok (.goto 5, 3) := by decide +kernel
theorem d_F_own_62 : decode prog_1_method_17_code 62 = .ok (.ldc 153, 2) := by decide +kernel
theorem d_F_own_64 : decode prog_1_method_17_code 64 = .ok (.ireturn, 1) := by decide +kernel
theorem d_F_committed_0 : decode prog_1_method_18_code 0 = .ok (.aload_n 0, 1) := by decide +kernel
theorem d_F_committed_1 : decode prog_1_method_18_code 1 = .ok (.getfield 12, 3) := by decide +kernel
theorem d_F_committed_4 : decode prog_1_method_18_code 4 = .ok (.iload_n 1, 1) := by decide +kernel
theorem d_F_committed_5 : decode prog_1_method_18_code 5 = .ok (.iload_n 3, 1) := by decide +kernel
theorem d_F_committed_6 : decode prog_1_method_18_code 6 = .ok (.invokevirtual 93, 3) := by decide +kernel
theorem d_F_committed_9 : decode prog_1_method_18_code 9 = .ok (.invokestatic 97, 3) := by decide +kernel
theorem d_F_committed_12 : decode prog_1_method_18_code 12 = .ok (.aload_n 0, 1) := by decide +kernel
theorem d_F_committed_13 : decode prog_1_method_18_code 13 = .ok (.getfield 21, 3) := by decide +kernel
theorem d_F_committed_16 : decode prog_1_method_18_code 16 = .ok (.getfield 110, 3) := by decide +kernel
theorem d_F_committed_19 : decode prog_1_method_18_code 19 = .ok (.iload_n 1, 1) := by decide +kernel
theorem d_F_committed_20 : decode prog_1_method_18_code 20 = .ok (.iload_n 2, 1) := by decide +kernel
theorem d_F_committed_21 : decode prog_1_method_18_code 21 = .ok (.iload_n 3, 1) := by decide +kernel
theorem d_F_committed_22 : decode prog_1_method_18_code 22 = .ok (.invokevirtual 215, 3) := by decide +kernel
theorem d_F_committed_25 : decode prog_1_method_18_code 25 = .ok (.ireturn, 1) := by decide +kernel
theorem d_F_committedByLog_0 : decode prog_1_method_19_code 0 = .ok (.aload_n 0, 1) := by decide +kernel
theorem d_F_committedByLog_1 : decode prog_1_method_19_code 1 = .ok (.getfield 12, 3) := by decide +kernel
theorem d_F_committedByLog_4 : decode prog_1_method_19_code 4 = .ok (.iload_n 1, 1) := by decide +kernel
theorem d_F_committedByLog_5 : decode prog_1_method_19_code 5 = .ok (.iload_n 3, 1) := by decide +kernel
theorem d_F_committedByLog_6 : decode prog_1_method_19_code 6 = .ok (.invokevirtual 93, 3) := by decide +kernel
theorem d_F_committedByLog_9 : decode prog_1_method_19_code 9 = .ok (.invokestatic 97, 3) := by decide +kernel
theorem d_F_committedByLog_12 : decode prog_1_method_19_code 12 = .ok (.aload_n 0, 1) := by decide +kernel
theorem d_F_committedByLog_13 : decode prog_1_method_19_code 13 = .ok (.getfield 21, 3) := by decide +kernel
theorem d_F_committedByLog_16 : decode prog_1_method_19_code 16 = .ok (.getfield 219, 3) := by decide +kernel
theorem d_F_committedByLog_19 : decode prog_1_method_19_code 19 = .ok (.iload_n 1, 1) := by decide +kernel
theorem d_F_committedByLog_20 : decode prog_1_method_19_code 20 = .ok (.iload_n 2, 1) := by decide +kernel
theorem d_F_committedByLog_21 : decode prog_1_method_19_code 21 = .ok (.iload_n 3, 1) := by decide +kernel
theorem d_F_committedByLog_22 : decode prog_1_method_19_code 22 = .ok (.invokevirtual 223, 3) := by decide +kernel
theorem d_F_committedByLog_25 : decode prog_1_method_19_code 25 = .ok (.ireturn, 1) := by decide +kernel
theorem d_F_rowsOf_0 : decode prog_1_method_20_code 0 = .ok (.aload_n 0, 1) := by decide +kernel
theorem d_F_rowsOf_1 : decode prog_1_method_20_code 1 = .ok (.getfield 12, 3) := by decide +kernel
theorem d_F_rowsOf_4 : decode prog_1_method_20_code 4 = .ok (.iload_n 1, 1) := by decide +kernel
theorem d_F_rowsOf_5 : decode prog_1_method_20_code 5 = .ok (.invokevirtual 123, 3) := by decide +kernel
theorem d_F_rowsOf_8 : decode prog_1_method_20_code 8 = .ok (.invokestatic 97, 3) := by decide +kernel
theorem d_F_rowsOf_11 : decode prog_1_method_20_code 11 = .ok (.aload_n 0, 1) := by decide +kernel
theorem d_F_rowsOf_12 : decode prog_1_method_20_code 12 = .ok (.getfield 21, 3) := by decide +kernel
theorem d_F_rowsOf_15 : decode prog_1_method_20_code 15 = .ok (.getfield 110, 3) := by decide +kernel
theorem d_F_rowsOf_18 : decode prog_1_method_20_code 18 = .ok (.iload_n 1, 1) := by decide +kernel
theorem d_F_rowsOf_19 : decode prog_1_method_20_code 19 = .ok (.invokevirtual 114, 3) := by decide +kernel
theorem d_F_rowsOf_22 : decode prog_1_method_20_code 22 = .ok (.ireturn, 1) := by decide +kernel
theorem d_F_scan_0 : decode prog_1_method_21_code 0 = .ok (.aload_n 0, 1) := by decide +kernel
theorem d_F_scan_1 : decode prog_1_method_21_code 1 = .ok (.getfield 12, 3) := by decide +kernel
theorem d_F_scan_4 : decode prog_1_method_21_code 4 = .ok (.iload_n 1, 1) := by decide +kernel
theorem d_F_scan_5 : decode prog_1_method_21_code 5 = .ok (.invokevirtual 123, 3) := by decide +kernel
theorem d_F_scan_8 : decode prog_1_method_21_code 8 = .ok (.invokestatic 97, 3) := by decide +kernel
theorem d_F_scan_11 : decode prog_1_method_21_code 11 = .ok (.aload_n 0, 1) := by decide +kernel
theorem d_F_scan_12 : decode prog_1_method_21_code 12 = .ok (.getfield 66, 3) := by decide +kernel
theorem d_F_scan_15 : decode prog_1_method_21_code 15 = .ok (.getfield 228, 3) := by decide +kernel
theorem d_F_scan_18 : decode prog_1_method_21_code 18 = .ok (.bipush 6, 2) := by decide +kernel
theorem d_F_scan_20 : decode prog_1_method_21_code 20 = .ok (.if_icmp .ge 30, 3) := by decide +kernel
theorem d_F_scan_23 : decode prog_1_method_21_code 23 = .ok (.aload_n 0, 1) := by decide +kernel
theorem d_F_scan_24 : decode prog_1_method_21_code 24 = .ok (.getfield 66, 3) := by decide +kernel
theorem d_F_scan_27 : decode prog_1_method_21_code 27 = .ok (.getfield 230, 3) := by decide +kernel
theorem d_F_scan_30 : decode prog_1_method_21_code 30 = .ok (.bipush 12, 2) := by decide +kernel
theorem d_F_scan_32 : decode prog_1_method_21_code 32 = .ok (.if_icmp .ge 18, 3) := by decide +kernel
theorem d_F_scan_35 : decode prog_1_method_21_code 35 = .ok (.aload_n 0, 1) := by decide +kernel
theorem d_F_scan_36 : decode prog_1_method_21_code 36 = .ok (.getfield 66, 3) := by decide +kernel
theorem d_F_scan_39 : decode prog_1_method_21_code 39 = .ok (.getfield 232, 3) := by decide +kernel
theorem d_F_scan_42 : decode prog_1_method_21_code 42 = .ok (.iconst 3, 1) := by decide +kernel
theorem d_F_scan_43 : decode prog_1_method_21_code 43 = .ok (.if_icmp .ge 7, 3) := by decide +kernel
theorem d_F_scan_46 : decode prog_1_method_21_code 46 = .ok (.iconst 1, 1) := by decide +kernel
theorem d_F_scan_47 : decode prog_1_method_21_code 47 = .ok (.goto 4, 3) := by decide +kernel
theorem d_F_scan_50 : decode prog_1_method_21_code 50 = .ok (.iconst 0, 1) := by decide +kernel
theorem d_F_scan_51 : decode prog_1_method_21_code 51 = .ok (.invokestatic 82, 3) := by decide +kernel
theorem d_F_scan_54 : decode prog_1_method_21_code 54 = .ok (.aload_n 0, 1) := by decide +kernel
theorem d_F_scan_55 : decode prog_1_method_21_code 55 = .ok (.getfield 66, 3) := by decide +kernel
theorem d_F_scan_58 : decode prog_1_method_21_code 58 = .ok (.iload_n 1, 1) := by decide +kernel
theorem d_F_scan_59 : decode prog_1_method_21_code 59 = .ok (.aload_n 0, 1) := by decide +kernel
theorem d_F_scan_60 : decode prog_1_method_21_code 60 = .ok (.getfield 12, 3) := by decide +kernel
theorem d_F_scan_63 : decode prog_1_method_21_code 63 = .ok (.getfield 164, 3) := by decide +kernel
theorem d_F_scan_66 : decode prog_1_method_21_code 66 = .ok (.iload_n 1, 1) := by decide +kernel
theorem d_F_scan_67 : decode prog_1_method_21_code 67 = .ok (.iaload, 1) := by decide +kernel
theorem d_F_scan_68 : decode prog_1_method_21_code 68 = .ok (.invokevirtual 235, 3) := by decide +kernel
theorem d_F_scan_71 : decode prog_1_method_21_code 71 = .ok (.aload_n 0, 1) := by decide +kernel
theorem d_F_scan_72 : decode prog_1_method_21_code 72 = .ok (.getfield 66, 3) := by decide +kernel
theorem d_F_scan_75 : decode prog_1_method_21_code 75 = .ok (.getfield 228, 3) := by decide +kernel
theorem d_F_scan_78 : decode prog_1_method_21_code 78 = .ok (.ireturn, 1) := by decide +kernel
theorem d_F_filter_0 : decode prog_1_method_22_code 0 = .ok (.aload_n 0, 1) := by decide +kernel
theorem d_F_filter_1 : decode prog_1_method_22_code 1 = .ok (.getfield 66, 3) := by decide +kernel
theorem d_F_filter_4 : decode prog_1_method_22_code 4 = .ok (.iconst 1, 1) := by decide +kernel
theorem d_F_filter_5 : decode prog_1_method_22_code 5 = .ok (.invokevirtual 238, 3) := by decide +kernel
theorem d_F_filter_8 : decode prog_1_method_22_code 8 = .ok (.invokestatic 82, 3) := by decide +kernel
theorem d_F_filter_11 : decode prog_1_method_22_code 11 = .ok (.iload_n 1, 1) := by decide +kernel
theorem d_F_filter_12 : decode prog_1_method_22_code 12 = .ok (.ifCond .lt 18, 3) := by decide +kernel
theorem d_F_filter_15 : decode prog_1_method_22_code 15 = .ok (.iload_n 1, 1) := by decide +kernel
theorem d_F_filter_16 : decode prog_1_method_22_code 16 = .ok (.aload_n 0, 1) := by decide +kernel
theorem d_F_filter_17 : decode prog_1_method_22_code 17 = .ok (.getfield 66, 3) := by decide +kernel
theorem d_F_filter_20 : decode prog_1_method_22_code 20 = .ok (.invokevirtual 241, 3) := by decide +kernel
theorem d_F_filter_23 : decode prog_1_method_22_code 23 = .ok (.if_icmp .ge 7, 3) := by decide +kernel
theorem d_F_filter_26 : decode prog_1_method_22_code 26 = .ok (.iconst 1, 1) := by decide +kernel
theorem d_F_filter_27 : decode prog_1_method_22_code 27 = .ok (.goto 4, 3) := by decide +kernel
theorem d_F_filter_30 : decode prog_1_method_22_code 30 = .ok (.iconst 0, 1) := by decide +kernel
theorem d_F_filter_31 : decode prog_1_method_22_code 31 = .ok (.invokestatic 97, 3) := by decide +kernel
theorem d_F_filter_34 : decode prog_1_method_22_code 34 = .ok (.iload_n 2, 1) := by decide +kernel
theorem d_F_filter_35 : decode prog_1_method_22_code 35 = .ok (.invokestatic 100, 3) := by decide +kernel
theorem d_F_filter_38 : decode prog_1_method_22_code 38 = .ok (.ifCond .eq 20, 3) := by decide +kernel
theorem d_F_filter_41 : decode prog_1_method_22_code 41 = .ok (.iload_n 3, 1) := by decide +kernel
theorem d_F_filter_42 : decode prog_1_method_22_code 42 = .ok (.invokestatic 104, 3) := by decide +kernel
theorem d_F_filter_45 : decode prog_1_method_22_code 45 = .ok (.ifCond .ne 9, 3) := by decide +kernel
theorem d_F_filter_48 : decode prog_1_method_22_code 48 = .ok (.iload_n 3, 1) := by decide +kernel
theorem d_F_filter_49 : decode prog_1_method_22_code 49 = .ok (.ldc 153, 2) := by decide +kernel
theorem d_F_filter_51 : decode prog_1_method_22_code 51 = .ok (.if_icmp .ne 7, 3) := by decide +kernel
theorem d_F_filter_54 : decode prog_1_method_22_code 54 = .ok (.iconst 1, 1) := by decide +kernel
theorem d_F_filter_55 : decode prog_1_method_22_code 55 = .ok (.goto 4, 3) := by decide +kernel
theorem d_F_filter_58 : decode prog_1_method_22_code 58 = .ok (.iconst 0, 1) := by decide +kernel
theorem d_F_filter_59 : decode prog_1_method_22_code 59 = .ok (.invokestatic 70, 3) := by decide +kernel
theorem d_F_filter_62 : decode prog_1_method_22_code 62 = .ok (.aload_n 0, 1) := by decide +kernel
theorem d_F_filter_63 : decode prog_1_method_22_code 63 = .ok (.getfield 66, 3) := by decide +kernel
theorem d_F_filter_66 : decode prog_1_method_22_code 66 = .ok (.iconst 1, 1) := by decide +kernel
theorem d_F_filter_67 : decode prog_1_method_22_code 67 = .ok (.aload_n 0, 1) := by decide +kernel
theorem d_F_filter_68 : decode prog_1_method_22_code 68 = .ok (.getfield 66, 3) := by decide +kernel
theorem d_F_filter_71 : decode prog_1_method_22_code 71 = .ok (.invokevirtual 241, 3) := by decide +kernel
theorem d_F_filter_74 : decode prog_1_method_22_code 74 = .ok (.iload_n 1, 1) := by decide +kernel
theorem d_F_filter_75 : decode prog_1_method_22_code 75 = .ok (.iload_n 2, 1) := by decide +kernel
theorem d_F_filter_76 : decode prog_1_method_22_code 76 = .ok (.iload_n 3, 1) := by decide +kernel
theorem d_F_filter_77 : decode prog_1_method_22_code 77 = .ok (.iload 4, 2) := by decide +kernel
theorem d_F_filter_79 : decode prog_1_method_22_code 79 = .ok (.ifCond .eq 7, 3) := by decide +kernel
theorem d_F_filter_82 : decode prog_1_method_22_code 82 = .ok (.iconst 1, 1) := by decide +kernel
theorem d_F_filter_83 : decode prog_1_method_22_code 83 = .ok (.goto 4, 3) := by decide +kernel
theorem d_F_filter_86 : decode prog_1_method_22_code 86 = .ok (.iconst 0, 1) := by decide +kernel
theorem d_F_filter_87 : decode prog_1_method_22_code 87 = .ok (.invokevirtual 244, 3) := by decide +kernel
theorem d_F_filter_90 : decode prog_1_method_22_code 90 = .ok (.aload_n 0, 1) := by decide +kernel
theorem d_F_filter_91 : decode prog_1_method_22_code 91 = .ok (.getfield 66, 3) := by decide +kernel
theorem d_F_filter_94 : decode prog_1_method_22_code 94 = .ok (.getfield 228, 3) := by decide +kernel
theorem d_F_filter_97 : decode prog_1_method_22_code 97 = .ok (.ireturn, 1) := by decide +kernel
theorem d_F_filterColumns_0 : decode prog_1_method_23_code 0 = .ok (.aload_n 0, 1) := by decide +kernel
theorem d_F_filterColumns_1 : decode prog_1_method_23_code 1 = .ok (.getfield 66, 3) := by decide +kernel
theorem d_F_filterColumns_4 : decode prog_1_method_23_code 4 = .ok (.iconst 1, 1) := by decide +kernel
theorem d_F_filterColumns_5 : decode prog_1_method_23_code 5 = .ok (.invokevirtual 238, 3) := by decide +kernel
theorem d_F_filterColumns_8 : decode prog_1_method_23_code 8 = .ok (.invokestatic 82, 3) := by decide +kernel
theorem d_F_filterColumns_11 : decode prog_1_method_23_code 11 = .ok (.aload_n 0, 1) := by decide +kernel
theorem d_F_filterColumns_12 : decode prog_1_method_23_code 12 = .ok (.getfield 66, 3) := by decide +kernel
theorem d_F_filterColumns_15 : decode prog_1_method_23_code 15 = .ok (.invokevirtual 241, 3) := by decide +kernel
theorem d_F_filterColumns_18 : decode prog_1_method_23_code 18 = .ok (.istore 5, 2) := by decide +kernel
theorem d_F_filterColumns_20 : decode prog_1_method_23_code 20 = .ok (.iload_n 1, 1) := by decide +kernel
theorem d_F_filterColumns_21 : decode prog_1_method_23_code 21 = .ok (.ifCond .lt 23, 3) := by decide +kernel
theorem d_F_filterColumns_24 : decode prog_1_method_23_code 24 = .ok (.iload_n 1, 1) := by decide +kernel
theorem d_F_filterColumns_25 : decode prog_1_method_23_code 25 = .ok (.iload 5, 2) := by decide +kernel
theorem d_F_filterColumns_27 : decode prog_1_method_23_code 27 = .ok (.if_icmp .ge 17, 3) := by decide +kernel
theorem d_F_filterColumns_30 : decode prog_1_method_23_code 30 = .ok (.iload_n 3, 1) := by decide +kernel
theorem d_F_filterColumns_31 : decode prog_1_method_23_code 31 = .ok (.ifCond .lt 13, 3) := by decide +kernel
theorem d_F_filterColumns_34 : decode prog_1_method_23_code 34 = .ok (.iload_n 3, 1) := by decide +kernel
theorem d_F_filterColumns_35 : decode prog_1_method_23_code 35 = .ok (.iload 5, 2) := by decide +kernel
theorem d_F_filterColumns_37 : decode prog_1_method_23_code 37 = .ok (.if_icmp .ge 7, 3) := by decide +kernel
theorem d_F_filterColumns_40 : decode prog_1_method_23_code 40 = .ok (.iconst 1, 1) := by decide +kernel
theorem d_F_filterColumns_41 : decode prog_1_method_23_code 41 = .ok (.goto 4, 3) := by decide +kernel
theorem d_F_filterColumns_44 : decode prog_1_method_23_code 44 = .ok (.iconst 0, 1) := by decide +kernel
theorem d_F_filterColumns_45 : decode prog_1_method_23_code 45 = .ok (.invokestatic 97, 3) := by decide +kernel
theorem d_F_filterColumns_48 : decode prog_1_method_23_code 48 = .ok (.iload_n 2, 1) := by decide +kernel
theorem d_F_filterColumns_49 : decode prog_1_method_23_code 49 = .ok (.invokestatic 100, 3) := by decide +kernel
theorem d_F_filterColumns_52 : decode prog_1_method_23_code 52 = .ok (.invokestatic 70, 3) := by decide +kernel
theorem d_F_filterColumns_55 : decode prog_1_method_23_code 55 = .ok (.aload_n 0, 1) := by decide +kernel
theorem d_F_filterColumns_56 : decode prog_1_method_23_code 56 = .ok (.getfield 66, 3) := by decide +kernel
theorem d_F_filterColumns_59 : decode prog_1_method_23_code 59 = .ok (.iconst 2, 1) := by decide +kernel
theorem d_F_filterColumns_60 : decode prog_1_method_23_code 60 = .ok (.iload 5, 2) := by decide +kernel
theorem d_F_filterColumns_62 : decode prog_1_method_23_code 62 = .ok (.iload_n 1, 1) := by decide +kernel
theorem d_F_filterColumns_63 : decode prog_1_method_23_code 63 = .ok (.iload_n 2, 1) := by decide +kernel
theorem d_F_filterColumns_64 : decode prog_1_method_23_code 64 = .ok (.iload_n 3, 1) := by decide +kernel
theorem d_F_filterColumns_65 : decode prog_1_method_23_code 65 = .ok (.iload 4, 2) := by decide +kernel
theorem d_F_filterColumns_67 : decode prog_1_method_23_code 67 = .ok (.ifCond .eq 7, 3) := by decide +kernel
theorem d_F_filterColumns_70 : decode prog_1_method_23_code 70 = .ok (.iconst 1, 1) := by decide +kernel
theorem d_F_filterColumns_71 : decode prog_1_method_23_code 71 = .ok (.goto 4, 3) := by decide +kernel
theorem d_F_filterColumns_74 : decode prog_1_method_23_code 74 = .ok (.iconst 0, 1) := by decide +kernel
theorem d_F_filterColumns_75 : decode prog_1_method_23_code 75 = .ok (.invokevirtual 244, 3) := by decide +kernel
theorem d_F_filterColumns_78 : decode prog_1_method_23_code 78 = .ok (.aload_n 0, 1) := by decide +kernel
theorem d_F_filterColumns_79 : decode prog_1_method_23_code 79 = .ok (.getfield 66, 3) := by decide +kernel
theorem d_F_filterColumns_82 : decode prog_1_method_23_code 82 = .ok (.getfield 228, 3) := by decide +kernel
theorem d_F_filterColumns_85 : decode prog_1_method_23_code 85 = .ok (.ireturn, 1) := by decide +kernel
theorem d_F_ratio_0 : decode prog_1_method_24_code 0 = .ok (.aload_n 0, 1) := by decide +kernel
theorem d_F_ratio_1 : decode prog_1_method_24_code 1 = .ok (.getfield 66, 3) := by decide +kernel
theorem d_F_ratio_4 : decode prog_1_method_24_code 4 = .ok (.iconst 1, 1) := by decide +kernel
theorem d_F_ratio_5 : decode prog_1_method_24_code 5 = .ok (.invokevirtual 238, 3) := by decide +kernel
theorem d_F_ratio_8 : decode prog_1_method_24_code 8 = .ok (.invokestatic 82, 3) := by decide +kernel
theorem d_F_ratio_11 : decode prog_1_method_24_code 11 = .ok (.aload_n 0, 1) := by decide +kernel
theorem d_F_ratio_12 : decode prog_1_method_24_code 12 = .ok (.getfield 66, 3) := by decide +kernel
theorem d_F_ratio_15 : decode prog_1_method_24_code 15 = .ok (.invokevirtual 241, 3) := by decide +kernel
theorem d_F_ratio_18 : decode prog_1_method_24_code 18 = .ok (.istore 4, 2) := by decide +kernel
theorem d_F_ratio_20 : decode prog_1_method_24_code 20 = .ok (.iload_n 1, 1) := by decide +kernel
theorem d_F_ratio_21 : decode prog_1_method_24_code 21 = .ok (.ifCond .lt 23, 3) := by decide +kernel
theorem d_F_ratio_24 : decode prog_1_method_24_code 24 = .ok (.iload_n 1, 1) := by decide +kernel
theorem d_F_ratio_25 : decode prog_1_method_24_code 25 = .ok (.iload 4, 2) := by decide +kernel
theorem d_F_ratio_27 : decode prog_1_method_24_code 27 = .ok (.if_icmp .ge 17, 3) := by decide +kernel
theorem d_F_ratio_30 : decode prog_1_method_24_code 30 = .ok (.iload_n 2, 1) := by decide +kernel
theorem d_F_ratio_31 : decode prog_1_method_24_code 31 = .ok (.ifCond .lt 13, 3) := by decide +kernel
theorem d_F_ratio_34 : decode prog_1_method_24_code 34 = .ok (.iload_n 2, 1) := by decide +kernel
theorem d_F_ratio_35 : decode prog_1_method_24_code 35 = .ok (.iload 4, 2) := by decide +kernel
theorem d_F_ratio_37 : decode prog_1_method_24_code 37 = .ok (.if_icmp .ge 7, 3) := by decide +kernel
theorem d_F_ratio_40 : decode prog_1_method_24_code 40 = .ok (.iconst 1, 1) := by decide +kernel
theorem d_F_ratio_41 : decode prog_1_method_24_code 41 = .ok (.goto 4, 3) := by decide +kernel
theorem d_F_ratio_44 : decode prog_1_method_24_code 44 = .ok (.iconst 0, 1) := by decide +kernel
theorem d_F_ratio_45 : decode prog_1_method_24_code 45 = .ok (.invokestatic 97, 3) := by decide +kernel
theorem d_F_ratio_48 : decode prog_1_method_24_code 48 = .ok (.iload_n 3, 1) := by decide +kernel
theorem d_F_ratio_49 : decode prog_1_method_24_code 49 = .ok (.invokestatic 104, 3) := by decide +kernel
theorem d_F_ratio_52 : decode prog_1_method_24_code 52 = .ok (.invokestatic 70, 3) := by decide +kernel
theorem d_F_ratio_55 : decode prog_1_method_24_code 55 = .ok (.aload_n 0, 1) := by decide +kernel
theorem d_F_ratio_56 : decode prog_1_method_24_code 56 = .ok (.getfield 66, 3) := by decide +kernel
theorem d_F_ratio_59 : decode prog_1_method_24_code 59 = .ok (.iconst 3, 1) := by decide +kernel
theorem d_F_ratio_60 : decode prog_1_method_24_code 60 = .ok (.iload 4, 2) := by decide +kernel
theorem d_F_ratio_62 : decode prog_1_method_24_code 62 = .ok (.iload_n 1, 1) := by decide +kernel
theorem d_F_ratio_63 : decode prog_1_method_24_code 63 = .ok (.iload_n 2, 1) := by decide +kernel
theorem d_F_ratio_64 : decode prog_1_method_24_code 64 = .ok (.iload_n 3, 1) := by decide +kernel
theorem d_F_ratio_65 : decode prog_1_method_24_code 65 = .ok (.iconst 0, 1) := by decide +kernel
theorem d_F_ratio_66 : decode prog_1_method_24_code 66 = .ok (.invokevirtual 244, 3) := by decide +kernel
theorem d_F_ratio_69 : decode prog_1_method_24_code 69 = .ok (.aload_n 0, 1) := by decide +kernel
theorem d_F_ratio_70 : decode prog_1_method_24_code 70 = .ok (.getfield 66, 3) := by decide +kernel
theorem d_F_ratio_73 : decode prog_1_method_24_code 73 = .ok (.getfield 228, 3) := by decide +kernel
theorem d_F_ratio_76 : decode prog_1_method_24_code 76 = .ok (.ireturn, 1) := by decide +kernel
theorem d_F_join_0 : decode prog_1_method_25_code 0 = .ok (.aload_n 0, 1) := by decide +kernel
theorem d_F_join_1 : decode prog_1_method_25_code 1 = .ok (.getfield 66, 3) := by decide +kernel
theorem d_F_join_4 : decode prog_1_method_25_code 4 = .ok (.iconst 2, 1) := by decide +kernel
theorem d_F_join_5 : decode prog_1_method_25_code 5 = .ok (.invokevirtual 238, 3) := by decide +kernel
theorem d_F_join_8 : decode prog_1_method_25_code 8 = .ok (.invokestatic 82, 3) := by decide +kernel
theorem d_F_join_11 : decode prog_1_method_25_code 11 = .ok (.iload_n 1, 1) := by decide +kernel
theorem d_F_join_12 : decode prog_1_method_25_code 12 = .ok (.iconst 3, 1) := by decide +kernel
theorem d_F_join_13 : decode prog_1_method_25_code 13 = .ok (.if_icmp .eq 8, 3) := by decide +kernel
theorem d_F_join_16 : decode prog_1_method_25_code 16 = .ok (.iload_n 1, 1) := by decide +kernel
theorem d_F_join_17 : decode prog_1_method_25_code 17 = .ok (.iconst 4, 1) := by decide +kernel
theorem d_F_join_18 : decode prog_1_method_25_code 18 = .ok (.if_icmp .ne 7, 3) := by decide +kernel
theorem d_F_join_21 : decode prog_1_method_25_code 21 = .ok (.iconst 1, 1) := by decide +kernel
theorem d_F_join_22 : decode prog_1_method_25_code 22 = .ok (.goto 4, 3) := by decide +kernel
theorem d_F_join_25 : decode prog_1_method_25_code 25 = .ok (.iconst 0, 1) := by decide +kernel
theorem d_F_join_26 : decode prog_1_method_25_code 26 = .ok (.istore 4, 2) := by decide +kernel
theorem d_F_join_28 : decode prog_1_method_25_code 28 = .ok (.aload_n 0, 1) := by decide +kernel
theorem d_F_join_29 : decode prog_1_method_25_code 29 = .ok (.getfield 66, 3) := by decide +kernel
theorem d_F_join_32 : decode prog_1_method_25_code 32 = .ok (.invokevirtual 248, 3) := by decide +kernel
theorem d_F_join_35 : decode prog_1_method_25_code 35 = .ok (.istore 5, 2) := by decide +kernel
theorem d_F_join_37 : decode prog_1_method_25_code 37 = .ok (.aload_n 0, 1) := by decide +kernel
theorem d_F_join_38 : decode prog_1_method_25_code 38 = .ok (.getfield 66, 3) := by decide +kernel
theorem d_F_join_41 : decode prog_1_method_25_code 41 = .ok (.invokevirtual 241, 3) := by decide +kernel
theorem d_F_join_44 : decode prog_1_method_25_code 44 = .ok (.istore 6, 2) := by decide +kernel
theorem d_F_join_46 : decode prog_1_method_25_code 46 = .ok (.iload 4, 2) := by decide +kernel
theorem d_F_join_48 : decode prog_1_method_25_code 48 = .ok (.ifCond .ne 13, 3) := by decide +kernel
theorem d_F_join_51 : decode prog_1_method_25_code 51 = .ok (.iload 5, 2) := by decide +kernel
theorem d_F_join_53 : decode prog_1_method_25_code 53 = .ok (.iload 6, 2) := by decide +kernel
theorem d_F_join_55 : decode prog_1_method_25_code 55 = .ok (.iadd, 1) := by decide +kernel
theorem d_F_join_56 : decode prog_1_method_25_code 56 = .ok (.bipush 10, 2) := by decide +kernel
theorem d_F_join_58 : decode prog_1_method_25_code 58 = .ok (.if_icmp .gt 7, 3) := by decide +kernel
theorem d_F_join_61 : decode prog_1_method_25_code 61 = .ok (.iconst 1, 1) := by decide +kernel
theorem d_F_join_62 : decode prog_1_method_25_code 62 = .ok (.goto 4, 3) := by decide +kernel
theorem d_F_join_65 : decode prog_1_method_25_code 65 = .ok (.iconst 0, 1) := by decide +kernel
theorem d_F_join_66 : decode prog_1_method_25_code 66 = .ok (.invokestatic 82, 3) := by decide +kernel
theorem d_F_join_69 : decode prog_1_method_25_code 69 = .ok (.iload_n 2, 1) := by decide +kernel
theorem d_F_join_70 : decode prog_1_method_25_code 70 = .ok (.ifCond .lt 23, 3) := by decide +kernel
theorem d_F_join_73 : decode prog_1_method_25_code 73 = .ok (.iload_n 2, 1) := by decide +kernel
theorem d_F_join_74 : decode prog_1_method_25_code 74 = .ok (.iload 5, 2) := by decide +kernel
theorem d_F_join_76 : decode prog_1_method_25_code 76 = .ok (.if_icmp .ge 17, 3) := by decide +kernel
theorem d_F_join_79 : decode prog_1_method_25_code 79 = .ok (.iload_n 3, 1) := by decide +kernel
theorem d_F_join_80 : decode prog_1_method_25_code 80 = .ok (.ifCond .lt 13, 3) := by decide +kernel
theorem d_F_join_83 : decode prog_1_method_25_code 83 = .ok (.iload_n 3, 1) := by decide +kernel
theorem d_F_join_84 : decode prog_1_method_25_code 84 = .ok (.iload 6, 2) := by decide +kernel
theorem d_F_join_86 : decode prog_1_method_25_code 86 = .ok (.if_icmp .ge 7, 3) := by decide +kernel
theorem d_F_join_89 : decode prog_1_method_25_code 89 = .ok (.iconst 1, 1) := by decide +kernel
theorem d_F_join_90 : decode prog_1_method_25_code 90 = .ok (.goto 4, 3) := by decide +kernel
theorem d_F_join_93 : decode prog_1_method_25_code 93 = .ok (.iconst 0, 1) := by decide +kernel
theorem d_F_join_94 : decode prog_1_method_25_code 94 = .ok (.invokestatic 97, 3) := by decide +kernel
theorem d_F_join_97 : decode prog_1_method_25_code 97 = .ok (.iload_n 1, 1) := by decide +kernel
theorem d_F_join_98 : decode prog_1_method_25_code 98 = .ok (.ifCond .lt 12, 3) := by decide +kernel
theorem d_F_join_101 : decode prog_1_method_25_code 101 = .ok (.iload_n 1, 1) := by decide +kernel
theorem d_F_join_102 : decode prog_1_method_25_code 102 = .ok (.iconst 4, 1) := by decide +kernel
theorem d_F_join_103 : decode prog_1_method_25_code 103 = .ok (.if_icmp .gt 7, 3) := by decide +kernel
theorem d_F_join_106 : decode prog_1_method_25_code 106 = .ok (.iconst 1, 1) := by decide +kernel
theorem d_F_join_107 : decode prog_1_method_25_code 107 = .ok (.goto 4, 3) := by decide +kernel
theorem d_F_join_110 : decode prog_1_method_25_code 110 = .ok (.iconst 0, 1) := by decide +kernel
theorem d_F_join_111 : decode prog_1_method_25_code 111 = .ok (.invokestatic 70, 3) := by decide +kernel
theorem d_F_join_114 : decode prog_1_method_25_code 114 = .ok (.aload_n 0, 1) := by decide +kernel
theorem d_F_join_115 : decode prog_1_method_25_code 115 = .ok (.getfield 66, 3) := by decide +kernel
theorem d_F_join_118 : decode prog_1_method_25_code 118 = .ok (.iconst 4, 1) := by decide +kernel
theorem d_F_join_119 : decode prog_1_method_25_code 119 = .ok (.iload 4, 2) := by decide +kernel
theorem d_F_join_121 : decode prog_1_method_25_code 121 = .ok (.ifCond .eq 8, 3) := by decide +kernel
theorem d_F_join_124 : decode prog_1_method_25_code 124 = .ok (.iload 5, 2) := by decide +kernel
theorem d_F_join_126 : decode prog_1_method_25_code 126 = .ok (.goto 8, 3) := by decide +kernel
theorem d_F_join_129 : decode prog_1_method_25_code 129 = .ok (.iload 5, 2) := by decide +kernel
theorem d_F_join_131 : decode prog_1_method_25_code 131 = .ok (.iload 6, 2) := by decide +kernel
theorem d_F_join_133 : decode prog_1_method_25_code 133 = .ok (.iadd, 1) := by decide +kernel
theorem d_F_join_134 : decode prog_1_method_25_code 134 = .ok (.iload_n 1, 1) := by decide +kernel
theorem d_F_join_135 : decode prog_1_method_25_code 135 = .ok (.iload_n 2, 1) := by decide +kernel
theorem d_F_join_136 : decode prog_1_method_25_code 136 = .ok (.iload_n 3, 1) := by decide +kernel
theorem d_F_join_137 : decode prog_1_method_25_code 137 = .ok (.invokevirtual 251, 3) := by decide +kernel
theorem d_F_join_140 : decode prog_1_method_25_code 140 = .ok (.aload_n 0, 1) := by decide +kernel
theorem d_F_join_141 : decode prog_1_method_25_code 141 = .ok (.getfield 66, 3) := by decide +kernel
theorem d_F_join_144 : decode prog_1_method_25_code 144 = .ok (.getfield 228, 3) := by decide +kernel
theorem d_F_join_147 : decode prog_1_method_25_code 147 = .ok (.ireturn, 1) := by decide +kernel
theorem d_F_keep_0 : decode prog_1_method_26_code 0 = .ok (.aload_n 0, 1) := by decide +kernel
theorem d_F_keep_1 : decode prog_1_method_26_code 1 = .ok (.getfield 66, 3) := by decide +kernel
theorem d_F_keep_4 : decode prog_1_method_26_code 4 = .ok (.iconst 1, 1) := by decide +kernel
theorem d_F_keep_5 : decode prog_1_method_26_code 5 = .ok (.invokevirtual 238, 3) := by decide +kernel
theorem d_F_keep_8 : decode prog_1_method_26_code 8 = .ok (.invokestatic 82, 3) := by decide +kernel
theorem d_F_keep_11 : decode prog_1_method_26_code 11 = .ok (.iload_n 1, 1) := by decide +kernel
theorem d_F_keep_12 : decode prog_1_method_26_code 12 = .ok (.ifCond .eq 19, 3) := by decide +kernel
theorem d_F_keep_15 : decode prog_1_method_26_code 15 = .ok (.iload_n 1, 1) := by decide +kernel
theorem d_F_keep_16 : decode prog_1_method_26_code 16 = .ok (.aload_n 0, 1) := by decide +kernel
theorem d_F_keep_17 : decode prog_1_method_26_code 17 = .ok (.getfield 66, 3) := by decide +kernel
theorem d_F_keep_20 : decode prog_1_method_26_code 20 = .ok (.invokevirtual 241, 3) := by decide +kernel
theorem d_F_keep_23 : decode prog_1_method_26_code 23 = .ok (.iushr, 1) := by decide +kernel
theorem d_F_keep_24 : decode prog_1_method_26_code 24 = .ok (.ifCond .ne 7, 3) := by decide +kernel
theorem d_F_keep_27 : decode prog_1_method_26_code 27 = .ok (.iconst 1, 1) := by decide +kernel
theorem d_F_keep_28 : decode prog_1_method_26_code 28 = .ok (.goto 4, 3) := by decide +kernel
theorem d_F_keep_31 : decode prog_1_method_26_code 31 = .ok (.iconst 0, 1) := by decide +kernel
theorem d_F_keep_32 : decode prog_1_method_26_code 32 = .ok (.invokestatic 70, 3) := by decide +kernel
theorem d_F_keep_35 : decode prog_1_method_26_code 35 = .ok (.aload_n 0, 1) := by decide +kernel
theorem d_F_keep_36 : decode prog_1_method_26_code 36 = .ok (.getfield 66, 3) := by decide +kernel
theorem d_F_keep_39 : decode prog_1_method_26_code 39 = .ok (.iconst 5, 1) := by decide +kernel
theorem d_F_keep_40 : decode prog_1_method_26_code 40 = .ok (.iload_n 1, 1) := by decide +kernel
theorem d_F_keep_41 : decode prog_1_method_26_code 41 = .ok (.invokestatic 255, 3) := by decide +kernel
theorem d_F_keep_44 : decode prog_1_method_26_code 44 = .ok (.iload_n 1, 1) := by decide +kernel
theorem d_F_keep_45 : decode prog_1_method_26_code 45 = .ok (.iconst 0, 1) := by decide +kernel
theorem d_F_keep_46 : decode prog_1_method_26_code 46 = .ok (.iconst 0, 1) := by decide +kernel
theorem d_F_keep_47 : decode prog_1_method_26_code 47 = .ok (.iconst 0, 1) := by decide +kernel
theorem d_F_keep_48 : decode prog_1_method_26_code 48 = .ok (.invokevirtual 244, 3) := by decide +kernel
theorem d_F_keep_51 : decode prog_1_method_26_code 51 = .ok (.aload_n 0, 1) := by decide +kernel
theorem d_F_keep_52 : decode prog_1_method_26_code 52 = .ok (.getfield 66, 3) := by decide +kernel
theorem d_F_keep_55 : decode prog_1_method_26_code 55 = .ok (.getfield 228, 3) := by decide +kernel
theorem d_F_keep_58 : decode prog_1_method_26_code 58 = .ok (.ireturn, 1) := by decide +kernel
theorem d_F_group_0 : decode prog_1_method_27_code 0 = .ok (.aload_n 0, 1) := by decide +kernel
theorem d_F_group_1 : decode prog_1_method_27_code 1 = .ok (.getfield 66, 3) := by decide +kernel
theorem d_F_group_4 : decode prog_1_method_27_code 4 = .ok (.iconst 1, 1) := by decide +kernel
theorem d_F_group_5 : decode prog_1_method_27_code 5 = .ok (.invokevirtual 238, 3) := by decide +kernel
theorem d_F_group_8 : decode prog_1_method_27_code 8 = .ok (.invokestatic 82, 3) := by decide +kernel
theorem d_F_group_11 : decode prog_1_method_27_code 11 = .ok (.aload_n 0, 1) := by decide +kernel
theorem d_F_group_12 : decode prog_1_method_27_code 12 = .ok (.getfield 66, 3) := by decide +kernel
theorem d_F_group_15 : decode prog_1_method_27_code 15 = .ok (.invokevirtual 241, 3) := by decide +kernel
theorem d_F_group_18 : decode prog_1_method_27_code 18 = .ok (.istore 4, 2) := by decide +kernel
theorem d_F_group_20 : decode prog_1_method_27_code 20 = .ok (.iload_n 1, 1) := by decide +kernel
theorem d_F_group_21 : decode prog_1_method_27_code 21 = .ok (.iconst (-1), 1) := by decide +kernel
theorem d_F_group_22 : decode prog_1_method_27_code 22 = .ok (.if_icmp .eq 13, 3) := by decide +kernel
theorem d_F_group_25 : decode prog_1_method_27_code 25 = .ok (.iload_n 1, 1) := by decide +kernel
theorem d_F_group_26 : decode prog_1_method_27_code 26 = .ok (.ifCond .lt 13, 3) := by decide +kernel
theorem d_F_group_29 : decode prog_1_method_27_code 29 = .ok (.iload_n 1, 1) := by decide +kernel
theorem d_F_group_30 : decode prog_1_method_27_code 30 = .ok (.iload 4, 2) := by decide +kernel
theorem d_F_group_32 : decode prog_1_method_27_code 32 = .ok (.if_icmp .ge 7, 3) := by decide +kernel
theorem d_F_group_35 : decode prog_1_method_27_code 35 = .ok (.iconst 1, 1) := by decide +kernel
theorem d_F_group_36 : decode prog_1_method_27_code 36 = .ok (.goto 4, 3) := by decide +kernel
theorem d_F_group_39 : decode prog_1_method_27_code 39 = .ok (.iconst 0, 1) := by decide +kernel
theorem d_F_group_40 : decode prog_1_method_27_code 40 = .ok (.invokestatic 97, 3) := by decide +kernel
theorem d_F_group_43 : decode prog_1_method_27_code 43 = .ok (.iload_n 2, 1) := by decide +kernel
theorem d_F_group_44 : decode prog_1_method_27_code 44 = .ok (.ifCond .eq 13, 3) := by decide +kernel
theorem d_F_group_47 : decode prog_1_method_27_code 47 = .ok (.iload_n 3, 1) := by decide +kernel
theorem d_F_group_48 : decode prog_1_method_27_code 48 = .ok (.ifCond .lt 13, 3) := by decide +kernel
theorem d_F_group_51 : decode prog_1_method_27_code 51 = .ok (.iload_n 3, 1) := by decide +kernel
theorem d_F_group_52 : decode prog_1_method_27_code 52 = .ok (.iload 4, 2) := by decide +kernel
theorem d_F_group_54 : decode prog_1_method_27_code 54 = .ok (.if_icmp .ge 7, 3) := by decide +kernel
theorem d_F_group_57 : decode prog_1_method_27_code 57 = .ok (.iconst 1, 1) := by decide +kernel
theorem d_F_group_58 : decode prog_1_method_27_code 58 = .ok (.goto 4, 3) := by decide +kernel
theorem d_F_group_61 : decode prog_1_method_27_code 61 = .ok (.iconst 0, 1) := by decide +kernel
theorem d_F_group_62 : decode prog_1_method_27_code 62 = .ok (.invokestatic 97, 3) := by decide +kernel
theorem d_F_group_65 : decode prog_1_method_27_code 65 = .ok (.iload_n 2, 1) := by decide +kernel
theorem d_F_group_66 : decode prog_1_method_27_code 66 = .ok (.ifCond .lt 12, 3) := by decide +kernel
theorem d_F_group_69 : decode prog_1_method_27_code 69 = .ok (.iload_n 2, 1) := by decide +kernel
theorem d_F_group_70 : decode prog_1_method_27_code 70 = .ok (.iconst 3, 1) := by decide +kernel
theorem d_F_group_71 : decode prog_1_method_27_code 71 = .ok (.if_icmp .gt 7, 3) := by decide +kernel
theorem d_F_group_74 : decode prog_1_method_27_code 74 = .ok (.iconst 1, 1) := by decide +kernel
theorem d_F_group_75 : decode prog_1_method_27_code 75 = .ok (.goto 4, 3) := by decide +kernel
theorem d_F_group_78 : decode prog_1_method_27_code 78 = .ok (.iconst 0, 1) := by decide +kernel
theorem d_F_group_79 : decode prog_1_method_27_code 79 = .ok (.invokestatic 70, 3) := by decide +kernel
theorem d_F_group_82 : decode prog_1_method_27_code 82 = .ok (.aload_n 0, 1) := by decide +kernel
theorem d_F_group_83 : decode prog_1_method_27_code 83 = .ok (.getfield 66, 3) := by decide +kernel
theorem d_F_group_86 : decode prog_1_method_27_code 86 = .ok (.bipush 6, 2) := by decide +kernel
theorem d_F_group_88 : decode prog_1_method_27_code 88 = .ok (.iconst 2, 1) := by decide +kernel
theorem d_F_group_89 : decode prog_1_method_27_code 89 = .ok (.iload_n 1, 1) := by decide +kernel
theorem d_F_group_90 : decode prog_1_method_27_code 90 = .ok (.iload_n 2, 1) := by decide +kernel
theorem d_F_group_91 : decode prog_1_method_27_code 91 = .ok (.iload_n 2, 1) := by decide +kernel
theorem d_F_group_92 : decode prog_1_method_27_code 92 = .ok (.ifCond .ne 7, 3) := by decide +kernel
theorem d_F_group_95 : decode prog_1_method_27_code 95 = .ok (.iconst 0, 1) := by decide +kernel
theorem d_F_group_96 : decode prog_1_method_27_code 96 = .ok (.goto 4, 3) := by decide +kernel
theorem d_F_group_99 : decode prog_1_method_27_code 99 = .ok (.iload_n 3, 1) := by decide +kernel
theorem d_F_group_100 : decode prog_1_method_27_code 100 = .ok (.iconst 0, 1) := by decide +kernel
theorem d_F_group_101 : decode prog_1_method_27_code 101 = .ok (.invokevirtual 244, 3) := by decide +kernel
theorem d_F_group_104 : decode prog_1_method_27_code 104 = .ok (.aload_n 0, 1) := by decide +kernel
theorem d_F_group_105 : decode prog_1_method_27_code 105 = .ok (.getfield 66, 3) := by decide +kernel
theorem d_F_group_108 : decode prog_1_method_27_code 108 = .ok (.getfield 228, 3) := by decide +kernel
theorem d_F_group_111 : decode prog_1_method_27_code 111 = .ok (.ireturn, 1) := by decide +kernel
theorem d_F_combine_0 : decode prog_1_method_28_code 0 = .ok (.aload_n 0, 1) := by decide +kernel
theorem d_F_combine_1 : decode prog_1_method_28_code 1 = .ok (.getfield 66, 3) := by decide +kernel
theorem d_F_combine_4 : decode prog_1_method_28_code 4 = .ok (.iconst 2, 1) := by decide +kernel
theorem d_F_combine_5 : decode prog_1_method_28_code 5 = .ok (.invokevirtual 238, 3) := by decide +kernel
theorem d_F_combine_8 : decode prog_1_method_28_code 8 = .ok (.ifCond .eq 24, 3) := by decide +kernel
theorem d_F_combine_11 : decode prog_1_method_28_code 11 = .ok (.aload_n 0, 1) := by decide +kernel
theorem d_F_combine_12 : decode prog_1_method_28_code 12 = .ok (.getfield 66, 3) := by decide +kernel
theorem d_F_combine_15 : decode prog_1_method_28_code 15 = .ok (.invokevirtual 248, 3) := by decide +kernel
theorem d_F_combine_18 : decode prog_1_method_28_code 18 = .ok (.aload_n 0, 1) := by decide +kernel
theorem d_F_combine_19 : decode prog_1_method_28_code 19 = .ok (.getfield 66, 3) := by decide +kernel
theorem d_F_combine_22 : decode prog_1_method_28_code 22 = .ok (.invokevirtual 241, 3) := by decide +kernel
theorem d_F_combine_25 : decode prog_1_method_28_code 25 = .ok (.if_icmp .ne 7, 3) := by decide +kernel
theorem d_F_combine_28 : decode prog_1_method_28_code 28 = .ok (.iconst 1, 1) := by decide +kernel
theorem d_F_combine_29 : decode prog_1_method_28_code 29 = .ok (.goto 4, 3) := by decide +kernel
theorem d_F_combine_32 : decode prog_1_method_28_code 32 = .ok (.iconst 0, 1) := by decide +kernel
theorem d_F_combine_33 : decode prog_1_method_28_code 33 = .ok (.invokestatic 82, 3) := by decide +kernel
theorem d_F_combine_36 : decode prog_1_method_28_code 36 = .ok (.iload_n 1, 1) := by decide +kernel
theorem d_F_combine_37 : decode prog_1_method_28_code 37 = .ok (.ifCond .lt 12, 3) := by decide +kernel
theorem d_F_combine_40 : decode prog_1_method_28_code 40 = .ok (.iload_n 1, 1) := by decide +kernel
theorem d_F_combine_41 : decode prog_1_method_28_code 41 = .ok (.iconst 2, 1) := by decide +kernel
theorem d_F_combine_42 : decode prog_1_method_28_code 42 = .ok (.if_icmp .gt 7, 3) := by decide +kernel
theorem d_F_combine_45 : decode prog_1_method_28_code 45 = .ok (.iconst 1, 1) := by decide +kernel
theorem d_F_combine_46 : decode prog_1_method_28_code 46 = .ok (.goto 4, 3) := by decide +kernel
theorem d_F_combine_49 : decode prog_1_method_28_code 49 = .ok (.iconst 0, 1) := by decide +kernel
theorem d_F_combine_50 : decode prog_1_method_28_code 50 = .ok (.invokestatic 70, 3) := by decide +kernel
theorem d_F_combine_53 : decode prog_1_method_28_code 53 = .ok (.aload_n 0, 1) := by decide +kernel
theorem d_F_combine_54 : decode prog_1_method_28_code 54 = .ok (.getfield 66, 3) := by decide +kernel
theorem d_F_combine_57 : decode prog_1_method_28_code 57 = .ok (.bipush 7, 2) := by decide +kernel
theorem d_F_combine_59 : decode prog_1_method_28_code 59 = .ok (.aload_n 0, 1) := by decide +kernel
theorem d_F_combine_60 : decode prog_1_method_28_code 60 = .ok (.getfield 66, 3) := by decide +kernel
theorem d_F_combine_63 : decode prog_1_method_28_code 63 = .ok (.invokevirtual 241, 3) := by decide +kernel
theorem d_F_combine_66 : decode prog_1_method_28_code 66 = .ok (.iload_n 1, 1) := by decide +kernel
theorem d_F_combine_67 : decode prog_1_method_28_code 67 = .ok (.iconst 0, 1) := by decide +kernel
theorem d_F_combine_68 : decode prog_1_method_28_code 68 = .ok (.iconst 0, 1) := by decide +kernel
theorem d_F_combine_69 : decode prog_1_method_28_code 69 = .ok (.invokevirtual 251, 3) := by decide +kernel
theorem d_F_combine_72 : decode prog_1_method_28_code 72 = .ok (.aload_n 0, 1) := by decide +kernel
theorem d_F_combine_73 : decode prog_1_method_28_code 73 = .ok (.getfield 66, 3) := by decide +kernel
theorem d_F_combine_76 : decode prog_1_method_28_code 76 = .ok (.getfield 228, 3) := by decide +kernel
theorem d_F_combine_79 : decode prog_1_method_28_code 79 = .ok (.ireturn, 1) := by decide +kernel
theorem d_F_query_0 : decode prog_1_method_30_code 0 = .ok (.aload_n 0, 1) := by decide +kernel
theorem d_F_query_1 : decode prog_1_method_30_code 1 = .ok (.getfield 66, 3) := by decide +kernel
theorem d_F_query_4 : decode prog_1_method_30_code 4 = .ok (.getfield 228, 3) := by decide +kernel
theorem d_F_query_7 : decode prog_1_method_30_code 7 = .ok (.iconst 1, 1) := by decide +kernel
theorem d_F_query_8 : decode prog_1_method_30_code 8 = .ok (.if_icmp .ne 19, 3) := by decide +kernel
theorem d_F_query_11 : decode prog_1_method_30_code 11 = .ok (.aload_n 0, 1) := by decide +kernel
theorem d_F_query_12 : decode prog_1_method_30_code 12 = .ok (.getfield 42, 3) := by decide +kernel
theorem d_F_query_15 : decode prog_1_method_30_code 15 = .ok (.invokevirtual 147, 3) := by decide +kernel
theorem d_F_query_18 : decode prog_1_method_30_code 18 = .ok (.bipush 20, 2) := by decide +kernel
theorem d_F_query_20 : decode prog_1_method_30_code 20 = .ok (.if_icmp .ge 7, 3) := by decide +kernel
theorem d_F_query_23 : decode prog_1_method_30_code 23 = .ok (.iconst 1, 1) := by decide +kernel
theorem d_F_query_24 : decode prog_1_method_30_code 24 = .ok (.goto 4, 3) := by decide +kernel
theorem d_F_query_27 : decode prog_1_method_30_code 27 = .ok (.iconst 0, 1) := by decide +kernel
theorem d_F_query_28 : decode prog_1_method_30_code 28 = .ok (.invokestatic 82, 3) := by decide +kernel
theorem d_F_query_31 : decode prog_1_method_30_code 31 = .ok (.aload_n 0, 1) := by decide +kernel
theorem d_F_query_32 : decode prog_1_method_30_code 32 = .ok (.getfield 42, 3) := by decide +kernel
theorem d_F_query_35 : decode prog_1_method_30_code 35 = .ok (.aload_n 0, 1) := by decide +kernel
theorem d_F_query_36 : decode prog_1_method_30_code 36 = .ok (.getfield 66, 3) := by decide +kernel
theorem d_F_query_39 : decode prog_1_method_30_code 39 = .ok (.invokevirtual 263, 3) := by decide +kernel
theorem d_F_query_42 : decode prog_1_method_30_code 42 = .ok (.pop, 1) := by decide +kernel
theorem d_F_query_43 : decode prog_1_method_30_code 43 = .ok (.aload_n 0, 1) := by decide +kernel
theorem d_F_query_44 : decode prog_1_method_30_code 44 = .ok (.new 63, 3) := by decide +kernel
theorem d_F_query_47 : decode prog_1_method_30_code 47 = .ok (.dup, 1) := by decide +kernel
theorem d_F_query_48 : decode prog_1_method_30_code 48 = .ok (.invokespecial 65, 3) := by decide +kernel
theorem d_F_query_51 : decode prog_1_method_30_code 51 = .ok (.putfield 66, 3) := by decide +kernel
theorem d_F_query_54 : decode prog_1_method_30_code 54 = .ok (.aload_n 0, 1) := by decide +kernel
theorem d_F_query_55 : decode prog_1_method_30_code 55 = .ok (.getfield 42, 3) := by decide +kernel
theorem d_F_query_58 : decode prog_1_method_30_code 58 = .ok (.invokevirtual 147, 3) := by decide +kernel
theorem d_F_query_61 : decode prog_1_method_30_code 61 = .ok (.iconst 1, 1) := by decide +kernel
theorem d_F_query_62 : decode prog_1_method_30_code 62 = .ok (.isub, 1) := by decide +kernel
theorem d_F_query_63 : decode prog_1_method_30_code 63 = .ok (.ireturn, 1) := by decide +kernel
theorem d_F_run_0 : decode prog_1_method_31_code 0 = .ok (.aload_n 0, 1) := by decide +kernel
theorem d_F_run_1 : decode prog_1_method_31_code 1 = .ok (.getfield 21, 3) := by decide +kernel
theorem d_F_run_4 : decode prog_1_method_31_code 4 = .ok (.iload_n 1, 1) := by decide +kernel
theorem d_F_run_5 : decode prog_1_method_31_code 5 = .ok (.invokevirtual 157, 3) := by decide +kernel
theorem d_F_run_8 : decode prog_1_method_31_code 8 = .ok (.ifCond .eq 15, 3) := by decide +kernel
theorem d_F_run_11 : decode prog_1_method_31_code 11 = .ok (.aload_n 0, 1) := by decide +kernel
theorem d_F_run_12 : decode prog_1_method_31_code 12 = .ok (.iload_n 2, 1) := by decide +kernel
theorem d_F_run_13 : decode prog_1_method_31_code 13 = .ok (.invokevirtual 267, 3) := by decide +kernel
theorem d_F_run_16 : decode prog_1_method_31_code 16 = .ok (.ifCond .eq 7, 3) := by decide +kernel
theorem d_F_run_19 : decode prog_1_method_31_code 19 = .ok (.iconst 1, 1) := by decide +kernel
theorem d_F_run_20 : decode prog_1_method_31_code 20 = .ok (.goto 4, 3) := by decide +kernel
theorem d_F_run_23 : decode prog_1_method_31_code 23 = .ok (.iconst 0, 1) := by decide +kernel
theorem d_F_run_24 : decode prog_1_method_31_code 24 = .ok (.invokestatic 97, 3) := by decide +kernel
theorem d_F_run_27 : decode prog_1_method_31_code 27 = .ok (.aload_n 0, 1) := by decide +kernel
theorem d_F_run_28 : decode prog_1_method_31_code 28 = .ok (.iload_n 1, 1) := by decide +kernel
theorem d_F_run_29 : decode prog_1_method_31_code 29 = .ok (.invokevirtual 160, 3) := by decide +kernel
theorem d_F_run_32 : decode prog_1_method_31_code 32 = .ok (.astore_n 3, 1) := by decide +kernel
theorem d_F_run_33 : decode prog_1_method_31_code 33 = .ok (.aload_n 0, 1) := by decide +kernel
theorem d_F_run_34 : decode prog_1_method_31_code 34 = .ok (.getfield 42, 3) := by decide +kernel
theorem d_F_run_37 : decode prog_1_method_31_code 37 = .ok (.iload_n 2, 1) := by decide +kernel
theorem d_F_run_38 : decode prog_1_method_31_code 38 = .ok (.invokevirtual 270, 3) := by decide +kernel
theorem d_F_run_41 : decode prog_1_method_31_code 41 = .ok (.checkcast 63, 3) := by decide +kernel
theorem d_F_run_44 : decode prog_1_method_31_code 44 = .ok (.astore 4, 2) := by decide +kernel
theorem d_F_run_46 : decode prog_1_method_31_code 46 = .ok (.aload_n 0, 1) := by decide +kernel
theorem d_F_run_47 : decode prog_1_method_31_code 47 = .ok (.getfield 55, 3) := by decide +kernel
theorem d_F_run_50 : decode prog_1_method_31_code 50 = .ok (.aload_n 0, 1) := by decide +kernel
theorem d_F_run_51 : decode prog_1_method_31_code 51 = .ok (.aload_n 3, 1) := by decide +kernel
theorem d_F_run_52 : decode prog_1_method_31_code 52 = .ok (.aload 4, 2) := by decide +kernel
theorem d_F_run_54 : decode prog_1_method_31_code 54 = .ok (.invokevirtual 274, 3) := by decide +kernel
theorem d_F_run_57 : decode prog_1_method_31_code 57 = .ok (.invokevirtual 278, 3) := by decide +kernel
theorem d_F_run_60 : decode prog_1_method_31_code 60 = .ok (.aload 4, 2) := by decide +kernel
theorem d_F_run_62 : decode prog_1_method_31_code 62 = .ok (.aload_n 3, 1) := by decide +kernel
theorem d_F_run_63 : decode prog_1_method_31_code 63 = .ok (.invokevirtual 282, 3) := by decide +kernel
theorem d_F_run_66 : decode prog_1_method_31_code 66 = .ok (.aload_n 0, 1) := by decide +kernel
theorem d_F_run_67 : decode prog_1_method_31_code 67 = .ok (.getfield 55, 3) := by decide +kernel
theorem d_F_run_70 : decode prog_1_method_31_code 70 = .ok (.getfield 285, 3) := by decide +kernel
theorem d_F_run_73 : decode prog_1_method_31_code 73 = .ok (.ireturn, 1) := by decide +kernel
theorem d_F_hasQuery_0 : decode prog_1_method_56_code 0 = .ok (.iload_n 1, 1) := by decide +kernel
theorem d_F_hasQuery_1 : decode prog_1_method_56_code 1 = .ok (.ifCond .lt 18, 3) := by decide +kernel
theorem d_F_hasQuery_4 : decode prog_1_method_56_code 4 = .ok (.iload_n 1, 1) := by decide +kernel
theorem d_F_hasQuery_5 : decode prog_1_method_56_code 5 = .ok (.aload_n 0, 1) := by decide +kernel
theorem d_F_hasQuery_6 : decode prog_1_method_56_code 6 = .ok (.getfield 42, 3) := by decide +kernel
theorem d_F_hasQuery_9 : decode prog_1_method_56_code 9 = .ok (.invokevirtual 147, 3) := by decide +kernel
theorem d_F_hasQuery_12 : decode prog_1_method_56_code 12 = .ok (.if_icmp .ge 7, 3) := by decide +kernel
theorem d_F_hasQuery_15 : decode prog_1_method_56_code 15 = .ok (.iconst 1, 1) := by decide +kernel
theorem d_F_hasQuery_16 : decode prog_1_method_56_code 16 = .ok (.goto 4, 3) := by decide +kernel
theorem d_F_hasQuery_19 : decode prog_1_method_56_code 19 = .ok (.iconst 0, 1) := by decide +kernel
theorem d_F_hasQuery_20 : decode prog_1_method_56_code 20 = .ok (.ireturn, 1) := by decide +kernel
theorem d_F_resultFor_0 : decode prog_1_method_60_code 0 = .ok (.aload_n 0, 1) := by decide +kernel
theorem d_F_resultFor_1 : decode prog_1_method_60_code 1 = .ok (.getfield 28, 3) := by decide +kernel
theorem d_F_resultFor_4 : decode prog_1_method_60_code 4 = .ok (.aload_n 2, 1) := by decide +kernel
theorem d_F_resultFor_5 : decode prog_1_method_60_code 5 = .ok (.aload_n 1, 1) := by decide +kernel
theorem d_F_resultFor_6 : decode prog_1_method_60_code 6 = .ok (.getfield 212, 3) := by decide +kernel
theorem d_F_resultFor_9 : decode prog_1_method_60_code 9 = .ok (.aload_n 1, 1) := by decide +kernel
theorem d_F_resultFor_10 : decode prog_1_method_60_code 10 = .ok (.getfield 372, 3) := by decide +kernel
theorem d_F_resultFor_13 : decode prog_1_method_60_code 13 = .ok (.invokevirtual 318, 3) := by decide +kernel
theorem d_F_resultFor_16 : decode prog_1_method_60_code 16 = .ok (.astore_n 3, 1) := by decide +kernel
theorem d_F_resultFor_17 : decode prog_1_method_60_code 17 = .ok (.aload_n 3, 1) := by decide +kernel
theorem d_F_resultFor_18 : decode prog_1_method_60_code 18 = .ok (.ifnonnull 11, 3) := by decide +kernel
theorem d_F_resultFor_21 : decode prog_1_method_60_code 21 = .ok (.new 375, 3) := by decide +kernel
theorem d_F_resultFor_24 : decode prog_1_method_60_code 24 = .ok (.dup, 1) := by decide +kernel
theorem d_F_resultFor_25 : decode prog_1_method_60_code 25 = .ok (.invokespecial 377, 3) := by decide +kernel
theorem d_F_resultFor_28 : decode prog_1_method_60_code 28 = .ok (.athrow, 1) := by decide +kernel
theorem d_F_resultFor_29 : decode prog_1_method_60_code 29 = .ok (.aload_n 3, 1) := by decide +kernel
theorem d_F_resultFor_30 : decode prog_1_method_60_code 30 = .ok (.areturn, 1) := by decide +kernel
theorem d_F_at_0 : decode prog_1_method_32_code 0 = .ok (.aload_n 0, 1) := by decide +kernel
theorem d_F_at_1 : decode prog_1_method_32_code 1 = .ok (.getfield 55, 3) := by decide +kernel
theorem d_F_at_4 : decode prog_1_method_32_code 4 = .ok (.iload_n 1, 1) := by decide +kernel
theorem d_F_at_5 : decode prog_1_method_32_code 5 = .ok (.iload_n 2, 1) := by decide +kernel
theorem d_F_at_6 : decode prog_1_method_32_code 6 = .ok (.invokestatic 287, 3) := by decide +kernel
theorem d_F_at_9 : decode prog_1_method_32_code 9 = .ok (.ireturn, 1) := by decide +kernel
theorem d_F_cellAt_0 : decode prog_1_method_55_code 0 = .ok (.aload_n 0, 1) := by decide +kernel
theorem d_F_cellAt_1 : decode prog_1_method_55_code 1 = .ok (.ifnull 16, 3) := by decide +kernel
theorem d_F_cellAt_4 : decode prog_1_method_55_code 4 = .ok (.aload_n 0, 1) := by decide +kernel
theorem d_F_cellAt_5 : decode prog_1_method_55_code 5 = .ok (.iload_n 1, 1) := by decide +kernel
theorem d_F_cellAt_6 : decode prog_1_method_55_code 6 = .ok (.iload_n 2, 1) := by decide +kernel
theorem d_F_cellAt_7 : decode prog_1_method_55_code 7 = .ok (.invokevirtual 366, 3) := by decide +kernel
theorem d_F_cellAt_10 : decode prog_1_method_55_code 10 = .ok (.ifCond .eq 7, 3) := by decide +kernel
theorem d_F_cellAt_13 : decode prog_1_method_55_code 13 = .ok (.iconst 1, 1) := by decide +kernel
theorem d_F_cellAt_14 : decode prog_1_method_55_code 14 = .ok (.goto 4, 3) := by decide +kernel
theorem d_F_cellAt_17 : decode prog_1_method_55_code 17 = .ok (.iconst 0, 1) := by decide +kernel
theorem d_F_cellAt_18 : decode prog_1_method_55_code 18 = .ok (.invokestatic 97, 3) := by decide +kernel
theorem d_F_cellAt_21 : decode prog_1_method_55_code 21 = .ok (.aload_n 0, 1) := by decide +kernel
theorem d_F_cellAt_22 : decode prog_1_method_55_code 22 = .ok (.iload_n 1, 1) := by decide +kernel
theorem d_F_cellAt_23 : decode prog_1_method_55_code 23 = .ok (.iload_n 2, 1) := by decide +kernel
theorem d_F_cellAt_24 : decode prog_1_method_55_code 24 = .ok (.invokevirtual 369, 3) := by decide +kernel
theorem d_F_cellAt_27 : decode prog_1_method_55_code 27 = .ok (.ireturn, 1) := by decide +kernel
theorem d_F_atByLoops_0 : decode prog_1_method_33_code 0 = .ok (.aload_n 0, 1) := by decide +kernel
theorem d_F_atByLoops_1 : decode prog_1_method_33_code 1 = .ok (.getfield 21, 3) := by decide +kernel
theorem d_F_atByLoops_4 : decode prog_1_method_33_code 4 = .ok (.iload_n 1, 1) := by decide +kernel
theorem d_F_atByLoops_5 : decode prog_1_method_33_code 5 = .ok (.invokevirtual 157, 3) := by decide +kernel
theorem d_F_atByLoops_8 : decode prog_1_method_33_code 8 = .ok (.ifCond .eq 15, 3) := by decide +kernel
theorem d_F_atByLoops_11 : decode prog_1_method_33_code 11 = .ok (.aload_n 0, 1) := by decide +kernel
theorem d_F_atByLoops_12 : decode prog_1_method_33_code 12 = .ok (.iload_n 2, 1) := by decide +kernel
theorem d_F_atByLoops_13 : decode prog_1_method_33_code 13 = .ok (.invokevirtual 267, 3) := by decide +kernel
theorem d_F_atByLoops_16 : decode prog_1_method_33_code 16 = .ok (.ifCond .eq 7, 3) := by decide +kernel
theorem d_F_atByLoops_19 : decode prog_1_method_33_code 19 = .ok (.iconst 1, 1) := by decide +kernel
theorem d_F_atByLoops_20 : decode prog_1_method_33_code 20 = .ok (.goto 4, 3) := by decide +kernel
theorem d_F_atByLoops_23 : decode prog_1_method_33_code 23 = .ok (.iconst 0, 1) := by decide +kernel
theorem d_F_atByLoops_24 : decode prog_1_method_33_code 24 = .ok (.invokestatic 97, 3) := by decide +kernel
theorem d_F_atByLoops_27 : decode prog_1_method_33_code 27 = .ok (.aload_n 0, 1) := by decide +kernel
theorem d_F_atByLoops_28 : decode prog_1_method_33_code 28 = .ok (.iload_n 1, 1) := by decide +kernel
theorem d_F_atByLoops_29 : decode prog_1_method_33_code 29 = .ok (.invokevirtual 160, 3) := by decide +kernel
theorem d_F_atByLoops_32 : decode prog_1_method_33_code 32 = .ok (.astore 5, 2) := by decide +kernel
theorem d_F_atByLoops_34 : decode prog_1_method_33_code 34 = .ok (.aload_n 0, 1) := by decide +kernel
theorem d_F_atByLoops_35 : decode prog_1_method_33_code 35 = .ok (.aload 5, 2) := by decide +kernel
theorem d_F_atByLoops_37 : decode prog_1_method_33_code 37 = .ok (.aload_n 0, 1) := by decide +kernel
theorem d_F_atByLoops_38 : decode prog_1_method_33_code 38 = .ok (.getfield 42, 3) := by decide +kernel
theorem d_F_atByLoops_41 : decode prog_1_method_33_code 41 = .ok (.iload_n 2, 1) := by decide +kernel
theorem d_F_atByLoops_42 : decode prog_1_method_33_code 42 = .ok (.invokevirtual 270, 3) := by decide +kernel
theorem d_F_atByLoops_45 : decode prog_1_method_33_code 45 = .ok (.checkcast 63, 3) := by decide +kernel
theorem d_F_atByLoops_48 : decode prog_1_method_33_code 48 = .ok (.invokevirtual 274, 3) := by decide +kernel
theorem d_F_atByLoops_51 : decode prog_1_method_33_code 51 = .ok (.iload_n 3, 1) := by decide +kernel
theorem d_F_atByLoops_52 : decode prog_1_method_33_code 52 = .ok (.iload 4, 2) := by decide +kernel
theorem d_F_atByLoops_54 : decode prog_1_method_33_code 54 = .ok (.invokestatic 287, 3) := by decide +kernel
theorem d_F_atByLoops_57 : decode prog_1_method_33_code 57 = .ok (.ireturn, 1) := by decide +kernel
theorem d_F_prepare_0 : decode prog_1_method_35_code 0 = .ok (.aload_n 0, 1) := by decide +kernel
theorem d_F_prepare_1 : decode prog_1_method_35_code 1 = .ok (.iload_n 1, 1) := by decide +kernel
theorem d_F_prepare_2 : decode prog_1_method_35_code 2 = .ok (.invokevirtual 267, 3) := by decide +kernel
theorem d_F_prepare_5 : decode prog_1_method_35_code 5 = .ok (.invokestatic 97, 3) := by decide +kernel
theorem d_F_prepare_8 : decode prog_1_method_35_code 8 = .ok (.aload_n 0, 1) := by decide +kernel
theorem d_F_prepare_9 : decode prog_1_method_35_code 9 = .ok (.getfield 42, 3) := by decide +kernel
theorem d_F_prepare_12 : decode prog_1_method_35_code 12 = .ok (.iload_n 1, 1) := by decide +kernel
theorem d_F_prepare_13 : decode prog_1_method_35_code 13 = .ok (.invokevirtual 270, 3) := by decide +kernel
theorem d_F_prepare_16 : decode prog_1_method_35_code 16 = .ok (.checkcast 63, 3) := by decide +kernel
theorem d_F_prepare_19 : decode prog_1_method_35_code 19 = .ok (.astore_n 2, 1) := by decide +kernel
theorem d_F_prepare_20 : decode prog_1_method_35_code 20 = .ok (.aload_n 2, 1) := by decide +kernel
theorem d_F_prepare_21 : decode prog_1_method_35_code 21 = .ok (.getfield 295, 3) := by decide +kernel
theorem d_F_prepare_24 : decode prog_1_method_35_code 24 = .ok (.ifCond .ne 11, 3) := by decide +kernel
theorem d_F_prepare_27 : decode prog_1_method_35_code 27 = .ok (.aload_n 0, 1) := by decide +kernel
theorem d_F_prepare_28 : decode prog_1_method_35_code 28 = .ok (.getfield 35, 3) := by decide +kernel
theorem d_F_prepare_31 : decode prog_1_method_35_code 31 = .ok (.aload_n 2, 1) := by decide +kernel
theorem d_F_prepare_32 : decode prog_1_method_35_code 32 = .ok (.invokevirtual 299, 3) := by decide +kernel
theorem d_F_prepare_35 : decode prog_1_method_35_code 35 = .ok (.aload_n 2, 1) := by decide +kernel
theorem d_F_prepare_36 : decode prog_1_method_35_code 36 = .ok (.getfield 295, 3) := by decide +kernel
theorem d_F_prepare_39 : decode prog_1_method_35_code 39 = .ok (.ifCond .eq 10, 3) := by decide +kernel
theorem d_F_prepare_42 : decode prog_1_method_35_code 42 = .ok (.aload_n 2, 1) := by decide +kernel
theorem d_F_prepare_43 : decode prog_1_method_35_code 43 = .ok (.getfield 303, 3) := by decide +kernel
theorem d_F_prepare_46 : decode prog_1_method_35_code 46 = .ok (.goto 4, 3) := by decide +kernel
theorem d_F_prepare_49 : decode prog_1_method_35_code 49 = .ok (.iconst (-1), 1) := by decide +kernel
theorem d_F_prepare_50 : decode prog_1_method_35_code 50 = .ok (.ireturn, 1) := by decide +kernel
theorem d_F_planAt_0 : decode prog_1_method_36_code 0 = .ok (.aload_n 0, 1) := by decide +kernel
theorem d_F_planAt_1 : decode prog_1_method_36_code 1 = .ok (.iload_n 1, 1) := by decide +kernel
theorem d_F_planAt_2 : decode prog_1_method_36_code 2 = .ok (.invokevirtual 267, 3) := by decide +kernel
theorem d_F_planAt_5 : decode prog_1_method_36_code 5 = .ok (.invokestatic 97, 3) := by decide +kernel
theorem d_F_planAt_8 : decode prog_1_method_36_code 8 = .ok (.aload_n 0, 1) := by decide +kernel
theorem d_F_planAt_9 : decode prog_1_method_36_code 9 = .ok (.getfield 42, 3) := by decide +kernel
theorem d_F_planAt_12 : decode prog_1_method_36_code 12 = .ok (.iload_n 1, 1) := by decide +kernel
theorem d_F_planAt_13 : decode prog_1_method_36_code 13 = .ok (.invokevirtual 270, 3) := by decide +kernel
theorem d_F_planAt_16 : decode prog_1_method_36_code 16 = .ok (.checkcast 63, 3) := by decide +kernel
theorem d_F_planAt_19 : decode prog_1_method_36_code 19 = .ok (.astore_n 3, 1) := by decide +kernel
theorem d_F_planAt_20 : decode prog_1_method_36_code 20 = .ok (.aload_n 3, 1) := by decide +kernel
theorem d_F_planAt_21 : decode prog_1_method_36_code 21 = .ok (.getfield 295, 3) := by decide +kernel
theorem d_F_planAt_24 : decode prog_1_method_36_code 24 = .ok (.invokestatic 82, 3) := by decide +kernel
theorem d_F_planAt_27 : decode prog_1_method_36_code 27 = .ok (.iload_n 2, 1) := by decide +kernel
theorem d_F_planAt_28 : decode prog_1_method_36_code 28 = .ok (.ifCond .lt 20, 3) := by decide +kernel
theorem d_F_planAt_31 : decode prog_1_method_36_code 31 = .ok (.iload_n 2, 1) := by decide +kernel
theorem d_F_planAt_32 : decode prog_1_method_36_code 32 = .ok (.aload_n 3, 1) := by decide +kernel
theorem d_F_planAt_33 : decode prog_1_method_36_code 33 = .ok (.getfield 306, 3) := by decide +kernel
theorem d_F_planAt_36 : decode prog_1_method_36_code 36 = .ok (.if_icmp .ge 12, 3) := by decide +kernel
theorem d_F_planAt_39 : decode prog_1_method_36_code 39 = .ok (.aload_n 3, 1) := by decide +kernel
theorem d_F_planAt_40 : decode prog_1_method_36_code 40 = .ok (.getfield 309, 3) := by decide +kernel
theorem d_F_planAt_43 : decode prog_1_method_36_code 43 = .ok (.iload_n 2, 1) := by decide +kernel
theorem d_F_planAt_44 : decode prog_1_method_36_code 44 = .ok (.iaload, 1) := by decide +kernel
theorem d_F_planAt_45 : decode prog_1_method_36_code 45 = .ok (.goto 4, 3) := by decide +kernel
theorem d_F_planAt_48 : decode prog_1_method_36_code 48 = .ok (.iconst (-1), 1) := by decide +kernel
theorem d_F_planAt_49 : decode prog_1_method_36_code 49 = .ok (.ireturn, 1) := by decide +kernel
theorem d_F_view_0 : decode prog_1_method_38_code 0 = .ok (.aload_n 0, 1) := by decide +kernel
theorem d_F_view_1 : decode prog_1_method_38_code 1 = .ok (.iload_n 1, 1) := by decide +kernel
theorem d_F_view_2 : decode prog_1_method_38_code 2 = .ok (.invokevirtual 267, 3) := by decide +kernel
theorem d_F_view_5 : decode prog_1_method_38_code 5 = .ok (.invokestatic 97, 3) := by decide +kernel
theorem d_F_view_8 : decode prog_1_method_38_code 8 = .ok (.aload_n 0, 1) := by decide +kernel
theorem d_F_view_9 : decode prog_1_method_38_code 9 = .ok (.getfield 42, 3) := by decide +kernel
theorem d_F_view_12 : decode prog_1_method_38_code 12 = .ok (.iload_n 1, 1) := by decide +kernel
theorem d_F_view_13 : decode prog_1_method_38_code 13 = .ok (.invokevirtual 270, 3) := by decide +kernel
theorem d_F_view_16 : decode prog_1_method_38_code 16 = .ok (.checkcast 63, 3) := by decide +kernel
theorem d_F_view_19 : decode prog_1_method_38_code 19 = .ok (.astore_n 2, 1) := by decide +kernel
theorem d_F_view_20 : decode prog_1_method_38_code 20 = .ok (.aload_n 2, 1) := by decide +kernel
theorem d_F_view_21 : decode prog_1_method_38_code 21 = .ok (.invokevirtual 315, 3) := by decide +kernel
theorem d_F_view_24 : decode prog_1_method_38_code 24 = .ok (.ifCond .eq 19, 3) := by decide +kernel
theorem d_F_view_27 : decode prog_1_method_38_code 27 = .ok (.aload_n 0, 1) := by decide +kernel
theorem d_F_view_28 : decode prog_1_method_38_code 28 = .ok (.getfield 46, 3) := by decide +kernel
theorem d_F_view_31 : decode prog_1_method_38_code 31 = .ok (.invokevirtual 147, 3) := by decide +kernel
theorem d_F_view_34 : decode prog_1_method_38_code 34 = .ok (.bipush 6, 2) := by decide +kernel
theorem d_F_view_36 : decode prog_1_method_38_code 36 = .ok (.if_icmp .ge 7, 3) := by decide +kernel
theorem d_F_view_39 : decode prog_1_method_38_code 39 = .ok (.iconst 1, 1) := by decide +kernel
theorem d_F_view_40 : decode prog_1_method_38_code 40 = .ok (.goto 4, 3) := by decide +kernel
theorem d_F_view_43 : decode prog_1_method_38_code 43 = .ok (.iconst 0, 1) := by decide +kernel
theorem d_F_view_44 : decode prog_1_method_38_code 44 = .ok (.invokestatic 82, 3) := by decide +kernel
theorem d_F_view_47 : decode prog_1_method_38_code 47 = .ok (.new 52, 3) := by decide +kernel
theorem d_F_view_50 : decode prog_1_method_38_code 50 = .ok (.dup, 1) := by decide +kernel
theorem d_F_view_51 : decode prog_1_method_38_code 51 = .ok (.invokespecial 54, 3) := by decide +kernel
theorem d_F_view_54 : decode prog_1_method_38_code 54 = .ok (.astore_n 3, 1) := by decide +kernel
theorem d_F_view_55 : decode prog_1_method_38_code 55 = .ok (.aload_n 3, 1) := by decide +kernel
theorem d_F_view_56 : decode prog_1_method_38_code 56 = .ok (.aload_n 0, 1) := by decide +kernel
theorem d_F_view_57 : decode prog_1_method_38_code 57 = .ok (.getfield 28, 3) := by decide +kernel
theorem d_F_view_60 : decode prog_1_method_38_code 60 = .ok (.aload_n 2, 1) := by decide +kernel
theorem d_F_view_61 : decode prog_1_method_38_code 61 = .ok (.aload_n 0, 1) := by decide +kernel
theorem d_F_view_62 : decode prog_1_method_38_code 62 = .ok (.getfield 21, 3) := by decide +kernel
theorem d_F_view_65 : decode prog_1_method_38_code 65 = .ok (.getfield 110, 3) := by decide +kernel
theorem d_F_view_68 : decode prog_1_method_38_code 68 = .ok (.iconst 0, 1) := by decide +kernel
theorem d_F_view_69 : decode prog_1_method_38_code 69 = .ok (.invokevirtual 318, 3) := by decide +kernel
theorem d_F_view_72 : decode prog_1_method_38_code 72 = .ok (.invokevirtual 278, 3) := by decide +kernel
theorem d_F_view_75 : decode prog_1_method_38_code 75 = .ok (.aload_n 0, 1) := by decide +kernel
theorem d_F_view_76 : decode prog_1_method_38_code 76 = .ok (.getfield 46, 3) := by decide +kernel
theorem d_F_view_79 : decode prog_1_method_38_code 79 = .ok (.aload_n 2, 1) := by decide +kernel
theorem d_F_view_80 : decode prog_1_method_38_code 80 = .ok (.invokevirtual 263, 3) := by decide +kernel
theorem d_F_view_83 : decode prog_1_method_38_code 83 = .ok (.pop, 1) := by decide +kernel
theorem d_F_view_84 : decode prog_1_method_38_code 84 = .ok (.aload_n 0, 1) := by decide +kernel
theorem d_F_view_85 : decode prog_1_method_38_code 85 = .ok (.getfield 49, 3) := by decide +kernel
theorem d_F_view_88 : decode prog_1_method_38_code 88 = .ok (.aload_n 3, 1) := by decide +kernel
theorem d_F_view_89 : decode prog_1_method_38_code 89 = .ok (.invokevirtual 263, 3) := by decide +kernel
theorem d_F_view_92 : decode prog_1_method_38_code 92 = .ok (.pop, 1) := by decide +kernel
theorem d_F_view_93 : decode prog_1_method_38_code 93 = .ok (.aload_n 0, 1) := by decide +kernel
theorem d_F_view_94 : decode prog_1_method_38_code 94 = .ok (.getfield 46, 3) := by decide +kernel
theorem d_F_view_97 : decode prog_1_method_38_code 97 = .ok (.invokevirtual 147, 3) := by decide +kernel
theorem d_F_view_100 : decode prog_1_method_38_code 100 = .ok (.iconst 1, 1) := by decide +kernel
theorem d_F_view_101 : decode prog_1_method_38_code 101 = .ok (.isub, 1) := by decide +kernel
theorem d_F_view_102 : decode prog_1_method_38_code 102 = .ok (.ireturn, 1) := by decide +kernel
theorem d_F_viewRows_0 : decode prog_1_method_39_code 0 = .ok (.aload_n 0, 1) := by decide +kernel
theorem d_F_viewRows_1 : decode prog_1_method_39_code 1 = .ok (.iload_n 1, 1) := by decide +kernel
theorem d_F_viewRows_2 : decode prog_1_method_39_code 2 = .ok (.invokevirtual 322, 3) := by decide +kernel
theorem d_F_viewRows_5 : decode prog_1_method_39_code 5 = .ok (.invokestatic 97, 3) := by decide +kernel
theorem d_F_viewRows_8 : decode prog_1_method_39_code 8 = .ok (.aload_n 0, 1) := by decide +kernel
theorem d_F_viewRows_9 : decode prog_1_method_39_code 9 = .ok (.getfield 49, 3) := by decide +kernel
theorem d_F_viewRows_12 : decode prog_1_method_39_code 12 = .ok (.iload_n 1, 1) := by decide +kernel
theorem d_F_viewRows_13 : decode prog_1_method_39_code 13 = .ok (.invokevirtual 270, 3) := by decide +kernel
theorem d_F_viewRows_16 : decode prog_1_method_39_code 16 = .ok (.checkcast 52, 3) := by decide +kernel
theorem d_F_viewRows_19 : decode prog_1_method_39_code 19 = .ok (.getfield 285, 3) := by decide +kernel
theorem d_F_viewRows_22 : decode prog_1_method_39_code 22 = .ok (.ireturn, 1) := by decide +kernel
theorem d_F_hasView_0 : decode prog_1_method_57_code 0 = .ok (.iload_n 1, 1) := by decide +kernel
theorem d_F_hasView_1 : decode prog_1_method_57_code 1 = .ok (.ifCond .lt 18, 3) := by decide +kernel
theorem d_F_hasView_4 : decode prog_1_method_57_code 4 = .ok (.iload_n 1, 1) := by decide +kernel
theorem d_F_hasView_5 : decode prog_1_method_57_code 5 = .ok (.aload_n 0, 1) := by decide +kernel
theorem d_F_hasView_6 : decode prog_1_method_57_code 6 = .ok (.getfield 46, 3) := by decide +kernel
theorem d_F_hasView_9 : decode prog_1_method_57_code 9 = .ok (.invokevirtual 147, 3) := by decide +kernel
theorem d_F_hasView_12 : decode prog_1_method_57_code 12 = .ok (.if_icmp .ge 7, 3) := by decide +kernel
theorem d_F_hasView_15 : decode prog_1_method_57_code 15 = .ok (.iconst 1, 1) := by decide +kernel
theorem d_F_hasView_16 : decode prog_1_method_57_code 16 = .ok (.goto 4, 3) := by decide +kernel
theorem d_F_hasView_19 : decode prog_1_method_57_code 19 = .ok (.iconst 0, 1) := by decide +kernel
theorem d_F_hasView_20 : decode prog_1_method_57_code 20 = .ok (.ireturn, 1) := by decide +kernel
theorem d_F_viewAt_0 : decode prog_1_method_40_code 0 = .ok (.aload_n 0, 1) := by decide +kernel
theorem d_F_viewAt_1 : decode prog_1_method_40_code 1 = .ok (.iload_n 1, 1) := by decide +kernel
theorem d_F_viewAt_2 : decode prog_1_method_40_code 2 = .ok (.invokevirtual 322, 3) := by decide +kernel
theorem d_F_viewAt_5 : decode prog_1_method_40_code 5 = .ok (.invokestatic 97, 3) := by decide +kernel
theorem d_F_viewAt_8 : decode prog_1_method_40_code 8 = .ok (.aload_n 0, 1) := by decide +kernel
theorem d_F_viewAt_9 : decode prog_1_method_40_code 9 = .ok (.getfield 49, 3) := by decide +kernel
theorem d_F_viewAt_12 : decode prog_1_method_40_code 12 = .ok (.iload_n 1, 1) := by decide +kernel
theorem d_F_viewAt_13 : decode prog_1_method_40_code 13 = .ok (.invokevirtual 270, 3) := by decide +kernel
theorem d_F_viewAt_16 : decode prog_1_method_40_code 16 = .ok (.checkcast 52, 3) := by decide +kernel
theorem d_F_viewAt_19 : decode prog_1_method_40_code 19 = .ok (.iload_n 2, 1) := by decide +kernel
theorem d_F_viewAt_20 : decode prog_1_method_40_code 20 = .ok (.iload_n 3, 1) := by decide +kernel
theorem d_F_viewAt_21 : decode prog_1_method_40_code 21 = .ok (.invokestatic 287, 3) := by decide +kernel
theorem d_F_viewAt_24 : decode prog_1_method_40_code 24 = .ok (.ireturn, 1) := by decide +kernel
theorem d_F_viewAnew_0 : decode prog_1_method_41_code 0 = .ok (.aload_n 0, 1) := by decide +kernel
theorem d_F_viewAnew_1 : decode prog_1_method_41_code 1 = .ok (.iload_n 1, 1) := by decide +kernel
theorem d_F_viewAnew_2 : decode prog_1_method_41_code 2 = .ok (.invokevirtual 322, 3) := by decide +kernel
theorem d_F_viewAnew_5 : decode prog_1_method_41_code 5 = .ok (.invokestatic 97, 3) := by decide +kernel
theorem d_F_viewAnew_8 : decode prog_1_method_41_code 8 = .ok (.aload_n 0, 1) := by decide +kernel
theorem d_F_viewAnew_9 : decode prog_1_method_41_code 9 = .ok (.getfield 28, 3) := by decide +kernel
theorem d_F_viewAnew_12 : decode prog_1_method_41_code 12 = .ok (.aload_n 0, 1) := by decide +kernel
theorem d_F_viewAnew_13 : decode prog_1_method_41_code 13 = .ok (.getfield 46, 3) := by decide +kernel
theorem d_F_viewAnew_16 : decode prog_1_method_41_code 16 = .ok (.iload_n 1, 1) := by decide +kernel
theorem d_F_viewAnew_17 : decode prog_1_method_41_code 17 = .ok (.invokevirtual 270, 3) := by decide +kernel
theorem d_F_viewAnew_20 : decode prog_1_method_41_code 20 = .ok (.checkcast 63, 3) := by decide +kernel
theorem d_F_viewAnew_23 : decode prog_1_method_41_code 23 = .ok (.aload_n 0, 1) := by decide +kernel
theorem d_F_viewAnew_24 : decode prog_1_method_41_code 24 = .ok (.getfield 21, 3) := by decide +kernel
theorem d_F_viewAnew_27 : decode prog_1_method_41_code 27 = .ok (.getfield 110, 3) := by decide +kernel
theorem d_F_viewAnew_30 : decode prog_1_method_41_code 30 = .ok (.iconst 0, 1) := by decide +kernel
theorem d_F_viewAnew_31 : decode prog_1_method_41_code 31 = .ok (.invokevirtual 318, 3) := by decide +kernel
theorem d_F_viewAnew_34 : decode prog_1_method_41_code 34 = .ok (.iload_n 2, 1) := by decide +kernel
theorem d_F_viewAnew_35 : decode prog_1_method_41_code 35 = .ok (.iload_n 3, 1) := by decide +kernel
theorem d_F_viewAnew_36 : decode prog_1_method_41_code 36 = .ok (.invokestatic 287, 3) := by decide +kernel
theorem d_F_viewAnew_39 : decode prog_1_method_41_code 39 = .ok (.ireturn, 1) := by decide +kernel
theorem d_F_crash_0 : decode prog_1_method_43_code 0 = .ok (.iload_n 1, 1) := by decide +kernel
theorem d_F_crash_1 : decode prog_1_method_43_code 1 = .ok (.aload_n 0, 1) := by decide +kernel
theorem d_F_crash_2 : decode prog_1_method_43_code 2 = .ok (.getfield 21, 3) := by decide +kernel
theorem d_F_crash_5 : decode prog_1_method_43_code 5 = .ok (.getfield 219, 3) := by decide +kernel
theorem d_F_crash_8 : decode prog_1_method_43_code 8 = .ok (.getfield 333, 3) := by decide +kernel
theorem d_F_crash_11 : decode prog_1_method_43_code 11 = .ok (.if_icmp .lt 21, 3) := by decide +kernel
theorem d_F_crash_14 : decode prog_1_method_43_code 14 = .ok (.iload_n 1, 1) := by decide +kernel
theorem d_F_crash_15 : decode prog_1_method_43_code 15 = .ok (.aload_n 0, 1) := by decide +kernel
theorem d_F_crash_16 : decode prog_1_method_43_code 16 = .ok (.getfield 21, 3) := by decide +kernel
theorem d_F_crash_19 : decode prog_1_method_43_code 19 = .ok (.getfield 219, 3) := by decide +kernel
theorem d_F_crash_22 : decode prog_1_method_43_code 22 = .ok (.getfield 330, 3) := by decide +kernel
theorem d_F_crash_25 : decode prog_1_method_43_code 25 = .ok (.if_icmp .gt 7, 3) := by decide +kernel
theorem d_F_crash_28 : decode prog_1_method_43_code 28 = .ok (.iconst 1, 1) := by decide +kernel
theorem d_F_crash_29 : decode prog_1_method_43_code 29 = .ok (.goto 4, 3) := by decide +kernel
theorem d_F_crash_32 : decode prog_1_method_43_code 32 = .ok (.iconst 0, 1) := by decide +kernel
theorem d_F_crash_33 : decode prog_1_method_43_code 33 = .ok (.invokestatic 97, 3) := by decide +kernel
theorem d_F_crash_36 : decode prog_1_method_43_code 36 = .ok (.aload_n 0, 1) := by decide +kernel
theorem d_F_crash_37 : decode prog_1_method_43_code 37 = .ok (.getfield 21, 3) := by decide +kernel
theorem d_F_crash_40 : decode prog_1_method_43_code 40 = .ok (.iload_n 1, 1) := by decide +kernel
theorem d_F_crash_41 : decode prog_1_method_43_code 41 = .ok (.invokevirtual 336, 3) := by decide +kernel
theorem d_F_crash_44 : decode prog_1_method_43_code 44 = .ok (.ireturn, 1) := by decide +kernel
theorem d_Engine_comeBack_0 : decode prog_2_method_23_code 0 = .ok (.aload_n 0, 1) := by decide +kernel
theorem d_Engine_comeBack_1 : decode prog_2_method_23_code 1 = .ok (.getfield 28, 3) := by decide +kernel
theorem d_Engine_comeBack_4 : decode prog_2_method_23_code 4 = .ok (.iload_n 1, 1) := by decide +kernel
theorem d_Engine_comeBack_5 : decode prog_2_method_23_code 5 = .ok (.invokevirtual 240, 3) := by decide +kernel
theorem d_Engine_comeBack_8 : decode prog_2_method_23_code 8 = .ok (.iconst 0, 1) := by decide +kernel
theorem d_Engine_comeBack_9 : decode prog_2_method_23_code 9 = .ok (.istore_n 2, 1) := by decide +kernel
theorem d_Engine_comeBack_10 : decode prog_2_method_23_code 10 = .ok (.iload_n 2, 1) := by decide +kernel
theorem d_Engine_comeBack_11 : decode prog_2_method_23_code 11 = .ok (.aload_n 0, 1) := by decide +kernel
theorem d_Engine_comeBack_12 : decode prog_2_method_23_code 12 = .ok (.getfield 21, 3) := by decide +kernel
theorem d_Engine_comeBack_15 : decode prog_2_method_23_code 15 = .ok (.invokevirtual 57, 3) := by decide +kernel
theorem d_Engine_comeBack_18 : decode prog_2_method_23_code 18 = .ok (.if_icmp .ge 34, 3) := by decide +kernel
theorem d_Engine_comeBack_21 : decode prog_2_method_23_code 21 = .ok (.aload_n 0, 1) := by decide +kernel
theorem d_Engine_comeBack_22 : decode prog_2_method_23_code 22 = .ok (.getfield 21, 3) := by decide +kernel
theorem d_Engine_comeBack_25 : decode prog_2_method_23_code 25 = .ok (.iload_n 2, 1) := by decide +kernel
theorem d_Engine_comeBack_26 : decode prog_2_method_23_code 26 = .ok (.invokevirtual 61, 3) := by decide +kernel
theorem d_Engine_comeBack_29 : decode prog_2_method_23_code 29 = .ok (.checkcast 65, 3) := by decide +kernel
theorem d_Engine_comeBack_32 : decode prog_2_method_23_code 32 = .ok (.astore_n 3, 1) := by decide +kernel
theorem d_Engine_comeBack_33 : decode prog_2_method_23_code 33 = .ok (.aload_n 3, 1) := by decide +kernel
theorem d_Engine_comeBack_34 : decode prog_2_method_23_code 34 = .ok (.invokevirtual 67, 3) := by decide +kernel
theorem d_Engine_comeBack_37 : decode prog_2_method_23_code 37 = .ok (.ifCond .eq 9, 3) := by decide +kernel
theorem d_Engine_comeBack_40 : decode prog_2_method_23_code 40 = .ok (.aload_n 0, 1) := by decide +kernel
theorem d_Engine_comeBack_41 : decode prog_2_method_23_code 41 = .ok (.aload_n 3, 1) := by decide +kernel
theorem d_Engine_comeBack_42 : decode prog_2_method_23_code 42 = .ok (.iconst 3, 1) := by decide +kernel
theorem d_Engine_comeBack_43 : decode prog_2_method_23_code 43 = .ok (.invokevirtual 175, 3) := by decide +kernel
theorem d_Engine_comeBack_46 : decode prog_2_method_23_code 46 = .ok (.iinc 2 1, 3) := by decide +kernel
theorem d_Engine_comeBack_49 : decode prog_2_method_23_code 49 = .ok (.goto (-39), 3) := by decide +kernel
theorem d_Engine_comeBack_52 : decode prog_2_method_23_code 52 = .ok (.aload_n 0, 1) := by decide +kernel
theorem d_Engine_comeBack_53 : decode prog_2_method_23_code 53 = .ok (.getfield 28, 3) := by decide +kernel
theorem d_Engine_comeBack_56 : decode prog_2_method_23_code 56 = .ok (.invokevirtual 243, 3) := by decide +kernel
theorem d_Engine_comeBack_59 : decode prog_2_method_23_code 59 = .ok (.iconst 0, 1) := by decide +kernel
theorem d_Engine_comeBack_60 : decode prog_2_method_23_code 60 = .ok (.istore_n 2, 1) := by decide +kernel
theorem d_Engine_comeBack_61 : decode prog_2_method_23_code 61 = .ok (.iconst 0, 1) := by decide +kernel
theorem d_Engine_comeBack_62 : decode prog_2_method_23_code 62 = .ok (.istore_n 3, 1) := by decide +kernel
theorem d_Engine_comeBack_63 : decode prog_2_method_23_code 63 = .ok (.iload_n 3, 1) := by decide +kernel
theorem d_Engine_comeBack_64 : decode prog_2_method_23_code 64 = .ok (.aload_n 0, 1) := by decide +kernel
theorem d_Engine_comeBack_65 : decode prog_2_method_23_code 65 = .ok (.getfield 21, 3) := by decide +kernel
theorem d_Engine_comeBack_68 : decode prog_2_method_23_code 68 = .ok (.invokevirtual 57, 3) := by decide +kernel
theorem d_Engine_comeBack_71 : decode prog_2_method_23_code 71 = .ok (.if_icmp .ge 32, 3) := by decide +kernel
theorem d_Engine_comeBack_74 : decode prog_2_method_23_code 74 = .ok (.aload_n 0, 1) := by decide +kernel
theorem d_Engine_comeBack_75 : decode prog_2_method_23_code 75 = .ok (.getfield 28, 3) := by decide +kernel
theorem d_Engine_comeBack_78 : decode prog_2_method_23_code 78 = .ok (.getfield 246, 3) := by decide +kernel
theorem d_Engine_comeBack_81 : decode prog_2_method_23_code 81 = .ok (.iload_n 3, 1) := by decide +kernel
theorem d_Engine_comeBack_82 : decode prog_2_method_23_code 82 = .ok (.baload, 1) := by decide +kernel
theorem d_Engine_comeBack_83 : decode prog_2_method_23_code 83 = .ok (.ifCond .eq 14, 3) := by decide +kernel
theorem d_Engine_comeBack_86 : decode prog_2_method_23_code 86 = .ok (.iload_n 2, 1) := by decide +kernel
theorem d_Engine_comeBack_87 : decode prog_2_method_23_code 87 = .ok (.aload_n 0, 1) := by decide +kernel
theorem d_Engine_comeBack_88 : decode prog_2_method_23_code 88 = .ok (.getfield 28, 3) := by decide +kernel
theorem d_Engine_comeBack_91 : decode prog_2_method_23_code 91 = .ok (.iload_n 3, 1) := by decide +kernel
theorem d_Engine_comeBack_92 : decode prog_2_method_23_code 92 = .ok (.invokevirtual 172, 3) := by decide +kernel
theorem d_Engine_comeBack_95 : decode prog_2_method_23_code 95 = .ok (.iadd, 1) := by decide +kernel
theorem d_Engine_comeBack_96 : decode prog_2_method_23_code 96 = .ok (.istore_n 2, 1) := by decide +kernel
theorem d_Engine_comeBack_97 : decode prog_2_method_23_code 97 = .ok (.iinc 3 1, 3) := by decide +kernel
theorem d_Engine_comeBack_100 : decode prog_2_method_23_code 100 = .ok (.goto (-37), 3) := by decide +kernel
theorem d_Engine_comeBack_103 : decode prog_2_method_23_code 103 = .ok (.aload_n 0, 1) := by decide +kernel
theorem d_Engine_comeBack_104 : decode prog_2_method_23_code 104 = .ok (.getfield 28, 3) := by decide +kernel
theorem d_Engine_comeBack_107 : decode prog_2_method_23_code 107 = .ok (.invokevirtual 237, 3) := by decide +kernel
theorem d_Engine_comeBack_110 : decode prog_2_method_23_code 110 = .ok (.iload_n 2, 1) := by decide +kernel
theorem d_Engine_comeBack_111 : decode prog_2_method_23_code 111 = .ok (.ireturn, 1) := by decide +kernel
theorem d_F_recordKind_0 : decode prog_1_method_46_code 0 = .ok (.aload_n 0, 1) := by decide +kernel
theorem d_F_recordKind_1 : decode prog_1_method_46_code 1 = .ok (.getfield 21, 3) := by decide +kernel
theorem d_F_recordKind_4 : decode prog_1_method_46_code 4 = .ok (.getfield 219, 3) := by decide +kernel
theorem d_F_recordKind_7 : decode prog_1_method_46_code 7 = .ok (.iload_n 1, 1) := by decide +kernel
theorem d_F_recordKind_8 : decode prog_1_method_46_code 8 = .ok (.invokevirtual 339, 3) := by decide +kernel
theorem d_F_recordKind_11 : decode prog_1_method_46_code 11 = .ok (.invokestatic 97, 3) := by decide +kernel
theorem d_F_recordKind_14 : decode prog_1_method_46_code 14 = .ok (.aload_n 0, 1) := by decide +kernel
theorem d_F_recordKind_15 : decode prog_1_method_46_code 15 = .ok (.getfield 21, 3) := by decide +kernel
theorem d_F_recordKind_18 : decode prog_1_method_46_code 18 = .ok (.getfield 219, 3) := by decide +kernel
theorem d_F_recordKind_21 : decode prog_1_method_46_code 21 = .ok (.iload_n 1, 1) := by decide +kernel
theorem d_F_recordKind_22 : decode prog_1_method_46_code 22 = .ok (.invokevirtual 342, 3) := by decide +kernel
theorem d_F_recordKind_25 : decode prog_1_method_46_code 25 = .ok (.ireturn, 1) := by decide +kernel
theorem d_F_recordOf_0 : decode prog_1_method_47_code 0 = .ok (.aload_n 0, 1) := by decide +kernel
theorem d_F_recordOf_1 : decode prog_1_method_47_code 1 = .ok (.getfield 21, 3) := by decide +kernel
theorem d_F_recordOf_4 : decode prog_1_method_47_code 4 = .ok (.getfield 219, 3) := by decide +kernel
theorem d_F_recordOf_7 : decode prog_1_method_47_code 7 = .ok (.iload_n 1, 1) := by decide +kernel
theorem d_F_recordOf_8 : decode prog_1_method_47_code 8 = .ok (.invokevirtual 339, 3) := by decide +kernel
theorem d_F_recordOf_11 : decode prog_1_method_47_code 11 = .ok (.invokestatic 97, 3) := by decide +kernel
theorem d_F_recordOf_14 : decode prog_1_method_47_code 14 = .ok (.aload_n 0, 1) := by decide +kernel
theorem d_F_recordOf_15 : decode prog_1_method_47_code 15 = .ok (.getfield 21, 3) := by decide +kernel
theorem d_F_recordOf_18 : decode prog_1_method_47_code 18 = .ok (.getfield 219, 3) := by decide +kernel
theorem d_F_recordOf_21 : decode prog_1_method_47_code 21 = .ok (.iload_n 1, 1) := by decide +kernel
theorem d_F_recordOf_22 : decode prog_1_method_47_code 22 = .ok (.invokevirtual 345, 3) := by decide +kernel
theorem d_F_recordOf_25 : decode prog_1_method_47_code 25 = .ok (.ireturn, 1) := by decide +kernel
theorem d_F_recordAt_0 : decode prog_1_method_48_code 0 = .ok (.aload_n 0, 1) := by decide +kernel
theorem d_F_recordAt_1 : decode prog_1_method_48_code 1 = .ok (.getfield 21, 3) := by decide +kernel
theorem d_F_recordAt_4 : decode prog_1_method_48_code 4 = .ok (.getfield 219, 3) := by decide +kernel
theorem d_F_recordAt_7 : decode prog_1_method_48_code 7 = .ok (.iload_n 1, 1) := by decide +kernel
theorem d_F_recordAt_8 : decode prog_1_method_48_code 8 = .ok (.invokevirtual 339, 3) := by decide +kernel
theorem d_F_recordAt_11 : decode prog_1_method_48_code 11 = .ok (.invokestatic 97, 3) := by decide +kernel
theorem d_F_recordAt_14 : decode prog_1_method_48_code 14 = .ok (.iload_n 2, 1) := by decide +kernel
theorem d_F_recordAt_15 : decode prog_1_method_48_code 15 = .ok (.ifCond .eq 17, 3) := by decide +kernel
theorem d_F_recordAt_18 : decode prog_1_method_48_code 18 = .ok (.aload_n 0, 1) := by decide +kernel
theorem d_F_recordAt_19 : decode prog_1_method_48_code 19 = .ok (.getfield 21, 3) := by decide +kernel
theorem d_F_recordAt_22 : decode prog_1_method_48_code 22 = .ok (.getfield 219, 3) := by decide +kernel
theorem d_F_recordAt_25 : decode prog_1_method_48_code 25 = .ok (.iload_n 1, 1) := by decide +kernel
theorem d_F_recordAt_26 : decode prog_1_method_48_code 26 = .ok (.invokevirtual 348, 3) := by decide +kernel
theorem d_F_recordAt_29 : decode prog_1_method_48_code 29 = .ok (.goto 14, 3) := by decide +kernel
theorem d_F_recordAt_32 : decode prog_1_method_48_code 32 = .ok (.aload_n 0, 1) := by decide +kernel
theorem d_F_recordAt_33 : decode prog_1_method_48_code 33 = .ok (.getfield 21, 3) := by decide +kernel
theorem d_F_recordAt_36 : decode prog_1_method_48_code 36 = .ok (.getfield 219, 3) := by decide +kernel
theorem d_F_recordAt_39 : decode prog_1_method_48_code 39 = .ok (.iload_n 1, 1) := by decide +kernel
theorem d_F_recordAt_40 : decode prog_1_method_48_code 40 = .ok (.invokevirtual 351, 3) := by decide +kernel
theorem d_F_recordAt_43 : decode prog_1_method_48_code 43 = .ok (.ireturn, 1) := by decide +kernel
