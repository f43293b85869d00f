theorem d_java_util_Arrays_fill_0 : decode prog_42_method_103_code 0 = .ok (.iconst 0, 1) := by decide +kernel
theorem d_java_util_Arrays_fill_1 : decode prog_42_method_103_code 1 = .ok (.istore_n 2, 1) := by decide +kernel
theorem d_java_util_Arrays_fill_2 : decode prog_42_method_103_code 2 = .ok (.aload_n 0, 1) := by decide +kernel
theorem d_java_util_Arrays_fill_3 : decode prog_42_method_103_code 3 = .ok (.arraylength, 1) := by decide +kernel
theorem d_java_util_Arrays_fill_4 : decode prog_42_method_103_code 4 = .ok (.istore_n 3, 1) := by decide +kernel
theorem d_java_util_Arrays_fill_5 : decode prog_42_method_103_code 5 = .ok (.iload_n 2, 1) := by decide +kernel
theorem d_java_util_Arrays_fill_6 : decode prog_42_method_103_code 6 = .ok (.iload_n 3, 1) := by decide +kernel
theorem d_java_util_Arrays_fill_7 : decode prog_42_method_103_code 7 = .ok (.if_icmp .ge 13, 3) := by decide +kernel
theorem d_java_util_Arrays_fill_10 : decode prog_42_method_103_code 10 = .ok (.aload_n 0, 1) := by decide +kernel
theorem d_java_util_Arrays_fill_11 : decode prog_42_method_103_code 11 = .ok (.iload_n 2, 1) := by decide +kernel
theorem d_java_util_Arrays_fill_12 : decode prog_42_method_103_code 12 = .ok (.iload_n 1, 1) := by decide +kernel
theorem d_java_util_Arrays_fill_13 : decode prog_42_method_103_code 13 = .ok (.iastore, 1) := by decide +kernel
theorem d_java_util_Arrays_fill_14 : decode prog_42_method_103_code 14 = .ok (.iinc 2 1, 3) := by decide +kernel
theorem d_java_util_Arrays_fill_17 : decode prog_42_method_103_code 17 = .ok (.goto (-12), 3) := by decide +kernel
theorem d_java_util_Arrays_fill_20 : decode prog_42_method_103_code 20 = .ok (.return_, 1) := by decide +kernel
theorem d_java_util_ArrayList_init_0 : decode prog_41_method_2_code 0 = .ok (.aload_n 0, 1) := by decide +kernel
theorem d_java_util_ArrayList_init_1 : decode prog_41_method_2_code 1 = .ok (.invokespecial 1, 3) := by decide +kernel
theorem d_java_util_ArrayList_init_4 : decode prog_41_method_2_code 4 = .ok (.aload_n 0, 1) := by decide +kernel
theorem d_java_util_ArrayList_init_5 : decode prog_41_method_2_code 5 = .ok (.getstatic 39, 3) := by decide +kernel
theorem d_java_util_ArrayList_init_8 : decode prog_41_method_2_code 8 = .ok (.putfield 9, 3) := by decide +kernel
theorem d_java_util_ArrayList_init_11 : decode prog_41_method_2_code 11 = .ok (.return_, 1) := by decide +kernel
theorem d_java_util_ArrayList_size_0 : decode prog_41_method_8_code 0 = .ok (.aload_n 0, 1) := by decide +kernel
theorem d_java_util_ArrayList_size_1 : decode prog_41_method_8_code 1 = .ok (.getfield 48, 3) := by decide +kernel
theorem d_java_util_ArrayList_size_4 : decode prog_41_method_8_code 4 = .ok (.ireturn, 1) := by decide +kernel
theorem d_java_util_ArrayList_get_0 : decode prog_41_method_20_code 0 = .ok (.iload_n 1, 1) := by decide +kernel
theorem d_java_util_ArrayList_get_1 : decode prog_41_method_20_code 1 = .ok (.aload_n 0, 1) := by decide +kernel
theorem d_java_util_ArrayList_get_2 : decode prog_41_method_20_code 2 = .ok (.getfield 48, 3) := by decide +kernel
theorem d_java_util_ArrayList_get_5 : decode prog_41_method_20_code 5 = .ok (.invokestatic 118, 3) := by decide +kernel
theorem d_java_util_ArrayList_get_8 : decode prog_41_method_20_code 8 = .ok (.pop, 1) := by decide +kernel
theorem d_java_util_ArrayList_get_9 : decode prog_41_method_20_code 9 = .ok (.aload_n 0, 1) := by decide +kernel
theorem d_java_util_ArrayList_get_10 : decode prog_41_method_20_code 10 = .ok (.iload_n 1, 1) := by decide +kernel
theorem d_java_util_ArrayList_get_11 : decode prog_41_method_20_code 11 = .ok (.invokevirtual 123, 3) := by decide +kernel
theorem d_java_util_ArrayList_get_14 : decode prog_41_method_20_code 14 = .ok (.areturn, 1) := by decide +kernel
theorem d_java_util_ArrayList_elementData_0 : decode prog_41_method_18_code 0 = .ok (.aload_n 0, 1) := by decide +kernel
theorem d_java_util_ArrayList_elementData_1 : decode prog_41_method_18_code 1 = .ok (.getfield 9, 3) := by decide +kernel
theorem d_java_util_ArrayList_elementData_4 : decode prog_41_method_18_code 4 = .ok (.iload_n 1, 1) := by decide +kernel
theorem d_java_util_ArrayList_elementData_5 : decode prog_41_method_18_code 5 = .ok (.aaload, 1) := by decide +kernel
theorem d_java_util_ArrayList_elementData_6 : decode prog_41_method_18_code 6 = .ok (.areturn, 1) := by decide +kernel
theorem d_java_util_Arrays_copyOf_0 : decode prog_42_method_123_code 0 = .ok (.iload_n 1, 1) := by decide +kernel
theorem d_java_util_Arrays_copyOf_1 : decode prog_42_method_123_code 1 = .ok (.aload_n 0, 1) := by decide +kernel
theorem d_java_util_Arrays_copyOf_2 : decode prog_42_method_123_code 2 = .ok (.arraylength, 1) := by decide +kernel
theorem d_java_util_Arrays_copyOf_3 : decode prog_42_method_123_code 3 = .ok (.if_icmp .ne 11, 3) := by decide +kernel
theorem d_java_util_Arrays_copyOf_6 : decode prog_42_method_123_code 6 = .ok (.aload_n 0, 1) := by decide +kernel
theorem d_java_util_Arrays_copyOf_7 : decode prog_42_method_123_code 7 = .ok (.invokevirtual 316, 3) := by decide +kernel
theorem d_java_util_Arrays_copyOf_10 : decode prog_42_method_123_code 10 = .ok (.checkcast 317, 3) := by decide +kernel
theorem d_java_util_Arrays_copyOf_13 : decode prog_42_method_123_code 13 = .ok (.areturn, 1) := by decide +kernel
theorem d_java_util_Arrays_copyOf_14 : decode prog_42_method_123_code 14 = .ok (.iload_n 1, 1) := by decide +kernel
theorem d_java_util_Arrays_copyOf_15 : decode prog_42_method_123_code 15 = .ok (.newarray .int, 2) := by decide +kernel
theorem d_java_util_Arrays_copyOf_17 : decode prog_42_method_123_code 17 = .ok (.astore_n 2, 1) := by decide +kernel
theorem d_java_util_Arrays_copyOf_18 : decode prog_42_method_123_code 18 = .ok (.aload_n 0, 1) := by decide +kernel
theorem d_java_util_Arrays_copyOf_19 : decode prog_42_method_123_code 19 = .ok (.iconst 0, 1) := by decide +kernel
theorem d_java_util_Arrays_copyOf_20 : decode prog_42_method_123_code 20 = .ok (.aload_n 2, 1) := by decide +kernel
theorem d_java_util_Arrays_copyOf_21 : decode prog_42_method_123_code 21 = .ok (.iconst 0, 1) := by decide +kernel
theorem d_java_util_Arrays_copyOf_22 : decode prog_42_method_123_code 22 = .ok (.aload_n 0, 1) := by decide +kernel
theorem d_java_util_Arrays_copyOf_23 : decode prog_42_method_123_code 23 = .ok (.arraylength, 1) := by decide +kernel
theorem d_java_util_Arrays_copyOf_24 : decode prog_42_method_123_code 24 = .ok (.iload_n 1, 1) := by decide +kernel
theorem d_java_util_Arrays_copyOf_25 : decode prog_42_method_123_code 25 = .ok (.invokestatic 304, 3) := by decide +kernel
theorem d_java_util_Arrays_copyOf_28 : decode prog_42_method_123_code 28 = .ok (.invokestatic 150, 3) := by decide +kernel
theorem d_java_util_Arrays_copyOf_31 : decode prog_42_method_123_code 31 = .ok (.aload_n 2, 1) := by decide +kernel
theorem d_java_util_Arrays_copyOf_32 : decode prog_42_method_123_code 32 = .ok (.areturn, 1) := by decide +kernel
theorem d_java_lang_Math_min_0 : decode prog_28_method_69_code 0 = .ok (.iload_n 0, 1) := by decide +kernel
theorem d_java_lang_Math_min_1 : decode prog_28_method_69_code 1 = .ok (.iload_n 1, 1) := by decide +kernel
theorem d_java_lang_Math_min_2 : decode prog_28_method_69_code 2 = .ok (.if_icmp .gt 7, 3) := by decide +kernel
theorem d_java_lang_Math_min_5 : decode prog_28_method_69_code 5 = .ok (.iload_n 0, 1) := by decide +kernel
theorem d_java_lang_Math_min_6 : decode prog_28_method_69_code 6 = .ok (.goto 4, 3) := by decide +kernel
theorem d_java_lang_Math_min_9 : decode prog_28_method_69_code 9 = .ok (.iload_n 1, 1) := by decide +kernel
theorem d_java_lang_Math_min_10 : decode prog_28_method_69_code 10 = .ok (.ireturn, 1) := by decide +kernel
theorem d_java_util_Arrays_fill_IIIIV_0 : decode prog_42_method_104_code 0 = .ok (.aload_n 0, 1) := by decide +kernel
theorem d_java_util_Arrays_fill_IIIIV_1 : decode prog_42_method_104_code 1 = .ok (.arraylength, 1) := by decide +kernel
theorem d_java_util_Arrays_fill_IIIIV_2 : decode prog_42_method_104_code 2 = .ok (.iload_n 1, 1) := by decide +kernel
theorem d_java_util_Arrays_fill_IIIIV_3 : decode prog_42_method_104_code 3 = .ok (.iload_n 2, 1) := by decide +kernel
theorem d_java_util_Arrays_fill_IIIIV_4 : decode prog_42_method_104_code 4 = .ok (.invokestatic 13, 3) := by decide +kernel
theorem d_java_util_Arrays_fill_IIIIV_7 : decode prog_42_method_104_code 7 = .ok (.iload_n 1, 1) := by decide +kernel
theorem d_java_util_Arrays_fill_IIIIV_8 : decode prog_42_method_104_code 8 = .ok (.istore 4, 2) := by decide +kernel
theorem d_java_util_Arrays_fill_IIIIV_10 : decode prog_42_method_104_code 10 = .ok (.iload 4, 2) := by decide +kernel
theorem d_java_util_Arrays_fill_IIIIV_12 : decode prog_42_method_104_code 12 = .ok (.iload_n 2, 1) := by decide +kernel
theorem d_java_util_Arrays_fill_IIIIV_13 : decode prog_42_method_104_code 13 = .ok (.if_icmp .ge 14, 3) := by decide +kernel
theorem d_java_util_Arrays_fill_IIIIV_16 : decode prog_42_method_104_code 16 = .ok (.aload_n 0, 1) := by decide +kernel
theorem d_java_util_Arrays_fill_IIIIV_17 : decode prog_42_method_104_code 17 = .ok (.iload 4, 2) := by decide +kernel
theorem d_java_util_Arrays_fill_IIIIV_19 : decode prog_42_method_104_code 19 = .ok (.iload_n 3, 1) := by decide +kernel
theorem d_java_util_Arrays_fill_IIIIV_20 : decode prog_42_method_104_code 20 = .ok (.iastore, 1) := by decide +kernel
theorem d_java_util_Arrays_fill_IIIIV_21 : decode prog_42_method_104_code 21 = .ok (.iinc 4 1, 3) := by decide +kernel
theorem d_java_util_Arrays_fill_IIIIV_24 : decode prog_42_method_104_code 24 = .ok (.goto (-14), 3) := by decide +kernel
theorem d_java_util_Arrays_fill_IIIIV_27 : decode prog_42_method_104_code 27 = .ok (.return_, 1) := by decide +kernel
theorem d_java_util_Arrays_rangeCheck_0 : decode prog_42_method_30_code 0 = .ok (.iload_n 1, 1) := by decide +kernel
theorem d_java_util_Arrays_rangeCheck_1 : decode prog_42_method_30_code 1 = .ok (.iload_n 2, 1) := by decide +kernel
theorem d_java_util_Arrays_rangeCheck_2 : decode prog_42_method_30_code 2 = .ok (.if_icmp .le 44, 3) := by decide +kernel
theorem d_java_util_Arrays_rangeCheck_5 : decode prog_42_method_30_code 5 = .ok (.new 43, 3) := by decide +kernel
theorem d_java_util_Arrays_rangeCheck_8 : decode prog_42_method_30_code 8 = .ok (.dup, 1) := by decide +kernel
theorem d_java_util_Arrays_rangeCheck_9 : decode prog_42_method_30_code 9 = .ok (.new 45, 3) := by decide +kernel
theorem d_java_util_Arrays_rangeCheck_12 : decode prog_42_method_30_code 12 = .ok (.dup, 1) := by decide +kernel
theorem d_java_util_Arrays_rangeCheck_13 : decode prog_42_method_30_code 13 = .ok (.invokespecial 47, 3) := by decide +kernel
theorem d_java_util_Arrays_rangeCheck_16 : decode prog_42_method_30_code 16 = .ok (.ldc 48, 2) := by decide +kernel
theorem d_java_util_Arrays_rangeCheck_18 : decode prog_42_method_30_code 18 = .ok (.invokevirtual 50, 3) := by decide +kernel
theorem d_java_util_Arrays_rangeCheck_21 : decode prog_42_method_30_code 21 = .ok (.iload_n 1, 1) := by decide +kernel
theorem d_java_util_Arrays_rangeCheck_22 : decode prog_42_method_30_code 22 = .ok (.invokevirtual 54, 3) := by decide +kernel
theorem d_java_util_Arrays_rangeCheck_25 : decode prog_42_method_30_code 25 = .ok (.ldc 57, 2) := by decide +kernel
theorem d_java_util_Arrays_rangeCheck_27 : decode prog_42_method_30_code 27 = .ok (.invokevirtual 50, 3) := by decide +kernel
theorem d_java_util_Arrays_rangeCheck_30 : decode prog_42_method_30_code 30 = .ok (.iload_n 2, 1) := by decide +kernel
theorem d_java_util_Arrays_rangeCheck_31 : decode prog_42_method_30_code 31 = .ok (.invokevirtual 54, 3) := by decide +kernel
theorem d_java_util_Arrays_rangeCheck_34 : decode prog_42_method_30_code 34 = .ok (.ldc 59, 2) := by decide +kernel
theorem d_java_util_Arrays_rangeCheck_36 : decode prog_42_method_30_code 36 = .ok (.invokevirtual 50, 3) := by decide +kernel
theorem d_java_util_Arrays_rangeCheck_39 : decode prog_42_method_30_code 39 = .ok (.invokevirtual 61, 3) := by decide +kernel
theorem d_java_util_Arrays_rangeCheck_42 : decode prog_42_method_30_code 42 = .ok (.invokespecial 65, 3) := by decide +kernel
theorem d_java_util_Arrays_rangeCheck_45 : decode prog_42_method_30_code 45 = .ok (.athrow, 1) := by decide +kernel
theorem d_java_util_Arrays_rangeCheck_46 : decode prog_42_method_30_code 46 = .ok (.iload_n 1, 1) := by decide +kernel
theorem d_java_util_Arrays_rangeCheck_47 : decode prog_42_method_30_code 47 = .ok (.ifCond .ge 12, 3) := by decide +kernel
theorem d_java_util_Arrays_rangeCheck_50 : decode prog_42_method_30_code 50 = .ok (.new 68, 3) := by decide +kernel
theorem d_java_util_Arrays_rangeCheck_53 : decode prog_42_method_30_code 53 = .ok (.dup, 1) := by decide +kernel
theorem d_java_util_Arrays_rangeCheck_54 : decode prog_42_method_30_code 54 = .ok (.iload_n 1, 1) := by decide +kernel
theorem d_java_util_Arrays_rangeCheck_55 : decode prog_42_method_30_code 55 = .ok (.invokespecial 70, 3) := by decide +kernel
theorem d_java_util_Arrays_rangeCheck_58 : decode prog_42_method_30_code 58 = .ok (.athrow, 1) := by decide +kernel
theorem d_java_util_Arrays_rangeCheck_59 : decode prog_42_method_30_code 59 = .ok (.iload_n 2, 1) := by decide +kernel
theorem d_java_util_Arrays_rangeCheck_60 : decode prog_42_method_30_code 60 = .ok (.iload_n 0, 1) := by decide +kernel
theorem d_java_util_Arrays_rangeCheck_61 : decode prog_42_method_30_code 61 = .ok (.if_icmp .le 12, 3) := by decide +kernel
theorem d_java_util_Arrays_rangeCheck_64 : decode prog_42_method_30_code 64 = .ok (.new 68, 3) := by decide +kernel
theorem d_java_util_Arrays_rangeCheck_67 : decode prog_42_method_30_code 67 = .ok (.dup, 1) := by decide +kernel
theorem d_java_util_Arrays_rangeCheck_68 : decode prog_42_method_30_code 68 = .ok (.iload_n 2, 1) := by decide +kernel
theorem d_java_util_Arrays_rangeCheck_69 : decode prog_42_method_30_code 69 = .ok (.invokespecial 70, 3) := by decide +kernel
theorem d_java_util_Arrays_rangeCheck_72 : decode prog_42_method_30_code 72 = .ok (.athrow, 1) := by decide +kernel
theorem d_java_util_Arrays_rangeCheck_73 : decode prog_42_method_30_code 73 = .ok (.return_, 1) := by decide +kernel
theorem d_java_lang_Math_max_0 : decode prog_28_method_65_code 0 = .ok (.iload_n 0, 1) := by decide +kernel
theorem d_java_lang_Math_max_1 : decode prog_28_method_65_code 1 = .ok (.iload_n 1, 1) := by decide +kernel
theorem d_java_lang_Math_max_2 : decode prog_28_method_65_code 2 = .ok (.if_icmp .lt 7, 3) := by decide +kernel
theorem d_java_lang_Math_max_5 : decode prog_28_method_65_code 5 = .ok (.iload_n 0, 1) := by decide +kernel
theorem d_java_lang_Math_max_6 : decode prog_28_method_65_code 6 = .ok (.goto 4, 3) := by decide +kernel
theorem d_java_lang_Math_max_9 : decode prog_28_method_65_code 9 = .ok (.iload_n 1, 1) := by decide +kernel
theorem d_java_lang_Math_max_10 : decode prog_28_method_65_code 10 = .ok (.ireturn, 1) := by decide +kernel
theorem d_java_util_Arrays_copyOf_BIB_0 : decode prog_42_method_121_code 0 = .ok (.iload_n 1, 1) := by decide +kernel
theorem d_java_util_Arrays_copyOf_BIB_1 : decode prog_42_method_121_code 1 = .ok (.aload_n 0, 1) := by decide +kernel
theorem d_java_util_Arrays_copyOf_BIB_2 : decode prog_42_method_121_code 2 = .ok (.arraylength, 1) := by decide +kernel
theorem d_java_util_Arrays_copyOf_BIB_3 : decode prog_42_method_121_code 3 = .ok (.if_icmp .ne 11, 3) := by decide +kernel
theorem d_java_util_Arrays_copyOf_BIB_6 : decode prog_42_method_121_code 6 = .ok (.aload_n 0, 1) := by decide +kernel
theorem d_java_util_Arrays_copyOf_BIB_7 : decode prog_42_method_121_code 7 = .ok (.invokevirtual 310, 3) := by decide +kernel
theorem d_java_util_Arrays_copyOf_BIB_10 : decode prog_42_method_121_code 10 = .ok (.checkcast 311, 3) := by decide +kernel
theorem d_java_util_Arrays_copyOf_BIB_13 : decode prog_42_method_121_code 13 = .ok (.areturn, 1) := by decide +kernel
theorem d_java_util_Arrays_copyOf_BIB_14 : decode prog_42_method_121_code 14 = .ok (.iload_n 1, 1) := by decide +kernel
theorem d_java_util_Arrays_copyOf_BIB_15 : decode prog_42_method_121_code 15 = .ok (.newarray .byte, 2) := by decide +kernel
theorem d_java_util_Arrays_copyOf_BIB_17 : decode prog_42_method_121_code 17 = .ok (.astore_n 2, 1) := by decide +kernel
theorem d_java_util_Arrays_copyOf_BIB_18 : decode prog_42_method_121_code 18 = .ok (.aload_n 0, 1) := by decide +kernel
theorem d_java_util_Arrays_copyOf_BIB_19 : decode prog_42_method_121_code 19 = .ok (.iconst 0, 1) := by decide +kernel
theorem d_java_util_Arrays_copyOf_BIB_20 : decode prog_42_method_121_code 20 = .ok (.aload_n 2, 1) := by decide +kernel
theorem d_java_util_Arrays_copyOf_BIB_21 : decode prog_42_method_121_code 21 = .ok (.iconst 0, 1) := by decide +kernel
theorem d_java_util_Arrays_copyOf_BIB_22 : decode prog_42_method_121_code 22 = .ok (.aload_n 0, 1) := by decide +kernel
theorem d_java_util_Arrays_copyOf_BIB_23 : decode prog_42_method_121_code 23 = .ok (.arraylength, 1) := by decide +kernel
theorem d_java_util_Arrays_copyOf_BIB_24 : decode prog_42_method_121_code 24 = .ok (.iload_n 1, 1) := by decide +kernel
theorem d_java_util_Arrays_copyOf_BIB_25 : decode prog_42_method_121_code 25 = .ok (.invokestatic 304, 3) := by decide +kernel
theorem d_java_util_Arrays_copyOf_BIB_28 : decode prog_42_method_121_code 28 = .ok (.invokestatic 150, 3) := by decide +kernel
theorem d_java_util_Arrays_copyOf_BIB_31 : decode prog_42_method_121_code 31 = .ok (.aload_n 2, 1) := by decide +kernel
theorem d_java_util_Arrays_copyOf_BIB_32 : decode prog_42_method_121_code 32 = .ok (.areturn, 1) := by decide +kernel
theorem d_java_util_Arrays_copyOfRange_0 : decode prog_42_method_132_code 0 = .ok (.iload_n 1, 1) := by decide +kernel
theorem d_java_util_Arrays_copyOfRange_1 : decode prog_42_method_132_code 1 = .ok (.ifCond .ne 9, 3) := by decide +kernel
theorem d_java_util_Arrays_copyOfRange_4 : decode prog_42_method_132_code 4 = .ok (.iload_n 2, 1) := by decide +kernel
theorem d_java_util_Arrays_copyOfRange_5 : decode prog_42_method_132_code 5 = .ok (.aload_n 0, 1) := by decide +kernel
theorem d_java_util_Arrays_copyOfRange_6 : decode prog_42_method_132_code 6 = .ok (.arraylength, 1) := by decide +kernel
theorem d_java_util_Arrays_copyOfRange_7 : decode prog_42_method_132_code 7 = .ok (.if_icmp .eq 10, 3) := by decide +kernel
theorem d_java_util_Arrays_copyOfRange_10 : decode prog_42_method_132_code 10 = .ok (.aload_n 0, 1) := by decide +kernel
theorem d_java_util_Arrays_copyOfRange_11 : decode prog_42_method_132_code 11 = .ok (.iload_n 1, 1) := by decide +kernel
theorem d_java_util_Arrays_copyOfRange_12 : decode prog_42_method_132_code 12 = .ok (.iload_n 2, 1) := by decide +kernel
theorem d_java_util_Arrays_copyOfRange_13 : decode prog_42_method_132_code 13 = .ok (.invokestatic 339, 3) := by decide +kernel
theorem d_java_util_Arrays_copyOfRange_16 : decode prog_42_method_132_code 16 = .ok (.areturn, 1) := by decide +kernel
theorem d_java_util_Arrays_copyOfRange_17 : decode prog_42_method_132_code 17 = .ok (.aload_n 0, 1) := by decide +kernel
theorem d_java_util_Arrays_copyOfRange_18 : decode prog_42_method_132_code 18 = .ok (.invokevirtual 310, 3) := by decide +kernel
theorem d_java_util_Arrays_copyOfRange_21 : decode prog_42_method_132_code 21 = .ok (.checkcast 311, 3) := by decide +kernel
theorem d_java_util_Arrays_copyOfRange_24 : decode prog_42_method_132_code 24 = .ok (.areturn, 1) := by decide +kernel
theorem d_java_util_Arrays_copyOfRangeByte_0 : decode prog_42_method_133_code 0 = .ok (.iload_n 1, 1) := by decide +kernel
theorem d_java_util_Arrays_copyOfRangeByte_1 : decode prog_42_method_133_code 1 = .ok (.iload_n 2, 1) := by decide +kernel
theorem d_java_util_Arrays_copyOfRangeByte_2 : decode prog_42_method_133_code 2 = .ok (.invokestatic 343, 3) := by decide +kernel
theorem d_java_util_Arrays_copyOfRangeByte_5 : decode prog_42_method_133_code 5 = .ok (.iload_n 2, 1) := by decide +kernel
theorem d_java_util_Arrays_copyOfRangeByte_6 : decode prog_42_method_133_code 6 = .ok (.iload_n 1, 1) := by decide +kernel
theorem d_java_util_Arrays_copyOfRangeByte_7 : decode prog_42_method_133_code 7 = .ok (.isub, 1) := by decide +kernel
theorem d_java_util_Arrays_copyOfRangeByte_8 : decode prog_42_method_133_code 8 = .ok (.istore_n 3, 1) := by decide +kernel
theorem d_java_util_Arrays_copyOfRangeByte_9 : decode prog_42_method_133_code 9 = .ok (.iload_n 3, 1) := by decide +kernel
theorem d_java_util_Arrays_copyOfRangeByte_10 : decode prog_42_method_133_code 10 = .ok (.newarray .byte, 2) := by decide +kernel
theorem d_java_util_Arrays_copyOfRangeByte_12 : decode prog_42_method_133_code 12 = .ok (.astore 4, 2) := by decide +kernel
theorem d_java_util_Arrays_copyOfRangeByte_14 : decode prog_42_method_133_code 14 = .ok (.aload_n 0, 1) := by decide +kernel
theorem d_java_util_Arrays_copyOfRangeByte_15 : decode prog_42_method_133_code 15 = .ok (.iload_n 1, 1) := by decide +kernel
theorem d_java_util_Arrays_copyOfRangeByte_16 : decode prog_42_method_133_code 16 = .ok (.aload 4, 2) := by decide +kernel
theorem d_java_util_Arrays_copyOfRangeByte_18 : decode prog_42_method_133_code 18 = .ok (.iconst 0, 1) := by decide +kernel
theorem d_java_util_Arrays_copyOfRangeByte_19 : decode prog_42_method_133_code 19 = .ok (.aload_n 0, 1) := by decide +kernel
theorem d_java_util_Arrays_copyOfRangeByte_20 : decode prog_42_method_133_code 20 = .ok (.arraylength, 1) := by decide +kernel
theorem d_java_util_Arrays_copyOfRangeByte_21 : decode prog_42_method_133_code 21 = .ok (.iload_n 1, 1) := by decide +kernel
theorem d_java_util_Arrays_copyOfRangeByte_22 : decode prog_42_method_133_code 22 = .ok (.isub, 1) := by decide +kernel
theorem d_java_util_Arrays_copyOfRangeByte_23 : decode prog_42_method_133_code 23 = .ok (.iload_n 3, 1) := by decide +kernel
theorem d_java_util_Arrays_copyOfRangeByte_24 : decode prog_42_method_133_code 24 = .ok (.invokestatic 304, 3) := by decide +kernel
theorem d_java_util_Arrays_copyOfRangeByte_27 : decode prog_42_method_133_code 27 = .ok (.invokestatic 150, 3) := by decide +kernel
theorem d_java_util_Arrays_copyOfRangeByte_30 : decode prog_42_method_133_code 30 = .ok (.aload 4, 2) := by decide +kernel
theorem d_java_util_Arrays_copyOfRangeByte_32 : decode prog_42_method_133_code 32 = .ok (.areturn, 1) := by decide +kernel
theorem d_java_util_Arrays_checkLength_0 : decode prog_42_method_131_code 0 = .ok (.iload_n 1, 1) := by decide +kernel
theorem d_java_util_Arrays_checkLength_1 : decode prog_42_method_131_code 1 = .ok (.iload_n 0, 1) := by decide +kernel
theorem d_java_util_Arrays_checkLength_2 : decode prog_42_method_131_code 2 = .ok (.if_icmp .ge 35, 3) := by decide +kernel
theorem d_java_util_Arrays_checkLength_5 : decode prog_42_method_131_code 5 = .ok (.new 43, 3) := by decide +kernel
theorem d_java_util_Arrays_checkLength_8 : decode prog_42_method_131_code 8 = .ok (.dup, 1) := by decide +kernel
theorem d_java_util_Arrays_checkLength_9 : decode prog_42_method_131_code 9 = .ok (.new 45, 3) := by decide +kernel
theorem d_java_util_Arrays_checkLength_12 : decode prog_42_method_131_code 12 = .ok (.dup, 1) := by decide +kernel
theorem d_java_util_Arrays_checkLength_13 : decode prog_42_method_131_code 13 = .ok (.invokespecial 47, 3) := by decide +kernel
theorem d_java_util_Arrays_checkLength_16 : decode prog_42_method_131_code 16 = .ok (.iload_n 0, 1) := by decide +kernel
theorem d_java_util_Arrays_checkLength_17 : decode prog_42_method_131_code 17 = .ok (.invokevirtual 54, 3) := by decide +kernel
theorem d_java_util_Arrays_checkLength_20 : decode prog_42_method_131_code 20 = .ok (.ldc_w 337, 3) := by decide +kernel
theorem d_java_util_Arrays_checkLength_23 : decode prog_42_method_131_code 23 = .ok (.invokevirtual 50, 3) := by decide +kernel
theorem d_java_util_Arrays_checkLength_26 : decode prog_42_method_131_code 26 = .ok (.iload_n 1, 1) := by decide +kernel
theorem d_java_util_Arrays_checkLength_27 : decode prog_42_method_131_code 27 = .ok (.invokevirtual 54, 3) := by decide +kernel
theorem d_java_util_Arrays_checkLength_30 : decode prog_42_method_131_code 30 = .ok (.invokevirtual 61, 3) := by decide +kernel
theorem d_java_util_Arrays_checkLength_33 : decode prog_42_method_131_code 33 = .ok (.invokespecial 65, 3) := by decide +kernel
theorem d_java_util_Arrays_checkLength_36 : decode prog_42_method_131_code 36 = .ok (.athrow, 1) := by decide +kernel
theorem d_java_util_Arrays_checkLength_37 : decode prog_42_method_131_code 37 = .ok (.return_, 1) := by decide +kernel
theorem d_java_util_ArrayList_add_0 : decode prog_41_method_25_code 0 = .ok (.aload_n 0, 1) := by decide +kernel
theorem d_java_util_ArrayList_add_1 : decode prog_41_method_25_code 1 = .ok (.dup, 1) := by decide +kernel
theorem d_java_util_ArrayList_add_2 : decode prog_41_method_25_code 2 = .ok (.getfield 63, 3) := by decide +kernel
theorem d_java_util_ArrayList_add_5 : decode prog_41_method_25_code 5 = .ok (.iconst 1, 1) := by decide +kernel
theorem d_java_util_ArrayList_add_6 : decode prog_41_method_25_code 6 = .ok (.iadd, 1) := by decide +kernel
theorem d_java_util_ArrayList_add_7 : decode prog_41_method_25_code 7 = .ok (.putfield 63, 3) := by decide +kernel
theorem d_java_util_ArrayList_add_10 : decode prog_41_method_25_code 10 = .ok (.aload_n 0, 1) := by decide +kernel
theorem d_java_util_ArrayList_add_11 : decode prog_41_method_25_code 11 = .ok (.aload_n 1, 1) := by decide +kernel
theorem d_java_util_ArrayList_add_12 : decode prog_41_method_25_code 12 = .ok (.aload_n 0, 1) := by decide +kernel
theorem d_java_util_ArrayList_add_13 : decode prog_41_method_25_code 13 = .ok (.getfield 9, 3) := by decide +kernel
theorem d_java_util_ArrayList_add_16 : decode prog_41_method_25_code 16 = .ok (.aload_n 0, 1) := by decide +kernel
theorem d_java_util_ArrayList_add_17 : decode prog_41_method_25_code 17 = .ok (.getfield 48, 3) := by decide +kernel
theorem d_java_util_ArrayList_add_20 : decode prog_41_method_25_code 20 = .ok (.invokevirtual 131, 3) := by decide +kernel
theorem d_java_util_ArrayList_add_23 : decode prog_41_method_25_code 23 = .ok (.iconst 1, 1) := by decide +kernel
theorem d_java_util_ArrayList_add_24 : decode prog_41_method_25_code 24 = .ok (.ireturn, 1) := by decide +kernel
theorem d_java_util_ArrayList_add_LjavalangObjectLjavalangObjectIV_0 : decode prog_41_method_24_code 0 = .ok (.iload_n 3, 1) := by decide +kernel
theorem d_java_util_ArrayList_add_LjavalangObjectLjavalangObjectIV_1 : decode prog_41_method_24_code 1 = .ok (.aload_n 2, 1) := by decide +kernel
theorem d_java_util_ArrayList_add_LjavalangObjectLjavalangObjectIV_2 : decode prog_41_method_24_code 2 = .ok (.arraylength, 1) := by decide +kernel
theorem d_java_util_ArrayList_add_LjavalangObjectLjavalangObjectIV_3 : decode prog_41_method_24_code 3 = .ok (.if_icmp .ne 8, 3) := by decide +kernel
theorem d_java_util_ArrayList_add_LjavalangObjectLjavalangObjectIV_6 : decode prog_41_method_24_code 6 = .ok (.aload_n 0, 1) := by decide +kernel
theorem d_java_util_ArrayList_add_LjavalangObjectLjavalangObjectIV_7 : decode prog_41_method_24_code 7 = .ok (.invokevirtual 129, 3) := by decide +kernel
theorem d_java_util_ArrayList_add_LjavalangObjectLjavalangObjectIV_10 : decode prog_41_method_24_code 10 = .ok (.astore_n 2, 1) := by decide +kernel
theorem d_java_util_ArrayList_add_LjavalangObjectLjavalangObjectIV_11 : decode prog_41_method_24_code 11 = .ok (.aload_n 2, 1) := by decide +kernel
theorem d_java_util_ArrayList_add_LjavalangObjectLjavalangObjectIV_12 : decode prog_41_method_24_code 12 = .ok (.iload_n 3, 1) := by decide +kernel
theorem d_java_util_ArrayList_add_LjavalangObjectLjavalangObjectIV_13 : decode prog_41_method_24_code 13 = .ok (.aload_n 1, 1) := by decide +kernel
theorem d_java_util_ArrayList_add_LjavalangObjectLjavalangObjectIV_14 : decode prog_41_method_24_code 14 = .ok (.aastore, 1) := by decide +kernel
theorem d_java_util_ArrayList_add_LjavalangObjectLjavalangObjectIV_15 : decode prog_41_method_24_code 15 = .ok (.aload_n 0, 1) := by decide +kernel
theorem d_java_util_ArrayList_add_LjavalangObjectLjavalangObjectIV_16 : decode prog_41_method_24_code 16 = .ok (.iload_n 3, 1) := by decide +kernel
theorem d_java_util_ArrayList_add_LjavalangObjectLjavalangObjectIV_17 : decode prog_41_method_24_code 17 = .ok (.iconst 1, 1) := by decide +kernel
theorem d_java_util_ArrayList_add_LjavalangObjectLjavalangObjectIV_18 : decode prog_41_method_24_code 18 = .ok (.iadd, 1) := by decide +kernel
theorem d_java_util_ArrayList_add_LjavalangObjectLjavalangObjectIV_19 : decode prog_41_method_24_code 19 = .ok (.putfield 48, 3) := by decide +kernel
theorem d_java_util_ArrayList_add_LjavalangObjectLjavalangObjectIV_22 : decode prog_41_method_24_code 22 = .ok (.return_, 1) := by decide +kernel
theorem d_java_util_ArrayList_grow_0 : decode prog_41_method_7_code 0 = .ok (.aload_n 0, 1) := by decide +kernel
theorem d_java_util_ArrayList_grow_1 : decode prog_41_method_7_code 1 = .ok (.aload_n 0, 1) := by decide +kernel
theorem d_java_util_ArrayList_grow_2 : decode prog_41_method_7_code 2 = .ok (.getfield 48, 3) := by decide +kernel
theorem d_java_util_ArrayList_grow_5 : decode prog_41_method_7_code 5 = .ok (.iconst 1, 1) := by decide +kernel
theorem d_java_util_ArrayList_grow_6 : decode prog_41_method_7_code 6 = .ok (.iadd, 1) := by decide +kernel
theorem d_java_util_ArrayList_grow_7 : decode prog_41_method_7_code 7 = .ok (.invokevirtual 69, 3) := by decide +kernel
theorem d_java_util_ArrayList_grow_10 : decode prog_41_method_7_code 10 = .ok (.areturn, 1) := by decide +kernel
theorem d_java_util_ArrayList_grow_ILjavalangObject_0 : decode prog_41_method_6_code 0 = .ok (.aload_n 0, 1) := by decide +kernel
theorem d_java_util_ArrayList_grow_ILjavalangObject_1 : decode prog_41_method_6_code 1 = .ok (.getfield 9, 3) := by decide +kernel
theorem d_java_util_ArrayList_grow_ILjavalangObject_4 : decode prog_41_method_6_code 4 = .ok (.arraylength, 1) := by decide +kernel
theorem d_java_util_ArrayList_grow_ILjavalangObject_5 : decode prog_41_method_6_code 5 = .ok (.istore_n 2, 1) := by decide +kernel
theorem d_java_util_ArrayList_grow_ILjavalangObject_6 : decode prog_41_method_6_code 6 = .ok (.iload_n 2, 1) := by decide +kernel
theorem d_java_util_ArrayList_grow_ILjavalangObject_7 : decode prog_41_method_6_code 7 = .ok (.ifCond .gt 13, 3) := by decide +kernel
theorem d_java_util_ArrayList_grow_ILjavalangObject_10 : decode prog_41_method_6_code 10 = .ok (.aload_n 0, 1) := by decide +kernel
theorem d_java_util_ArrayList_grow_ILjavalangObject_11 : decode prog_41_method_6_code 11 = .ok (.getfield 9, 3) := by decide +kernel
theorem d_java_util_ArrayList_grow_ILjavalangObject_14 : decode prog_41_method_6_code 14 = .ok (.getstatic 39, 3) := by decide +kernel
theorem d_java_util_ArrayList_grow_ILjavalangObject_17 : decode prog_41_method_6_code 17 = .ok (.if_acmp .eq 28, 3) := by decide +kernel
theorem d_java_util_ArrayList_grow_ILjavalangObject_20 : decode prog_41_method_6_code 20 = .ok (.iload_n 2, 1) := by decide +kernel
theorem d_java_util_ArrayList_grow_ILjavalangObject_21 : decode prog_41_method_6_code 21 = .ok (.iload_n 1, 1) := by decide +kernel
theorem d_java_util_ArrayList_grow_ILjavalangObject_22 : decode prog_41_method_6_code 22 = .ok (.iload_n 2, 1) := by decide +kernel
theorem d_java_util_ArrayList_grow_ILjavalangObject_23 : decode prog_41_method_6_code 23 = .ok (.isub, 1) := by decide +kernel
theorem d_java_util_ArrayList_grow_ILjavalangObject_24 : decode prog_41_method_6_code 24 = .ok (.iload_n 2, 1) := by decide +kernel
theorem d_java_util_ArrayList_grow_ILjavalangObject_25 : decode prog_41_method_6_code 25 = .ok (.iconst 1, 1) := by decide +kernel
theorem d_java_util_ArrayList_grow_ILjavalangObject_26 : decode prog_41_method_6_code 26 = .ok (.ishr, 1) := by decide +kernel
theorem d_java_util_ArrayList_grow_ILjavalangObject_27 : decode prog_41_method_6_code 27 = .ok (.invokestatic 73, 3) := by decide +kernel
theorem d_java_util_ArrayList_grow_ILjavalangObject_30 : decode prog_41_method_6_code 30 = .ok (.istore_n 3, 1) := by decide +kernel
theorem d_java_util_ArrayList_grow_ILjavalangObject_31 : decode prog_41_method_6_code 31 = .ok (.aload_n 0, 1) := by decide +kernel
theorem d_java_util_ArrayList_grow_ILjavalangObject_32 : decode prog_41_method_6_code 32 = .ok (.aload_n 0, 1) := by decide +kernel
theorem d_java_util_ArrayList_grow_ILjavalangObject_33 : decode prog_41_method_6_code 33 = .ok (.getfield 9, 3) := by decide +kernel
theorem d_java_util_ArrayList_grow_ILjavalangObject_36 : decode prog_41_method_6_code 36 = .ok (.iload_n 3, 1) := by decide +kernel
theorem d_java_util_ArrayList_grow_ILjavalangObject_37 : decode prog_41_method_6_code 37 = .ok (.invokestatic 66, 3) := by decide +kernel
theorem d_java_util_ArrayList_grow_ILjavalangObject_40 : decode prog_41_method_6_code 40 = .ok (.dup_x1, 1) := by decide +kernel
theorem d_java_util_ArrayList_grow_ILjavalangObject_41 : decode prog_41_method_6_code 41 = .ok (.putfield 9, 3) := by decide +kernel
theorem d_java_util_ArrayList_grow_ILjavalangObject_44 : decode prog_41_method_6_code 44 = .ok (.areturn, 1) := by decide +kernel
theorem d_java_util_ArrayList_grow_ILjavalangObject_45 : decode prog_41_method_6_code 45 = .ok (.aload_n 0, 1) := by decide +kernel
theorem d_java_util_ArrayList_grow_ILjavalangObject_46 : decode prog_41_method_6_code 46 = .ok (.bipush 10, 2) := by decide +kernel
theorem d_java_util_ArrayList_grow_ILjavalangObject_48 : decode prog_41_method_6_code 48 = .ok (.iload_n 1, 1) := by decide +kernel
theorem d_java_util_ArrayList_grow_ILjavalangObject_49 : decode prog_41_method_6_code 49 = .ok (.invokestatic 79, 3) := by decide +kernel
theorem d_java_util_ArrayList_grow_ILjavalangObject_52 : decode prog_41_method_6_code 52 = .ok (.anewarray 7, 3) := by decide +kernel
theorem d_java_util_ArrayList_grow_ILjavalangObject_55 : decode prog_41_method_6_code 55 = .ok (.dup_x1, 1) := by decide +kernel
theorem d_java_util_ArrayList_grow_ILjavalangObject_56 : decode prog_41_method_6_code 56 = .ok (.putfield 9, 3) := by decide +kernel
theorem d_java_util_ArrayList_grow_ILjavalangObject_59 : decode prog_41_method_6_code 59 = .ok (.areturn, 1) := by decide +kernel
theorem d_java_util_Arrays_copyOf_LjavalangObjectILjavalangObject_0 : decode prog_42_method_119_code 0 = .ok (.aload_n 0, 1) := by decide +kernel
theorem d_java_util_Arrays_copyOf_LjavalangObjectILjavalangObject_1 : decode prog_42_method_119_code 1 = .ok (.iload_n 1, 1) := by decide +kernel
theorem d_java_util_Arrays_copyOf_LjavalangObjectILjavalangObject_2 : decode prog_42_method_119_code 2 = .ok (.aload_n 0, 1) := by decide +kernel
theorem d_java_util_Arrays_copyOf_LjavalangObjectILjavalangObject_3 : decode prog_42_method_119_code 3 = .ok (.invokevirtual 86, 3) := by decide +kernel
theorem d_java_util_Arrays_copyOf_LjavalangObjectILjavalangObject_6 : decode prog_42_method_119_code 6 = .ok (.invokestatic 300, 3) := by decide +kernel
theorem d_java_util_Arrays_copyOf_LjavalangObjectILjavalangObject_9 : decode prog_42_method_119_code 9 = .ok (.areturn, 1) := by decide +kernel
theorem d_java_util_Arrays_copyOf_LjavalangObjectILjavalangClassLjavalangObject_0 : decode prog_42_method_120_code 0 = .ok (.aload_n 2, 1) := by decide +kernel
theorem d_java_util_Arrays_copyOf_LjavalangObjectILjavalangClassLjavalangObject_1 : decode prog_42_method_120_code 1 = .ok (.ldc 110, 2) := by decide +kernel
theorem d_java_util_Arrays_copyOf_LjavalangObjectILjavalangClassLjavalangObject_3 : decode prog_42_method_120_code 3 = .ok (.if_acmp .ne 10, 3) := by decide +kernel
theorem d_java_util_Arrays_copyOf_LjavalangObjectILjavalangClassLjavalangObject_6 : decode prog_42_method_120_code 6 = .ok (.iload_n 1, 1) := by decide +kernel
theorem d_java_util_Arrays_copyOf_LjavalangObjectILjavalangClassLjavalangObject_7 : decode prog_42_method_120_code 7 = .ok (.anewarray 2, 3) := by decide +kernel
theorem d_java_util_Arrays_copyOf_LjavalangObjectILjavalangClassLjavalangObject_10 : decode prog_42_method_120_code 10 = .ok (.goto 14, 3) := by decide +kernel
theorem d_java_util_Arrays_copyOf_LjavalangObjectILjavalangClassLjavalangObject_13 : decode prog_42_method_120_code 13 = .ok (.aload_n 2, 1) := by decide +kernel
theorem d_java_util_Arrays_copyOf_LjavalangObjectILjavalangClassLjavalangObject_14 : decode prog_42_method_120_code 14 = .ok (.invokevirtual 90, 3) := by decide +kernel
theorem d_java_util_Arrays_copyOf_LjavalangObjectILjavalangClassLjavalangObject_17 : decode prog_42_method_120_code 17 = .ok (.iload_n 1, 1) := by decide +kernel
theorem d_java_util_Arrays_copyOf_LjavalangObjectILjavalangClassLjavalangObject_18 : decode prog_42_method_120_code 18 = .ok (.invokestatic 95, 3) := by decide +kernel
theorem d_java_util_Arrays_copyOf_LjavalangObjectILjavalangClassLjavalangObject_21 : decode prog_42_method_120_code 21 = .ok (.checkcast 110, 3) := by decide +kernel
theorem d_java_util_Arrays_copyOf_LjavalangObjectILjavalangClassLjavalangObject_24 : decode prog_42_method_120_code 24 = .ok (.astore_n 3, 1) := by decide +kernel
theorem d_java_util_Arrays_copyOf_LjavalangObjectILjavalangClassLjavalangObject_25 : decode prog_42_method_120_code 25 = .ok (.aload_n 0, 1) := by decide +kernel
theorem d_java_util_Arrays_copyOf_LjavalangObjectILjavalangClassLjavalangObject_26 : decode prog_42_method_120_code 26 = .ok (.iconst 0, 1) := by decide +kernel
theorem d_java_util_Arrays_copyOf_LjavalangObjectILjavalangClassLjavalangObject_27 : decode prog_42_method_120_code 27 = .ok (.aload_n 3, 1) := by decide +kernel
theorem d_java_util_Arrays_copyOf_LjavalangObjectILjavalangClassLjavalangObject_28 : decode prog_42_method_120_code 28 = .ok (.iconst 0, 1) := by decide +kernel
theorem d_java_util_Arrays_copyOf_LjavalangObjectILjavalangClassLjavalangObject_29 : decode prog_42_method_120_code 29 = .ok (.aload_n 0, 1) := by decide +kernel
theorem d_java_util_Arrays_copyOf_LjavalangObjectILjavalangClassLjavalangObject_30 : decode prog_42_method_120_code 30 = .ok (.arraylength, 1) := by decide +kernel
theorem d_java_util_Arrays_copyOf_LjavalangObjectILjavalangClassLjavalangObject_31 : decode prog_42_method_120_code 31 = .ok (.iload_n 1, 1) := by decide +kernel
theorem d_java_util_Arrays_copyOf_LjavalangObjectILjavalangClassLjavalangObject_32 : decode prog_42_method_120_code 32 = .ok (.invokestatic 304, 3) := by decide +kernel
theorem d_java_util_Arrays_copyOf_LjavalangObjectILjavalangClassLjavalangObject_35 : decode prog_42_method_120_code 35 = .ok (.invokestatic 150, 3) := by decide +kernel
theorem d_java_util_Arrays_copyOf_LjavalangObjectILjavalangClassLjavalangObject_38 : decode prog_42_method_120_code 38 = .ok (.aload_n 3, 1) := by decide +kernel
theorem d_java_util_Arrays_copyOf_LjavalangObjectILjavalangClassLjavalangObject_39 : decode prog_42_method_120_code 39 = .ok (.areturn, 1) := by decide +kernel
theorem d_java_lang_Integer_compare_0 : decode prog_26_method_40_code 0 = .ok (.iload_n 0, 1) := by decide +kernel
theorem d_java_lang_Integer_compare_1 : decode prog_26_method_40_code 1 = .ok (.iload_n 1, 1) := by decide +kernel
theorem d_java_lang_Integer_compare_2 : decode prog_26_method_40_code 2 = .ok (.if_icmp .ge 7, 3) := by decide +kernel
theorem d_java_lang_Integer_compare_5 : decode prog_26_method_40_code 5 = .ok (.iconst (-1), 1) := by decide +kernel
theorem d_java_lang_Integer_compare_6 : decode prog_26_method_40_code 6 = .ok (.goto 13, 3) := by decide +kernel
theorem d_java_lang_Integer_compare_9 : decode prog_26_method_40_code 9 = .ok (.iload_n 0, 1) := by decide +kernel
theorem d_java_lang_Integer_compare_10 : decode prog_26_method_40_code 10 = .ok (.iload_n 1, 1) := by decide +kernel
theorem d_java_lang_Integer_compare_11 : decode prog_26_method_40_code 11 = .ok (.if_icmp .ne 7, 3) := by decide +kernel
theorem d_java_lang_Integer_compare_14 : decode prog_26_method_40_code 14 = .ok (.iconst 0, 1) := by decide +kernel
theorem d_java_lang_Integer_compare_15 : decode prog_26_method_40_code 15 = .ok (.goto 4, 3) := by decide +kernel
theorem d_java_lang_Integer_compare_18 : decode prog_26_method_40_code 18 = .ok (.iconst 1, 1) := by decide +kernel
theorem d_java_lang_Integer_compare_19 : decode prog_26_method_40_code 19 = .ok (.ireturn, 1) := by decide +kernel
theorem d_java_lang_Integer_bitCount_0 : decode prog_26_method_49_code 0 = .ok (.iload_n 0, 1) := by decide +kernel
theorem d_java_lang_Integer_bitCount_1 : decode prog_26_method_49_code 1 = .ok (.iload_n 0, 1) := by decide +kernel
theorem d_java_lang_Integer_bitCount_2 : decode prog_26_method_49_code 2 = .ok (.iconst 1, 1) := by decide +kernel
theorem d_java_lang_Integer_bitCount_3 : decode prog_26_method_49_code 3 = .ok (.iushr, 1) := by decide +kernel
theorem d_java_lang_Integer_bitCount_4 : decode prog_26_method_49_code 4 = .ok (.ldc_w 265, 3) := by decide +kernel
theorem d_java_lang_Integer_bitCount_7 : decode prog_26_method_49_code 7 = .ok (.iand, 1) := by decide +kernel
theorem d_java_lang_Integer_bitCount_8 : decode prog_26_method_49_code 8 = .ok (.isub, 1) := by decide +kernel
theorem d_java_lang_Integer_bitCount_9 : decode prog_26_method_49_code 9 = .ok (.istore_n 0, 1) := by decide +kernel
theorem d_java_lang_Integer_bitCount_10 : decode prog_26_method_49_code 10 = .ok (.iload_n 0, 1) := by decide +kernel
theorem d_java_lang_Integer_bitCount_11 : decode prog_26_method_49_code 11 = .ok (.ldc_w 266, 3) := by decide +kernel
theorem d_java_lang_Integer_bitCount_14 : decode prog_26_method_49_code 14 = .ok (.iand, 1) := by decide +kernel
theorem d_java_lang_Integer_bitCount_15 : decode prog_26_method_49_code 15 = .ok (.iload_n 0, 1) := by decide +kernel
theorem d_java_lang_Integer_bitCount_16 : decode prog_26_method_49_code 16 = .ok (.iconst 2, 1) := by decide +kernel
theorem d_java_lang_Integer_bitCount_17 : decode prog_26_method_49_code 17 = .ok (.iushr, 1) := by decide +kernel
theorem d_java_lang_Integer_bitCount_18 : decode prog_26_method_49_code 18 = .ok (.ldc_w 266, 3) := by decide +kernel
theorem d_java_lang_Integer_bitCount_21 : decode prog_26_method_49_code 21 = .ok (.iand, 1) := by decide +kernel
theorem d_java_lang_Integer_bitCount_22 : decode prog_26_method_49_code 22 = .ok (.iadd, 1) := by decide +kernel
theorem d_java_lang_Integer_bitCount_23 : decode prog_26_method_49_code 23 = .ok (.istore_n 0, 1) := by decide +kernel
theorem d_java_lang_Integer_bitCount_24 : decode prog_26_method_49_code 24 = .ok (.iload_n 0, 1) := by decide +kernel
theorem d_java_lang_Integer_bitCount_25 : decode prog_26_method_49_code 25 = .ok (.iload_n 0, 1) := by decide +kernel
theorem d_java_lang_Integer_bitCount_26 : decode prog_26_method_49_code 26 = .ok (.iconst 4, 1) := by decide +kernel
theorem d_java_lang_Integer_bitCount_27 : decode prog_26_method_49_code 27 = .ok (.iushr, 1) := by decide +kernel
theorem d_java_lang_Integer_bitCount_28 : decode prog_26_method_49_code 28 = .ok (.iadd, 1) := by decide +kernel
theorem d_java_lang_Integer_bitCount_29 : decode prog_26_method_49_code 29 = .ok (.ldc_w 267, 3) := by decide +kernel
theorem d_java_lang_Integer_bitCount_32 : decode prog_26_method_49_code 32 = .ok (.iand, 1) := by decide +kernel
theorem d_java_lang_Integer_bitCount_33 : decode prog_26_method_49_code 33 = .ok (.istore_n 0, 1) := by decide +kernel
theorem d_java_lang_Integer_bitCount_34 : decode prog_26_method_49_code 34 = .ok (.iload_n 0, 1) := by decide +kernel
theorem d_java_lang_Integer_bitCount_35 : decode prog_26_method_49_code 35 = .ok (.iload_n 0, 1) := by decide +kernel
theorem d_java_lang_Integer_bitCount_36 : decode prog_26_method_49_code 36 = .ok (.bipush 8, 2) := by decide +kernel
theorem d_java_lang_Integer_bitCount_38 : decode prog_26_method_49_code 38 = .ok (.iushr, 1) := by decide +kernel
theorem d_java_lang_Integer_bitCount_39 : decode prog_26_method_49_code 39 = .ok (.iadd, 1) := by decide +kernel
theorem d_java_lang_Integer_bitCount_40 : decode prog_26_method_49_code 40 = .ok (.istore_n 0, 1) := by decide +kernel
theorem d_java_lang_Integer_bitCount_41 : decode prog_26_method_49_code 41 = .ok (.iload_n 0, 1) := by decide +kernel
theorem d_java_lang_Integer_bitCount_42 : decode prog_26_method_49_code 42 = .ok (.iload_n 0, 1) := by decide +kernel
theorem d_java_lang_Integer_bitCount_43 : decode prog_26_method_49_code 43 = .ok (.bipush 16, 2) := by decide +kernel
theorem d_java_lang_Integer_bitCount_45 : decode prog_26_method_49_code 45 = .ok (.iushr, 1) := by decide +kernel
theorem d_java_lang_Integer_bitCount_46 : decode prog_26_method_49_code 46 = .ok (.iadd, 1) := by decide +kernel
theorem d_java_lang_Integer_bitCount_47 : decode prog_26_method_49_code 47 = .ok (.istore_n 0, 1) := by decide +kernel
theorem d_java_lang_Integer_bitCount_48 : decode prog_26_method_49_code 48 = .ok (.iload_n 0, 1) := by decide +kernel
theorem d_java_lang_Integer_bitCount_49 : decode prog_26_method_49_code 49 = .ok (.bipush 63, 2) := by decide +kernel
theorem d_java_lang_Integer_bitCount_51 : decode prog_26_method_49_code 51 = .ok (.iand, 1) := by decide +kernel
theorem d_java_lang_Integer_bitCount_52 : decode prog_26_method_49_code 52 = .ok (.ireturn, 1) := by decide +kernel
