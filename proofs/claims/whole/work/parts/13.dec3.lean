theorem d_Law_table_0 : decode method_3_code 0 = .ok (.aload_n 2, 1) := by decide +kernel
theorem d_Law_table_1 : decode method_3_code 1 = .ok (.iconst 0, 1) := by decide +kernel
theorem d_Law_table_2 : decode method_3_code 2 = .ok (.aload_n 0, 1) := by decide +kernel
theorem d_Law_table_3 : decode method_3_code 3 = .ok (.iload_n 1, 1) := by decide +kernel
theorem d_Law_table_4 : decode method_3_code 4 = .ok (.invokevirtual 7, 3) := by decide +kernel
theorem d_Law_table_7 : decode method_3_code 7 = .ok (.i2l, 1) := by decide +kernel
theorem d_Law_table_8 : decode method_3_code 8 = .ok (.lastore, 1) := by decide +kernel
theorem d_Law_table_9 : decode method_3_code 9 = .ok (.goto 9, 3) := by decide +kernel
theorem d_Law_table_12 : decode method_3_code 12 = .ok (.astore_n 3, 1) := by decide +kernel
theorem d_Law_table_13 : decode method_3_code 13 = .ok (.iconst 1, 1) := by decide +kernel
theorem d_Law_table_14 : decode method_3_code 14 = .ok (.ireturn, 1) := by decide +kernel
theorem d_Law_table_15 : decode method_3_code 15 = .ok (.astore_n 3, 1) := by decide +kernel
theorem d_Law_table_16 : decode method_3_code 16 = .ok (.iconst 2, 1) := by decide +kernel
theorem d_Law_table_17 : decode method_3_code 17 = .ok (.ireturn, 1) := by decide +kernel
theorem d_Law_table_18 : decode method_3_code 18 = .ok (.iconst 0, 1) := by decide +kernel
theorem d_Law_table_19 : decode method_3_code 19 = .ok (.ireturn, 1) := by decide +kernel
theorem d_Law_check_0 : decode method_4_code 0 = .ok (.aload 5, 2) := by decide +kernel
theorem d_Law_check_2 : decode method_4_code 2 = .ok (.iconst 0, 1) := by decide +kernel
theorem d_Law_check_3 : decode method_4_code 3 = .ok (.aload_n 0, 1) := by decide +kernel
theorem d_Law_check_4 : decode method_4_code 4 = .ok (.iload_n 1, 1) := by decide +kernel
theorem d_Law_check_5 : decode method_4_code 5 = .ok (.iload_n 2, 1) := by decide +kernel
theorem d_Law_check_6 : decode method_4_code 6 = .ok (.iload_n 3, 1) := by decide +kernel
theorem d_Law_check_7 : decode method_4_code 7 = .ok (.iload 4, 2) := by decide +kernel
theorem d_Law_check_9 : decode method_4_code 9 = .ok (.invokevirtual 17, 3) := by decide +kernel
theorem d_Law_check_12 : decode method_4_code 12 = .ok (.i2l, 1) := by decide +kernel
theorem d_Law_check_13 : decode method_4_code 13 = .ok (.lastore, 1) := by decide +kernel
theorem d_Law_check_14 : decode method_4_code 14 = .ok (.goto 15, 3) := by decide +kernel
theorem d_Law_check_17 : decode method_4_code 17 = .ok (.astore 6, 2) := by decide +kernel
theorem d_Law_check_19 : decode method_4_code 19 = .ok (.iconst 1, 1) := by decide +kernel
theorem d_Law_check_20 : decode method_4_code 20 = .ok (.ireturn, 1) := by decide +kernel
theorem d_Law_check_21 : decode method_4_code 21 = .ok (.astore 6, 2) := by decide +kernel
theorem d_Law_check_23 : decode method_4_code 23 = .ok (.iconst 2, 1) := by decide +kernel
theorem d_Law_check_24 : decode method_4_code 24 = .ok (.ireturn, 1) := by decide +kernel
theorem d_Law_check_25 : decode method_4_code 25 = .ok (.astore 6, 2) := by decide +kernel
theorem d_Law_check_27 : decode method_4_code 27 = .ok (.iconst 3, 1) := by decide +kernel
theorem d_Law_check_28 : decode method_4_code 28 = .ok (.ireturn, 1) := by decide +kernel
theorem d_Law_check_29 : decode method_4_code 29 = .ok (.iconst 0, 1) := by decide +kernel
theorem d_Law_check_30 : decode method_4_code 30 = .ok (.ireturn, 1) := by decide +kernel
theorem d_Law_refer_0 : decode method_5_code 0 = .ok (.aload_n 0, 1) := by decide +kernel
theorem d_Law_refer_1 : decode method_5_code 1 = .ok (.iload_n 1, 1) := by decide +kernel
theorem d_Law_refer_2 : decode method_5_code 2 = .ok (.iload_n 2, 1) := by decide +kernel
theorem d_Law_refer_3 : decode method_5_code 3 = .ok (.iload_n 3, 1) := by decide +kernel
theorem d_Law_refer_4 : decode method_5_code 4 = .ok (.iload 4, 2) := by decide +kernel
theorem d_Law_refer_6 : decode method_5_code 6 = .ok (.invokevirtual 23, 3) := by decide +kernel
theorem d_Law_refer_9 : decode method_5_code 9 = .ok (.goto 15, 3) := by decide +kernel
theorem d_Law_refer_12 : decode method_5_code 12 = .ok (.astore 5, 2) := by decide +kernel
theorem d_Law_refer_14 : decode method_5_code 14 = .ok (.iconst 1, 1) := by decide +kernel
theorem d_Law_refer_15 : decode method_5_code 15 = .ok (.ireturn, 1) := by decide +kernel
theorem d_Law_refer_16 : decode method_5_code 16 = .ok (.astore 5, 2) := by decide +kernel
theorem d_Law_refer_18 : decode method_5_code 18 = .ok (.iconst 2, 1) := by decide +kernel
theorem d_Law_refer_19 : decode method_5_code 19 = .ok (.ireturn, 1) := by decide +kernel
theorem d_Law_refer_20 : decode method_5_code 20 = .ok (.astore 5, 2) := by decide +kernel
theorem d_Law_refer_22 : decode method_5_code 22 = .ok (.iconst 3, 1) := by decide +kernel
theorem d_Law_refer_23 : decode method_5_code 23 = .ok (.ireturn, 1) := by decide +kernel
theorem d_Law_refer_24 : decode method_5_code 24 = .ok (.iconst 0, 1) := by decide +kernel
theorem d_Law_refer_25 : decode method_5_code 25 = .ok (.ireturn, 1) := by decide +kernel
theorem d_Law_veil_0 : decode method_6_code 0 = .ok (.aload 6, 2) := by decide +kernel
theorem d_Law_veil_2 : decode method_6_code 2 = .ok (.iconst 0, 1) := by decide +kernel
theorem d_Law_veil_3 : decode method_6_code 3 = .ok (.aload_n 0, 1) := by decide +kernel
theorem d_Law_veil_4 : decode method_6_code 4 = .ok (.iload_n 1, 1) := by decide +kernel
theorem d_Law_veil_5 : decode method_6_code 5 = .ok (.iload_n 2, 1) := by decide +kernel
theorem d_Law_veil_6 : decode method_6_code 6 = .ok (.iload_n 3, 1) := by decide +kernel
theorem d_Law_veil_7 : decode method_6_code 7 = .ok (.iload 4, 2) := by decide +kernel
theorem d_Law_veil_9 : decode method_6_code 9 = .ok (.iload 5, 2) := by decide +kernel
theorem d_Law_veil_11 : decode method_6_code 11 = .ok (.invokevirtual 27, 3) := by decide +kernel
theorem d_Law_veil_14 : decode method_6_code 14 = .ok (.i2l, 1) := by decide +kernel
theorem d_Law_veil_15 : decode method_6_code 15 = .ok (.lastore, 1) := by decide +kernel
theorem d_Law_veil_16 : decode method_6_code 16 = .ok (.goto 15, 3) := by decide +kernel
theorem d_Law_veil_19 : decode method_6_code 19 = .ok (.astore 7, 2) := by decide +kernel
theorem d_Law_veil_21 : decode method_6_code 21 = .ok (.iconst 1, 1) := by decide +kernel
theorem d_Law_veil_22 : decode method_6_code 22 = .ok (.ireturn, 1) := by decide +kernel
theorem d_Law_veil_23 : decode method_6_code 23 = .ok (.astore 7, 2) := by decide +kernel
theorem d_Law_veil_25 : decode method_6_code 25 = .ok (.iconst 2, 1) := by decide +kernel
theorem d_Law_veil_26 : decode method_6_code 26 = .ok (.ireturn, 1) := by decide +kernel
theorem d_Law_veil_27 : decode method_6_code 27 = .ok (.astore 7, 2) := by decide +kernel
theorem d_Law_veil_29 : decode method_6_code 29 = .ok (.iconst 3, 1) := by decide +kernel
theorem d_Law_veil_30 : decode method_6_code 30 = .ok (.ireturn, 1) := by decide +kernel
theorem d_Law_veil_31 : decode method_6_code 31 = .ok (.iconst 0, 1) := by decide +kernel
theorem d_Law_veil_32 : decode method_6_code 32 = .ok (.ireturn, 1) := by decide +kernel
theorem d_Law_begin_0 : decode method_7_code 0 = .ok (.aload_n 2, 1) := by decide +kernel
theorem d_Law_begin_1 : decode method_7_code 1 = .ok (.iconst 0, 1) := by decide +kernel
theorem d_Law_begin_2 : decode method_7_code 2 = .ok (.aload_n 0, 1) := by decide +kernel
theorem d_Law_begin_3 : decode method_7_code 3 = .ok (.iload_n 1, 1) := by decide +kernel
theorem d_Law_begin_4 : decode method_7_code 4 = .ok (.invokevirtual 31, 3) := by decide +kernel
theorem d_Law_begin_7 : decode method_7_code 7 = .ok (.i2l, 1) := by decide +kernel
theorem d_Law_begin_8 : decode method_7_code 8 = .ok (.lastore, 1) := by decide +kernel
theorem d_Law_begin_9 : decode method_7_code 9 = .ok (.goto 9, 3) := by decide +kernel
theorem d_Law_begin_12 : decode method_7_code 12 = .ok (.astore_n 3, 1) := by decide +kernel
theorem d_Law_begin_13 : decode method_7_code 13 = .ok (.iconst 1, 1) := by decide +kernel
theorem d_Law_begin_14 : decode method_7_code 14 = .ok (.ireturn, 1) := by decide +kernel
theorem d_Law_begin_15 : decode method_7_code 15 = .ok (.astore_n 3, 1) := by decide +kernel
theorem d_Law_begin_16 : decode method_7_code 16 = .ok (.iconst 2, 1) := by decide +kernel
theorem d_Law_begin_17 : decode method_7_code 17 = .ok (.ireturn, 1) := by decide +kernel
theorem d_Law_begin_18 : decode method_7_code 18 = .ok (.iconst 0, 1) := by decide +kernel
theorem d_Law_begin_19 : decode method_7_code 19 = .ok (.ireturn, 1) := by decide +kernel
theorem d_Law_value_0 : decode method_8_code 0 = .ok (.aload_n 2, 1) := by decide +kernel
theorem d_Law_value_1 : decode method_8_code 1 = .ok (.iconst 0, 1) := by decide +kernel
theorem d_Law_value_2 : decode method_8_code 2 = .ok (.aload_n 0, 1) := by decide +kernel
theorem d_Law_value_3 : decode method_8_code 3 = .ok (.iload_n 1, 1) := by decide +kernel
theorem d_Law_value_4 : decode method_8_code 4 = .ok (.invokevirtual 34, 3) := by decide +kernel
theorem d_Law_value_7 : decode method_8_code 7 = .ok (.i2l, 1) := by decide +kernel
theorem d_Law_value_8 : decode method_8_code 8 = .ok (.lastore, 1) := by decide +kernel
theorem d_Law_value_9 : decode method_8_code 9 = .ok (.goto 9, 3) := by decide +kernel
theorem d_Law_value_12 : decode method_8_code 12 = .ok (.astore_n 3, 1) := by decide +kernel
theorem d_Law_value_13 : decode method_8_code 13 = .ok (.iconst 1, 1) := by decide +kernel
theorem d_Law_value_14 : decode method_8_code 14 = .ok (.ireturn, 1) := by decide +kernel
theorem d_Law_value_15 : decode method_8_code 15 = .ok (.astore_n 3, 1) := by decide +kernel
theorem d_Law_value_16 : decode method_8_code 16 = .ok (.iconst 2, 1) := by decide +kernel
theorem d_Law_value_17 : decode method_8_code 17 = .ok (.ireturn, 1) := by decide +kernel
theorem d_Law_value_18 : decode method_8_code 18 = .ok (.iconst 0, 1) := by decide +kernel
theorem d_Law_value_19 : decode method_8_code 19 = .ok (.ireturn, 1) := by decide +kernel
theorem d_Law_insert_0 : decode method_9_code 0 = .ok (.aload_n 3, 1) := by decide +kernel
theorem d_Law_insert_1 : decode method_9_code 1 = .ok (.iconst 0, 1) := by decide +kernel
theorem d_Law_insert_2 : decode method_9_code 2 = .ok (.aload_n 0, 1) := by decide +kernel
theorem d_Law_insert_3 : decode method_9_code 3 = .ok (.iload_n 1, 1) := by decide +kernel
theorem d_Law_insert_4 : decode method_9_code 4 = .ok (.iload_n 2, 1) := by decide +kernel
theorem d_Law_insert_5 : decode method_9_code 5 = .ok (.invokevirtual 37, 3) := by decide +kernel
theorem d_Law_insert_8 : decode method_9_code 8 = .ok (.i2l, 1) := by decide +kernel
theorem d_Law_insert_9 : decode method_9_code 9 = .ok (.lastore, 1) := by decide +kernel
theorem d_Law_insert_10 : decode method_9_code 10 = .ok (.goto 11, 3) := by decide +kernel
theorem d_Law_insert_13 : decode method_9_code 13 = .ok (.astore 4, 2) := by decide +kernel
theorem d_Law_insert_15 : decode method_9_code 15 = .ok (.iconst 1, 1) := by decide +kernel
theorem d_Law_insert_16 : decode method_9_code 16 = .ok (.ireturn, 1) := by decide +kernel
theorem d_Law_insert_17 : decode method_9_code 17 = .ok (.astore 4, 2) := by decide +kernel
theorem d_Law_insert_19 : decode method_9_code 19 = .ok (.iconst 2, 1) := by decide +kernel
theorem d_Law_insert_20 : decode method_9_code 20 = .ok (.ireturn, 1) := by decide +kernel
theorem d_Law_insert_21 : decode method_9_code 21 = .ok (.iconst 0, 1) := by decide +kernel
theorem d_Law_insert_22 : decode method_9_code 22 = .ok (.ireturn, 1) := by decide +kernel
theorem d_Law_update_0 : decode method_10_code 0 = .ok (.aload 6, 2) := by decide +kernel
theorem d_Law_update_2 : decode method_10_code 2 = .ok (.iconst 0, 1) := by decide +kernel
theorem d_Law_update_3 : decode method_10_code 3 = .ok (.aload_n 0, 1) := by decide +kernel
theorem d_Law_update_4 : decode method_10_code 4 = .ok (.iload_n 1, 1) := by decide +kernel
theorem d_Law_update_5 : decode method_10_code 5 = .ok (.iload_n 2, 1) := by decide +kernel
theorem d_Law_update_6 : decode method_10_code 6 = .ok (.iload_n 3, 1) := by decide +kernel
theorem d_Law_update_7 : decode method_10_code 7 = .ok (.iload 4, 2) := by decide +kernel
theorem d_Law_update_9 : decode method_10_code 9 = .ok (.iload 5, 2) := by decide +kernel
theorem d_Law_update_11 : decode method_10_code 11 = .ok (.invokevirtual 41, 3) := by decide +kernel
theorem d_Law_update_14 : decode method_10_code 14 = .ok (.i2l, 1) := by decide +kernel
theorem d_Law_update_15 : decode method_10_code 15 = .ok (.lastore, 1) := by decide +kernel
theorem d_Law_update_16 : decode method_10_code 16 = .ok (.goto 15, 3) := by decide +kernel
theorem d_Law_update_19 : decode method_10_code 19 = .ok (.astore 7, 2) := by decide +kernel
theorem d_Law_update_21 : decode method_10_code 21 = .ok (.iconst 1, 1) := by decide +kernel
theorem d_Law_update_22 : decode method_10_code 22 = .ok (.ireturn, 1) := by decide +kernel
theorem d_Law_update_23 : decode method_10_code 23 = .ok (.astore 7, 2) := by decide +kernel
theorem d_Law_update_25 : decode method_10_code 25 = .ok (.iconst 2, 1) := by decide +kernel
theorem d_Law_update_26 : decode method_10_code 26 = .ok (.ireturn, 1) := by decide +kernel
theorem d_Law_update_27 : decode method_10_code 27 = .ok (.astore 7, 2) := by decide +kernel
theorem d_Law_update_29 : decode method_10_code 29 = .ok (.iconst 3, 1) := by decide +kernel
theorem d_Law_update_30 : decode method_10_code 30 = .ok (.ireturn, 1) := by decide +kernel
theorem d_Law_update_31 : decode method_10_code 31 = .ok (.iconst 0, 1) := by decide +kernel
theorem d_Law_update_32 : decode method_10_code 32 = .ok (.ireturn, 1) := by decide +kernel
theorem d_Law_delete_0 : decode method_11_code 0 = .ok (.aload 4, 2) := by decide +kernel
theorem d_Law_delete_2 : decode method_11_code 2 = .ok (.iconst 0, 1) := by decide +kernel
theorem d_Law_delete_3 : decode method_11_code 3 = .ok (.aload_n 0, 1) := by decide +kernel
theorem d_Law_delete_4 : decode method_11_code 4 = .ok (.iload_n 1, 1) := by decide +kernel
theorem d_Law_delete_5 : decode method_11_code 5 = .ok (.iload_n 2, 1) := by decide +kernel
theorem d_Law_delete_6 : decode method_11_code 6 = .ok (.iload_n 3, 1) := by decide +kernel
theorem d_Law_delete_7 : decode method_11_code 7 = .ok (.invokevirtual 44, 3) := by decide +kernel
theorem d_Law_delete_10 : decode method_11_code 10 = .ok (.i2l, 1) := by decide +kernel
theorem d_Law_delete_11 : decode method_11_code 11 = .ok (.lastore, 1) := by decide +kernel
theorem d_Law_delete_12 : decode method_11_code 12 = .ok (.goto 11, 3) := by decide +kernel
theorem d_Law_delete_15 : decode method_11_code 15 = .ok (.astore 5, 2) := by decide +kernel
theorem d_Law_delete_17 : decode method_11_code 17 = .ok (.iconst 1, 1) := by decide +kernel
theorem d_Law_delete_18 : decode method_11_code 18 = .ok (.ireturn, 1) := by decide +kernel
theorem d_Law_delete_19 : decode method_11_code 19 = .ok (.astore 5, 2) := by decide +kernel
theorem d_Law_delete_21 : decode method_11_code 21 = .ok (.iconst 2, 1) := by decide +kernel
theorem d_Law_delete_22 : decode method_11_code 22 = .ok (.ireturn, 1) := by decide +kernel
theorem d_Law_delete_23 : decode method_11_code 23 = .ok (.iconst 0, 1) := by decide +kernel
theorem d_Law_delete_24 : decode method_11_code 24 = .ok (.ireturn, 1) := by decide +kernel
theorem d_Law_commit_0 : decode method_12_code 0 = .ok (.aload_n 2, 1) := by decide +kernel
theorem d_Law_commit_1 : decode method_12_code 1 = .ok (.iconst 0, 1) := by decide +kernel
theorem d_Law_commit_2 : decode method_12_code 2 = .ok (.aload_n 0, 1) := by decide +kernel
theorem d_Law_commit_3 : decode method_12_code 3 = .ok (.iload_n 1, 1) := by decide +kernel
theorem d_Law_commit_4 : decode method_12_code 4 = .ok (.invokevirtual 48, 3) := by decide +kernel
theorem d_Law_commit_7 : decode method_12_code 7 = .ok (.i2l, 1) := by decide +kernel
theorem d_Law_commit_8 : decode method_12_code 8 = .ok (.lastore, 1) := by decide +kernel
theorem d_Law_commit_9 : decode method_12_code 9 = .ok (.goto 9, 3) := by decide +kernel
theorem d_Law_commit_12 : decode method_12_code 12 = .ok (.astore_n 3, 1) := by decide +kernel
theorem d_Law_commit_13 : decode method_12_code 13 = .ok (.iconst 1, 1) := by decide +kernel
theorem d_Law_commit_14 : decode method_12_code 14 = .ok (.ireturn, 1) := by decide +kernel
theorem d_Law_commit_15 : decode method_12_code 15 = .ok (.astore_n 3, 1) := by decide +kernel
theorem d_Law_commit_16 : decode method_12_code 16 = .ok (.iconst 2, 1) := by decide +kernel
theorem d_Law_commit_17 : decode method_12_code 17 = .ok (.ireturn, 1) := by decide +kernel
theorem d_Law_commit_18 : decode method_12_code 18 = .ok (.iconst 0, 1) := by decide +kernel
theorem d_Law_commit_19 : decode method_12_code 19 = .ok (.ireturn, 1) := by decide +kernel
theorem d_Law_abort_0 : decode method_13_code 0 = .ok (.aload_n 2, 1) := by decide +kernel
theorem d_Law_abort_1 : decode method_13_code 1 = .ok (.iconst 0, 1) := by decide +kernel
theorem d_Law_abort_2 : decode method_13_code 2 = .ok (.aload_n 0, 1) := by decide +kernel
theorem d_Law_abort_3 : decode method_13_code 3 = .ok (.iload_n 1, 1) := by decide +kernel
theorem d_Law_abort_4 : decode method_13_code 4 = .ok (.invokevirtual 51, 3) := by decide +kernel
theorem d_Law_abort_7 : decode method_13_code 7 = .ok (.i2l, 1) := by decide +kernel
theorem d_Law_abort_8 : decode method_13_code 8 = .ok (.lastore, 1) := by decide +kernel
theorem d_Law_abort_9 : decode method_13_code 9 = .ok (.goto 9, 3) := by decide +kernel
theorem d_Law_abort_12 : decode method_13_code 12 = .ok (.astore_n 3, 1) := by decide +kernel
theorem d_Law_abort_13 : decode method_13_code 13 = .ok (.iconst 1, 1) := by decide +kernel
theorem d_Law_abort_14 : decode method_13_code 14 = .ok (.ireturn, 1) := by decide +kernel
theorem d_Law_abort_15 : decode method_13_code 15 = .ok (.astore_n 3, 1) := by decide +kernel
theorem d_Law_abort_16 : decode method_13_code 16 = .ok (.iconst 2, 1) := by decide +kernel
theorem d_Law_abort_17 : decode method_13_code 17 = .ok (.ireturn, 1) := by decide +kernel
theorem d_Law_abort_18 : decode method_13_code 18 = .ok (.iconst 0, 1) := by decide +kernel
theorem d_Law_abort_19 : decode method_13_code 19 = .ok (.ireturn, 1) := by decide +kernel
theorem d_Law_state_0 : decode method_14_code 0 = .ok (.aload_n 2, 1) := by decide +kernel
theorem d_Law_state_1 : decode method_14_code 1 = .ok (.iconst 0, 1) := by decide +kernel
theorem d_Law_state_2 : decode method_14_code 2 = .ok (.aload_n 0, 1) := by decide +kernel
theorem d_Law_state_3 : decode method_14_code 3 = .ok (.iload_n 1, 1) := by decide +kernel
theorem d_Law_state_4 : decode method_14_code 4 = .ok (.invokevirtual 54, 3) := by decide +kernel
theorem d_Law_state_7 : decode method_14_code 7 = .ok (.i2l, 1) := by decide +kernel
theorem d_Law_state_8 : decode method_14_code 8 = .ok (.lastore, 1) := by decide +kernel
theorem d_Law_state_9 : decode method_14_code 9 = .ok (.goto 6, 3) := by decide +kernel
theorem d_Law_state_12 : decode method_14_code 12 = .ok (.astore_n 3, 1) := by decide +kernel
theorem d_Law_state_13 : decode method_14_code 13 = .ok (.iconst 1, 1) := by decide +kernel
theorem d_Law_state_14 : decode method_14_code 14 = .ok (.ireturn, 1) := by decide +kernel
theorem d_Law_state_15 : decode method_14_code 15 = .ok (.iconst 0, 1) := by decide +kernel
theorem d_Law_state_16 : decode method_14_code 16 = .ok (.ireturn, 1) := by decide +kernel
theorem d_Law_outcome_0 : decode method_15_code 0 = .ok (.aload_n 2, 1) := by decide +kernel
theorem d_Law_outcome_1 : decode method_15_code 1 = .ok (.iconst 0, 1) := by decide +kernel
theorem d_Law_outcome_2 : decode method_15_code 2 = .ok (.aload_n 0, 1) := by decide +kernel
theorem d_Law_outcome_3 : decode method_15_code 3 = .ok (.iload_n 1, 1) := by decide +kernel
theorem d_Law_outcome_4 : decode method_15_code 4 = .ok (.invokevirtual 57, 3) := by decide +kernel
theorem d_Law_outcome_7 : decode method_15_code 7 = .ok (.i2l, 1) := by decide +kernel
theorem d_Law_outcome_8 : decode method_15_code 8 = .ok (.lastore, 1) := by decide +kernel
theorem d_Law_outcome_9 : decode method_15_code 9 = .ok (.goto 6, 3) := by decide +kernel
theorem d_Law_outcome_12 : decode method_15_code 12 = .ok (.astore_n 3, 1) := by decide +kernel
theorem d_Law_outcome_13 : decode method_15_code 13 = .ok (.iconst 1, 1) := by decide +kernel
theorem d_Law_outcome_14 : decode method_15_code 14 = .ok (.ireturn, 1) := by decide +kernel
theorem d_Law_outcome_15 : decode method_15_code 15 = .ok (.iconst 0, 1) := by decide +kernel
theorem d_Law_outcome_16 : decode method_15_code 16 = .ok (.ireturn, 1) := by decide +kernel
theorem d_Law_waitsFor_0 : decode method_16_code 0 = .ok (.aload_n 2, 1) := by decide +kernel
theorem d_Law_waitsFor_1 : decode method_16_code 1 = .ok (.iconst 0, 1) := by decide +kernel
theorem d_Law_waitsFor_2 : decode method_16_code 2 = .ok (.aload_n 0, 1) := by decide +kernel
theorem d_Law_waitsFor_3 : decode method_16_code 3 = .ok (.iload_n 1, 1) := by decide +kernel
theorem d_Law_waitsFor_4 : decode method_16_code 4 = .ok (.invokevirtual 60, 3) := by decide +kernel
theorem d_Law_waitsFor_7 : decode method_16_code 7 = .ok (.i2l, 1) := by decide +kernel
theorem d_Law_waitsFor_8 : decode method_16_code 8 = .ok (.lastore, 1) := by decide +kernel
theorem d_Law_waitsFor_9 : decode method_16_code 9 = .ok (.goto 6, 3) := by decide +kernel
theorem d_Law_waitsFor_12 : decode method_16_code 12 = .ok (.astore_n 3, 1) := by decide +kernel
theorem d_Law_waitsFor_13 : decode method_16_code 13 = .ok (.iconst 1, 1) := by decide +kernel
theorem d_Law_waitsFor_14 : decode method_16_code 14 = .ok (.ireturn, 1) := by decide +kernel
theorem d_Law_waitsFor_15 : decode method_16_code 15 = .ok (.iconst 0, 1) := by decide +kernel
theorem d_Law_waitsFor_16 : decode method_16_code 16 = .ok (.ireturn, 1) := by decide +kernel
theorem d_Law_hasRead_0 : decode method_17_code 0 = .ok (.aload 4, 2) := by decide +kernel
theorem d_Law_hasRead_2 : decode method_17_code 2 = .ok (.iconst 0, 1) := by decide +kernel
theorem d_Law_hasRead_3 : decode method_17_code 3 = .ok (.aload_n 0, 1) := by decide +kernel
theorem d_Law_hasRead_4 : decode method_17_code 4 = .ok (.iload_n 1, 1) := by decide +kernel
theorem d_Law_hasRead_5 : decode method_17_code 5 = .ok (.iload_n 2, 1) := by decide +kernel
theorem d_Law_hasRead_6 : decode method_17_code 6 = .ok (.iload_n 3, 1) := by decide +kernel
theorem d_Law_hasRead_7 : decode method_17_code 7 = .ok (.invokevirtual 63, 3) := by decide +kernel
theorem d_Law_hasRead_10 : decode method_17_code 10 = .ok (.ifCond .eq 7, 3) := by decide +kernel
theorem d_Law_hasRead_13 : decode method_17_code 13 = .ok (.lconst 1, 1) := by decide +kernel
theorem d_Law_hasRead_14 : decode method_17_code 14 = .ok (.goto 4, 3) := by decide +kernel
theorem d_Law_hasRead_17 : decode method_17_code 17 = .ok (.lconst 0, 1) := by decide +kernel
theorem d_Law_hasRead_18 : decode method_17_code 18 = .ok (.lastore, 1) := by decide +kernel
theorem d_Law_hasRead_19 : decode method_17_code 19 = .ok (.goto 7, 3) := by decide +kernel
theorem d_Law_hasRead_22 : decode method_17_code 22 = .ok (.astore 5, 2) := by decide +kernel
theorem d_Law_hasRead_24 : decode method_17_code 24 = .ok (.iconst 1, 1) := by decide +kernel
theorem d_Law_hasRead_25 : decode method_17_code 25 = .ok (.ireturn, 1) := by decide +kernel
theorem d_Law_hasRead_26 : decode method_17_code 26 = .ok (.iconst 0, 1) := by decide +kernel
theorem d_Law_hasRead_27 : decode method_17_code 27 = .ok (.ireturn, 1) := by decide +kernel
theorem d_Law_own_0 : decode method_18_code 0 = .ok (.aload 5, 2) := by decide +kernel
theorem d_Law_own_2 : decode method_18_code 2 = .ok (.iconst 0, 1) := by decide +kernel
theorem d_Law_own_3 : decode method_18_code 3 = .ok (.aload_n 0, 1) := by decide +kernel
theorem d_Law_own_4 : decode method_18_code 4 = .ok (.iload_n 1, 1) := by decide +kernel
theorem d_Law_own_5 : decode method_18_code 5 = .ok (.iload_n 2, 1) := by decide +kernel
theorem d_Law_own_6 : decode method_18_code 6 = .ok (.iload_n 3, 1) := by decide +kernel
theorem d_Law_own_7 : decode method_18_code 7 = .ok (.iload 4, 2) := by decide +kernel
theorem d_Law_own_9 : decode method_18_code 9 = .ok (.invokevirtual 67, 3) := by decide +kernel
theorem d_Law_own_12 : decode method_18_code 12 = .ok (.i2l, 1) := by decide +kernel
theorem d_Law_own_13 : decode method_18_code 13 = .ok (.lastore, 1) := by decide +kernel
theorem d_Law_own_14 : decode method_18_code 14 = .ok (.goto 7, 3) := by decide +kernel
theorem d_Law_own_17 : decode method_18_code 17 = .ok (.astore 6, 2) := by decide +kernel
theorem d_Law_own_19 : decode method_18_code 19 = .ok (.iconst 1, 1) := by decide +kernel
theorem d_Law_own_20 : decode method_18_code 20 = .ok (.ireturn, 1) := by decide +kernel
theorem d_Law_own_21 : decode method_18_code 21 = .ok (.iconst 0, 1) := by decide +kernel
theorem d_Law_own_22 : decode method_18_code 22 = .ok (.ireturn, 1) := by decide +kernel
theorem d_Law_committed_0 : decode method_19_code 0 = .ok (.aload 4, 2) := by decide +kernel
theorem d_Law_committed_2 : decode method_19_code 2 = .ok (.iconst 0, 1) := by decide +kernel
theorem d_Law_committed_3 : decode method_19_code 3 = .ok (.aload_n 0, 1) := by decide +kernel
theorem d_Law_committed_4 : decode method_19_code 4 = .ok (.iload_n 1, 1) := by decide +kernel
theorem d_Law_committed_5 : decode method_19_code 5 = .ok (.iload_n 2, 1) := by decide +kernel
theorem d_Law_committed_6 : decode method_19_code 6 = .ok (.iload_n 3, 1) := by decide +kernel
theorem d_Law_committed_7 : decode method_19_code 7 = .ok (.invokevirtual 70, 3) := by decide +kernel
theorem d_Law_committed_10 : decode method_19_code 10 = .ok (.i2l, 1) := by decide +kernel
theorem d_Law_committed_11 : decode method_19_code 11 = .ok (.lastore, 1) := by decide +kernel
theorem d_Law_committed_12 : decode method_19_code 12 = .ok (.goto 7, 3) := by decide +kernel
theorem d_Law_committed_15 : decode method_19_code 15 = .ok (.astore 5, 2) := by decide +kernel
theorem d_Law_committed_17 : decode method_19_code 17 = .ok (.iconst 1, 1) := by decide +kernel
theorem d_Law_committed_18 : decode method_19_code 18 = .ok (.ireturn, 1) := by decide +kernel
theorem d_Law_committed_19 : decode method_19_code 19 = .ok (.iconst 0, 1) := by decide +kernel
theorem d_Law_committed_20 : decode method_19_code 20 = .ok (.ireturn, 1) := by decide +kernel
theorem d_Law_committedByLog_0 : decode method_20_code 0 = .ok (.aload 4, 2) := by decide +kernel
theorem d_Law_committedByLog_2 : decode method_20_code 2 = .ok (.iconst 0, 1) := by decide +kernel
theorem d_Law_committedByLog_3 : decode method_20_code 3 = .ok (.aload_n 0, 1) := by decide +kernel
theorem d_Law_committedByLog_4 : decode method_20_code 4 = .ok (.iload_n 1, 1) := by decide +kernel
theorem d_Law_committedByLog_5 : decode method_20_code 5 = .ok (.iload_n 2, 1) := by decide +kernel
theorem d_Law_committedByLog_6 : decode method_20_code 6 = .ok (.iload_n 3, 1) := by decide +kernel
theorem d_Law_committedByLog_7 : decode method_20_code 7 = .ok (.invokevirtual 73, 3) := by decide +kernel
theorem d_Law_committedByLog_10 : decode method_20_code 10 = .ok (.i2l, 1) := by decide +kernel
theorem d_Law_committedByLog_11 : decode method_20_code 11 = .ok (.lastore, 1) := by decide +kernel
theorem d_Law_committedByLog_12 : decode method_20_code 12 = .ok (.goto 7, 3) := by decide +kernel
theorem d_Law_committedByLog_15 : decode method_20_code 15 = .ok (.astore 5, 2) := by decide +kernel
theorem d_Law_committedByLog_17 : decode method_20_code 17 = .ok (.iconst 1, 1) := by decide +kernel
theorem d_Law_committedByLog_18 : decode method_20_code 18 = .ok (.ireturn, 1) := by decide +kernel
theorem d_Law_committedByLog_19 : decode method_20_code 19 = .ok (.iconst 0, 1) := by decide +kernel
theorem d_Law_committedByLog_20 : decode method_20_code 20 = .ok (.ireturn, 1) := by decide +kernel
theorem d_Law_rowsOf_0 : decode method_21_code 0 = .ok (.aload_n 2, 1) := by decide +kernel
theorem d_Law_rowsOf_1 : decode method_21_code 1 = .ok (.iconst 0, 1) := by decide +kernel
theorem d_Law_rowsOf_2 : decode method_21_code 2 = .ok (.aload_n 0, 1) := by decide +kernel
theorem d_Law_rowsOf_3 : decode method_21_code 3 = .ok (.iload_n 1, 1) := by decide +kernel
theorem d_Law_rowsOf_4 : decode method_21_code 4 = .ok (.invokevirtual 76, 3) := by decide +kernel
theorem d_Law_rowsOf_7 : decode method_21_code 7 = .ok (.i2l, 1) := by decide +kernel
theorem d_Law_rowsOf_8 : decode method_21_code 8 = .ok (.lastore, 1) := by decide +kernel
theorem d_Law_rowsOf_9 : decode method_21_code 9 = .ok (.goto 6, 3) := by decide +kernel
theorem d_Law_rowsOf_12 : decode method_21_code 12 = .ok (.astore_n 3, 1) := by decide +kernel
theorem d_Law_rowsOf_13 : decode method_21_code 13 = .ok (.iconst 1, 1) := by decide +kernel
theorem d_Law_rowsOf_14 : decode method_21_code 14 = .ok (.ireturn, 1) := by decide +kernel
theorem d_Law_rowsOf_15 : decode method_21_code 15 = .ok (.iconst 0, 1) := by decide +kernel
theorem d_Law_rowsOf_16 : decode method_21_code 16 = .ok (.ireturn, 1) := by decide +kernel
theorem d_Law_scan_0 : decode method_22_code 0 = .ok (.aload_n 2, 1) := by decide +kernel
theorem d_Law_scan_1 : decode method_22_code 1 = .ok (.iconst 0, 1) := by decide +kernel
theorem d_Law_scan_2 : decode method_22_code 2 = .ok (.aload_n 0, 1) := by decide +kernel
theorem d_Law_scan_3 : decode method_22_code 3 = .ok (.iload_n 1, 1) := by decide +kernel
theorem d_Law_scan_4 : decode method_22_code 4 = .ok (.invokevirtual 79, 3) := by decide +kernel
theorem d_Law_scan_7 : decode method_22_code 7 = .ok (.i2l, 1) := by decide +kernel
theorem d_Law_scan_8 : decode method_22_code 8 = .ok (.lastore, 1) := by decide +kernel
theorem d_Law_scan_9 : decode method_22_code 9 = .ok (.goto 9, 3) := by decide +kernel
theorem d_Law_scan_12 : decode method_22_code 12 = .ok (.astore_n 3, 1) := by decide +kernel
theorem d_Law_scan_13 : decode method_22_code 13 = .ok (.iconst 1, 1) := by decide +kernel
theorem d_Law_scan_14 : decode method_22_code 14 = .ok (.ireturn, 1) := by decide +kernel
theorem d_Law_scan_15 : decode method_22_code 15 = .ok (.astore_n 3, 1) := by decide +kernel
theorem d_Law_scan_16 : decode method_22_code 16 = .ok (.iconst 2, 1) := by decide +kernel
theorem d_Law_scan_17 : decode method_22_code 17 = .ok (.ireturn, 1) := by decide +kernel
theorem d_Law_scan_18 : decode method_22_code 18 = .ok (.iconst 0, 1) := by decide +kernel
theorem d_Law_scan_19 : decode method_22_code 19 = .ok (.ireturn, 1) := by decide +kernel
theorem d_Law_filter_0 : decode method_23_code 0 = .ok (.aload 5, 2) := by decide +kernel
theorem d_Law_filter_2 : decode method_23_code 2 = .ok (.iconst 0, 1) := by decide +kernel
theorem d_Law_filter_3 : decode method_23_code 3 = .ok (.aload_n 0, 1) := by decide +kernel
theorem d_Law_filter_4 : decode method_23_code 4 = .ok (.iload_n 1, 1) := by decide +kernel
theorem d_Law_filter_5 : decode method_23_code 5 = .ok (.iload_n 2, 1) := by decide +kernel
theorem d_Law_filter_6 : decode method_23_code 6 = .ok (.iload_n 3, 1) := by decide +kernel
theorem d_Law_filter_7 : decode method_23_code 7 = .ok (.iload 4, 2) := by decide +kernel
theorem d_Law_filter_9 : decode method_23_code 9 = .ok (.invokevirtual 82, 3) := by decide +kernel
theorem d_Law_filter_12 : decode method_23_code 12 = .ok (.i2l, 1) := by decide +kernel
theorem d_Law_filter_13 : decode method_23_code 13 = .ok (.lastore, 1) := by decide +kernel
theorem d_Law_filter_14 : decode method_23_code 14 = .ok (.goto 15, 3) := by decide +kernel
theorem d_Law_filter_17 : decode method_23_code 17 = .ok (.astore 6, 2) := by decide +kernel
theorem d_Law_filter_19 : decode method_23_code 19 = .ok (.iconst 1, 1) := by decide +kernel
theorem d_Law_filter_20 : decode method_23_code 20 = .ok (.ireturn, 1) := by decide +kernel
theorem d_Law_filter_21 : decode method_23_code 21 = .ok (.astore 6, 2) := by decide +kernel
theorem d_Law_filter_23 : decode method_23_code 23 = .ok (.iconst 2, 1) := by decide +kernel
theorem d_Law_filter_24 : decode method_23_code 24 = .ok (.ireturn, 1) := by decide +kernel
theorem d_Law_filter_25 : decode method_23_code 25 = .ok (.astore 6, 2) := by decide +kernel
theorem d_Law_filter_27 : decode method_23_code 27 = .ok (.iconst 3, 1) := by decide +kernel
theorem d_Law_filter_28 : decode method_23_code 28 = .ok (.ireturn, 1) := by decide +kernel
theorem d_Law_filter_29 : decode method_23_code 29 = .ok (.iconst 0, 1) := by decide +kernel
theorem d_Law_filter_30 : decode method_23_code 30 = .ok (.ireturn, 1) := by decide +kernel
theorem d_Law_filterColumns_0 : decode method_24_code 0 = .ok (.aload 5, 2) := by decide +kernel
theorem d_Law_filterColumns_2 : decode method_24_code 2 = .ok (.iconst 0, 1) := by decide +kernel
theorem d_Law_filterColumns_3 : decode method_24_code 3 = .ok (.aload_n 0, 1) := by decide +kernel
theorem d_Law_filterColumns_4 : decode method_24_code 4 = .ok (.iload_n 1, 1) := by decide +kernel
theorem d_Law_filterColumns_5 : decode method_24_code 5 = .ok (.iload_n 2, 1) := by decide +kernel
theorem d_Law_filterColumns_6 : decode method_24_code 6 = .ok (.iload_n 3, 1) := by decide +kernel
theorem d_Law_filterColumns_7 : decode method_24_code 7 = .ok (.iload 4, 2) := by decide +kernel
theorem d_Law_filterColumns_9 : decode method_24_code 9 = .ok (.invokevirtual 86, 3) := by decide +kernel
theorem d_Law_filterColumns_12 : decode method_24_code 12 = .ok (.i2l, 1) := by decide +kernel
theorem d_Law_filterColumns_13 : decode method_24_code 13 = .ok (.lastore, 1) := by decide +kernel
theorem d_Law_filterColumns_14 : decode method_24_code 14 = .ok (.goto 15, 3) := by decide +kernel
theorem d_Law_filterColumns_17 : decode method_24_code 17 = .ok (.astore 6, 2) := by decide +kernel
theorem d_Law_filterColumns_19 : decode method_24_code 19 = .ok (.iconst 1, 1) := by decide +kernel
theorem d_Law_filterColumns_20 : decode method_24_code 20 = .ok (.ireturn, 1) := by decide +kernel
theorem d_Law_filterColumns_21 : decode method_24_code 21 = .ok (.astore 6, 2) := by decide +kernel
theorem d_Law_filterColumns_23 : decode method_24_code 23 = .ok (.iconst 2, 1) := by decide +kernel
theorem d_Law_filterColumns_24 : decode method_24_code 24 = .ok (.ireturn, 1) := by decide +kernel
theorem d_Law_filterColumns_25 : decode method_24_code 25 = .ok (.astore 6, 2) := by decide +kernel
theorem d_Law_filterColumns_27 : decode method_24_code 27 = .ok (.iconst 3, 1) := by decide +kernel
theorem d_Law_filterColumns_28 : decode method_24_code 28 = .ok (.ireturn, 1) := by decide +kernel
theorem d_Law_filterColumns_29 : decode method_24_code 29 = .ok (.iconst 0, 1) := by decide +kernel
theorem d_Law_filterColumns_30 : decode method_24_code 30 = .ok (.ireturn, 1) := by decide +kernel
theorem d_Law_ratio_0 : decode method_25_code 0 = .ok (.aload 4, 2) := by decide +kernel
theorem d_Law_ratio_2 : decode method_25_code 2 = .ok (.iconst 0, 1) := by decide +kernel
theorem d_Law_ratio_3 : decode method_25_code 3 = .ok (.aload_n 0, 1) := by decide +kernel
theorem d_Law_ratio_4 : decode method_25_code 4 = .ok (.iload_n 1, 1) := by decide +kernel
theorem d_Law_ratio_5 : decode method_25_code 5 = .ok (.iload_n 2, 1) := by decide +kernel
theorem d_Law_ratio_6 : decode method_25_code 6 = .ok (.iload_n 3, 1) := by decide +kernel
theorem d_Law_ratio_7 : decode method_25_code 7 = .ok (.invokevirtual 89, 3) := by decide +kernel
theorem d_Law_ratio_10 : decode method_25_code 10 = .ok (.i2l, 1) := by decide +kernel
theorem d_Law_ratio_11 : decode method_25_code 11 = .ok (.lastore, 1) := by decide +kernel
theorem d_Law_ratio_12 : decode method_25_code 12 = .ok (.goto 15, 3) := by decide +kernel
theorem d_Law_ratio_15 : decode method_25_code 15 = .ok (.astore 5, 2) := by decide +kernel
theorem d_Law_ratio_17 : decode method_25_code 17 = .ok (.iconst 1, 1) := by decide +kernel
theorem d_Law_ratio_18 : decode method_25_code 18 = .ok (.ireturn, 1) := by decide +kernel
theorem d_Law_ratio_19 : decode method_25_code 19 = .ok (.astore 5, 2) := by decide +kernel
theorem d_Law_ratio_21 : decode method_25_code 21 = .ok (.iconst 2, 1) := by decide +kernel
theorem d_Law_ratio_22 : decode method_25_code 22 = .ok (.ireturn, 1) := by decide +kernel
theorem d_Law_ratio_23 : decode method_25_code 23 = .ok (.astore 5, 2) := by decide +kernel
theorem d_Law_ratio_25 : decode method_25_code 25 = .ok (.iconst 3, 1) := by decide +kernel
theorem d_Law_ratio_26 : decode method_25_code 26 = .ok (.ireturn, 1) := by decide +kernel
theorem d_Law_ratio_27 : decode method_25_code 27 = .ok (.iconst 0, 1) := by decide +kernel
theorem d_Law_ratio_28 : decode method_25_code 28 = .ok (.ireturn, 1) := by decide +kernel
theorem d_Law_join_0 : decode method_26_code 0 = .ok (.aload 4, 2) := by decide +kernel
theorem d_Law_join_2 : decode method_26_code 2 = .ok (.iconst 0, 1) := by decide +kernel
theorem d_Law_join_3 : decode method_26_code 3 = .ok (.aload_n 0, 1) := by decide +kernel
theorem d_Law_join_4 : decode method_26_code 4 = .ok (.iload_n 1, 1) := by decide +kernel
theorem d_Law_join_5 : decode method_26_code 5 = .ok (.iload_n 2, 1) := by decide +kernel
theorem d_Law_join_6 : decode method_26_code 6 = .ok (.iload_n 3, 1) := by decide +kernel
theorem d_Law_join_7 : decode method_26_code 7 = .ok (.invokevirtual 92, 3) := by decide +kernel
theorem d_Law_join_10 : decode method_26_code 10 = .ok (.i2l, 1) := by decide +kernel
theorem d_Law_join_11 : decode method_26_code 11 = .ok (.lastore, 1) := by decide +kernel
theorem d_Law_join_12 : decode method_26_code 12 = .ok (.goto 15, 3) := by decide +kernel
theorem d_Law_join_15 : decode method_26_code 15 = .ok (.astore 5, 2) := by decide +kernel
theorem d_Law_join_17 : decode method_26_code 17 = .ok (.iconst 1, 1) := by decide +kernel
theorem d_Law_join_18 : decode method_26_code 18 = .ok (.ireturn, 1) := by decide +kernel
theorem d_Law_join_19 : decode method_26_code 19 = .ok (.astore 5, 2) := by decide +kernel
theorem d_Law_join_21 : decode method_26_code 21 = .ok (.iconst 2, 1) := by decide +kernel
theorem d_Law_join_22 : decode method_26_code 22 = .ok (.ireturn, 1) := by decide +kernel
theorem d_Law_join_23 : decode method_26_code 23 = .ok (.astore 5, 2) := by decide +kernel
theorem d_Law_join_25 : decode method_26_code 25 = .ok (.iconst 3, 1) := by decide +kernel
theorem d_Law_join_26 : decode method_26_code 26 = .ok (.ireturn, 1) := by decide +kernel
theorem d_Law_join_27 : decode method_26_code 27 = .ok (.iconst 0, 1) := by decide +kernel
theorem d_Law_join_28 : decode method_26_code 28 = .ok (.ireturn, 1) := by decide +kernel
theorem d_Law_keep_0 : decode method_27_code 0 = .ok (.aload_n 2, 1) := by decide +kernel
theorem d_Law_keep_1 : decode method_27_code 1 = .ok (.iconst 0, 1) := by decide +kernel
theorem d_Law_keep_2 : decode method_27_code 2 = .ok (.aload_n 0, 1) := by decide +kernel
theorem d_Law_keep_3 : decode method_27_code 3 = .ok (.iload_n 1, 1) := by decide +kernel
theorem d_Law_keep_4 : decode method_27_code 4 = .ok (.invokevirtual 95, 3) := by decide +kernel
theorem d_Law_keep_7 : decode method_27_code 7 = .ok (.i2l, 1) := by decide +kernel
theorem d_Law_keep_8 : decode method_27_code 8 = .ok (.lastore, 1) := by decide +kernel
theorem d_Law_keep_9 : decode method_27_code 9 = .ok (.goto 9, 3) := by decide +kernel
theorem d_Law_keep_12 : decode method_27_code 12 = .ok (.astore_n 3, 1) := by decide +kernel
theorem d_Law_keep_13 : decode method_27_code 13 = .ok (.iconst 1, 1) := by decide +kernel
theorem d_Law_keep_14 : decode method_27_code 14 = .ok (.ireturn, 1) := by decide +kernel
theorem d_Law_keep_15 : decode method_27_code 15 = .ok (.astore_n 3, 1) := by decide +kernel
theorem d_Law_keep_16 : decode method_27_code 16 = .ok (.iconst 2, 1) := by decide +kernel
theorem d_Law_keep_17 : decode method_27_code 17 = .ok (.ireturn, 1) := by decide +kernel
theorem d_Law_keep_18 : decode method_27_code 18 = .ok (.iconst 0, 1) := by decide +kernel
theorem d_Law_keep_19 : decode method_27_code 19 = .ok (.ireturn, 1) := by decide +kernel
theorem d_Law_group_0 : decode method_28_code 0 = .ok (.aload 4, 2) := by decide +kernel
theorem d_Law_group_2 : decode method_28_code 2 = .ok (.iconst 0, 1) := by decide +kernel
theorem d_Law_group_3 : decode method_28_code 3 = .ok (.aload_n 0, 1) := by decide +kernel
theorem d_Law_group_4 : decode method_28_code 4 = .ok (.iload_n 1, 1) := by decide +kernel
theorem d_Law_group_5 : decode method_28_code 5 = .ok (.iload_n 2, 1) := by decide +kernel
theorem d_Law_group_6 : decode method_28_code 6 = .ok (.iload_n 3, 1) := by decide +kernel
theorem d_Law_group_7 : decode method_28_code 7 = .ok (.invokevirtual 98, 3) := by decide +kernel
theorem d_Law_group_10 : decode method_28_code 10 = .ok (.i2l, 1) := by decide +kernel
theorem d_Law_group_11 : decode method_28_code 11 = .ok (.lastore, 1) := by decide +kernel
theorem d_Law_group_12 : decode method_28_code 12 = .ok (.goto 15, 3) := by decide +kernel
theorem d_Law_group_15 : decode method_28_code 15 = .ok (.astore 5, 2) := by decide +kernel
theorem d_Law_group_17 : decode method_28_code 17 = .ok (.iconst 1, 1) := by decide +kernel
theorem d_Law_group_18 : decode method_28_code 18 = .ok (.ireturn, 1) := by decide +kernel
theorem d_Law_group_19 : decode method_28_code 19 = .ok (.astore 5, 2) := by decide +kernel
theorem d_Law_group_21 : decode method_28_code 21 = .ok (.iconst 2, 1) := by decide +kernel
theorem d_Law_group_22 : decode method_28_code 22 = .ok (.ireturn, 1) := by decide +kernel
theorem d_Law_group_23 : decode method_28_code 23 = .ok (.astore 5, 2) := by decide +kernel
theorem d_Law_group_25 : decode method_28_code 25 = .ok (.iconst 3, 1) := by decide +kernel
theorem d_Law_group_26 : decode method_28_code 26 = .ok (.ireturn, 1) := by decide +kernel
theorem d_Law_group_27 : decode method_28_code 27 = .ok (.iconst 0, 1) := by decide +kernel
theorem d_Law_group_28 : decode method_28_code 28 = .ok (.ireturn, 1) := by decide +kernel
theorem d_Law_combine_0 : decode method_29_code 0 = .ok (.aload_n 2, 1) := by decide +kernel
theorem d_Law_combine_1 : decode method_29_code 1 = .ok (.iconst 0, 1) := by decide +kernel
theorem d_Law_combine_2 : decode method_29_code 2 = .ok (.aload_n 0, 1) := by decide +kernel
theorem d_Law_combine_3 : decode method_29_code 3 = .ok (.iload_n 1, 1) := by decide +kernel
theorem d_Law_combine_4 : decode method_29_code 4 = .ok (.invokevirtual 101, 3) := by decide +kernel
theorem d_Law_combine_7 : decode method_29_code 7 = .ok (.i2l, 1) := by decide +kernel
theorem d_Law_combine_8 : decode method_29_code 8 = .ok (.lastore, 1) := by decide +kernel
theorem d_Law_combine_9 : decode method_29_code 9 = .ok (.goto 9, 3) := by decide +kernel
theorem d_Law_combine_12 : decode method_29_code 12 = .ok (.astore_n 3, 1) := by decide +kernel
theorem d_Law_combine_13 : decode method_29_code 13 = .ok (.iconst 1, 1) := by decide +kernel
theorem d_Law_combine_14 : decode method_29_code 14 = .ok (.ireturn, 1) := by decide +kernel
theorem d_Law_combine_15 : decode method_29_code 15 = .ok (.astore_n 3, 1) := by decide +kernel
theorem d_Law_combine_16 : decode method_29_code 16 = .ok (.iconst 2, 1) := by decide +kernel
theorem d_Law_combine_17 : decode method_29_code 17 = .ok (.ireturn, 1) := by decide +kernel
theorem d_Law_combine_18 : decode method_29_code 18 = .ok (.iconst 0, 1) := by decide +kernel
theorem d_Law_combine_19 : decode method_29_code 19 = .ok (.ireturn, 1) := by decide +kernel
theorem d_Law_query_0 : decode method_30_code 0 = .ok (.aload_n 1, 1) := by decide +kernel
theorem d_Law_query_1 : decode method_30_code 1 = .ok (.iconst 0, 1) := by decide +kernel
theorem d_Law_query_2 : decode method_30_code 2 = .ok (.aload_n 0, 1) := by decide +kernel
theorem d_Law_query_3 : decode method_30_code 3 = .ok (.invokevirtual 104, 3) := by decide +kernel
theorem d_Law_query_6 : decode method_30_code 6 = .ok (.i2l, 1) := by decide +kernel
theorem d_Law_query_7 : decode method_30_code 7 = .ok (.lastore, 1) := by decide +kernel
theorem d_Law_query_8 : decode method_30_code 8 = .ok (.goto 6, 3) := by decide +kernel
theorem d_Law_query_11 : decode method_30_code 11 = .ok (.astore_n 2, 1) := by decide +kernel
theorem d_Law_query_12 : decode method_30_code 12 = .ok (.iconst 1, 1) := by decide +kernel
theorem d_Law_query_13 : decode method_30_code 13 = .ok (.ireturn, 1) := by decide +kernel
theorem d_Law_query_14 : decode method_30_code 14 = .ok (.iconst 0, 1) := by decide +kernel
theorem d_Law_query_15 : decode method_30_code 15 = .ok (.ireturn, 1) := by decide +kernel
theorem d_Law_run_0 : decode method_31_code 0 = .ok (.aload_n 3, 1) := by decide +kernel
theorem d_Law_run_1 : decode method_31_code 1 = .ok (.iconst 0, 1) := by decide +kernel
theorem d_Law_run_2 : decode method_31_code 2 = .ok (.aload_n 0, 1) := by decide +kernel
theorem d_Law_run_3 : decode method_31_code 3 = .ok (.iload_n 1, 1) := by decide +kernel
theorem d_Law_run_4 : decode method_31_code 4 = .ok (.iload_n 2, 1) := by decide +kernel
theorem d_Law_run_5 : decode method_31_code 5 = .ok (.invokevirtual 108, 3) := by decide +kernel
theorem d_Law_run_8 : decode method_31_code 8 = .ok (.i2l, 1) := by decide +kernel
theorem d_Law_run_9 : decode method_31_code 9 = .ok (.lastore, 1) := by decide +kernel
theorem d_Law_run_10 : decode method_31_code 10 = .ok (.goto 15, 3) := by decide +kernel
theorem d_Law_run_13 : decode method_31_code 13 = .ok (.astore 4, 2) := by decide +kernel
theorem d_Law_run_15 : decode method_31_code 15 = .ok (.iconst 1, 1) := by decide +kernel
theorem d_Law_run_16 : decode method_31_code 16 = .ok (.ireturn, 1) := by decide +kernel
theorem d_Law_run_17 : decode method_31_code 17 = .ok (.astore 4, 2) := by decide +kernel
theorem d_Law_run_19 : decode method_31_code 19 = .ok (.iconst 2, 1) := by decide +kernel
theorem d_Law_run_20 : decode method_31_code 20 = .ok (.ireturn, 1) := by decide +kernel
theorem d_Law_run_21 : decode method_31_code 21 = .ok (.astore 4, 2) := by decide +kernel
theorem d_Law_run_23 : decode method_31_code 23 = .ok (.iconst 3, 1) := by decide +kernel
theorem d_Law_run_24 : decode method_31_code 24 = .ok (.ireturn, 1) := by decide +kernel
theorem d_Law_run_25 : decode method_31_code 25 = .ok (.iconst 0, 1) := by decide +kernel
theorem d_Law_run_26 : decode method_31_code 26 = .ok (.ireturn, 1) := by decide +kernel
theorem d_Law_at_0 : decode method_32_code 0 = .ok (.aload_n 3, 1) := by decide +kernel
theorem d_Law_at_1 : decode method_32_code 1 = .ok (.iconst 0, 1) := by decide +kernel
theorem d_Law_at_2 : decode method_32_code 2 = .ok (.aload_n 0, 1) := by decide +kernel
theorem d_Law_at_3 : decode method_32_code 3 = .ok (.iload_n 1, 1) := by decide +kernel
theorem d_Law_at_4 : decode method_32_code 4 = .ok (.iload_n 2, 1) := by decide +kernel
theorem d_Law_at_5 : decode method_32_code 5 = .ok (.invokevirtual 113, 3) := by decide +kernel
theorem d_Law_at_8 : decode method_32_code 8 = .ok (.i2l, 1) := by decide +kernel
theorem d_Law_at_9 : decode method_32_code 9 = .ok (.lastore, 1) := by decide +kernel
theorem d_Law_at_10 : decode method_32_code 10 = .ok (.goto 7, 3) := by decide +kernel
theorem d_Law_at_13 : decode method_32_code 13 = .ok (.astore 4, 2) := by decide +kernel
theorem d_Law_at_15 : decode method_32_code 15 = .ok (.iconst 1, 1) := by decide +kernel
theorem d_Law_at_16 : decode method_32_code 16 = .ok (.ireturn, 1) := by decide +kernel
theorem d_Law_at_17 : decode method_32_code 17 = .ok (.iconst 0, 1) := by decide +kernel
theorem d_Law_at_18 : decode method_32_code 18 = .ok (.ireturn, 1) := by decide +kernel
theorem d_Law_atByLoops_0 : decode method_33_code 0 = .ok (.aload 5, 2) := by decide +kernel
theorem d_Law_atByLoops_2 : decode method_33_code 2 = .ok (.iconst 0, 1) := by decide +kernel
theorem d_Law_atByLoops_3 : decode method_33_code 3 = .ok (.aload_n 0, 1) := by decide +kernel
theorem d_Law_atByLoops_4 : decode method_33_code 4 = .ok (.iload_n 1, 1) := by decide +kernel
theorem d_Law_atByLoops_5 : decode method_33_code 5 = .ok (.iload_n 2, 1) := by decide +kernel
theorem d_Law_atByLoops_6 : decode method_33_code 6 = .ok (.iload_n 3, 1) := by decide +kernel
theorem d_Law_atByLoops_7 : decode method_33_code 7 = .ok (.iload 4, 2) := by decide +kernel
theorem d_Law_atByLoops_9 : decode method_33_code 9 = .ok (.invokevirtual 116, 3) := by decide +kernel
theorem d_Law_atByLoops_12 : decode method_33_code 12 = .ok (.i2l, 1) := by decide +kernel
theorem d_Law_atByLoops_13 : decode method_33_code 13 = .ok (.lastore, 1) := by decide +kernel
theorem d_Law_atByLoops_14 : decode method_33_code 14 = .ok (.goto 15, 3) := by decide +kernel
theorem d_Law_atByLoops_17 : decode method_33_code 17 = .ok (.astore 6, 2) := by decide +kernel
theorem d_Law_atByLoops_19 : decode method_33_code 19 = .ok (.iconst 1, 1) := by decide +kernel
theorem d_Law_atByLoops_20 : decode method_33_code 20 = .ok (.ireturn, 1) := by decide +kernel
theorem d_Law_atByLoops_21 : decode method_33_code 21 = .ok (.astore 6, 2) := by decide +kernel
theorem d_Law_atByLoops_23 : decode method_33_code 23 = .ok (.iconst 2, 1) := by decide +kernel
theorem d_Law_atByLoops_24 : decode method_33_code 24 = .ok (.ireturn, 1) := by decide +kernel
theorem d_Law_atByLoops_25 : decode method_33_code 25 = .ok (.astore 6, 2) := by decide +kernel
theorem d_Law_atByLoops_27 : decode method_33_code 27 = .ok (.iconst 3, 1) := by decide +kernel
theorem d_Law_atByLoops_28 : decode method_33_code 28 = .ok (.ireturn, 1) := by decide +kernel
theorem d_Law_atByLoops_29 : decode method_33_code 29 = .ok (.iconst 0, 1) := by decide +kernel
theorem d_Law_atByLoops_30 : decode method_33_code 30 = .ok (.ireturn, 1) := by decide +kernel
theorem d_Law_prepare_0 : decode method_34_code 0 = .ok (.aload_n 2, 1) := by decide +kernel
theorem d_Law_prepare_1 : decode method_34_code 1 = .ok (.iconst 0, 1) := by decide +kernel
theorem d_Law_prepare_2 : decode method_34_code 2 = .ok (.aload_n 0, 1) := by decide +kernel
theorem d_Law_prepare_3 : decode method_34_code 3 = .ok (.iload_n 1, 1) := by decide +kernel
theorem d_Law_prepare_4 : decode method_34_code 4 = .ok (.invokevirtual 119, 3) := by decide +kernel
theorem d_Law_prepare_7 : decode method_34_code 7 = .ok (.i2l, 1) := by decide +kernel
theorem d_Law_prepare_8 : decode method_34_code 8 = .ok (.lastore, 1) := by decide +kernel
theorem d_Law_prepare_9 : decode method_34_code 9 = .ok (.goto 6, 3) := by decide +kernel
theorem d_Law_prepare_12 : decode method_34_code 12 = .ok (.astore_n 3, 1) := by decide +kernel
theorem d_Law_prepare_13 : decode method_34_code 13 = .ok (.iconst 1, 1) := by decide +kernel
theorem d_Law_prepare_14 : decode method_34_code 14 = .ok (.ireturn, 1) := by decide +kernel
theorem d_Law_prepare_15 : decode method_34_code 15 = .ok (.iconst 0, 1) := by decide +kernel
theorem d_Law_prepare_16 : decode method_34_code 16 = .ok (.ireturn, 1) := by decide +kernel
theorem d_Law_planAt_0 : decode method_35_code 0 = .ok (.aload_n 3, 1) := by decide +kernel
theorem d_Law_planAt_1 : decode method_35_code 1 = .ok (.iconst 0, 1) := by decide +kernel
theorem d_Law_planAt_2 : decode method_35_code 2 = .ok (.aload_n 0, 1) := by decide +kernel
theorem d_Law_planAt_3 : decode method_35_code 3 = .ok (.iload_n 1, 1) := by decide +kernel
theorem d_Law_planAt_4 : decode method_35_code 4 = .ok (.iload_n 2, 1) := by decide +kernel
theorem d_Law_planAt_5 : decode method_35_code 5 = .ok (.invokevirtual 122, 3) := by decide +kernel
theorem d_Law_planAt_8 : decode method_35_code 8 = .ok (.i2l, 1) := by decide +kernel
theorem d_Law_planAt_9 : decode method_35_code 9 = .ok (.lastore, 1) := by decide +kernel
theorem d_Law_planAt_10 : decode method_35_code 10 = .ok (.goto 11, 3) := by decide +kernel
theorem d_Law_planAt_13 : decode method_35_code 13 = .ok (.astore 4, 2) := by decide +kernel
theorem d_Law_planAt_15 : decode method_35_code 15 = .ok (.iconst 1, 1) := by decide +kernel
theorem d_Law_planAt_16 : decode method_35_code 16 = .ok (.ireturn, 1) := by decide +kernel
theorem d_Law_planAt_17 : decode method_35_code 17 = .ok (.astore 4, 2) := by decide +kernel
theorem d_Law_planAt_19 : decode method_35_code 19 = .ok (.iconst 2, 1) := by decide +kernel
theorem d_Law_planAt_20 : decode method_35_code 20 = .ok (.ireturn, 1) := by decide +kernel
theorem d_Law_planAt_21 : decode method_35_code 21 = .ok (.iconst 0, 1) := by decide +kernel
theorem d_Law_planAt_22 : decode method_35_code 22 = .ok (.ireturn, 1) := by decide +kernel
theorem d_Law_view_0 : decode method_36_code 0 = .ok (.aload_n 2, 1) := by decide +kernel
theorem d_Law_view_1 : decode method_36_code 1 = .ok (.iconst 0, 1) := by decide +kernel
theorem d_Law_view_2 : decode method_36_code 2 = .ok (.aload_n 0, 1) := by decide +kernel
theorem d_Law_view_3 : decode method_36_code 3 = .ok (.iload_n 1, 1) := by decide +kernel
theorem d_Law_view_4 : decode method_36_code 4 = .ok (.invokevirtual 125, 3) := by decide +kernel
theorem d_Law_view_7 : decode method_36_code 7 = .ok (.i2l, 1) := by decide +kernel
theorem d_Law_view_8 : decode method_36_code 8 = .ok (.lastore, 1) := by decide +kernel
theorem d_Law_view_9 : decode method_36_code 9 = .ok (.goto 9, 3) := by decide +kernel
theorem d_Law_view_12 : decode method_36_code 12 = .ok (.astore_n 3, 1) := by decide +kernel
theorem d_Law_view_13 : decode method_36_code 13 = .ok (.iconst 1, 1) := by decide +kernel
theorem d_Law_view_14 : decode method_36_code 14 = .ok (.ireturn, 1) := by decide +kernel
theorem d_Law_view_15 : decode method_36_code 15 = .ok (.astore_n 3, 1) := by decide +kernel
theorem d_Law_view_16 : decode method_36_code 16 = .ok (.iconst 2, 1) := by decide +kernel
theorem d_Law_view_17 : decode method_36_code 17 = .ok (.ireturn, 1) := by decide +kernel
theorem d_Law_view_18 : decode method_36_code 18 = .ok (.iconst 0, 1) := by decide +kernel
theorem d_Law_view_19 : decode method_36_code 19 = .ok (.ireturn, 1) := by decide +kernel
theorem d_Law_viewRows_0 : decode method_37_code 0 = .ok (.aload_n 2, 1) := by decide +kernel
theorem d_Law_viewRows_1 : decode method_37_code 1 = .ok (.iconst 0, 1) := by decide +kernel
theorem d_Law_viewRows_2 : decode method_37_code 2 = .ok (.aload_n 0, 1) := by decide +kernel
theorem d_Law_viewRows_3 : decode method_37_code 3 = .ok (.iload_n 1, 1) := by decide +kernel
theorem d_Law_viewRows_4 : decode method_37_code 4 = .ok (.invokevirtual 128, 3) := by decide +kernel
theorem d_Law_viewRows_7 : decode method_37_code 7 = .ok (.i2l, 1) := by decide +kernel
theorem d_Law_viewRows_8 : decode method_37_code 8 = .ok (.lastore, 1) := by decide +kernel
theorem d_Law_viewRows_9 : decode method_37_code 9 = .ok (.goto 6, 3) := by decide +kernel
theorem d_Law_viewRows_12 : decode method_37_code 12 = .ok (.astore_n 3, 1) := by decide +kernel
theorem d_Law_viewRows_13 : decode method_37_code 13 = .ok (.iconst 1, 1) := by decide +kernel
theorem d_Law_viewRows_14 : decode method_37_code 14 = .ok (.ireturn, 1) := by decide +kernel
theorem d_Law_viewRows_15 : decode method_37_code 15 = .ok (.iconst 0, 1) := by decide +kernel
theorem d_Law_viewRows_16 : decode method_37_code 16 = .ok (.ireturn, 1) := by decide +kernel
theorem d_Law_viewAt_0 : decode method_38_code 0 = .ok (.aload 4, 2) := by decide +kernel
theorem d_Law_viewAt_2 : decode method_38_code 2 = .ok (.iconst 0, 1) := by decide +kernel
theorem d_Law_viewAt_3 : decode method_38_code 3 = .ok (.aload_n 0, 1) := by decide +kernel
theorem d_Law_viewAt_4 : decode method_38_code 4 = .ok (.iload_n 1, 1) := by decide +kernel
theorem d_Law_viewAt_5 : decode method_38_code 5 = .ok (.iload_n 2, 1) := by decide +kernel
theorem d_Law_viewAt_6 : decode method_38_code 6 = .ok (.iload_n 3, 1) := by decide +kernel
theorem d_Law_viewAt_7 : decode method_38_code 7 = .ok (.invokevirtual 131, 3) := by decide +kernel
theorem d_Law_viewAt_10 : decode method_38_code 10 = .ok (.i2l, 1) := by decide +kernel
theorem d_Law_viewAt_11 : decode method_38_code 11 = .ok (.lastore, 1) := by decide +kernel
theorem d_Law_viewAt_12 : decode method_38_code 12 = .ok (.goto 7, 3) := by decide +kernel
theorem d_Law_viewAt_15 : decode method_38_code 15 = .ok (.astore 5, 2) := by decide +kernel
theorem d_Law_viewAt_17 : decode method_38_code 17 = .ok (.iconst 1, 1) := by decide +kernel
theorem d_Law_viewAt_18 : decode method_38_code 18 = .ok (.ireturn, 1) := by decide +kernel
theorem d_Law_viewAt_19 : decode method_38_code 19 = .ok (.iconst 0, 1) := by decide +kernel
theorem d_Law_viewAt_20 : decode method_38_code 20 = .ok (.ireturn, 1) := by decide +kernel
theorem d_Law_viewAnew_0 : decode method_39_code 0 = .ok (.aload 4, 2) := by decide +kernel
theorem d_Law_viewAnew_2 : decode method_39_code 2 = .ok (.iconst 0, 1) := by decide +kernel
theorem d_Law_viewAnew_3 : decode method_39_code 3 = .ok (.aload_n 0, 1) := by decide +kernel
theorem d_Law_viewAnew_4 : decode method_39_code 4 = .ok (.iload_n 1, 1) := by decide +kernel
theorem d_Law_viewAnew_5 : decode method_39_code 5 = .ok (.iload_n 2, 1) := by decide +kernel
theorem d_Law_viewAnew_6 : decode method_39_code 6 = .ok (.iload_n 3, 1) := by decide +kernel
theorem d_Law_viewAnew_7 : decode method_39_code 7 = .ok (.invokevirtual 134, 3) := by decide +kernel
theorem d_Law_viewAnew_10 : decode method_39_code 10 = .ok (.i2l, 1) := by decide +kernel
theorem d_Law_viewAnew_11 : decode method_39_code 11 = .ok (.lastore, 1) := by decide +kernel
theorem d_Law_viewAnew_12 : decode method_39_code 12 = .ok (.goto 7, 3) := by decide +kernel
theorem d_Law_viewAnew_15 : decode method_39_code 15 = .ok (.astore 5, 2) := by decide +kernel
theorem d_Law_viewAnew_17 : decode method_39_code 17 = .ok (.iconst 1, 1) := by decide +kernel
theorem d_Law_viewAnew_18 : decode method_39_code 18 = .ok (.ireturn, 1) := by decide +kernel
theorem d_Law_viewAnew_19 : decode method_39_code 19 = .ok (.iconst 0, 1) := by decide +kernel
theorem d_Law_viewAnew_20 : decode method_39_code 20 = .ok (.ireturn, 1) := by decide +kernel
theorem d_Law_crash_0 : decode method_40_code 0 = .ok (.aload_n 2, 1) := by decide +kernel
theorem d_Law_crash_1 : decode method_40_code 1 = .ok (.iconst 0, 1) := by decide +kernel
theorem d_Law_crash_2 : decode method_40_code 2 = .ok (.aload_n 0, 1) := by decide +kernel
theorem d_Law_crash_3 : decode method_40_code 3 = .ok (.iload_n 1, 1) := by decide +kernel
theorem d_Law_crash_4 : decode method_40_code 4 = .ok (.invokevirtual 137, 3) := by decide +kernel
theorem d_Law_crash_7 : decode method_40_code 7 = .ok (.i2l, 1) := by decide +kernel
theorem d_Law_crash_8 : decode method_40_code 8 = .ok (.lastore, 1) := by decide +kernel
theorem d_Law_crash_9 : decode method_40_code 9 = .ok (.goto 6, 3) := by decide +kernel
theorem d_Law_crash_12 : decode method_40_code 12 = .ok (.astore_n 3, 1) := by decide +kernel
theorem d_Law_crash_13 : decode method_40_code 13 = .ok (.iconst 1, 1) := by decide +kernel
theorem d_Law_crash_14 : decode method_40_code 14 = .ok (.ireturn, 1) := by decide +kernel
theorem d_Law_crash_15 : decode method_40_code 15 = .ok (.iconst 0, 1) := by decide +kernel
theorem d_Law_crash_16 : decode method_40_code 16 = .ok (.ireturn, 1) := by decide +kernel
theorem d_Law_recordKind_0 : decode method_41_code 0 = .ok (.aload_n 2, 1) := by decide +kernel
theorem d_Law_recordKind_1 : decode method_41_code 1 = .ok (.iconst 0, 1) := by decide +kernel
theorem d_Law_recordKind_2 : decode method_41_code 2 = .ok (.aload_n 0, 1) := by decide +kernel
theorem d_Law_recordKind_3 : decode method_41_code 3 = .ok (.iload_n 1, 1) := by decide +kernel
theorem d_Law_recordKind_4 : decode method_41_code 4 = .ok (.invokevirtual 140, 3) := by decide +kernel
theorem d_Law_recordKind_7 : decode method_41_code 7 = .ok (.i2l, 1) := by decide +kernel
theorem d_Law_recordKind_8 : decode method_41_code 8 = .ok (.lastore, 1) := by decide +kernel
theorem d_Law_recordKind_9 : decode method_41_code 9 = .ok (.goto 6, 3) := by decide +kernel
theorem d_Law_recordKind_12 : decode method_41_code 12 = .ok (.astore_n 3, 1) := by decide +kernel
theorem d_Law_recordKind_13 : decode method_41_code 13 = .ok (.iconst 1, 1) := by decide +kernel
theorem d_Law_recordKind_14 : decode method_41_code 14 = .ok (.ireturn, 1) := by decide +kernel
theorem d_Law_recordKind_15 : decode method_41_code 15 = .ok (.iconst 0, 1) := by decide +kernel
theorem d_Law_recordKind_16 : decode method_41_code 16 = .ok (.ireturn, 1) := by decide +kernel
theorem d_Law_recordOf_0 : decode method_42_code 0 = .ok (.aload_n 2, 1) := by decide +kernel
theorem d_Law_recordOf_1 : decode method_42_code 1 = .ok (.iconst 0, 1) := by decide +kernel
theorem d_Law_recordOf_2 : decode method_42_code 2 = .ok (.aload_n 0, 1) := by decide +kernel
theorem d_Law_recordOf_3 : decode method_42_code 3 = .ok (.iload_n 1, 1) := by decide +kernel
theorem d_Law_recordOf_4 : decode method_42_code 4 = .ok (.invokevirtual 143, 3) := by decide +kernel
theorem d_Law_recordOf_7 : decode method_42_code 7 = .ok (.i2l, 1) := by decide +kernel
theorem d_Law_recordOf_8 : decode method_42_code 8 = .ok (.lastore, 1) := by decide +kernel
theorem d_Law_recordOf_9 : decode method_42_code 9 = .ok (.goto 6, 3) := by decide +kernel
theorem d_Law_recordOf_12 : decode method_42_code 12 = .ok (.astore_n 3, 1) := by decide +kernel
theorem d_Law_recordOf_13 : decode method_42_code 13 = .ok (.iconst 1, 1) := by decide +kernel
theorem d_Law_recordOf_14 : decode method_42_code 14 = .ok (.ireturn, 1) := by decide +kernel
theorem d_Law_recordOf_15 : decode method_42_code 15 = .ok (.iconst 0, 1) := by decide +kernel
theorem d_Law_recordOf_16 : decode method_42_code 16 = .ok (.ireturn, 1) := by decide +kernel
theorem d_Law_recordAt_0 : decode method_43_code 0 = .ok (.aload_n 3, 1) := by decide +kernel
theorem d_Law_recordAt_1 : decode method_43_code 1 = .ok (.iconst 0, 1) := by decide +kernel
theorem d_Law_recordAt_2 : decode method_43_code 2 = .ok (.aload_n 0, 1) := by decide +kernel
theorem d_Law_recordAt_3 : decode method_43_code 3 = .ok (.iload_n 1, 1) := by decide +kernel
theorem d_Law_recordAt_4 : decode method_43_code 4 = .ok (.iload_n 2, 1) := by decide +kernel
theorem d_Law_recordAt_5 : decode method_43_code 5 = .ok (.invokevirtual 146, 3) := by decide +kernel
theorem d_Law_recordAt_8 : decode method_43_code 8 = .ok (.i2l, 1) := by decide +kernel
theorem d_Law_recordAt_9 : decode method_43_code 9 = .ok (.lastore, 1) := by decide +kernel
theorem d_Law_recordAt_10 : decode method_43_code 10 = .ok (.goto 7, 3) := by decide +kernel
theorem d_Law_recordAt_13 : decode method_43_code 13 = .ok (.astore 4, 2) := by decide +kernel
theorem d_Law_recordAt_15 : decode method_43_code 15 = .ok (.iconst 1, 1) := by decide +kernel
theorem d_Law_recordAt_16 : decode method_43_code 16 = .ok (.ireturn, 1) := by decide +kernel
theorem d_Law_recordAt_17 : decode method_43_code 17 = .ok (.iconst 0, 1) := by decide +kernel
theorem d_Law_recordAt_18 : decode method_43_code 18 = .ok (.ireturn, 1) := by decide +kernel
