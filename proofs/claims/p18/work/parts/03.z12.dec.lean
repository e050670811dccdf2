theorem d_V_run_35 : decode prog_1_method_14_code 35 = .ok (.ldc 207, 2) := by decide +kernel
theorem d_V_run_37 : decode prog_1_method_14_code 37 = .ok (.invokespecial 60, 3) := by decide +kernel
theorem d_V_run_40 : decode prog_1_method_14_code 40 = .ok (.athrow, 1) := by decide +kernel
theorem d_V_status_0 : decode prog_1_method_15_code 0 = .ok (.aload_n 0, 1) := by decide +kernel
theorem d_V_status_1 : decode prog_1_method_15_code 1 = .ok (.getfield 41, 3) := by decide +kernel
theorem d_V_status_4 : decode prog_1_method_15_code 4 = .ok (.getfield 204, 3) := by decide +kernel
theorem d_V_status_7 : decode prog_1_method_15_code 7 = .ok (.ireturn, 1) := by decide +kernel
theorem d_V_atHand_0 : decode prog_1_method_16_code 0 = .ok (.aload_n 0, 1) := by decide +kernel
theorem d_V_atHand_1 : decode prog_1_method_16_code 1 = .ok (.getfield 41, 3) := by decide +kernel
theorem d_V_atHand_4 : decode prog_1_method_16_code 4 = .ok (.getfield 204, 3) := by decide +kernel
theorem d_V_atHand_7 : decode prog_1_method_16_code 7 = .ok (.iconst 1, 1) := by decide +kernel
theorem d_V_atHand_8 : decode prog_1_method_16_code 8 = .ok (.if_icmp .ne 13, 3) := by decide +kernel
theorem d_V_atHand_21 : decode prog_1_method_16_code 21 = .ok (.iconst (-1), 1) := by decide +kernel
theorem d_V_atHand_22 : decode prog_1_method_16_code 22 = .ok (.ireturn, 1) := by decide +kernel
theorem d_V_atHand_11 : decode prog_1_method_16_code 11 = .ok (.aload_n 0, 1) := by decide +kernel
theorem d_V_atHand_12 : decode prog_1_method_16_code 12 = .ok (.getfield 41, 3) := by decide +kernel
theorem d_V_atHand_15 : decode prog_1_method_16_code 15 = .ok (.getfield 213, 3) := by decide +kernel
theorem d_V_atHand_18 : decode prog_1_method_16_code 18 = .ok (.goto 4, 3) := by decide +kernel
theorem d_V_knows_0 : decode prog_1_method_17_code 0 = .ok (.aload_n 0, 1) := by decide +kernel
theorem d_V_knows_1 : decode prog_1_method_17_code 1 = .ok (.iload_n 1, 1) := by decide +kernel
theorem d_V_knows_2 : decode prog_1_method_17_code 2 = .ok (.iload_n 2, 1) := by decide +kernel
theorem d_V_knows_3 : decode prog_1_method_17_code 3 = .ok (.invokevirtual 216, 3) := by decide +kernel
theorem d_V_knows_6 : decode prog_1_method_17_code 6 = .ok (.aload_n 0, 1) := by decide +kernel
theorem d_V_knows_7 : decode prog_1_method_17_code 7 = .ok (.getfield 41, 3) := by decide +kernel
theorem d_V_knows_10 : decode prog_1_method_17_code 10 = .ok (.iload_n 1, 1) := by decide +kernel
theorem d_V_knows_11 : decode prog_1_method_17_code 11 = .ok (.iload_n 2, 1) := by decide +kernel
theorem d_V_knows_12 : decode prog_1_method_17_code 12 = .ok (.invokevirtual 220, 3) := by decide +kernel
theorem d_V_knows_15 : decode prog_1_method_17_code 15 = .ok (.ireturn, 1) := by decide +kernel
theorem d_V_value_0 : decode prog_1_method_18_code 0 = .ok (.aload_n 0, 1) := by decide +kernel
theorem d_V_value_1 : decode prog_1_method_18_code 1 = .ok (.iload_n 1, 1) := by decide +kernel
theorem d_V_value_2 : decode prog_1_method_18_code 2 = .ok (.iload_n 2, 1) := by decide +kernel
theorem d_V_value_3 : decode prog_1_method_18_code 3 = .ok (.invokevirtual 216, 3) := by decide +kernel
theorem d_V_value_6 : decode prog_1_method_18_code 6 = .ok (.aload_n 0, 1) := by decide +kernel
theorem d_V_value_7 : decode prog_1_method_18_code 7 = .ok (.getfield 41, 3) := by decide +kernel
theorem d_V_value_10 : decode prog_1_method_18_code 10 = .ok (.iload_n 1, 1) := by decide +kernel
theorem d_V_value_11 : decode prog_1_method_18_code 11 = .ok (.iload_n 2, 1) := by decide +kernel
theorem d_V_value_12 : decode prog_1_method_18_code 12 = .ok (.invokevirtual 220, 3) := by decide +kernel
theorem d_V_value_15 : decode prog_1_method_18_code 15 = .ok (.ifCond .ne 13, 3) := by decide +kernel
theorem d_V_value_28 : decode prog_1_method_18_code 28 = .ok (.aload_n 0, 1) := by decide +kernel
theorem d_V_value_29 : decode prog_1_method_18_code 29 = .ok (.getfield 41, 3) := by decide +kernel
theorem d_V_value_32 : decode prog_1_method_18_code 32 = .ok (.getfield 225, 3) := by decide +kernel
theorem d_V_value_35 : decode prog_1_method_18_code 35 = .ok (.iload_n 1, 1) := by decide +kernel
theorem d_V_value_36 : decode prog_1_method_18_code 36 = .ok (.iconst 4, 1) := by decide +kernel
theorem d_V_value_37 : decode prog_1_method_18_code 37 = .ok (.imul, 1) := by decide +kernel
theorem d_V_value_38 : decode prog_1_method_18_code 38 = .ok (.iload_n 2, 1) := by decide +kernel
theorem d_V_value_39 : decode prog_1_method_18_code 39 = .ok (.iadd, 1) := by decide +kernel
theorem d_V_value_40 : decode prog_1_method_18_code 40 = .ok (.iaload, 1) := by decide +kernel
theorem d_V_value_41 : decode prog_1_method_18_code 41 = .ok (.ireturn, 1) := by decide +kernel
theorem d_V_value_18 : decode prog_1_method_18_code 18 = .ok (.new 56, 3) := by decide +kernel
theorem d_V_value_21 : decode prog_1_method_18_code 21 = .ok (.dup, 1) := by decide +kernel
theorem d_V_value_22 : decode prog_1_method_18_code 22 = .ok (.ldc 223, 2) := by decide +kernel
theorem d_V_value_24 : decode prog_1_method_18_code 24 = .ok (.invokespecial 60, 3) := by decide +kernel
theorem d_V_value_27 : decode prog_1_method_18_code 27 = .ok (.athrow, 1) := by decide +kernel
theorem d_L_symbol_0 : decode method_3_code 0 = .ok (.aload_n 3, 1) := by decide +kernel
theorem d_L_symbol_1 : decode method_3_code 1 = .ok (.iconst 0, 1) := by decide +kernel
theorem d_L_symbol_2 : decode method_3_code 2 = .ok (.aload_n 0, 1) := by decide +kernel
theorem d_L_symbol_3 : decode method_3_code 3 = .ok (.iload_n 1, 1) := by decide +kernel
theorem d_L_symbol_4 : decode method_3_code 4 = .ok (.iload_n 2, 1) := by decide +kernel
theorem d_L_symbol_5 : decode method_3_code 5 = .ok (.invokevirtual 7, 3) := by decide +kernel
theorem d_L_symbol_8 : decode method_3_code 8 = .ok (.i2l, 1) := by decide +kernel
theorem d_L_symbol_9 : decode method_3_code 9 = .ok (.lastore, 1) := by decide +kernel
theorem d_L_symbol_10 : decode method_3_code 10 = .ok (.goto 11, 3) := by decide +kernel
theorem d_L_symbol_21 : decode method_3_code 21 = .ok (.iconst 0, 1) := by decide +kernel
theorem d_L_symbol_22 : decode method_3_code 22 = .ok (.ireturn, 1) := by decide +kernel
theorem d_L_symbol_13 : decode method_3_code 13 = .ok (.astore 4, 2) := by decide +kernel
theorem d_L_symbol_15 : decode method_3_code 15 = .ok (.iconst 1, 1) := by decide +kernel
theorem d_L_symbol_16 : decode method_3_code 16 = .ok (.ireturn, 1) := by decide +kernel
theorem d_L_symbol_17 : decode method_3_code 17 = .ok (.astore 4, 2) := by decide +kernel
theorem d_L_symbol_19 : decode method_3_code 19 = .ok (.iconst 2, 1) := by decide +kernel
theorem d_L_symbol_20 : decode method_3_code 20 = .ok (.ireturn, 1) := by decide +kernel
theorem d_L_production_0 : decode method_4_code 0 = .ok (.aload 5, 2) := by decide +kernel
theorem d_L_production_2 : decode method_4_code 2 = .ok (.iconst 0, 1) := by decide +kernel
theorem d_L_production_3 : decode method_4_code 3 = .ok (.aload_n 0, 1) := by decide +kernel
theorem d_L_production_4 : decode method_4_code 4 = .ok (.iload_n 1, 1) := by decide +kernel
theorem d_L_production_5 : decode method_4_code 5 = .ok (.iload_n 2, 1) := by decide +kernel
theorem d_L_production_6 : decode method_4_code 6 = .ok (.iload_n 3, 1) := by decide +kernel
theorem d_L_production_7 : decode method_4_code 7 = .ok (.iload 4, 2) := by decide +kernel
theorem d_L_production_9 : decode method_4_code 9 = .ok (.invokevirtual 17, 3) := by decide +kernel
theorem d_L_production_12 : decode method_4_code 12 = .ok (.i2l, 1) := by decide +kernel
theorem d_L_production_13 : decode method_4_code 13 = .ok (.lastore, 1) := by decide +kernel
theorem d_L_production_14 : decode method_4_code 14 = .ok (.goto 11, 3) := by decide +kernel
theorem d_L_production_25 : decode method_4_code 25 = .ok (.iconst 0, 1) := by decide +kernel
theorem d_L_production_26 : decode method_4_code 26 = .ok (.ireturn, 1) := by decide +kernel
theorem d_L_production_17 : decode method_4_code 17 = .ok (.astore 6, 2) := by decide +kernel
theorem d_L_production_19 : decode method_4_code 19 = .ok (.iconst 1, 1) := by decide +kernel
theorem d_L_production_20 : decode method_4_code 20 = .ok (.ireturn, 1) := by decide +kernel
theorem d_L_production_21 : decode method_4_code 21 = .ok (.astore 6, 2) := by decide +kernel
theorem d_L_production_23 : decode method_4_code 23 = .ok (.iconst 2, 1) := by decide +kernel
theorem d_L_production_24 : decode method_4_code 24 = .ok (.ireturn, 1) := by decide +kernel
theorem d_L_rule_0 : decode method_5_code 0 = .ok (.aload_n 0, 1) := by decide +kernel
theorem d_L_rule_1 : decode method_5_code 1 = .ok (.iload_n 1, 1) := by decide +kernel
theorem d_L_rule_2 : decode method_5_code 2 = .ok (.iload_n 2, 1) := by decide +kernel
theorem d_L_rule_3 : decode method_5_code 3 = .ok (.iload_n 3, 1) := by decide +kernel
theorem d_L_rule_4 : decode method_5_code 4 = .ok (.iload 4, 2) := by decide +kernel
theorem d_L_rule_6 : decode method_5_code 6 = .ok (.iload 5, 2) := by decide +kernel
theorem d_L_rule_8 : decode method_5_code 8 = .ok (.invokevirtual 21, 3) := by decide +kernel
theorem d_L_rule_11 : decode method_5_code 11 = .ok (.goto 11, 3) := by decide +kernel
theorem d_L_rule_22 : decode method_5_code 22 = .ok (.iconst 0, 1) := by decide +kernel
theorem d_L_rule_23 : decode method_5_code 23 = .ok (.ireturn, 1) := by decide +kernel
theorem d_L_rule_18 : decode method_5_code 18 = .ok (.astore 6, 2) := by decide +kernel
theorem d_L_rule_20 : decode method_5_code 20 = .ok (.iconst 2, 1) := by decide +kernel
theorem d_L_rule_21 : decode method_5_code 21 = .ok (.ireturn, 1) := by decide +kernel
theorem d_L_rule_14 : decode method_5_code 14 = .ok (.astore 6, 2) := by decide +kernel
theorem d_L_rule_16 : decode method_5_code 16 = .ok (.iconst 1, 1) := by decide +kernel
theorem d_L_rule_17 : decode method_5_code 17 = .ok (.ireturn, 1) := by decide +kernel
theorem d_L_analyse_0 : decode method_6_code 0 = .ok (.aload_n 1, 1) := by decide +kernel
theorem d_L_analyse_1 : decode method_6_code 1 = .ok (.iconst 0, 1) := by decide +kernel
theorem d_L_analyse_2 : decode method_6_code 2 = .ok (.aload_n 0, 1) := by decide +kernel
theorem d_L_analyse_3 : decode method_6_code 3 = .ok (.invokevirtual 27, 3) := by decide +kernel
theorem d_L_analyse_6 : decode method_6_code 6 = .ok (.i2l, 1) := by decide +kernel
theorem d_L_analyse_7 : decode method_6_code 7 = .ok (.lastore, 1) := by decide +kernel
theorem d_L_analyse_8 : decode method_6_code 8 = .ok (.goto 9, 3) := by decide +kernel
theorem d_L_analyse_17 : decode method_6_code 17 = .ok (.iconst 0, 1) := by decide +kernel
theorem d_L_analyse_18 : decode method_6_code 18 = .ok (.ireturn, 1) := by decide +kernel
theorem d_L_analyse_11 : decode method_6_code 11 = .ok (.astore_n 2, 1) := by decide +kernel
theorem d_L_analyse_12 : decode method_6_code 12 = .ok (.iconst 1, 1) := by decide +kernel
theorem d_L_analyse_13 : decode method_6_code 13 = .ok (.ireturn, 1) := by decide +kernel
theorem d_L_analyse_14 : decode method_6_code 14 = .ok (.astore_n 2, 1) := by decide +kernel
theorem d_L_analyse_15 : decode method_6_code 15 = .ok (.iconst 2, 1) := by decide +kernel
theorem d_L_analyse_16 : decode method_6_code 16 = .ok (.ireturn, 1) := by decide +kernel
theorem d_L_visits_0 : decode method_7_code 0 = .ok (.aload_n 2, 1) := by decide +kernel
theorem d_L_visits_1 : decode method_7_code 1 = .ok (.iconst 0, 1) := by decide +kernel
theorem d_L_visits_2 : decode method_7_code 2 = .ok (.aload_n 0, 1) := by decide +kernel
theorem d_L_visits_3 : decode method_7_code 3 = .ok (.iload_n 1, 1) := by decide +kernel
theorem d_L_visits_4 : decode method_7_code 4 = .ok (.invokevirtual 33, 3) := by decide +kernel
theorem d_L_visits_7 : decode method_7_code 7 = .ok (.i2l, 1) := by decide +kernel
theorem d_L_visits_8 : decode method_7_code 8 = .ok (.lastore, 1) := by decide +kernel
theorem d_L_visits_9 : decode method_7_code 9 = .ok (.goto 9, 3) := by decide +kernel
theorem d_L_visits_18 : decode method_7_code 18 = .ok (.iconst 0, 1) := by decide +kernel
theorem d_L_visits_19 : decode method_7_code 19 = .ok (.ireturn, 1) := by decide +kernel
theorem d_L_visits_12 : decode method_7_code 12 = .ok (.astore_n 3, 1) := by decide +kernel
theorem d_L_visits_13 : decode method_7_code 13 = .ok (.iconst 1, 1) := by decide +kernel
theorem d_L_visits_14 : decode method_7_code 14 = .ok (.ireturn, 1) := by decide +kernel
theorem d_L_visits_15 : decode method_7_code 15 = .ok (.astore_n 3, 1) := by decide +kernel
theorem d_L_visits_16 : decode method_7_code 16 = .ok (.iconst 2, 1) := by decide +kernel
theorem d_L_visits_17 : decode method_7_code 17 = .ok (.ireturn, 1) := by decide +kernel
theorem d_L_rank_0 : decode method_8_code 0 = .ok (.aload_n 3, 1) := by decide +kernel
theorem d_L_rank_1 : decode method_8_code 1 = .ok (.iconst 0, 1) := by decide +kernel
theorem d_L_rank_2 : decode method_8_code 2 = .ok (.aload_n 0, 1) := by decide +kernel
theorem d_L_rank_3 : decode method_8_code 3 = .ok (.iload_n 1, 1) := by decide +kernel
theorem d_L_rank_4 : decode method_8_code 4 = .ok (.iload_n 2, 1) := by decide +kernel
theorem d_L_rank_5 : decode method_8_code 5 = .ok (.invokevirtual 37, 3) := by decide +kernel
theorem d_L_rank_8 : decode method_8_code 8 = .ok (.i2l, 1) := by decide +kernel
theorem d_L_rank_9 : decode method_8_code 9 = .ok (.lastore, 1) := by decide +kernel
theorem d_L_rank_10 : decode method_8_code 10 = .ok (.goto 11, 3) := by decide +kernel
theorem d_L_rank_21 : decode method_8_code 21 = .ok (.iconst 0, 1) := by decide +kernel
theorem d_L_rank_22 : decode method_8_code 22 = .ok (.ireturn, 1) := by decide +kernel
theorem d_L_rank_13 : decode method_8_code 13 = .ok (.astore 4, 2) := by decide +kernel
theorem d_L_rank_15 : decode method_8_code 15 = .ok (.iconst 1, 1) := by decide +kernel
theorem d_L_rank_16 : decode method_8_code 16 = .ok (.ireturn, 1) := by decide +kernel
theorem d_L_rank_17 : decode method_8_code 17 = .ok (.astore 4, 2) := by decide +kernel
theorem d_L_rank_19 : decode method_8_code 19 = .ok (.iconst 2, 1) := by decide +kernel
theorem d_L_rank_20 : decode method_8_code 20 = .ok (.ireturn, 1) := by decide +kernel
theorem d_L_instruction_0 : decode method_9_code 0 = .ok (.aload_n 3, 1) := by decide +kernel
theorem d_L_instruction_1 : decode method_9_code 1 = .ok (.iconst 0, 1) := by decide +kernel
theorem d_L_instruction_2 : decode method_9_code 2 = .ok (.aload_n 0, 1) := by decide +kernel
theorem d_L_instruction_3 : decode method_9_code 3 = .ok (.iload_n 1, 1) := by decide +kernel
theorem d_L_instruction_4 : decode method_9_code 4 = .ok (.iload_n 2, 1) := by decide +kernel
theorem d_L_instruction_5 : decode method_9_code 5 = .ok (.invokevirtual 40, 3) := by decide +kernel
theorem d_L_instruction_8 : decode method_9_code 8 = .ok (.i2l, 1) := by decide +kernel
theorem d_L_instruction_9 : decode method_9_code 9 = .ok (.lastore, 1) := by decide +kernel
theorem d_L_instruction_10 : decode method_9_code 10 = .ok (.goto 11, 3) := by decide +kernel
theorem d_L_instruction_21 : decode method_9_code 21 = .ok (.iconst 0, 1) := by decide +kernel
theorem d_L_instruction_22 : decode method_9_code 22 = .ok (.ireturn, 1) := by decide +kernel
theorem d_L_instruction_13 : decode method_9_code 13 = .ok (.astore 4, 2) := by decide +kernel
theorem d_L_instruction_15 : decode method_9_code 15 = .ok (.iconst 1, 1) := by decide +kernel
theorem d_L_instruction_16 : decode method_9_code 16 = .ok (.ireturn, 1) := by decide +kernel
theorem d_L_instruction_17 : decode method_9_code 17 = .ok (.astore 4, 2) := by decide +kernel
theorem d_L_instruction_19 : decode method_9_code 19 = .ok (.iconst 2, 1) := by decide +kernel
theorem d_L_instruction_20 : decode method_9_code 20 = .ok (.ireturn, 1) := by decide +kernel
theorem d_L_node_0 : decode method_10_code 0 = .ok (.aload 6, 2) := by decide +kernel
theorem d_L_node_2 : decode method_10_code 2 = .ok (.iconst 0, 1) := by decide +kernel
theorem d_L_node_3 : decode method_10_code 3 = .ok (.aload_n 0, 1) := by decide +kernel
theorem d_L_node_4 : decode method_10_code 4 = .ok (.iload_n 1, 1) := by decide +kernel
theorem d_L_node_5 : decode method_10_code 5 = .ok (.iload_n 2, 1) := by decide +kernel
theorem d_L_node_6 : decode method_10_code 6 = .ok (.iload_n 3, 1) := by decide +kernel
theorem d_L_node_7 : decode method_10_code 7 = .ok (.iload 4, 2) := by decide +kernel
theorem d_L_node_9 : decode method_10_code 9 = .ok (.iload 5, 2) := by decide +kernel
theorem d_L_node_11 : decode method_10_code 11 = .ok (.invokevirtual 43, 3) := by decide +kernel
theorem d_L_node_14 : decode method_10_code 14 = .ok (.i2l, 1) := by decide +kernel
theorem d_L_node_15 : decode method_10_code 15 = .ok (.lastore, 1) := by decide +kernel
theorem d_L_node_16 : decode method_10_code 16 = .ok (.goto 11, 3) := by decide +kernel
theorem d_L_node_27 : decode method_10_code 27 = .ok (.iconst 0, 1) := by decide +kernel
theorem d_L_node_28 : decode method_10_code 28 = .ok (.ireturn, 1) := by decide +kernel
theorem d_L_node_19 : decode method_10_code 19 = .ok (.astore 7, 2) := by decide +kernel
theorem d_L_node_21 : decode method_10_code 21 = .ok (.iconst 1, 1) := by decide +kernel
theorem d_L_node_22 : decode method_10_code 22 = .ok (.ireturn, 1) := by decide +kernel
theorem d_L_node_23 : decode method_10_code 23 = .ok (.astore 7, 2) := by decide +kernel
theorem d_L_node_25 : decode method_10_code 25 = .ok (.iconst 2, 1) := by decide +kernel
theorem d_L_node_26 : decode method_10_code 26 = .ok (.ireturn, 1) := by decide +kernel
theorem d_L_give_0 : decode method_11_code 0 = .ok (.aload_n 0, 1) := by decide +kernel
theorem d_L_give_1 : decode method_11_code 1 = .ok (.iload_n 1, 1) := by decide +kernel
theorem d_L_give_2 : decode method_11_code 2 = .ok (.iload_n 2, 1) := by decide +kernel
theorem d_L_give_3 : decode method_11_code 3 = .ok (.invokevirtual 47, 3) := by decide +kernel
theorem d_L_give_6 : decode method_11_code 6 = .ok (.goto 6, 3) := by decide +kernel
theorem d_L_give_12 : decode method_11_code 12 = .ok (.iconst 0, 1) := by decide +kernel
theorem d_L_give_13 : decode method_11_code 13 = .ok (.ireturn, 1) := by decide +kernel
theorem d_L_give_9 : decode method_11_code 9 = .ok (.astore_n 3, 1) := by decide +kernel
theorem d_L_give_10 : decode method_11_code 10 = .ok (.iconst 1, 1) := by decide +kernel
theorem d_L_give_11 : decode method_11_code 11 = .ok (.ireturn, 1) := by decide +kernel
theorem d_L_start_0 : decode method_12_code 0 = .ok (.aload_n 0, 1) := by decide +kernel
theorem d_L_start_1 : decode method_12_code 1 = .ok (.iload_n 1, 1) := by decide +kernel
theorem d_L_start_2 : decode method_12_code 2 = .ok (.invokevirtual 51, 3) := by decide +kernel
theorem d_L_start_5 : decode method_12_code 5 = .ok (.goto 9, 3) := by decide +kernel
theorem d_L_start_14 : decode method_12_code 14 = .ok (.iconst 0, 1) := by decide +kernel
theorem d_L_start_15 : decode method_12_code 15 = .ok (.ireturn, 1) := by decide +kernel
theorem d_L_start_8 : decode method_12_code 8 = .ok (.astore_n 2, 1) := by decide +kernel
theorem d_L_start_9 : decode method_12_code 9 = .ok (.iconst 1, 1) := by decide +kernel
theorem d_L_start_10 : decode method_12_code 10 = .ok (.ireturn, 1) := by decide +kernel
theorem d_L_start_11 : decode method_12_code 11 = .ok (.astore_n 2, 1) := by decide +kernel
theorem d_L_start_12 : decode method_12_code 12 = .ok (.iconst 2, 1) := by decide +kernel
theorem d_L_start_13 : decode method_12_code 13 = .ok (.ireturn, 1) := by decide +kernel
theorem d_L_run_0 : decode method_13_code 0 = .ok (.aload_n 2, 1) := by decide +kernel
theorem d_L_run_1 : decode method_13_code 1 = .ok (.iconst 0, 1) := by decide +kernel
theorem d_L_run_2 : decode method_13_code 2 = .ok (.aload_n 0, 1) := by decide +kernel
theorem d_L_run_3 : decode method_13_code 3 = .ok (.iload_n 1, 1) := by decide +kernel
theorem d_L_run_4 : decode method_13_code 4 = .ok (.invokevirtual 55, 3) := by decide +kernel
theorem d_L_run_7 : decode method_13_code 7 = .ok (.i2l, 1) := by decide +kernel
theorem d_L_run_8 : decode method_13_code 8 = .ok (.lastore, 1) := by decide +kernel
theorem d_L_run_9 : decode method_13_code 9 = .ok (.goto 9, 3) := by decide +kernel
theorem d_L_run_18 : decode method_13_code 18 = .ok (.iconst 0, 1) := by decide +kernel
theorem d_L_run_19 : decode method_13_code 19 = .ok (.ireturn, 1) := by decide +kernel
theorem d_L_run_12 : decode method_13_code 12 = .ok (.astore_n 3, 1) := by decide +kernel
theorem d_L_run_13 : decode method_13_code 13 = .ok (.iconst 1, 1) := by decide +kernel
theorem d_L_run_14 : decode method_13_code 14 = .ok (.ireturn, 1) := by decide +kernel
theorem d_L_run_15 : decode method_13_code 15 = .ok (.astore_n 3, 1) := by decide +kernel
theorem d_L_run_16 : decode method_13_code 16 = .ok (.iconst 2, 1) := by decide +kernel
theorem d_L_run_17 : decode method_13_code 17 = .ok (.ireturn, 1) := by decide +kernel
theorem d_L_knows_0 : decode method_14_code 0 = .ok (.aload_n 3, 1) := by decide +kernel
theorem d_L_knows_1 : decode method_14_code 1 = .ok (.iconst 0, 1) := by decide +kernel
theorem d_L_knows_2 : decode method_14_code 2 = .ok (.aload_n 0, 1) := by decide +kernel
theorem d_L_knows_3 : decode method_14_code 3 = .ok (.iload_n 1, 1) := by decide +kernel
theorem d_L_knows_4 : decode method_14_code 4 = .ok (.iload_n 2, 1) := by decide +kernel
theorem d_L_knows_5 : decode method_14_code 5 = .ok (.invokevirtual 58, 3) := by decide +kernel
theorem d_L_knows_8 : decode method_14_code 8 = .ok (.ifCond .eq 7, 3) := by decide +kernel
theorem d_L_knows_15 : decode method_14_code 15 = .ok (.lconst 0, 1) := by decide +kernel
theorem d_L_knows_16 : decode method_14_code 16 = .ok (.lastore, 1) := by decide +kernel
theorem d_L_knows_17 : decode method_14_code 17 = .ok (.goto 7, 3) := by decide +kernel
theorem d_L_knows_24 : decode method_14_code 24 = .ok (.iconst 0, 1) := by decide +kernel
theorem d_L_knows_25 : decode method_14_code 25 = .ok (.ireturn, 1) := by decide +kernel
theorem d_L_knows_11 : decode method_14_code 11 = .ok (.lconst 1, 1) := by decide +kernel
theorem d_L_knows_12 : decode method_14_code 12 = .ok (.goto 4, 3) := by decide +kernel
theorem d_L_knows_20 : decode method_14_code 20 = .ok (.astore 4, 2) := by decide +kernel
theorem d_L_knows_22 : decode method_14_code 22 = .ok (.iconst 1, 1) := by decide +kernel
theorem d_L_knows_23 : decode method_14_code 23 = .ok (.ireturn, 1) := by decide +kernel
theorem d_L_value_0 : decode method_15_code 0 = .ok (.aload_n 3, 1) := by decide +kernel
theorem d_L_value_1 : decode method_15_code 1 = .ok (.iconst 0, 1) := by decide +kernel
theorem d_L_value_2 : decode method_15_code 2 = .ok (.aload_n 0, 1) := by decide +kernel
theorem d_L_value_3 : decode method_15_code 3 = .ok (.iload_n 1, 1) := by decide +kernel
theorem d_L_value_4 : decode method_15_code 4 = .ok (.iload_n 2, 1) := by decide +kernel
theorem d_L_value_5 : decode method_15_code 5 = .ok (.invokevirtual 62, 3) := by decide +kernel
theorem d_L_value_8 : decode method_15_code 8 = .ok (.i2l, 1) := by decide +kernel
theorem d_L_value_9 : decode method_15_code 9 = .ok (.lastore, 1) := by decide +kernel
theorem d_L_value_10 : decode method_15_code 10 = .ok (.goto 11, 3) := by decide +kernel
theorem d_L_value_21 : decode method_15_code 21 = .ok (.iconst 0, 1) := by decide +kernel
theorem d_L_value_22 : decode method_15_code 22 = .ok (.ireturn, 1) := by decide +kernel
theorem d_L_value_17 : decode method_15_code 17 = .ok (.astore 4, 2) := by decide +kernel
theorem d_L_value_19 : decode method_15_code 19 = .ok (.iconst 2, 1) := by decide +kernel
theorem d_L_value_20 : decode method_15_code 20 = .ok (.ireturn, 1) := by decide +kernel
theorem d_L_value_13 : decode method_15_code 13 = .ok (.astore 4, 2) := by decide +kernel
theorem d_L_value_15 : decode method_15_code 15 = .ok (.iconst 1, 1) := by decide +kernel
theorem d_L_value_16 : decode method_15_code 16 = .ok (.ireturn, 1) := by decide +kernel
theorem d_G_init_0 : decode prog_3_method_1_code 0 = .ok (.aload_n 0, 1) := by decide +kernel
theorem d_G_init_1 : decode prog_3_method_1_code 1 = .ok (.invokespecial 3, 3) := by decide +kernel
theorem d_G_init_4 : decode prog_3_method_1_code 4 = .ok (.aload_n 0, 1) := by decide +kernel
theorem d_G_init_5 : decode prog_3_method_1_code 5 = .ok (.bipush 6, 2) := by decide +kernel
theorem d_G_init_7 : decode prog_3_method_1_code 7 = .ok (.newarray .int, 2) := by decide +kernel
theorem d_G_init_9 : decode prog_3_method_1_code 9 = .ok (.putfield 9, 3) := by decide +kernel
theorem d_G_init_12 : decode prog_3_method_1_code 12 = .ok (.aload_n 0, 1) := by decide +kernel
theorem d_G_init_13 : decode prog_3_method_1_code 13 = .ok (.bipush 6, 2) := by decide +kernel
theorem d_G_init_15 : decode prog_3_method_1_code 15 = .ok (.newarray .int, 2) := by decide +kernel
theorem d_G_init_17 : decode prog_3_method_1_code 17 = .ok (.putfield 15, 3) := by decide +kernel
theorem d_G_init_20 : decode prog_3_method_1_code 20 = .ok (.aload_n 0, 1) := by decide +kernel
theorem d_G_init_21 : decode prog_3_method_1_code 21 = .ok (.bipush 40, 2) := by decide +kernel
theorem d_G_init_23 : decode prog_3_method_1_code 23 = .ok (.newarray .int, 2) := by decide +kernel
theorem d_G_init_25 : decode prog_3_method_1_code 25 = .ok (.putfield 18, 3) := by decide +kernel
theorem d_G_init_28 : decode prog_3_method_1_code 28 = .ok (.aload_n 0, 1) := by decide +kernel
theorem d_G_init_29 : decode prog_3_method_1_code 29 = .ok (.bipush 10, 2) := by decide +kernel
theorem d_G_init_31 : decode prog_3_method_1_code 31 = .ok (.newarray .int, 2) := by decide +kernel
theorem d_G_init_33 : decode prog_3_method_1_code 33 = .ok (.putfield 21, 3) := by decide +kernel
theorem d_G_init_36 : decode prog_3_method_1_code 36 = .ok (.aload_n 0, 1) := by decide +kernel
theorem d_G_init_37 : decode prog_3_method_1_code 37 = .ok (.bipush 10, 2) := by decide +kernel
theorem d_G_init_39 : decode prog_3_method_1_code 39 = .ok (.newarray .int, 2) := by decide +kernel
theorem d_G_init_41 : decode prog_3_method_1_code 41 = .ok (.putfield 24, 3) := by decide +kernel
theorem d_G_init_44 : decode prog_3_method_1_code 44 = .ok (.aload_n 0, 1) := by decide +kernel
theorem d_G_init_45 : decode prog_3_method_1_code 45 = .ok (.bipush 10, 2) := by decide +kernel
theorem d_G_init_47 : decode prog_3_method_1_code 47 = .ok (.newarray .int, 2) := by decide +kernel
theorem d_G_init_49 : decode prog_3_method_1_code 49 = .ok (.putfield 27, 3) := by decide +kernel
theorem d_G_init_52 : decode prog_3_method_1_code 52 = .ok (.aload_n 0, 1) := by decide +kernel
theorem d_G_init_53 : decode prog_3_method_1_code 53 = .ok (.bipush 10, 2) := by decide +kernel
theorem d_G_init_55 : decode prog_3_method_1_code 55 = .ok (.newarray .int, 2) := by decide +kernel
theorem d_G_init_57 : decode prog_3_method_1_code 57 = .ok (.putfield 30, 3) := by decide +kernel
theorem d_G_init_60 : decode prog_3_method_1_code 60 = .ok (.aload_n 0, 1) := by decide +kernel
theorem d_G_init_61 : decode prog_3_method_1_code 61 = .ok (.sipush 160, 3) := by decide +kernel
theorem d_G_init_64 : decode prog_3_method_1_code 64 = .ok (.newarray .int, 2) := by decide +kernel
theorem d_G_init_66 : decode prog_3_method_1_code 66 = .ok (.putfield 33, 3) := by decide +kernel
theorem d_G_init_69 : decode prog_3_method_1_code 69 = .ok (.aload_n 0, 1) := by decide +kernel
theorem d_G_init_70 : decode prog_3_method_1_code 70 = .ok (.sipush 160, 3) := by decide +kernel
theorem d_G_init_73 : decode prog_3_method_1_code 73 = .ok (.newarray .int, 2) := by decide +kernel
theorem d_G_init_75 : decode prog_3_method_1_code 75 = .ok (.putfield 36, 3) := by decide +kernel
theorem d_G_init_78 : decode prog_3_method_1_code 78 = .ok (.aload_n 0, 1) := by decide +kernel
theorem d_G_init_79 : decode prog_3_method_1_code 79 = .ok (.sipush 160, 3) := by decide +kernel
theorem d_G_init_82 : decode prog_3_method_1_code 82 = .ok (.newarray .int, 2) := by decide +kernel
theorem d_G_init_84 : decode prog_3_method_1_code 84 = .ok (.putfield 39, 3) := by decide +kernel
theorem d_G_init_87 : decode prog_3_method_1_code 87 = .ok (.aload_n 0, 1) := by decide +kernel
theorem d_G_init_88 : decode prog_3_method_1_code 88 = .ok (.sipush 160, 3) := by decide +kernel
theorem d_G_init_91 : decode prog_3_method_1_code 91 = .ok (.newarray .int, 2) := by decide +kernel
theorem d_G_init_93 : decode prog_3_method_1_code 93 = .ok (.putfield 42, 3) := by decide +kernel
theorem d_G_init_96 : decode prog_3_method_1_code 96 = .ok (.return_, 1) := by decide +kernel
theorem d_E_init_0 : decode prog_4_method_1_code 0 = .ok (.aload_n 0, 1) := by decide +kernel
theorem d_E_init_1 : decode prog_4_method_1_code 1 = .ok (.invokespecial 3, 3) := by decide +kernel
theorem d_E_init_4 : decode prog_4_method_1_code 4 = .ok (.aload_n 0, 1) := by decide +kernel
theorem d_E_init_5 : decode prog_4_method_1_code 5 = .ok (.sipush 160, 3) := by decide +kernel
theorem d_E_init_8 : decode prog_4_method_1_code 8 = .ok (.newarray .int, 2) := by decide +kernel
theorem d_E_init_10 : decode prog_4_method_1_code 10 = .ok (.putfield 9, 3) := by decide +kernel
theorem d_E_init_13 : decode prog_4_method_1_code 13 = .ok (.aload_n 0, 1) := by decide +kernel
theorem d_E_init_14 : decode prog_4_method_1_code 14 = .ok (.bipush 24, 2) := by decide +kernel
theorem d_E_init_16 : decode prog_4_method_1_code 16 = .ok (.newarray .int, 2) := by decide +kernel
theorem d_E_init_18 : decode prog_4_method_1_code 18 = .ok (.putfield 15, 3) := by decide +kernel
theorem d_E_init_21 : decode prog_4_method_1_code 21 = .ok (.aload_n 0, 1) := by decide +kernel
theorem d_E_init_22 : decode prog_4_method_1_code 22 = .ok (.aload_n 1, 1) := by decide +kernel
theorem d_E_init_23 : decode prog_4_method_1_code 23 = .ok (.putfield 18, 3) := by decide +kernel
theorem d_E_init_26 : decode prog_4_method_1_code 26 = .ok (.return_, 1) := by decide +kernel
theorem d_K_init_0 : decode prog_5_method_1_code 0 = .ok (.aload_n 0, 1) := by decide +kernel
theorem d_K_init_1 : decode prog_5_method_1_code 1 = .ok (.invokespecial 3, 3) := by decide +kernel
theorem d_K_init_4 : decode prog_5_method_1_code 4 = .ok (.aload_n 0, 1) := by decide +kernel
theorem d_K_init_5 : decode prog_5_method_1_code 5 = .ok (.bipush 24, 2) := by decide +kernel
theorem d_K_init_7 : decode prog_5_method_1_code 7 = .ok (.newarray .int, 2) := by decide +kernel
theorem d_K_init_9 : decode prog_5_method_1_code 9 = .ok (.putfield 9, 3) := by decide +kernel
theorem d_K_init_12 : decode prog_5_method_1_code 12 = .ok (.aload_n 0, 1) := by decide +kernel
theorem d_K_init_13 : decode prog_5_method_1_code 13 = .ok (.bipush 6, 2) := by decide +kernel
theorem d_K_init_15 : decode prog_5_method_1_code 15 = .ok (.newarray .int, 2) := by decide +kernel
theorem d_K_init_17 : decode prog_5_method_1_code 17 = .ok (.putfield 15, 3) := by decide +kernel
theorem d_K_init_20 : decode prog_5_method_1_code 20 = .ok (.aload_n 0, 1) := by decide +kernel
theorem d_K_init_21 : decode prog_5_method_1_code 21 = .ok (.bipush 24, 2) := by decide +kernel
theorem d_K_init_23 : decode prog_5_method_1_code 23 = .ok (.newarray .int, 2) := by decide +kernel
theorem d_K_init_25 : decode prog_5_method_1_code 25 = .ok (.putfield 18, 3) := by decide +kernel
theorem d_K_init_28 : decode prog_5_method_1_code 28 = .ok (.aload_n 0, 1) := by decide +kernel
theorem d_K_init_29 : decode prog_5_method_1_code 29 = .ok (.aload_n 1, 1) := by decide +kernel
theorem d_K_init_30 : decode prog_5_method_1_code 30 = .ok (.putfield 21, 3) := by decide +kernel
theorem d_K_init_33 : decode prog_5_method_1_code 33 = .ok (.aload_n 0, 1) := by decide +kernel
theorem d_K_init_34 : decode prog_5_method_1_code 34 = .ok (.aload_n 2, 1) := by decide +kernel
theorem d_K_init_35 : decode prog_5_method_1_code 35 = .ok (.putfield 25, 3) := by decide +kernel
theorem d_K_init_38 : decode prog_5_method_1_code 38 = .ok (.return_, 1) := by decide +kernel
theorem d_Q_init_0 : decode prog_6_method_1_code 0 = .ok (.aload_n 0, 1) := by decide +kernel
theorem d_Q_init_1 : decode prog_6_method_1_code 1 = .ok (.invokespecial 3, 3) := by decide +kernel
theorem d_Q_init_4 : decode prog_6_method_1_code 4 = .ok (.aload_n 0, 1) := by decide +kernel
theorem d_Q_init_5 : decode prog_6_method_1_code 5 = .ok (.sipush 320, 3) := by decide +kernel
theorem d_Q_init_8 : decode prog_6_method_1_code 8 = .ok (.newarray .int, 2) := by decide +kernel
theorem d_Q_init_10 : decode prog_6_method_1_code 10 = .ok (.putfield 11, 3) := by decide +kernel
theorem d_Q_init_13 : decode prog_6_method_1_code 13 = .ok (.aload_n 0, 1) := by decide +kernel
theorem d_Q_init_14 : decode prog_6_method_1_code 14 = .ok (.bipush 10, 2) := by decide +kernel
theorem d_Q_init_16 : decode prog_6_method_1_code 16 = .ok (.newarray .int, 2) := by decide +kernel
theorem d_Q_init_18 : decode prog_6_method_1_code 18 = .ok (.putfield 15, 3) := by decide +kernel
theorem d_Q_init_21 : decode prog_6_method_1_code 21 = .ok (.aload_n 0, 1) := by decide +kernel
theorem d_Q_init_22 : decode prog_6_method_1_code 22 = .ok (.iconst 4, 1) := by decide +kernel
theorem d_Q_init_23 : decode prog_6_method_1_code 23 = .ok (.newarray .int, 2) := by decide +kernel
theorem d_Q_init_25 : decode prog_6_method_1_code 25 = .ok (.putfield 18, 3) := by decide +kernel
theorem d_Q_init_28 : decode prog_6_method_1_code 28 = .ok (.aload_n 0, 1) := by decide +kernel
theorem d_Q_init_29 : decode prog_6_method_1_code 29 = .ok (.aload_n 1, 1) := by decide +kernel
theorem d_Q_init_30 : decode prog_6_method_1_code 30 = .ok (.putfield 21, 3) := by decide +kernel
theorem d_Q_init_33 : decode prog_6_method_1_code 33 = .ok (.aload_n 0, 1) := by decide +kernel
theorem d_Q_init_34 : decode prog_6_method_1_code 34 = .ok (.aload_n 2, 1) := by decide +kernel
theorem d_Q_init_35 : decode prog_6_method_1_code 35 = .ok (.putfield 25, 3) := by decide +kernel
theorem d_Q_init_38 : decode prog_6_method_1_code 38 = .ok (.return_, 1) := by decide +kernel
theorem d_A_init_0 : decode prog_2_method_1_code 0 = .ok (.aload_n 0, 1) := by decide +kernel
theorem d_A_init_1 : decode prog_2_method_1_code 1 = .ok (.invokespecial 3, 3) := by decide +kernel
theorem d_A_init_4 : decode prog_2_method_1_code 4 = .ok (.aload_n 0, 1) := by decide +kernel
theorem d_A_init_5 : decode prog_2_method_1_code 5 = .ok (.iconst (-1), 1) := by decide +kernel
theorem d_A_init_6 : decode prog_2_method_1_code 6 = .ok (.putfield 9, 3) := by decide +kernel
theorem d_A_init_9 : decode prog_2_method_1_code 9 = .ok (.aload_n 0, 1) := by decide +kernel
theorem d_A_init_10 : decode prog_2_method_1_code 10 = .ok (.iconst (-1), 1) := by decide +kernel
theorem d_A_init_11 : decode prog_2_method_1_code 11 = .ok (.putfield 15, 3) := by decide +kernel
theorem d_A_init_14 : decode prog_2_method_1_code 14 = .ok (.aload_n 0, 1) := by decide +kernel
theorem d_A_init_15 : decode prog_2_method_1_code 15 = .ok (.aload_n 1, 1) := by decide +kernel
theorem d_A_init_16 : decode prog_2_method_1_code 16 = .ok (.putfield 18, 3) := by decide +kernel
theorem d_A_init_19 : decode prog_2_method_1_code 19 = .ok (.aload_n 0, 1) := by decide +kernel
theorem d_A_init_20 : decode prog_2_method_1_code 20 = .ok (.new 22, 3) := by decide +kernel
theorem d_A_init_23 : decode prog_2_method_1_code 23 = .ok (.dup, 1) := by decide +kernel
theorem d_A_init_24 : decode prog_2_method_1_code 24 = .ok (.aload_n 1, 1) := by decide +kernel
theorem d_A_init_25 : decode prog_2_method_1_code 25 = .ok (.invokespecial 24, 3) := by decide +kernel
theorem d_A_init_28 : decode prog_2_method_1_code 28 = .ok (.putfield 27, 3) := by decide +kernel
theorem d_A_init_31 : decode prog_2_method_1_code 31 = .ok (.aload_n 0, 1) := by decide +kernel
theorem d_A_init_32 : decode prog_2_method_1_code 32 = .ok (.new 31, 3) := by decide +kernel
theorem d_A_init_35 : decode prog_2_method_1_code 35 = .ok (.dup, 1) := by decide +kernel
theorem d_A_init_36 : decode prog_2_method_1_code 36 = .ok (.aload_n 1, 1) := by decide +kernel
theorem d_A_init_37 : decode prog_2_method_1_code 37 = .ok (.aload_n 0, 1) := by decide +kernel
theorem d_A_init_38 : decode prog_2_method_1_code 38 = .ok (.getfield 27, 3) := by decide +kernel
theorem d_A_init_41 : decode prog_2_method_1_code 41 = .ok (.invokespecial 33, 3) := by decide +kernel
theorem d_A_init_44 : decode prog_2_method_1_code 44 = .ok (.putfield 36, 3) := by decide +kernel
theorem d_A_init_47 : decode prog_2_method_1_code 47 = .ok (.aload_n 0, 1) := by decide +kernel
theorem d_A_init_48 : decode prog_2_method_1_code 48 = .ok (.new 40, 3) := by decide +kernel
theorem d_A_init_51 : decode prog_2_method_1_code 51 = .ok (.dup, 1) := by decide +kernel
theorem d_A_init_52 : decode prog_2_method_1_code 52 = .ok (.aload_n 1, 1) := by decide +kernel
theorem d_A_init_53 : decode prog_2_method_1_code 53 = .ok (.aload_n 0, 1) := by decide +kernel
theorem d_A_init_54 : decode prog_2_method_1_code 54 = .ok (.getfield 36, 3) := by decide +kernel
theorem d_A_init_57 : decode prog_2_method_1_code 57 = .ok (.invokespecial 42, 3) := by decide +kernel
theorem d_A_init_60 : decode prog_2_method_1_code 60 = .ok (.putfield 45, 3) := by decide +kernel
theorem d_A_init_63 : decode prog_2_method_1_code 63 = .ok (.return_, 1) := by decide +kernel
theorem d_Z_init_0 : decode prog_7_method_1_code 0 = .ok (.aload_n 0, 1) := by decide +kernel
