theorem d_M_run_25 : decode prog_10_method_44_code 25 = .ok (.goto 4, 3) := by decide +kernel
theorem d_M_status_0 : decode prog_10_method_45_code 0 = .ok (.aload_n 0, 1) := by decide +kernel
theorem d_M_status_1 : decode prog_10_method_45_code 1 = .ok (.iconst 0, 1) := by decide +kernel
theorem d_M_status_2 : decode prog_10_method_45_code 2 = .ok (.putfield 99, 3) := by decide +kernel
theorem d_M_status_5 : decode prog_10_method_45_code 5 = .ok (.aload_n 0, 1) := by decide +kernel
theorem d_M_status_6 : decode prog_10_method_45_code 6 = .ok (.getfield 93, 3) := by decide +kernel
theorem d_M_status_9 : decode prog_10_method_45_code 9 = .ok (.iconst (-1), 1) := by decide +kernel
theorem d_M_status_10 : decode prog_10_method_45_code 10 = .ok (.if_icmp .ne 7, 3) := by decide +kernel
theorem d_M_status_13 : decode prog_10_method_45_code 13 = .ok (.iconst 0, 1) := by decide +kernel
theorem d_M_status_14 : decode prog_10_method_45_code 14 = .ok (.goto 16, 3) := by decide +kernel
theorem d_M_status_30 : decode prog_10_method_45_code 30 = .ok (.ireturn, 1) := by decide +kernel
theorem d_M_atHand_0 : decode prog_10_method_46_code 0 = .ok (.aload_n 0, 1) := by decide +kernel
theorem d_M_atHand_1 : decode prog_10_method_46_code 1 = .ok (.iconst 0, 1) := by decide +kernel
theorem d_M_atHand_2 : decode prog_10_method_46_code 2 = .ok (.putfield 99, 3) := by decide +kernel
theorem d_M_atHand_5 : decode prog_10_method_46_code 5 = .ok (.aload_n 0, 1) := by decide +kernel
theorem d_M_atHand_6 : decode prog_10_method_46_code 6 = .ok (.getfield 96, 3) := by decide +kernel
theorem d_M_atHand_9 : decode prog_10_method_46_code 9 = .ok (.ireturn, 1) := by decide +kernel
theorem d_M_knows_0 : decode prog_10_method_48_code 0 = .ok (.aload_n 0, 1) := by decide +kernel
theorem d_M_knows_1 : decode prog_10_method_48_code 1 = .ok (.aload_n 0, 1) := by decide +kernel
theorem d_M_knows_2 : decode prog_10_method_48_code 2 = .ok (.iload_n 1, 1) := by decide +kernel
theorem d_M_knows_3 : decode prog_10_method_48_code 3 = .ok (.iload_n 2, 1) := by decide +kernel
theorem d_M_knows_4 : decode prog_10_method_48_code 4 = .ok (.invokevirtual 212, 3) := by decide +kernel
theorem d_M_knows_7 : decode prog_10_method_48_code 7 = .ok (.ifCond .eq 7, 3) := by decide +kernel
theorem d_M_knows_14 : decode prog_10_method_48_code 14 = .ok (.iconst 1, 1) := by decide +kernel
theorem d_M_knows_15 : decode prog_10_method_48_code 15 = .ok (.putfield 99, 3) := by decide +kernel
theorem d_M_knows_18 : decode prog_10_method_48_code 18 = .ok (.aload_n 0, 1) := by decide +kernel
theorem d_M_knows_19 : decode prog_10_method_48_code 19 = .ok (.getfield 99, 3) := by decide +kernel
theorem d_M_knows_22 : decode prog_10_method_48_code 22 = .ok (.ifCond .ne 20, 3) := by decide +kernel
theorem d_M_knows_42 : decode prog_10_method_48_code 42 = .ok (.iconst 0, 1) := by decide +kernel
theorem d_M_knows_43 : decode prog_10_method_48_code 43 = .ok (.ireturn, 1) := by decide +kernel
theorem d_M_value_0 : decode prog_10_method_49_code 0 = .ok (.aload_n 0, 1) := by decide +kernel
theorem d_M_value_1 : decode prog_10_method_49_code 1 = .ok (.aload_n 0, 1) := by decide +kernel
theorem d_M_value_2 : decode prog_10_method_49_code 2 = .ok (.iload_n 1, 1) := by decide +kernel
theorem d_M_value_3 : decode prog_10_method_49_code 3 = .ok (.iload_n 2, 1) := by decide +kernel
theorem d_M_value_4 : decode prog_10_method_49_code 4 = .ok (.invokevirtual 212, 3) := by decide +kernel
theorem d_M_value_7 : decode prog_10_method_49_code 7 = .ok (.ifCond .ne 7, 3) := by decide +kernel
theorem d_M_value_10 : decode prog_10_method_49_code 10 = .ok (.iconst 1, 1) := by decide +kernel
theorem d_M_value_11 : decode prog_10_method_49_code 11 = .ok (.goto 21, 3) := by decide +kernel
theorem d_M_value_32 : decode prog_10_method_49_code 32 = .ok (.putfield 99, 3) := by decide +kernel
theorem d_M_value_35 : decode prog_10_method_49_code 35 = .ok (.aload_n 0, 1) := by decide +kernel
theorem d_M_value_36 : decode prog_10_method_49_code 36 = .ok (.getfield 99, 3) := by decide +kernel
theorem d_M_value_39 : decode prog_10_method_49_code 39 = .ok (.ifCond .le 7, 3) := by decide +kernel
theorem d_M_value_42 : decode prog_10_method_49_code 42 = .ok (.iconst 0, 1) := by decide +kernel
theorem d_M_value_43 : decode prog_10_method_49_code 43 = .ok (.goto 13, 3) := by decide +kernel
theorem d_M_value_56 : decode prog_10_method_49_code 56 = .ok (.ireturn, 1) := by decide +kernel
theorem d_L_symbol_0 : decode method_3_code 0 = .ok (.aload_n 3, 1) := by decide +kernel
theorem d_L_symbol_1 : decode method_3_code 1 = .ok (.iconst 0, 1) := by decide +kernel
theorem d_L_symbol_2 : decode method_3_code 2 = .ok (.aload_n 0, 1) := by decide +kernel
theorem d_L_symbol_3 : decode method_3_code 3 = .ok (.iload_n 1, 1) := by decide +kernel
theorem d_L_symbol_4 : decode method_3_code 4 = .ok (.iload_n 2, 1) := by decide +kernel
theorem d_L_symbol_5 : decode method_3_code 5 = .ok (.invokevirtual 7, 3) := by decide +kernel
theorem d_L_symbol_8 : decode method_3_code 8 = .ok (.i2l, 1) := by decide +kernel
theorem d_L_symbol_9 : decode method_3_code 9 = .ok (.lastore, 1) := by decide +kernel
theorem d_L_symbol_10 : decode method_3_code 10 = .ok (.goto 11, 3) := by decide +kernel
theorem d_L_symbol_21 : decode method_3_code 21 = .ok (.iconst 0, 1) := by decide +kernel
theorem d_L_symbol_22 : decode method_3_code 22 = .ok (.ireturn, 1) := by decide +kernel
theorem d_L_symbol_13 : decode method_3_code 13 = .ok (.astore 4, 2) := by decide +kernel
theorem d_L_symbol_15 : decode method_3_code 15 = .ok (.iconst 1, 1) := by decide +kernel
theorem d_L_symbol_16 : decode method_3_code 16 = .ok (.ireturn, 1) := by decide +kernel
theorem d_L_production_0 : decode method_4_code 0 = .ok (.aload 5, 2) := by decide +kernel
theorem d_L_production_2 : decode method_4_code 2 = .ok (.iconst 0, 1) := by decide +kernel
theorem d_L_production_3 : decode method_4_code 3 = .ok (.aload_n 0, 1) := by decide +kernel
theorem d_L_production_4 : decode method_4_code 4 = .ok (.iload_n 1, 1) := by decide +kernel
theorem d_L_production_5 : decode method_4_code 5 = .ok (.iload_n 2, 1) := by decide +kernel
theorem d_L_production_6 : decode method_4_code 6 = .ok (.iload_n 3, 1) := by decide +kernel
theorem d_L_production_7 : decode method_4_code 7 = .ok (.iload 4, 2) := by decide +kernel
theorem d_L_production_9 : decode method_4_code 9 = .ok (.invokevirtual 17, 3) := by decide +kernel
theorem d_L_production_17 : decode method_4_code 17 = .ok (.astore 6, 2) := by decide +kernel
theorem d_L_production_19 : decode method_4_code 19 = .ok (.iconst 1, 1) := by decide +kernel
theorem d_L_production_20 : decode method_4_code 20 = .ok (.ireturn, 1) := by decide +kernel
theorem d_L_rule_0 : decode method_5_code 0 = .ok (.aload_n 0, 1) := by decide +kernel
theorem d_L_rule_1 : decode method_5_code 1 = .ok (.iload_n 1, 1) := by decide +kernel
theorem d_L_rule_2 : decode method_5_code 2 = .ok (.iload_n 2, 1) := by decide +kernel
theorem d_L_rule_3 : decode method_5_code 3 = .ok (.iload_n 3, 1) := by decide +kernel
theorem d_L_rule_4 : decode method_5_code 4 = .ok (.iload 4, 2) := by decide +kernel
theorem d_L_rule_6 : decode method_5_code 6 = .ok (.iload 5, 2) := by decide +kernel
theorem d_L_rule_8 : decode method_5_code 8 = .ok (.invokevirtual 21, 3) := by decide +kernel
theorem d_L_rule_14 : decode method_5_code 14 = .ok (.astore 6, 2) := by decide +kernel
theorem d_L_rule_16 : decode method_5_code 16 = .ok (.iconst 1, 1) := by decide +kernel
theorem d_L_rule_17 : decode method_5_code 17 = .ok (.ireturn, 1) := by decide +kernel
theorem d_L_analyse_0 : decode method_6_code 0 = .ok (.aload_n 1, 1) := by decide +kernel
theorem d_L_analyse_1 : decode method_6_code 1 = .ok (.iconst 0, 1) := by decide +kernel
theorem d_L_analyse_2 : decode method_6_code 2 = .ok (.aload_n 0, 1) := by decide +kernel
theorem d_L_analyse_3 : decode method_6_code 3 = .ok (.invokevirtual 27, 3) := by decide +kernel
theorem d_L_analyse_11 : decode method_6_code 11 = .ok (.astore_n 2, 1) := by decide +kernel
theorem d_L_analyse_12 : decode method_6_code 12 = .ok (.iconst 1, 1) := by decide +kernel
theorem d_L_analyse_13 : decode method_6_code 13 = .ok (.ireturn, 1) := by decide +kernel
theorem d_L_visits_0 : decode method_7_code 0 = .ok (.aload_n 2, 1) := by decide +kernel
theorem d_L_visits_1 : decode method_7_code 1 = .ok (.iconst 0, 1) := by decide +kernel
theorem d_L_visits_2 : decode method_7_code 2 = .ok (.aload_n 0, 1) := by decide +kernel
theorem d_L_visits_3 : decode method_7_code 3 = .ok (.iload_n 1, 1) := by decide +kernel
theorem d_L_visits_4 : decode method_7_code 4 = .ok (.invokevirtual 33, 3) := by decide +kernel
theorem d_L_visits_12 : decode method_7_code 12 = .ok (.astore_n 3, 1) := by decide +kernel
theorem d_L_visits_13 : decode method_7_code 13 = .ok (.iconst 1, 1) := by decide +kernel
theorem d_L_visits_14 : decode method_7_code 14 = .ok (.ireturn, 1) := by decide +kernel
theorem d_L_rank_0 : decode method_8_code 0 = .ok (.aload_n 3, 1) := by decide +kernel
theorem d_L_rank_1 : decode method_8_code 1 = .ok (.iconst 0, 1) := by decide +kernel
theorem d_L_rank_2 : decode method_8_code 2 = .ok (.aload_n 0, 1) := by decide +kernel
theorem d_L_rank_3 : decode method_8_code 3 = .ok (.iload_n 1, 1) := by decide +kernel
theorem d_L_rank_4 : decode method_8_code 4 = .ok (.iload_n 2, 1) := by decide +kernel
theorem d_L_rank_5 : decode method_8_code 5 = .ok (.invokevirtual 37, 3) := by decide +kernel
theorem d_L_rank_13 : decode method_8_code 13 = .ok (.astore 4, 2) := by decide +kernel
theorem d_L_rank_15 : decode method_8_code 15 = .ok (.iconst 1, 1) := by decide +kernel
theorem d_L_rank_16 : decode method_8_code 16 = .ok (.ireturn, 1) := by decide +kernel
theorem d_L_instruction_0 : decode method_9_code 0 = .ok (.aload_n 3, 1) := by decide +kernel
theorem d_L_instruction_1 : decode method_9_code 1 = .ok (.iconst 0, 1) := by decide +kernel
theorem d_L_instruction_2 : decode method_9_code 2 = .ok (.aload_n 0, 1) := by decide +kernel
theorem d_L_instruction_3 : decode method_9_code 3 = .ok (.iload_n 1, 1) := by decide +kernel
theorem d_L_instruction_4 : decode method_9_code 4 = .ok (.iload_n 2, 1) := by decide +kernel
theorem d_L_instruction_5 : decode method_9_code 5 = .ok (.invokevirtual 40, 3) := by decide +kernel
theorem d_L_instruction_13 : decode method_9_code 13 = .ok (.astore 4, 2) := by decide +kernel
theorem d_L_instruction_15 : decode method_9_code 15 = .ok (.iconst 1, 1) := by decide +kernel
theorem d_L_instruction_16 : decode method_9_code 16 = .ok (.ireturn, 1) := by decide +kernel
theorem d_L_node_0 : decode method_10_code 0 = .ok (.aload 6, 2) := by decide +kernel
theorem d_L_node_2 : decode method_10_code 2 = .ok (.iconst 0, 1) := by decide +kernel
theorem d_L_node_3 : decode method_10_code 3 = .ok (.aload_n 0, 1) := by decide +kernel
theorem d_L_node_4 : decode method_10_code 4 = .ok (.iload_n 1, 1) := by decide +kernel
theorem d_L_node_5 : decode method_10_code 5 = .ok (.iload_n 2, 1) := by decide +kernel
theorem d_L_node_6 : decode method_10_code 6 = .ok (.iload_n 3, 1) := by decide +kernel
theorem d_L_node_7 : decode method_10_code 7 = .ok (.iload 4, 2) := by decide +kernel
theorem d_L_node_9 : decode method_10_code 9 = .ok (.iload 5, 2) := by decide +kernel
theorem d_L_node_11 : decode method_10_code 11 = .ok (.invokevirtual 43, 3) := by decide +kernel
theorem d_L_node_19 : decode method_10_code 19 = .ok (.astore 7, 2) := by decide +kernel
theorem d_L_node_21 : decode method_10_code 21 = .ok (.iconst 1, 1) := by decide +kernel
theorem d_L_node_22 : decode method_10_code 22 = .ok (.ireturn, 1) := by decide +kernel
theorem d_L_give_0 : decode method_11_code 0 = .ok (.aload_n 0, 1) := by decide +kernel
theorem d_L_give_1 : decode method_11_code 1 = .ok (.iload_n 1, 1) := by decide +kernel
theorem d_L_give_2 : decode method_11_code 2 = .ok (.iload_n 2, 1) := by decide +kernel
theorem d_L_give_3 : decode method_11_code 3 = .ok (.invokevirtual 47, 3) := by decide +kernel
theorem d_L_give_6 : decode method_11_code 6 = .ok (.goto 6, 3) := by decide +kernel
theorem d_L_give_12 : decode method_11_code 12 = .ok (.iconst 0, 1) := by decide +kernel
theorem d_L_give_13 : decode method_11_code 13 = .ok (.ireturn, 1) := by decide +kernel
theorem d_L_give_9 : decode method_11_code 9 = .ok (.astore_n 3, 1) := by decide +kernel
theorem d_L_give_10 : decode method_11_code 10 = .ok (.iconst 1, 1) := by decide +kernel
theorem d_L_give_11 : decode method_11_code 11 = .ok (.ireturn, 1) := by decide +kernel
theorem d_L_start_0 : decode method_12_code 0 = .ok (.aload_n 0, 1) := by decide +kernel
theorem d_L_start_1 : decode method_12_code 1 = .ok (.iload_n 1, 1) := by decide +kernel
theorem d_L_start_2 : decode method_12_code 2 = .ok (.invokevirtual 51, 3) := by decide +kernel
theorem d_L_start_8 : decode method_12_code 8 = .ok (.astore_n 2, 1) := by decide +kernel
theorem d_L_start_9 : decode method_12_code 9 = .ok (.iconst 1, 1) := by decide +kernel
theorem d_L_start_10 : decode method_12_code 10 = .ok (.ireturn, 1) := by decide +kernel
theorem d_L_run_0 : decode method_13_code 0 = .ok (.aload_n 2, 1) := by decide +kernel
theorem d_L_run_1 : decode method_13_code 1 = .ok (.iconst 0, 1) := by decide +kernel
theorem d_L_run_2 : decode method_13_code 2 = .ok (.aload_n 0, 1) := by decide +kernel
theorem d_L_run_3 : decode method_13_code 3 = .ok (.iload_n 1, 1) := by decide +kernel
theorem d_L_run_4 : decode method_13_code 4 = .ok (.invokevirtual 55, 3) := by decide +kernel
theorem d_L_run_12 : decode method_13_code 12 = .ok (.astore_n 3, 1) := by decide +kernel
theorem d_L_run_13 : decode method_13_code 13 = .ok (.iconst 1, 1) := by decide +kernel
theorem d_L_run_14 : decode method_13_code 14 = .ok (.ireturn, 1) := by decide +kernel
theorem d_L_run_15 : decode method_13_code 15 = .ok (.astore_n 3, 1) := by decide +kernel
theorem d_L_run_16 : decode method_13_code 16 = .ok (.iconst 2, 1) := by decide +kernel
theorem d_L_run_17 : decode method_13_code 17 = .ok (.ireturn, 1) := by decide +kernel
theorem d_L_knows_0 : decode method_14_code 0 = .ok (.aload_n 3, 1) := by decide +kernel
theorem d_L_knows_1 : decode method_14_code 1 = .ok (.iconst 0, 1) := by decide +kernel
theorem d_L_knows_2 : decode method_14_code 2 = .ok (.aload_n 0, 1) := by decide +kernel
theorem d_L_knows_3 : decode method_14_code 3 = .ok (.iload_n 1, 1) := by decide +kernel
theorem d_L_knows_4 : decode method_14_code 4 = .ok (.iload_n 2, 1) := by decide +kernel
theorem d_L_knows_5 : decode method_14_code 5 = .ok (.invokevirtual 58, 3) := by decide +kernel
theorem d_L_knows_20 : decode method_14_code 20 = .ok (.astore 4, 2) := by decide +kernel
theorem d_L_knows_22 : decode method_14_code 22 = .ok (.iconst 1, 1) := by decide +kernel
theorem d_L_knows_23 : decode method_14_code 23 = .ok (.ireturn, 1) := by decide +kernel
theorem d_L_value_0 : decode method_15_code 0 = .ok (.aload_n 3, 1) := by decide +kernel
theorem d_L_value_1 : decode method_15_code 1 = .ok (.iconst 0, 1) := by decide +kernel
theorem d_L_value_2 : decode method_15_code 2 = .ok (.aload_n 0, 1) := by decide +kernel
theorem d_L_value_3 : decode method_15_code 3 = .ok (.iload_n 1, 1) := by decide +kernel
theorem d_L_value_4 : decode method_15_code 4 = .ok (.iload_n 2, 1) := by decide +kernel
theorem d_L_value_5 : decode method_15_code 5 = .ok (.invokevirtual 62, 3) := by decide +kernel
theorem d_L_value_13 : decode method_15_code 13 = .ok (.astore 4, 2) := by decide +kernel
theorem d_L_value_15 : decode method_15_code 15 = .ok (.iconst 1, 1) := by decide +kernel
theorem d_L_value_16 : decode method_15_code 16 = .ok (.ireturn, 1) := by decide +kernel
theorem d_L_law_124 : decode code 124 = .ok (.aload_n 1, 1) := by decide +kernel
theorem d_L_law_125 : decode code 125 = .ok (.aload_n 0, 1) := by decide +kernel
theorem d_L_law_126 : decode code 126 = .ok (.iload 4, 2) := by decide +kernel
theorem d_L_law_128 : decode code 128 = .ok (.iconst 1, 1) := by decide +kernel
theorem d_L_law_129 : decode code 129 = .ok (.iadd, 1) := by decide +kernel
theorem d_L_law_130 : decode code 130 = .ok (.iaload, 1) := by decide +kernel
theorem d_L_law_131 : decode code 131 = .ok (.aload_n 0, 1) := by decide +kernel
theorem d_L_law_132 : decode code 132 = .ok (.iload 4, 2) := by decide +kernel
theorem d_L_law_134 : decode code 134 = .ok (.iconst 2, 1) := by decide +kernel
theorem d_L_law_135 : decode code 135 = .ok (.iadd, 1) := by decide +kernel
theorem d_L_law_136 : decode code 136 = .ok (.iaload, 1) := by decide +kernel
theorem d_L_law_137 : decode code 137 = .ok (.aload_n 3, 1) := by decide +kernel
theorem d_L_law_138 : decode code 138 = .ok (.invokestatic 69, 3) := by decide +kernel
theorem d_L_law_141 : decode code 141 = .ok (.istore 5, 2) := by decide +kernel
theorem d_L_law_143 : decode code 143 = .ok (.aload_n 2, 1) := by decide +kernel
theorem d_L_law_144 : decode code 144 = .ok (.aload_n 0, 1) := by decide +kernel
theorem d_L_law_145 : decode code 145 = .ok (.iload 4, 2) := by decide +kernel
theorem d_L_law_147 : decode code 147 = .ok (.iconst 1, 1) := by decide +kernel
theorem d_L_law_148 : decode code 148 = .ok (.iadd, 1) := by decide +kernel
theorem d_L_law_149 : decode code 149 = .ok (.iaload, 1) := by decide +kernel
theorem d_L_law_150 : decode code 150 = .ok (.aload_n 0, 1) := by decide +kernel
theorem d_L_law_151 : decode code 151 = .ok (.iload 4, 2) := by decide +kernel
theorem d_L_law_153 : decode code 153 = .ok (.iconst 2, 1) := by decide +kernel
theorem d_L_law_154 : decode code 154 = .ok (.iadd, 1) := by decide +kernel
theorem d_L_law_155 : decode code 155 = .ok (.iaload, 1) := by decide +kernel
theorem d_L_law_156 : decode code 156 = .ok (.invokevirtual 74, 3) := by decide +kernel
theorem d_L_law_159 : decode code 159 = .ok (.istore 6, 2) := by decide +kernel
theorem d_L_law_161 : decode code 161 = .ok (.aload_n 2, 1) := by decide +kernel
theorem d_L_law_162 : decode code 162 = .ok (.invokevirtual 75, 3) := by decide +kernel
theorem d_L_law_165 : decode code 165 = .ok (.iload 5, 2) := by decide +kernel
