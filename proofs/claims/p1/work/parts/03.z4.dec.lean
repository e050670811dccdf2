theorem d_M_production_52 : decode prog_10_method_8_code 52 = .ok (.invokevirtual 115, 3) := by decide +kernel
theorem d_M_production_36 : decode prog_10_method_8_code 36 = .ok (.iload 4, 2) := by decide +kernel
theorem d_M_production_38 : decode prog_10_method_8_code 38 = .ok (.iconst (-1), 1) := by decide +kernel
theorem d_M_production_39 : decode prog_10_method_8_code 39 = .ok (.if_icmp .ne 7, 3) := by decide +kernel
theorem d_M_production_46 : decode prog_10_method_8_code 46 = .ok (.iconst 0, 1) := by decide +kernel
theorem d_M_production_47 : decode prog_10_method_8_code 47 = .ok (.goto 8, 3) := by decide +kernel
theorem d_M_production_42 : decode prog_10_method_8_code 42 = .ok (.iconst 1, 1) := by decide +kernel
theorem d_M_production_43 : decode prog_10_method_8_code 43 = .ok (.goto 12, 3) := by decide +kernel
theorem d_M_production_0 : decode prog_10_method_8_code 0 = .ok (.iload_n 2, 1) := by decide +kernel
theorem d_M_production_1 : decode prog_10_method_8_code 1 = .ok (.iconst (-1), 1) := by decide +kernel
theorem d_M_production_2 : decode prog_10_method_8_code 2 = .ok (.if_icmp .ne 22, 3) := by decide +kernel
theorem d_M_production_24 : decode prog_10_method_8_code 24 = .ok (.aload_n 0, 1) := by decide +kernel
theorem d_M_production_25 : decode prog_10_method_8_code 25 = .ok (.iload_n 2, 1) := by decide +kernel
theorem d_M_production_26 : decode prog_10_method_8_code 26 = .ok (.invokevirtual 115, 3) := by decide +kernel
theorem d_M_production_5 : decode prog_10_method_8_code 5 = .ok (.iload_n 3, 1) := by decide +kernel
theorem d_M_production_6 : decode prog_10_method_8_code 6 = .ok (.iconst (-1), 1) := by decide +kernel
theorem d_M_production_7 : decode prog_10_method_8_code 7 = .ok (.if_icmp .ne 13, 3) := by decide +kernel
theorem d_M_production_20 : decode prog_10_method_8_code 20 = .ok (.iconst 0, 1) := by decide +kernel
theorem d_M_production_21 : decode prog_10_method_8_code 21 = .ok (.goto 8, 3) := by decide +kernel
theorem d_M_production_10 : decode prog_10_method_8_code 10 = .ok (.iload 4, 2) := by decide +kernel
theorem d_M_production_12 : decode prog_10_method_8_code 12 = .ok (.iconst (-1), 1) := by decide +kernel
theorem d_M_production_13 : decode prog_10_method_8_code 13 = .ok (.if_icmp .ne 7, 3) := by decide +kernel
theorem d_M_production_16 : decode prog_10_method_8_code 16 = .ok (.iconst 1, 1) := by decide +kernel
theorem d_M_production_17 : decode prog_10_method_8_code 17 = .ok (.goto 12, 3) := by decide +kernel
theorem d_M_rule_0 : decode prog_10_method_13_code 0 = .ok (.aload_n 0, 1) := by decide +kernel
theorem d_M_rule_1 : decode prog_10_method_13_code 1 = .ok (.iload_n 1, 1) := by decide +kernel
theorem d_M_rule_2 : decode prog_10_method_13_code 2 = .ok (.ifCond .lt 11, 3) := by decide +kernel
theorem d_M_rule_13 : decode prog_10_method_13_code 13 = .ok (.iconst 1, 1) := by decide +kernel
theorem d_M_rule_14 : decode prog_10_method_13_code 14 = .ok (.goto 4, 3) := by decide +kernel
theorem d_M_rule_18 : decode prog_10_method_13_code 18 = .ok (.putfield 99, 3) := by decide +kernel
theorem d_M_rule_21 : decode prog_10_method_13_code 21 = .ok (.aload_n 0, 1) := by decide +kernel
theorem d_M_rule_22 : decode prog_10_method_13_code 22 = .ok (.getfield 99, 3) := by decide +kernel
theorem d_M_rule_25 : decode prog_10_method_13_code 25 = .ok (.ifCond .le 4, 3) := by decide +kernel
theorem d_M_rule_28 : decode prog_10_method_13_code 28 = .ok (.return_, 1) := by decide +kernel
theorem d_M_rule_5 : decode prog_10_method_13_code 5 = .ok (.iload_n 1, 1) := by decide +kernel
theorem d_M_rule_6 : decode prog_10_method_13_code 6 = .ok (.aload_n 0, 1) := by decide +kernel
theorem d_M_rule_7 : decode prog_10_method_13_code 7 = .ok (.getfield 119, 3) := by decide +kernel
theorem d_M_rule_10 : decode prog_10_method_13_code 10 = .ok (.if_icmp .lt 7, 3) := by decide +kernel
theorem d_M_analyse_0 : decode prog_10_method_30_code 0 = .ok (.aload_n 0, 1) := by decide +kernel
theorem d_M_analyse_1 : decode prog_10_method_30_code 1 = .ok (.iconst 0, 1) := by decide +kernel
theorem d_M_analyse_2 : decode prog_10_method_30_code 2 = .ok (.putfield 99, 3) := by decide +kernel
theorem d_M_analyse_5 : decode prog_10_method_30_code 5 = .ok (.aload_n 0, 1) := by decide +kernel
theorem d_M_analyse_6 : decode prog_10_method_30_code 6 = .ok (.invokevirtual 112, 3) := by decide +kernel
theorem d_M_analyse_9 : decode prog_10_method_30_code 9 = .ok (.aload_n 0, 1) := by decide +kernel
theorem d_M_analyse_10 : decode prog_10_method_30_code 10 = .ok (.iconst 0, 1) := by decide +kernel
theorem d_M_analyse_11 : decode prog_10_method_30_code 11 = .ok (.iconst (-1), 1) := by decide +kernel
theorem d_M_analyse_12 : decode prog_10_method_30_code 12 = .ok (.iconst (-1), 1) := by decide +kernel
theorem d_M_analyse_13 : decode prog_10_method_30_code 13 = .ok (.invokevirtual 137, 3) := by decide +kernel
theorem d_M_analyse_16 : decode prog_10_method_30_code 16 = .ok (.pop, 1) := by decide +kernel
theorem d_M_analyse_17 : decode prog_10_method_30_code 17 = .ok (.aload_n 0, 1) := by decide +kernel
theorem d_M_analyse_18 : decode prog_10_method_30_code 18 = .ok (.invokevirtual 171, 3) := by decide +kernel
theorem d_M_analyse_21 : decode prog_10_method_30_code 21 = .ok (.ifCond .ne 10, 3) := by decide +kernel
theorem d_M_analyse_24 : decode prog_10_method_30_code 24 = .ok (.aload_n 0, 1) := by decide +kernel
theorem d_M_analyse_25 : decode prog_10_method_30_code 25 = .ok (.getfield 119, 3) := by decide +kernel
theorem d_M_analyse_28 : decode prog_10_method_30_code 28 = .ok (.ifCond .ne 9, 3) := by decide +kernel
theorem d_M_analyse_31 : decode prog_10_method_30_code 31 = .ok (.aload_n 0, 1) := by decide +kernel
theorem d_M_analyse_32 : decode prog_10_method_30_code 32 = .ok (.iconst 1, 1) := by decide +kernel
theorem d_M_analyse_33 : decode prog_10_method_30_code 33 = .ok (.invokevirtual 175, 3) := by decide +kernel
theorem d_M_analyse_36 : decode prog_10_method_30_code 36 = .ok (.ireturn, 1) := by decide +kernel
theorem d_M_fault_0 : decode prog_10_method_31_code 0 = .ok (.aload_n 0, 1) := by decide +kernel
theorem d_M_fault_1 : decode prog_10_method_31_code 1 = .ok (.iconst 0, 1) := by decide +kernel
theorem d_M_fault_2 : decode prog_10_method_31_code 2 = .ok (.putfield 99, 3) := by decide +kernel
theorem d_M_fault_5 : decode prog_10_method_31_code 5 = .ok (.iload_n 1, 1) := by decide +kernel
theorem d_M_fault_6 : decode prog_10_method_31_code 6 = .ok (.ifCond .ne 10, 3) := by decide +kernel
theorem d_M_fault_9 : decode prog_10_method_31_code 9 = .ok (.aload_n 0, 1) := by decide +kernel
theorem d_M_fault_10 : decode prog_10_method_31_code 10 = .ok (.getfield 141, 3) := by decide +kernel
theorem d_M_fault_13 : decode prog_10_method_31_code 13 = .ok (.goto 28, 3) := by decide +kernel
theorem d_M_fault_41 : decode prog_10_method_31_code 41 = .ok (.ireturn, 1) := by decide +kernel
theorem d_M_fault_16 : decode prog_10_method_31_code 16 = .ok (.iload_n 1, 1) := by decide +kernel
theorem d_M_fault_17 : decode prog_10_method_31_code 17 = .ok (.iconst 1, 1) := by decide +kernel
theorem d_M_fault_18 : decode prog_10_method_31_code 18 = .ok (.if_icmp .ne 10, 3) := by decide +kernel
theorem d_M_fault_21 : decode prog_10_method_31_code 21 = .ok (.aload_n 0, 1) := by decide +kernel
theorem d_M_fault_22 : decode prog_10_method_31_code 22 = .ok (.getfield 32, 3) := by decide +kernel
theorem d_M_fault_25 : decode prog_10_method_31_code 25 = .ok (.goto 16, 3) := by decide +kernel
theorem d_M_fault_28 : decode prog_10_method_31_code 28 = .ok (.iload_n 1, 1) := by decide +kernel
theorem d_M_fault_29 : decode prog_10_method_31_code 29 = .ok (.iconst 2, 1) := by decide +kernel
theorem d_M_fault_30 : decode prog_10_method_31_code 30 = .ok (.if_icmp .ne 10, 3) := by decide +kernel
theorem d_M_fault_33 : decode prog_10_method_31_code 33 = .ok (.aload_n 0, 1) := by decide +kernel
theorem d_M_fault_34 : decode prog_10_method_31_code 34 = .ok (.getfield 36, 3) := by decide +kernel
theorem d_M_fault_37 : decode prog_10_method_31_code 37 = .ok (.goto 4, 3) := by decide +kernel
theorem d_M_fault_40 : decode prog_10_method_31_code 40 = .ok (.iconst (-1), 1) := by decide +kernel
theorem d_M_visits_0 : decode prog_10_method_32_code 0 = .ok (.aload_n 0, 1) := by decide +kernel
theorem d_M_visits_1 : decode prog_10_method_32_code 1 = .ok (.aload_n 0, 1) := by decide +kernel
theorem d_M_visits_2 : decode prog_10_method_32_code 2 = .ok (.getfield 102, 3) := by decide +kernel
theorem d_M_visits_5 : decode prog_10_method_32_code 5 = .ok (.ifCond .ne 7, 3) := by decide +kernel
theorem d_M_visits_8 : decode prog_10_method_32_code 8 = .ok (.iconst 1, 1) := by decide +kernel
theorem d_M_visits_9 : decode prog_10_method_32_code 9 = .ok (.goto 16, 3) := by decide +kernel
theorem d_M_visits_25 : decode prog_10_method_32_code 25 = .ok (.putfield 99, 3) := by decide +kernel
theorem d_M_visits_28 : decode prog_10_method_32_code 28 = .ok (.aload_n 0, 1) := by decide +kernel
theorem d_M_visits_29 : decode prog_10_method_32_code 29 = .ok (.getfield 99, 3) := by decide +kernel
theorem d_M_visits_32 : decode prog_10_method_32_code 32 = .ok (.ifCond .le 7, 3) := by decide +kernel
theorem d_M_visits_35 : decode prog_10_method_32_code 35 = .ok (.iconst 0, 1) := by decide +kernel
theorem d_M_visits_36 : decode prog_10_method_32_code 36 = .ok (.goto 9, 3) := by decide +kernel
theorem d_M_visits_45 : decode prog_10_method_32_code 45 = .ok (.ireturn, 1) := by decide +kernel
theorem d_M_rank_0 : decode prog_10_method_33_code 0 = .ok (.aload_n 0, 1) := by decide +kernel
theorem d_M_rank_1 : decode prog_10_method_33_code 1 = .ok (.aload_n 0, 1) := by decide +kernel
theorem d_M_rank_2 : decode prog_10_method_33_code 2 = .ok (.getfield 102, 3) := by decide +kernel
theorem d_M_rank_5 : decode prog_10_method_33_code 5 = .ok (.ifCond .ne 7, 3) := by decide +kernel
theorem d_M_rank_8 : decode prog_10_method_33_code 8 = .ok (.iconst 1, 1) := by decide +kernel
theorem d_M_rank_9 : decode prog_10_method_33_code 9 = .ok (.goto 30, 3) := by decide +kernel
theorem d_M_rank_39 : decode prog_10_method_33_code 39 = .ok (.putfield 99, 3) := by decide +kernel
theorem d_M_rank_42 : decode prog_10_method_33_code 42 = .ok (.aload_n 0, 1) := by decide +kernel
theorem d_M_rank_43 : decode prog_10_method_33_code 43 = .ok (.getfield 99, 3) := by decide +kernel
theorem d_M_rank_46 : decode prog_10_method_33_code 46 = .ok (.ifCond .le 7, 3) := by decide +kernel
theorem d_M_rank_49 : decode prog_10_method_33_code 49 = .ok (.iconst 0, 1) := by decide +kernel
theorem d_M_rank_50 : decode prog_10_method_33_code 50 = .ok (.goto 13, 3) := by decide +kernel
theorem d_M_rank_63 : decode prog_10_method_33_code 63 = .ok (.ireturn, 1) := by decide +kernel
theorem d_M_instruction_0 : decode prog_10_method_34_code 0 = .ok (.aload_n 0, 1) := by decide +kernel
theorem d_M_instruction_1 : decode prog_10_method_34_code 1 = .ok (.aload_n 0, 1) := by decide +kernel
theorem d_M_instruction_2 : decode prog_10_method_34_code 2 = .ok (.getfield 102, 3) := by decide +kernel
theorem d_M_instruction_5 : decode prog_10_method_34_code 5 = .ok (.ifCond .ne 7, 3) := by decide +kernel
theorem d_M_instruction_8 : decode prog_10_method_34_code 8 = .ok (.iconst 1, 1) := by decide +kernel
theorem d_M_instruction_9 : decode prog_10_method_34_code 9 = .ok (.goto 24, 3) := by decide +kernel
theorem d_M_instruction_33 : decode prog_10_method_34_code 33 = .ok (.putfield 99, 3) := by decide +kernel
theorem d_M_instruction_36 : decode prog_10_method_34_code 36 = .ok (.aload_n 0, 1) := by decide +kernel
theorem d_M_instruction_37 : decode prog_10_method_34_code 37 = .ok (.getfield 99, 3) := by decide +kernel
theorem d_M_instruction_40 : decode prog_10_method_34_code 40 = .ok (.ifCond .le 5, 3) := by decide +kernel
theorem d_M_instruction_43 : decode prog_10_method_34_code 43 = .ok (.iconst 0, 1) := by decide +kernel
theorem d_M_instruction_44 : decode prog_10_method_34_code 44 = .ok (.ireturn, 1) := by decide +kernel
theorem d_M_node_0 : decode prog_10_method_36_code 0 = .ok (.iload_n 1, 1) := by decide +kernel
theorem d_M_node_1 : decode prog_10_method_36_code 1 = .ok (.ifCond .lt 47, 3) := by decide +kernel
theorem d_M_node_48 : decode prog_10_method_36_code 48 = .ok (.iconst 0, 1) := by decide +kernel
theorem d_M_node_49 : decode prog_10_method_36_code 49 = .ok (.istore 6, 2) := by decide +kernel
theorem d_M_node_51 : decode prog_10_method_36_code 51 = .ok (.iload 6, 2) := by decide +kernel
theorem d_M_node_53 : decode prog_10_method_36_code 53 = .ok (.ifCond .eq 37, 3) := by decide +kernel
theorem d_M_node_90 : decode prog_10_method_36_code 90 = .ok (.iconst 0, 1) := by decide +kernel
theorem d_M_node_91 : decode prog_10_method_36_code 91 = .ok (.istore 6, 2) := by decide +kernel
theorem d_M_node_93 : decode prog_10_method_36_code 93 = .ok (.aload_n 0, 1) := by decide +kernel
theorem d_M_node_94 : decode prog_10_method_36_code 94 = .ok (.iload 6, 2) := by decide +kernel
theorem d_M_node_96 : decode prog_10_method_36_code 96 = .ok (.ifCond .ne 7, 3) := by decide +kernel
theorem d_M_node_99 : decode prog_10_method_36_code 99 = .ok (.iconst 1, 1) := by decide +kernel
theorem d_M_node_100 : decode prog_10_method_36_code 100 = .ok (.goto 17, 3) := by decide +kernel
theorem d_M_node_117 : decode prog_10_method_36_code 117 = .ok (.putfield 99, 3) := by decide +kernel
theorem d_M_node_120 : decode prog_10_method_36_code 120 = .ok (.aload_n 0, 1) := by decide +kernel
theorem d_M_node_121 : decode prog_10_method_36_code 121 = .ok (.getfield 99, 3) := by decide +kernel
theorem d_M_node_124 : decode prog_10_method_36_code 124 = .ok (.ifCond .le 5, 3) := by decide +kernel
theorem d_M_node_127 : decode prog_10_method_36_code 127 = .ok (.iconst 0, 1) := by decide +kernel
theorem d_M_node_128 : decode prog_10_method_36_code 128 = .ok (.ireturn, 1) := by decide +kernel
theorem d_M_node_4 : decode prog_10_method_36_code 4 = .ok (.iload_n 1, 1) := by decide +kernel
theorem d_M_node_5 : decode prog_10_method_36_code 5 = .ok (.aload_n 0, 1) := by decide +kernel
theorem d_M_node_6 : decode prog_10_method_36_code 6 = .ok (.getfield 119, 3) := by decide +kernel
theorem d_M_node_9 : decode prog_10_method_36_code 9 = .ok (.if_icmp .ge 39, 3) := by decide +kernel
theorem d_M_fell_0 : decode prog_10_method_37_code 0 = .ok (.aload_n 0, 1) := by decide +kernel
theorem d_M_fell_1 : decode prog_10_method_37_code 1 = .ok (.iconst 0, 1) := by decide +kernel
theorem d_M_fell_2 : decode prog_10_method_37_code 2 = .ok (.putfield 99, 3) := by decide +kernel
theorem d_M_fell_5 : decode prog_10_method_37_code 5 = .ok (.aload_n 0, 1) := by decide +kernel
theorem d_M_fell_6 : decode prog_10_method_37_code 6 = .ok (.invokevirtual 106, 3) := by decide +kernel
theorem d_M_fell_9 : decode prog_10_method_37_code 9 = .ok (.aload_n 0, 1) := by decide +kernel
theorem d_M_fell_10 : decode prog_10_method_37_code 10 = .ok (.iconst 0, 1) := by decide +kernel
theorem d_M_fell_11 : decode prog_10_method_37_code 11 = .ok (.putfield 194, 3) := by decide +kernel
theorem d_M_fell_14 : decode prog_10_method_37_code 14 = .ok (.return_, 1) := by decide +kernel
theorem d_M_give_0 : decode prog_10_method_38_code 0 = .ok (.aload_n 0, 1) := by decide +kernel
theorem d_M_give_1 : decode prog_10_method_38_code 1 = .ok (.iload_n 1, 1) := by decide +kernel
theorem d_M_give_2 : decode prog_10_method_38_code 2 = .ok (.ifCond .lt 8, 3) := by decide +kernel
theorem d_M_give_10 : decode prog_10_method_38_code 10 = .ok (.iconst 1, 1) := by decide +kernel
theorem d_M_give_11 : decode prog_10_method_38_code 11 = .ok (.goto 4, 3) := by decide +kernel
theorem d_M_give_15 : decode prog_10_method_38_code 15 = .ok (.putfield 99, 3) := by decide +kernel
theorem d_M_give_18 : decode prog_10_method_38_code 18 = .ok (.aload_n 0, 1) := by decide +kernel
theorem d_M_give_19 : decode prog_10_method_38_code 19 = .ok (.getfield 99, 3) := by decide +kernel
theorem d_M_give_22 : decode prog_10_method_38_code 22 = .ok (.ifCond .ne 10, 3) := by decide +kernel
theorem d_M_give_32 : decode prog_10_method_38_code 32 = .ok (.return_, 1) := by decide +kernel
theorem d_M_give_5 : decode prog_10_method_38_code 5 = .ok (.iload_n 1, 1) := by decide +kernel
theorem d_M_give_6 : decode prog_10_method_38_code 6 = .ok (.iconst 3, 1) := by decide +kernel
theorem d_M_give_7 : decode prog_10_method_38_code 7 = .ok (.if_icmp .le 7, 3) := by decide +kernel
theorem d_M_give_14 : decode prog_10_method_38_code 14 = .ok (.iconst 0, 1) := by decide +kernel
theorem d_M_give_25 : decode prog_10_method_38_code 25 = .ok (.aload_n 0, 1) := by decide +kernel
theorem d_M_give_26 : decode prog_10_method_38_code 26 = .ok (.getfield 90, 3) := by decide +kernel
theorem d_M_give_29 : decode prog_10_method_38_code 29 = .ok (.iload_n 1, 1) := by decide +kernel
theorem d_M_give_30 : decode prog_10_method_38_code 30 = .ok (.iload_n 2, 1) := by decide +kernel
theorem d_M_give_31 : decode prog_10_method_38_code 31 = .ok (.iastore, 1) := by decide +kernel
theorem d_M_start_0 : decode prog_10_method_40_code 0 = .ok (.aload_n 0, 1) := by decide +kernel
theorem d_M_start_1 : decode prog_10_method_40_code 1 = .ok (.aload_n 0, 1) := by decide +kernel
theorem d_M_start_2 : decode prog_10_method_40_code 2 = .ok (.getfield 102, 3) := by decide +kernel
theorem d_M_start_5 : decode prog_10_method_40_code 5 = .ok (.ifCond .ne 7, 3) := by decide +kernel
theorem d_M_start_8 : decode prog_10_method_40_code 8 = .ok (.iconst 1, 1) := by decide +kernel
theorem d_M_start_9 : decode prog_10_method_40_code 9 = .ok (.goto 16, 3) := by decide +kernel
theorem d_M_start_25 : decode prog_10_method_40_code 25 = .ok (.putfield 99, 3) := by decide +kernel
theorem d_M_start_28 : decode prog_10_method_40_code 28 = .ok (.aload_n 0, 1) := by decide +kernel
theorem d_M_start_29 : decode prog_10_method_40_code 29 = .ok (.getfield 99, 3) := by decide +kernel
theorem d_M_start_32 : decode prog_10_method_40_code 32 = .ok (.ifCond .le 4, 3) := by decide +kernel
theorem d_M_start_35 : decode prog_10_method_40_code 35 = .ok (.return_, 1) := by decide +kernel
theorem d_M_run_0 : decode prog_10_method_44_code 0 = .ok (.aload_n 0, 1) := by decide +kernel
theorem d_M_run_1 : decode prog_10_method_44_code 1 = .ok (.iload_n 1, 1) := by decide +kernel
theorem d_M_run_2 : decode prog_10_method_44_code 2 = .ok (.ifCond .lt 10, 3) := by decide +kernel
theorem d_M_run_12 : decode prog_10_method_44_code 12 = .ok (.iconst 1, 1) := by decide +kernel
theorem d_M_run_13 : decode prog_10_method_44_code 13 = .ok (.goto 16, 3) := by decide +kernel
theorem d_M_run_29 : decode prog_10_method_44_code 29 = .ok (.putfield 99, 3) := by decide +kernel
theorem d_M_run_32 : decode prog_10_method_44_code 32 = .ok (.aload_n 0, 1) := by decide +kernel
theorem d_M_run_33 : decode prog_10_method_44_code 33 = .ok (.getfield 99, 3) := by decide +kernel
theorem d_M_run_36 : decode prog_10_method_44_code 36 = .ok (.ifCond .le 5, 3) := by decide +kernel
theorem d_M_run_39 : decode prog_10_method_44_code 39 = .ok (.iconst 0, 1) := by decide +kernel
theorem d_M_run_40 : decode prog_10_method_44_code 40 = .ok (.ireturn, 1) := by decide +kernel
theorem d_M_run_5 : decode prog_10_method_44_code 5 = .ok (.iload_n 1, 1) := by decide +kernel
theorem d_M_run_6 : decode prog_10_method_44_code 6 = .ok (.sipush 500, 3) := by decide +kernel
theorem d_M_run_9 : decode prog_10_method_44_code 9 = .ok (.if_icmp .le 7, 3) := by decide +kernel
theorem d_M_run_16 : decode prog_10_method_44_code 16 = .ok (.aload_n 0, 1) := by decide +kernel
theorem d_M_run_17 : decode prog_10_method_44_code 17 = .ok (.getfield 93, 3) := by decide +kernel
theorem d_M_run_20 : decode prog_10_method_44_code 20 = .ok (.iconst (-1), 1) := by decide +kernel
theorem d_M_run_21 : decode prog_10_method_44_code 21 = .ok (.if_icmp .ne 7, 3) := by decide +kernel
theorem d_M_run_24 : decode prog_10_method_44_code 24 = .ok (.iconst 2, 1) := by decide +kernel
