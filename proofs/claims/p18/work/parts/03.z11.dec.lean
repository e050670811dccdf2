theorem d_M_value_2 : decode prog_10_method_49_code 2 = .ok (.iload_n 1, 1) := by decide +kernel
theorem d_M_value_3 : decode prog_10_method_49_code 3 = .ok (.iload_n 2, 1) := by decide +kernel
theorem d_M_value_4 : decode prog_10_method_49_code 4 = .ok (.invokevirtual 212, 3) := by decide +kernel
theorem d_M_value_32 : decode prog_10_method_49_code 32 = .ok (.putfield 99, 3) := by decide +kernel
theorem d_M_value_35 : decode prog_10_method_49_code 35 = .ok (.aload_n 0, 1) := by decide +kernel
theorem d_M_value_36 : decode prog_10_method_49_code 36 = .ok (.getfield 99, 3) := by decide +kernel
theorem d_M_value_39 : decode prog_10_method_49_code 39 = .ok (.ifCond .le 7, 3) := by decide +kernel
theorem d_M_value_46 : decode prog_10_method_49_code 46 = .ok (.aload_n 0, 1) := by decide +kernel
theorem d_M_value_47 : decode prog_10_method_49_code 47 = .ok (.getfield 87, 3) := by decide +kernel
theorem d_M_value_50 : decode prog_10_method_49_code 50 = .ok (.iconst 4, 1) := by decide +kernel
theorem d_M_value_51 : decode prog_10_method_49_code 51 = .ok (.iload_n 1, 1) := by decide +kernel
theorem d_M_value_52 : decode prog_10_method_49_code 52 = .ok (.imul, 1) := by decide +kernel
theorem d_M_value_53 : decode prog_10_method_49_code 53 = .ok (.iload_n 2, 1) := by decide +kernel
theorem d_M_value_54 : decode prog_10_method_49_code 54 = .ok (.iadd, 1) := by decide +kernel
theorem d_M_value_55 : decode prog_10_method_49_code 55 = .ok (.iaload, 1) := by decide +kernel
theorem d_M_value_56 : decode prog_10_method_49_code 56 = .ok (.ireturn, 1) := by decide +kernel
theorem d_M_value_42 : decode prog_10_method_49_code 42 = .ok (.iconst 0, 1) := by decide +kernel
theorem d_M_value_43 : decode prog_10_method_49_code 43 = .ok (.goto 13, 3) := by decide +kernel
theorem d_M_value_7 : decode prog_10_method_49_code 7 = .ok (.ifCond .ne 7, 3) := by decide +kernel
theorem d_M_value_14 : decode prog_10_method_49_code 14 = .ok (.aload_n 0, 1) := by decide +kernel
theorem d_M_value_15 : decode prog_10_method_49_code 15 = .ok (.getfield 84, 3) := by decide +kernel
theorem d_M_value_18 : decode prog_10_method_49_code 18 = .ok (.iconst 4, 1) := by decide +kernel
theorem d_M_value_19 : decode prog_10_method_49_code 19 = .ok (.iload_n 1, 1) := by decide +kernel
theorem d_M_value_20 : decode prog_10_method_49_code 20 = .ok (.imul, 1) := by decide +kernel
theorem d_M_value_21 : decode prog_10_method_49_code 21 = .ok (.iload_n 2, 1) := by decide +kernel
theorem d_M_value_22 : decode prog_10_method_49_code 22 = .ok (.iadd, 1) := by decide +kernel
theorem d_M_value_23 : decode prog_10_method_49_code 23 = .ok (.baload, 1) := by decide +kernel
theorem d_M_value_24 : decode prog_10_method_49_code 24 = .ok (.ifCond .eq 7, 3) := by decide +kernel
theorem d_M_value_31 : decode prog_10_method_49_code 31 = .ok (.iconst 2, 1) := by decide +kernel
theorem d_M_value_27 : decode prog_10_method_49_code 27 = .ok (.iconst 0, 1) := by decide +kernel
theorem d_M_value_28 : decode prog_10_method_49_code 28 = .ok (.goto 4, 3) := by decide +kernel
theorem d_M_value_10 : decode prog_10_method_49_code 10 = .ok (.iconst 1, 1) := by decide +kernel
theorem d_M_value_11 : decode prog_10_method_49_code 11 = .ok (.goto 21, 3) := by decide +kernel
theorem d_V_dropAnalysis_0 : decode prog_1_method_19_code 0 = .ok (.aload_n 0, 1) := by decide +kernel
theorem d_V_dropAnalysis_1 : decode prog_1_method_19_code 1 = .ok (.getfield 21, 3) := by decide +kernel
theorem d_V_dropAnalysis_4 : decode prog_1_method_19_code 4 = .ok (.iconst 0, 1) := by decide +kernel
theorem d_V_dropAnalysis_5 : decode prog_1_method_19_code 5 = .ok (.putfield 125, 3) := by decide +kernel
theorem d_V_dropAnalysis_8 : decode prog_1_method_19_code 8 = .ok (.aload_n 0, 1) := by decide +kernel
theorem d_V_dropAnalysis_9 : decode prog_1_method_19_code 9 = .ok (.getfield 41, 3) := by decide +kernel
theorem d_V_dropAnalysis_12 : decode prog_1_method_19_code 12 = .ok (.invokevirtual 111, 3) := by decide +kernel
theorem d_V_dropAnalysis_15 : decode prog_1_method_19_code 15 = .ok (.return_, 1) := by decide +kernel
theorem d_V_requireAnalysis_0 : decode prog_1_method_20_code 0 = .ok (.aload_n 0, 1) := by decide +kernel
theorem d_V_requireAnalysis_1 : decode prog_1_method_20_code 1 = .ok (.getfield 21, 3) := by decide +kernel
theorem d_V_requireAnalysis_4 : decode prog_1_method_20_code 4 = .ok (.getfield 125, 3) := by decide +kernel
theorem d_V_requireAnalysis_7 : decode prog_1_method_20_code 7 = .ok (.ifCond .ne 13, 3) := by decide +kernel
theorem d_V_requireAnalysis_20 : decode prog_1_method_20_code 20 = .ok (.return_, 1) := by decide +kernel
theorem d_V_requireAnalysis_10 : decode prog_1_method_20_code 10 = .ok (.new 56, 3) := by decide +kernel
theorem d_V_requireAnalysis_13 : decode prog_1_method_20_code 13 = .ok (.dup, 1) := by decide +kernel
theorem d_V_requireAnalysis_14 : decode prog_1_method_20_code 14 = .ok (.ldc 228, 2) := by decide +kernel
theorem d_V_requireAnalysis_16 : decode prog_1_method_20_code 16 = .ok (.invokespecial 60, 3) := by decide +kernel
theorem d_V_requireAnalysis_19 : decode prog_1_method_20_code 19 = .ok (.athrow, 1) := by decide +kernel
theorem d_V_requireAttribute_0 : decode prog_1_method_21_code 0 = .ok (.aload_n 0, 1) := by decide +kernel
theorem d_V_requireAttribute_1 : decode prog_1_method_21_code 1 = .ok (.getfield 28, 3) := by decide +kernel
theorem d_V_requireAttribute_4 : decode prog_1_method_21_code 4 = .ok (.iload_n 1, 1) := by decide +kernel
theorem d_V_requireAttribute_5 : decode prog_1_method_21_code 5 = .ok (.invokevirtual 193, 3) := by decide +kernel
theorem d_V_requireAttribute_30 : decode prog_1_method_21_code 30 = .ok (.new 90, 3) := by decide +kernel
theorem d_V_requireAttribute_33 : decode prog_1_method_21_code 33 = .ok (.dup, 1) := by decide +kernel
theorem d_V_requireAttribute_34 : decode prog_1_method_21_code 34 = .ok (.ldc 233, 2) := by decide +kernel
theorem d_V_requireAttribute_36 : decode prog_1_method_21_code 36 = .ok (.invokespecial 94, 3) := by decide +kernel
theorem d_V_requireAttribute_39 : decode prog_1_method_21_code 39 = .ok (.athrow, 1) := by decide +kernel
theorem d_V_requireAttribute_8 : decode prog_1_method_21_code 8 = .ok (.ifCond .eq 22, 3) := by decide +kernel
theorem d_V_requireAttribute_11 : decode prog_1_method_21_code 11 = .ok (.aload_n 0, 1) := by decide +kernel
theorem d_V_requireAttribute_12 : decode prog_1_method_21_code 12 = .ok (.getfield 12, 3) := by decide +kernel
theorem d_V_requireAttribute_15 : decode prog_1_method_21_code 15 = .ok (.aload_n 0, 1) := by decide +kernel
theorem d_V_requireAttribute_16 : decode prog_1_method_21_code 16 = .ok (.getfield 28, 3) := by decide +kernel
theorem d_V_requireAttribute_19 : decode prog_1_method_21_code 19 = .ok (.iload_n 1, 1) := by decide +kernel
theorem d_V_requireAttribute_20 : decode prog_1_method_21_code 20 = .ok (.invokevirtual 230, 3) := by decide +kernel
theorem d_V_requireAttribute_23 : decode prog_1_method_21_code 23 = .ok (.iload_n 2, 1) := by decide +kernel
theorem d_V_requireAttribute_24 : decode prog_1_method_21_code 24 = .ok (.invokevirtual 158, 3) := by decide +kernel
theorem d_V_requireAttribute_27 : decode prog_1_method_21_code 27 = .ok (.ifCond .ne 13, 3) := by decide +kernel
theorem d_V_requireAttribute_40 : decode prog_1_method_21_code 40 = .ok (.return_, 1) := by decide +kernel
theorem d_V_symbol_0 : decode prog_1_method_2_code 0 = .ok (.iload_n 1, 1) := by decide +kernel
theorem d_V_symbol_9 : decode prog_1_method_2_code 9 = .ok (.new 45, 3) := by decide +kernel
theorem d_V_symbol_12 : decode prog_1_method_2_code 12 = .ok (.dup, 1) := by decide +kernel
theorem d_V_symbol_13 : decode prog_1_method_2_code 13 = .ok (.ldc 47, 2) := by decide +kernel
theorem d_V_symbol_15 : decode prog_1_method_2_code 15 = .ok (.invokespecial 49, 3) := by decide +kernel
theorem d_V_symbol_18 : decode prog_1_method_2_code 18 = .ok (.athrow, 1) := by decide +kernel
theorem d_V_symbol_1 : decode prog_1_method_2_code 1 = .ok (.ifCond .lt 8, 3) := by decide +kernel
theorem d_V_symbol_4 : decode prog_1_method_2_code 4 = .ok (.iload_n 1, 1) := by decide +kernel
theorem d_V_symbol_5 : decode prog_1_method_2_code 5 = .ok (.iconst 4, 1) := by decide +kernel
theorem d_V_symbol_6 : decode prog_1_method_2_code 6 = .ok (.if_icmp .le 13, 3) := by decide +kernel
theorem d_V_symbol_19 : decode prog_1_method_2_code 19 = .ok (.aload_n 0, 1) := by decide +kernel
theorem d_V_symbol_20 : decode prog_1_method_2_code 20 = .ok (.getfield 12, 3) := by decide +kernel
theorem d_V_symbol_23 : decode prog_1_method_2_code 23 = .ok (.getfield 52, 3) := by decide +kernel
theorem d_V_symbol_26 : decode prog_1_method_2_code 26 = .ok (.bipush 6, 2) := by decide +kernel
theorem d_V_symbol_28 : decode prog_1_method_2_code 28 = .ok (.if_icmp .ne 13, 3) := by decide +kernel
theorem d_V_symbol_41 : decode prog_1_method_2_code 41 = .ok (.aload_n 0, 1) := by decide +kernel
theorem d_V_symbol_42 : decode prog_1_method_2_code 42 = .ok (.invokevirtual 61, 3) := by decide +kernel
theorem d_V_symbol_45 : decode prog_1_method_2_code 45 = .ok (.aload_n 0, 1) := by decide +kernel
theorem d_V_symbol_46 : decode prog_1_method_2_code 46 = .ok (.getfield 12, 3) := by decide +kernel
theorem d_V_symbol_49 : decode prog_1_method_2_code 49 = .ok (.iload_n 1, 1) := by decide +kernel
theorem d_V_symbol_50 : decode prog_1_method_2_code 50 = .ok (.iload_n 2, 1) := by decide +kernel
theorem d_V_symbol_51 : decode prog_1_method_2_code 51 = .ok (.invokevirtual 64, 3) := by decide +kernel
theorem d_V_symbol_54 : decode prog_1_method_2_code 54 = .ok (.ireturn, 1) := by decide +kernel
theorem d_V_symbol_31 : decode prog_1_method_2_code 31 = .ok (.new 56, 3) := by decide +kernel
theorem d_V_symbol_34 : decode prog_1_method_2_code 34 = .ok (.dup, 1) := by decide +kernel
theorem d_V_symbol_35 : decode prog_1_method_2_code 35 = .ok (.ldc 58, 2) := by decide +kernel
theorem d_V_symbol_37 : decode prog_1_method_2_code 37 = .ok (.invokespecial 60, 3) := by decide +kernel
theorem d_V_symbol_40 : decode prog_1_method_2_code 40 = .ok (.athrow, 1) := by decide +kernel
theorem d_V_production_0 : decode prog_1_method_3_code 0 = .ok (.aload_n 0, 1) := by decide +kernel
theorem d_V_production_1 : decode prog_1_method_3_code 1 = .ok (.getfield 12, 3) := by decide +kernel
theorem d_V_production_4 : decode prog_1_method_3_code 4 = .ok (.iload_n 1, 1) := by decide +kernel
theorem d_V_production_5 : decode prog_1_method_3_code 5 = .ok (.invokevirtual 68, 3) := by decide +kernel
theorem d_V_production_25 : decode prog_1_method_3_code 25 = .ok (.new 45, 3) := by decide +kernel
theorem d_V_production_28 : decode prog_1_method_3_code 28 = .ok (.dup, 1) := by decide +kernel
theorem d_V_production_29 : decode prog_1_method_3_code 29 = .ok (.ldc 76, 2) := by decide +kernel
theorem d_V_production_31 : decode prog_1_method_3_code 31 = .ok (.invokespecial 49, 3) := by decide +kernel
theorem d_V_production_34 : decode prog_1_method_3_code 34 = .ok (.athrow, 1) := by decide +kernel
theorem d_V_production_8 : decode prog_1_method_3_code 8 = .ok (.ifCond .eq 17, 3) := by decide +kernel
theorem d_V_production_11 : decode prog_1_method_3_code 11 = .ok (.aload_n 0, 1) := by decide +kernel
theorem d_V_production_12 : decode prog_1_method_3_code 12 = .ok (.getfield 12, 3) := by decide +kernel
theorem d_V_production_15 : decode prog_1_method_3_code 15 = .ok (.iload_n 2, 1) := by decide +kernel
theorem d_V_production_16 : decode prog_1_method_3_code 16 = .ok (.iload_n 3, 1) := by decide +kernel
theorem d_V_production_17 : decode prog_1_method_3_code 17 = .ok (.iload 4, 2) := by decide +kernel
theorem d_V_production_19 : decode prog_1_method_3_code 19 = .ok (.invokevirtual 72, 3) := by decide +kernel
theorem d_V_production_22 : decode prog_1_method_3_code 22 = .ok (.ifCond .ne 13, 3) := by decide +kernel
theorem d_V_production_35 : decode prog_1_method_3_code 35 = .ok (.aload_n 0, 1) := by decide +kernel
theorem d_V_production_36 : decode prog_1_method_3_code 36 = .ok (.getfield 12, 3) := by decide +kernel
theorem d_V_production_39 : decode prog_1_method_3_code 39 = .ok (.getfield 78, 3) := by decide +kernel
theorem d_V_production_42 : decode prog_1_method_3_code 42 = .ok (.bipush 10, 2) := by decide +kernel
theorem d_V_production_44 : decode prog_1_method_3_code 44 = .ok (.if_icmp .ne 13, 3) := by decide +kernel
theorem d_V_production_57 : decode prog_1_method_3_code 57 = .ok (.aload_n 0, 1) := by decide +kernel
theorem d_V_production_58 : decode prog_1_method_3_code 58 = .ok (.invokevirtual 61, 3) := by decide +kernel
theorem d_V_production_61 : decode prog_1_method_3_code 61 = .ok (.aload_n 0, 1) := by decide +kernel
theorem d_V_production_62 : decode prog_1_method_3_code 62 = .ok (.getfield 12, 3) := by decide +kernel
theorem d_V_production_65 : decode prog_1_method_3_code 65 = .ok (.iload_n 1, 1) := by decide +kernel
theorem d_V_production_66 : decode prog_1_method_3_code 66 = .ok (.iload_n 2, 1) := by decide +kernel
theorem d_V_production_67 : decode prog_1_method_3_code 67 = .ok (.iload_n 3, 1) := by decide +kernel
theorem d_V_production_68 : decode prog_1_method_3_code 68 = .ok (.iload 4, 2) := by decide +kernel
theorem d_V_production_70 : decode prog_1_method_3_code 70 = .ok (.invokevirtual 83, 3) := by decide +kernel
theorem d_V_production_73 : decode prog_1_method_3_code 73 = .ok (.ireturn, 1) := by decide +kernel
theorem d_V_production_47 : decode prog_1_method_3_code 47 = .ok (.new 56, 3) := by decide +kernel
theorem d_V_production_50 : decode prog_1_method_3_code 50 = .ok (.dup, 1) := by decide +kernel
theorem d_V_production_51 : decode prog_1_method_3_code 51 = .ok (.ldc 81, 2) := by decide +kernel
theorem d_V_production_53 : decode prog_1_method_3_code 53 = .ok (.invokespecial 60, 3) := by decide +kernel
theorem d_V_production_56 : decode prog_1_method_3_code 56 = .ok (.athrow, 1) := by decide +kernel
theorem d_V_rule_0 : decode prog_1_method_4_code 0 = .ok (.aload_n 0, 1) := by decide +kernel
theorem d_V_rule_1 : decode prog_1_method_4_code 1 = .ok (.getfield 12, 3) := by decide +kernel
theorem d_V_rule_4 : decode prog_1_method_4_code 4 = .ok (.iload_n 1, 1) := by decide +kernel
theorem d_V_rule_5 : decode prog_1_method_4_code 5 = .ok (.invokevirtual 87, 3) := by decide +kernel
theorem d_V_rule_8 : decode prog_1_method_4_code 8 = .ok (.ifCond .ne 13, 3) := by decide +kernel
theorem d_V_rule_21 : decode prog_1_method_4_code 21 = .ok (.aload_n 0, 1) := by decide +kernel
theorem d_V_rule_22 : decode prog_1_method_4_code 22 = .ok (.getfield 12, 3) := by decide +kernel
theorem d_V_rule_25 : decode prog_1_method_4_code 25 = .ok (.iload_n 1, 1) := by decide +kernel
theorem d_V_rule_26 : decode prog_1_method_4_code 26 = .ok (.iload_n 2, 1) := by decide +kernel
theorem d_V_rule_27 : decode prog_1_method_4_code 27 = .ok (.invokevirtual 95, 3) := by decide +kernel
theorem d_V_rule_30 : decode prog_1_method_4_code 30 = .ok (.ifCond .ne 13, 3) := by decide +kernel
theorem d_V_rule_43 : decode prog_1_method_4_code 43 = .ok (.aload_n 0, 1) := by decide +kernel
theorem d_V_rule_44 : decode prog_1_method_4_code 44 = .ok (.getfield 12, 3) := by decide +kernel
theorem d_V_rule_47 : decode prog_1_method_4_code 47 = .ok (.iload_n 1, 1) := by decide +kernel
theorem d_V_rule_48 : decode prog_1_method_4_code 48 = .ok (.iload_n 3, 1) := by decide +kernel
theorem d_V_rule_49 : decode prog_1_method_4_code 49 = .ok (.iload 4, 2) := by decide +kernel
theorem d_V_rule_51 : decode prog_1_method_4_code 51 = .ok (.iload 5, 2) := by decide +kernel
theorem d_V_rule_53 : decode prog_1_method_4_code 53 = .ok (.invokevirtual 101, 3) := by decide +kernel
theorem d_V_rule_56 : decode prog_1_method_4_code 56 = .ok (.ifCond .ne 13, 3) := by decide +kernel
theorem d_V_rule_69 : decode prog_1_method_4_code 69 = .ok (.aload_n 0, 1) := by decide +kernel
theorem d_V_rule_70 : decode prog_1_method_4_code 70 = .ok (.invokevirtual 61, 3) := by decide +kernel
theorem d_V_rule_73 : decode prog_1_method_4_code 73 = .ok (.aload_n 0, 1) := by decide +kernel
theorem d_V_rule_74 : decode prog_1_method_4_code 74 = .ok (.getfield 12, 3) := by decide +kernel
theorem d_V_rule_77 : decode prog_1_method_4_code 77 = .ok (.iload_n 1, 1) := by decide +kernel
theorem d_V_rule_78 : decode prog_1_method_4_code 78 = .ok (.iload_n 2, 1) := by decide +kernel
theorem d_V_rule_79 : decode prog_1_method_4_code 79 = .ok (.iload_n 3, 1) := by decide +kernel
theorem d_V_rule_80 : decode prog_1_method_4_code 80 = .ok (.iload 4, 2) := by decide +kernel
theorem d_V_rule_82 : decode prog_1_method_4_code 82 = .ok (.iload 5, 2) := by decide +kernel
theorem d_V_rule_84 : decode prog_1_method_4_code 84 = .ok (.invokevirtual 107, 3) := by decide +kernel
theorem d_V_rule_87 : decode prog_1_method_4_code 87 = .ok (.return_, 1) := by decide +kernel
theorem d_V_rule_59 : decode prog_1_method_4_code 59 = .ok (.new 45, 3) := by decide +kernel
theorem d_V_rule_62 : decode prog_1_method_4_code 62 = .ok (.dup, 1) := by decide +kernel
theorem d_V_rule_63 : decode prog_1_method_4_code 63 = .ok (.ldc 105, 2) := by decide +kernel
theorem d_V_rule_65 : decode prog_1_method_4_code 65 = .ok (.invokespecial 49, 3) := by decide +kernel
theorem d_V_rule_68 : decode prog_1_method_4_code 68 = .ok (.athrow, 1) := by decide +kernel
theorem d_V_rule_33 : decode prog_1_method_4_code 33 = .ok (.new 45, 3) := by decide +kernel
theorem d_V_rule_36 : decode prog_1_method_4_code 36 = .ok (.dup, 1) := by decide +kernel
theorem d_V_rule_37 : decode prog_1_method_4_code 37 = .ok (.ldc 99, 2) := by decide +kernel
theorem d_V_rule_39 : decode prog_1_method_4_code 39 = .ok (.invokespecial 49, 3) := by decide +kernel
theorem d_V_rule_42 : decode prog_1_method_4_code 42 = .ok (.athrow, 1) := by decide +kernel
theorem d_V_rule_11 : decode prog_1_method_4_code 11 = .ok (.new 90, 3) := by decide +kernel
theorem d_V_rule_14 : decode prog_1_method_4_code 14 = .ok (.dup, 1) := by decide +kernel
theorem d_V_rule_15 : decode prog_1_method_4_code 15 = .ok (.ldc 92, 2) := by decide +kernel
theorem d_V_rule_17 : decode prog_1_method_4_code 17 = .ok (.invokespecial 94, 3) := by decide +kernel
theorem d_V_rule_20 : decode prog_1_method_4_code 20 = .ok (.athrow, 1) := by decide +kernel
theorem d_V_analyse_0 : decode prog_1_method_5_code 0 = .ok (.aload_n 0, 1) := by decide +kernel
theorem d_V_analyse_1 : decode prog_1_method_5_code 1 = .ok (.getfield 41, 3) := by decide +kernel
theorem d_V_analyse_4 : decode prog_1_method_5_code 4 = .ok (.invokevirtual 111, 3) := by decide +kernel
theorem d_V_analyse_7 : decode prog_1_method_5_code 7 = .ok (.aload_n 0, 1) := by decide +kernel
theorem d_V_analyse_8 : decode prog_1_method_5_code 8 = .ok (.getfield 21, 3) := by decide +kernel
theorem d_V_analyse_11 : decode prog_1_method_5_code 11 = .ok (.invokevirtual 114, 3) := by decide +kernel
theorem d_V_analyse_14 : decode prog_1_method_5_code 14 = .ok (.aload_n 0, 1) := by decide +kernel
theorem d_V_analyse_15 : decode prog_1_method_5_code 15 = .ok (.getfield 21, 3) := by decide +kernel
theorem d_V_analyse_18 : decode prog_1_method_5_code 18 = .ok (.getfield 117, 3) := by decide +kernel
theorem d_V_analyse_21 : decode prog_1_method_5_code 21 = .ok (.iconst 2, 1) := by decide +kernel
theorem d_V_analyse_36 : decode prog_1_method_5_code 36 = .ok (.new 120, 3) := by decide +kernel
theorem d_V_analyse_39 : decode prog_1_method_5_code 39 = .ok (.dup, 1) := by decide +kernel
theorem d_V_analyse_40 : decode prog_1_method_5_code 40 = .ok (.ldc 122, 2) := by decide +kernel
theorem d_V_analyse_42 : decode prog_1_method_5_code 42 = .ok (.invokespecial 124, 3) := by decide +kernel
theorem d_V_analyse_45 : decode prog_1_method_5_code 45 = .ok (.athrow, 1) := by decide +kernel
theorem d_V_analyse_22 : decode prog_1_method_5_code 22 = .ok (.if_icmp .eq 14, 3) := by decide +kernel
theorem d_V_analyse_25 : decode prog_1_method_5_code 25 = .ok (.aload_n 0, 1) := by decide +kernel
theorem d_V_analyse_26 : decode prog_1_method_5_code 26 = .ok (.getfield 21, 3) := by decide +kernel
theorem d_V_analyse_29 : decode prog_1_method_5_code 29 = .ok (.getfield 117, 3) := by decide +kernel
theorem d_V_analyse_32 : decode prog_1_method_5_code 32 = .ok (.iconst 3, 1) := by decide +kernel
theorem d_V_analyse_33 : decode prog_1_method_5_code 33 = .ok (.if_icmp .ne 13, 3) := by decide +kernel
theorem d_V_analyse_46 : decode prog_1_method_5_code 46 = .ok (.aload_n 0, 1) := by decide +kernel
theorem d_V_analyse_47 : decode prog_1_method_5_code 47 = .ok (.getfield 21, 3) := by decide +kernel
theorem d_V_analyse_50 : decode prog_1_method_5_code 50 = .ok (.getfield 125, 3) := by decide +kernel
theorem d_V_analyse_53 : decode prog_1_method_5_code 53 = .ok (.ifCond .ne 13, 3) := by decide +kernel
theorem d_V_analyse_66 : decode prog_1_method_5_code 66 = .ok (.aload_n 0, 1) := by decide +kernel
theorem d_V_analyse_67 : decode prog_1_method_5_code 67 = .ok (.getfield 21, 3) := by decide +kernel
theorem d_V_analyse_70 : decode prog_1_method_5_code 70 = .ok (.getfield 34, 3) := by decide +kernel
theorem d_V_analyse_73 : decode prog_1_method_5_code 73 = .ok (.invokevirtual 131, 3) := by decide +kernel
theorem d_V_analyse_76 : decode prog_1_method_5_code 76 = .ok (.ireturn, 1) := by decide +kernel
theorem d_V_analyse_56 : decode prog_1_method_5_code 56 = .ok (.new 56, 3) := by decide +kernel
theorem d_V_analyse_59 : decode prog_1_method_5_code 59 = .ok (.dup, 1) := by decide +kernel
theorem d_V_analyse_60 : decode prog_1_method_5_code 60 = .ok (.ldc 129, 2) := by decide +kernel
theorem d_V_analyse_62 : decode prog_1_method_5_code 62 = .ok (.invokespecial 60, 3) := by decide +kernel
theorem d_V_analyse_65 : decode prog_1_method_5_code 65 = .ok (.athrow, 1) := by decide +kernel
theorem d_V_fault_0 : decode prog_1_method_6_code 0 = .ok (.iload_n 1, 1) := by decide +kernel
theorem d_V_fault_1 : decode prog_1_method_6_code 1 = .ok (.tableswitch 51 0 2 #[27, 35, 43], 27) := by decide +kernel
theorem d_V_fault_28 : decode prog_1_method_6_code 28 = .ok (.aload_n 0, 1) := by decide +kernel
theorem d_V_fault_29 : decode prog_1_method_6_code 29 = .ok (.getfield 21, 3) := by decide +kernel
theorem d_V_fault_32 : decode prog_1_method_6_code 32 = .ok (.getfield 117, 3) := by decide +kernel
theorem d_V_fault_35 : decode prog_1_method_6_code 35 = .ok (.ireturn, 1) := by decide +kernel
theorem d_V_fault_36 : decode prog_1_method_6_code 36 = .ok (.aload_n 0, 1) := by decide +kernel
theorem d_V_fault_37 : decode prog_1_method_6_code 37 = .ok (.getfield 21, 3) := by decide +kernel
theorem d_V_fault_40 : decode prog_1_method_6_code 40 = .ok (.getfield 137, 3) := by decide +kernel
theorem d_V_fault_43 : decode prog_1_method_6_code 43 = .ok (.ireturn, 1) := by decide +kernel
theorem d_V_fault_44 : decode prog_1_method_6_code 44 = .ok (.aload_n 0, 1) := by decide +kernel
theorem d_V_fault_45 : decode prog_1_method_6_code 45 = .ok (.getfield 21, 3) := by decide +kernel
theorem d_V_fault_48 : decode prog_1_method_6_code 48 = .ok (.getfield 140, 3) := by decide +kernel
theorem d_V_fault_51 : decode prog_1_method_6_code 51 = .ok (.ireturn, 1) := by decide +kernel
theorem d_V_fault_52 : decode prog_1_method_6_code 52 = .ok (.iconst (-1), 1) := by decide +kernel
theorem d_V_fault_53 : decode prog_1_method_6_code 53 = .ok (.ireturn, 1) := by decide +kernel
theorem d_V_visits_0 : decode prog_1_method_7_code 0 = .ok (.aload_n 0, 1) := by decide +kernel
theorem d_V_visits_1 : decode prog_1_method_7_code 1 = .ok (.invokevirtual 143, 3) := by decide +kernel
theorem d_V_visits_4 : decode prog_1_method_7_code 4 = .ok (.aload_n 0, 1) := by decide +kernel
theorem d_V_visits_5 : decode prog_1_method_7_code 5 = .ok (.getfield 12, 3) := by decide +kernel
theorem d_V_visits_8 : decode prog_1_method_7_code 8 = .ok (.iload_n 1, 1) := by decide +kernel
theorem d_V_visits_9 : decode prog_1_method_7_code 9 = .ok (.invokevirtual 68, 3) := by decide +kernel
theorem d_V_visits_12 : decode prog_1_method_7_code 12 = .ok (.ifCond .ne 13, 3) := by decide +kernel
theorem d_V_visits_25 : decode prog_1_method_7_code 25 = .ok (.aload_n 0, 1) := by decide +kernel
theorem d_V_visits_26 : decode prog_1_method_7_code 26 = .ok (.getfield 21, 3) := by decide +kernel
theorem d_V_visits_29 : decode prog_1_method_7_code 29 = .ok (.getfield 148, 3) := by decide +kernel
theorem d_V_visits_32 : decode prog_1_method_7_code 32 = .ok (.getfield 152, 3) := by decide +kernel
theorem d_V_visits_35 : decode prog_1_method_7_code 35 = .ok (.iload_n 1, 1) := by decide +kernel
theorem d_V_visits_36 : decode prog_1_method_7_code 36 = .ok (.iaload, 1) := by decide +kernel
theorem d_V_visits_37 : decode prog_1_method_7_code 37 = .ok (.ireturn, 1) := by decide +kernel
theorem d_V_visits_15 : decode prog_1_method_7_code 15 = .ok (.new 90, 3) := by decide +kernel
theorem d_V_visits_18 : decode prog_1_method_7_code 18 = .ok (.dup, 1) := by decide +kernel
theorem d_V_visits_19 : decode prog_1_method_7_code 19 = .ok (.ldc 146, 2) := by decide +kernel
theorem d_V_visits_21 : decode prog_1_method_7_code 21 = .ok (.invokespecial 94, 3) := by decide +kernel
theorem d_V_visits_24 : decode prog_1_method_7_code 24 = .ok (.athrow, 1) := by decide +kernel
theorem d_V_rank_0 : decode prog_1_method_8_code 0 = .ok (.aload_n 0, 1) := by decide +kernel
theorem d_V_rank_1 : decode prog_1_method_8_code 1 = .ok (.invokevirtual 143, 3) := by decide +kernel
theorem d_V_rank_4 : decode prog_1_method_8_code 4 = .ok (.aload_n 0, 1) := by decide +kernel
theorem d_V_rank_5 : decode prog_1_method_8_code 5 = .ok (.getfield 12, 3) := by decide +kernel
theorem d_V_rank_8 : decode prog_1_method_8_code 8 = .ok (.iload_n 1, 1) := by decide +kernel
theorem d_V_rank_9 : decode prog_1_method_8_code 9 = .ok (.invokevirtual 68, 3) := by decide +kernel
theorem d_V_rank_27 : decode prog_1_method_8_code 27 = .ok (.new 90, 3) := by decide +kernel
theorem d_V_rank_30 : decode prog_1_method_8_code 30 = .ok (.dup, 1) := by decide +kernel
theorem d_V_rank_31 : decode prog_1_method_8_code 31 = .ok (.ldc 161, 2) := by decide +kernel
theorem d_V_rank_33 : decode prog_1_method_8_code 33 = .ok (.invokespecial 94, 3) := by decide +kernel
theorem d_V_rank_36 : decode prog_1_method_8_code 36 = .ok (.athrow, 1) := by decide +kernel
theorem d_V_rank_12 : decode prog_1_method_8_code 12 = .ok (.ifCond .eq 15, 3) := by decide +kernel
theorem d_V_rank_15 : decode prog_1_method_8_code 15 = .ok (.aload_n 0, 1) := by decide +kernel
theorem d_V_rank_16 : decode prog_1_method_8_code 16 = .ok (.getfield 12, 3) := by decide +kernel
theorem d_V_rank_19 : decode prog_1_method_8_code 19 = .ok (.iload_n 1, 1) := by decide +kernel
theorem d_V_rank_20 : decode prog_1_method_8_code 20 = .ok (.iload_n 2, 1) := by decide +kernel
theorem d_V_rank_21 : decode prog_1_method_8_code 21 = .ok (.invokevirtual 158, 3) := by decide +kernel
theorem d_V_rank_24 : decode prog_1_method_8_code 24 = .ok (.ifCond .ne 13, 3) := by decide +kernel
theorem d_V_rank_37 : decode prog_1_method_8_code 37 = .ok (.aload_n 0, 1) := by decide +kernel
theorem d_V_rank_38 : decode prog_1_method_8_code 38 = .ok (.getfield 21, 3) := by decide +kernel
theorem d_V_rank_41 : decode prog_1_method_8_code 41 = .ok (.getfield 148, 3) := by decide +kernel
theorem d_V_rank_44 : decode prog_1_method_8_code 44 = .ok (.getfield 163, 3) := by decide +kernel
theorem d_V_rank_47 : decode prog_1_method_8_code 47 = .ok (.iload_n 1, 1) := by decide +kernel
theorem d_V_rank_48 : decode prog_1_method_8_code 48 = .ok (.iconst 4, 1) := by decide +kernel
theorem d_V_rank_49 : decode prog_1_method_8_code 49 = .ok (.imul, 1) := by decide +kernel
theorem d_V_rank_50 : decode prog_1_method_8_code 50 = .ok (.iload_n 2, 1) := by decide +kernel
theorem d_V_rank_51 : decode prog_1_method_8_code 51 = .ok (.iadd, 1) := by decide +kernel
theorem d_V_rank_52 : decode prog_1_method_8_code 52 = .ok (.iaload, 1) := by decide +kernel
theorem d_V_rank_53 : decode prog_1_method_8_code 53 = .ok (.ireturn, 1) := by decide +kernel
theorem d_V_instruction_0 : decode prog_1_method_9_code 0 = .ok (.aload_n 0, 1) := by decide +kernel
theorem d_V_instruction_1 : decode prog_1_method_9_code 1 = .ok (.invokevirtual 143, 3) := by decide +kernel
theorem d_V_instruction_4 : decode prog_1_method_9_code 4 = .ok (.aload_n 0, 1) := by decide +kernel
theorem d_V_instruction_5 : decode prog_1_method_9_code 5 = .ok (.getfield 12, 3) := by decide +kernel
theorem d_V_instruction_8 : decode prog_1_method_9_code 8 = .ok (.iload_n 1, 1) := by decide +kernel
theorem d_V_instruction_9 : decode prog_1_method_9_code 9 = .ok (.invokevirtual 87, 3) := by decide +kernel
theorem d_V_instruction_19 : decode prog_1_method_9_code 19 = .ok (.new 90, 3) := by decide +kernel
theorem d_V_instruction_22 : decode prog_1_method_9_code 22 = .ok (.dup, 1) := by decide +kernel
theorem d_V_instruction_23 : decode prog_1_method_9_code 23 = .ok (.ldc 166, 2) := by decide +kernel
theorem d_V_instruction_25 : decode prog_1_method_9_code 25 = .ok (.invokespecial 94, 3) := by decide +kernel
theorem d_V_instruction_28 : decode prog_1_method_9_code 28 = .ok (.athrow, 1) := by decide +kernel
theorem d_V_instruction_12 : decode prog_1_method_9_code 12 = .ok (.ifCond .eq 7, 3) := by decide +kernel
theorem d_V_instruction_15 : decode prog_1_method_9_code 15 = .ok (.iload_n 2, 1) := by decide +kernel
theorem d_V_instruction_16 : decode prog_1_method_9_code 16 = .ok (.ifCond .ge 13, 3) := by decide +kernel
theorem d_V_instruction_29 : decode prog_1_method_9_code 29 = .ok (.aload_n 0, 1) := by decide +kernel
theorem d_V_instruction_30 : decode prog_1_method_9_code 30 = .ok (.getfield 21, 3) := by decide +kernel
theorem d_V_instruction_33 : decode prog_1_method_9_code 33 = .ok (.getfield 34, 3) := by decide +kernel
theorem d_V_instruction_36 : decode prog_1_method_9_code 36 = .ok (.iload_n 1, 1) := by decide +kernel
theorem d_V_instruction_37 : decode prog_1_method_9_code 37 = .ok (.iload_n 2, 1) := by decide +kernel
theorem d_V_instruction_38 : decode prog_1_method_9_code 38 = .ok (.invokevirtual 168, 3) := by decide +kernel
theorem d_V_instruction_41 : decode prog_1_method_9_code 41 = .ok (.ireturn, 1) := by decide +kernel
theorem d_V_node_0 : decode prog_1_method_10_code 0 = .ok (.aload_n 0, 1) := by decide +kernel
theorem d_V_node_1 : decode prog_1_method_10_code 1 = .ok (.getfield 12, 3) := by decide +kernel
theorem d_V_node_4 : decode prog_1_method_10_code 4 = .ok (.iload_n 1, 1) := by decide +kernel
theorem d_V_node_5 : decode prog_1_method_10_code 5 = .ok (.invokevirtual 87, 3) := by decide +kernel
theorem d_V_node_27 : decode prog_1_method_10_code 27 = .ok (.new 45, 3) := by decide +kernel
theorem d_V_node_30 : decode prog_1_method_10_code 30 = .ok (.dup, 1) := by decide +kernel
theorem d_V_node_31 : decode prog_1_method_10_code 31 = .ok (.ldc 174, 2) := by decide +kernel
theorem d_V_node_33 : decode prog_1_method_10_code 33 = .ok (.invokespecial 49, 3) := by decide +kernel
theorem d_V_node_36 : decode prog_1_method_10_code 36 = .ok (.athrow, 1) := by decide +kernel
theorem d_V_node_8 : decode prog_1_method_10_code 8 = .ok (.ifCond .eq 19, 3) := by decide +kernel
theorem d_V_node_11 : decode prog_1_method_10_code 11 = .ok (.aload_n 0, 1) := by decide +kernel
theorem d_V_node_12 : decode prog_1_method_10_code 12 = .ok (.getfield 28, 3) := by decide +kernel
theorem d_V_node_15 : decode prog_1_method_10_code 15 = .ok (.iload_n 1, 1) := by decide +kernel
theorem d_V_node_16 : decode prog_1_method_10_code 16 = .ok (.iload_n 3, 1) := by decide +kernel
theorem d_V_node_17 : decode prog_1_method_10_code 17 = .ok (.iload 4, 2) := by decide +kernel
theorem d_V_node_19 : decode prog_1_method_10_code 19 = .ok (.iload 5, 2) := by decide +kernel
theorem d_V_node_21 : decode prog_1_method_10_code 21 = .ok (.invokevirtual 171, 3) := by decide +kernel
theorem d_V_node_24 : decode prog_1_method_10_code 24 = .ok (.ifCond .ne 13, 3) := by decide +kernel
theorem d_V_node_37 : decode prog_1_method_10_code 37 = .ok (.aload_n 0, 1) := by decide +kernel
theorem d_V_node_38 : decode prog_1_method_10_code 38 = .ok (.getfield 28, 3) := by decide +kernel
theorem d_V_node_41 : decode prog_1_method_10_code 41 = .ok (.getfield 176, 3) := by decide +kernel
theorem d_V_node_44 : decode prog_1_method_10_code 44 = .ok (.bipush 40, 2) := by decide +kernel
theorem d_V_node_46 : decode prog_1_method_10_code 46 = .ok (.if_icmp .ne 13, 3) := by decide +kernel
theorem d_V_node_59 : decode prog_1_method_10_code 59 = .ok (.aload_n 0, 1) := by decide +kernel
theorem d_V_node_60 : decode prog_1_method_10_code 60 = .ok (.getfield 28, 3) := by decide +kernel
theorem d_V_node_63 : decode prog_1_method_10_code 63 = .ok (.iload_n 1, 1) := by decide +kernel
theorem d_V_node_64 : decode prog_1_method_10_code 64 = .ok (.iload_n 2, 1) := by decide +kernel
theorem d_V_node_65 : decode prog_1_method_10_code 65 = .ok (.iload_n 3, 1) := by decide +kernel
theorem d_V_node_66 : decode prog_1_method_10_code 66 = .ok (.iload 4, 2) := by decide +kernel
theorem d_V_node_68 : decode prog_1_method_10_code 68 = .ok (.iload 5, 2) := by decide +kernel
theorem d_V_node_70 : decode prog_1_method_10_code 70 = .ok (.invokevirtual 181, 3) := by decide +kernel
theorem d_V_node_73 : decode prog_1_method_10_code 73 = .ok (.ireturn, 1) := by decide +kernel
theorem d_V_node_49 : decode prog_1_method_10_code 49 = .ok (.new 56, 3) := by decide +kernel
theorem d_V_node_52 : decode prog_1_method_10_code 52 = .ok (.dup, 1) := by decide +kernel
theorem d_V_node_53 : decode prog_1_method_10_code 53 = .ok (.ldc 179, 2) := by decide +kernel
theorem d_V_node_55 : decode prog_1_method_10_code 55 = .ok (.invokespecial 60, 3) := by decide +kernel
theorem d_V_node_58 : decode prog_1_method_10_code 58 = .ok (.athrow, 1) := by decide +kernel
theorem d_V_fell_0 : decode prog_1_method_11_code 0 = .ok (.aload_n 0, 1) := by decide +kernel
theorem d_V_fell_1 : decode prog_1_method_11_code 1 = .ok (.getfield 41, 3) := by decide +kernel
theorem d_V_fell_4 : decode prog_1_method_11_code 4 = .ok (.invokevirtual 111, 3) := by decide +kernel
theorem d_V_fell_7 : decode prog_1_method_11_code 7 = .ok (.aload_n 0, 1) := by decide +kernel
theorem d_V_fell_8 : decode prog_1_method_11_code 8 = .ok (.getfield 28, 3) := by decide +kernel
theorem d_V_fell_11 : decode prog_1_method_11_code 11 = .ok (.invokevirtual 185, 3) := by decide +kernel
theorem d_V_fell_14 : decode prog_1_method_11_code 14 = .ok (.return_, 1) := by decide +kernel
theorem d_V_give_0 : decode prog_1_method_12_code 0 = .ok (.iload_n 1, 1) := by decide +kernel
theorem d_V_give_9 : decode prog_1_method_12_code 9 = .ok (.new 90, 3) := by decide +kernel
theorem d_V_give_12 : decode prog_1_method_12_code 12 = .ok (.dup, 1) := by decide +kernel
theorem d_V_give_13 : decode prog_1_method_12_code 13 = .ok (.ldc 188, 2) := by decide +kernel
theorem d_V_give_15 : decode prog_1_method_12_code 15 = .ok (.invokespecial 94, 3) := by decide +kernel
theorem d_V_give_18 : decode prog_1_method_12_code 18 = .ok (.athrow, 1) := by decide +kernel
theorem d_V_give_1 : decode prog_1_method_12_code 1 = .ok (.ifCond .lt 8, 3) := by decide +kernel
theorem d_V_give_4 : decode prog_1_method_12_code 4 = .ok (.iload_n 1, 1) := by decide +kernel
theorem d_V_give_5 : decode prog_1_method_12_code 5 = .ok (.iconst 4, 1) := by decide +kernel
theorem d_V_give_6 : decode prog_1_method_12_code 6 = .ok (.if_icmp .lt 13, 3) := by decide +kernel
theorem d_V_give_19 : decode prog_1_method_12_code 19 = .ok (.aload_n 0, 1) := by decide +kernel
theorem d_V_give_20 : decode prog_1_method_12_code 20 = .ok (.getfield 41, 3) := by decide +kernel
theorem d_V_give_23 : decode prog_1_method_12_code 23 = .ok (.getfield 190, 3) := by decide +kernel
theorem d_V_give_26 : decode prog_1_method_12_code 26 = .ok (.iload_n 1, 1) := by decide +kernel
theorem d_V_give_27 : decode prog_1_method_12_code 27 = .ok (.iload_n 2, 1) := by decide +kernel
theorem d_V_give_28 : decode prog_1_method_12_code 28 = .ok (.iastore, 1) := by decide +kernel
theorem d_V_give_29 : decode prog_1_method_12_code 29 = .ok (.return_, 1) := by decide +kernel
theorem d_V_start_0 : decode prog_1_method_13_code 0 = .ok (.aload_n 0, 1) := by decide +kernel
theorem d_V_start_1 : decode prog_1_method_13_code 1 = .ok (.invokevirtual 143, 3) := by decide +kernel
theorem d_V_start_4 : decode prog_1_method_13_code 4 = .ok (.aload_n 0, 1) := by decide +kernel
theorem d_V_start_5 : decode prog_1_method_13_code 5 = .ok (.getfield 28, 3) := by decide +kernel
theorem d_V_start_8 : decode prog_1_method_13_code 8 = .ok (.iload_n 1, 1) := by decide +kernel
theorem d_V_start_9 : decode prog_1_method_13_code 9 = .ok (.invokevirtual 193, 3) := by decide +kernel
theorem d_V_start_12 : decode prog_1_method_13_code 12 = .ok (.ifCond .ne 13, 3) := by decide +kernel
theorem d_V_start_25 : decode prog_1_method_13_code 25 = .ok (.aload_n 0, 1) := by decide +kernel
theorem d_V_start_26 : decode prog_1_method_13_code 26 = .ok (.getfield 41, 3) := by decide +kernel
theorem d_V_start_29 : decode prog_1_method_13_code 29 = .ok (.iload_n 1, 1) := by decide +kernel
theorem d_V_start_30 : decode prog_1_method_13_code 30 = .ok (.invokevirtual 198, 3) := by decide +kernel
theorem d_V_start_33 : decode prog_1_method_13_code 33 = .ok (.return_, 1) := by decide +kernel
theorem d_V_start_15 : decode prog_1_method_13_code 15 = .ok (.new 90, 3) := by decide +kernel
theorem d_V_start_18 : decode prog_1_method_13_code 18 = .ok (.dup, 1) := by decide +kernel
theorem d_V_start_19 : decode prog_1_method_13_code 19 = .ok (.ldc 196, 2) := by decide +kernel
theorem d_V_start_21 : decode prog_1_method_13_code 21 = .ok (.invokespecial 94, 3) := by decide +kernel
theorem d_V_start_24 : decode prog_1_method_13_code 24 = .ok (.athrow, 1) := by decide +kernel
theorem d_V_run_0 : decode prog_1_method_14_code 0 = .ok (.iload_n 1, 1) := by decide +kernel
theorem d_V_run_11 : decode prog_1_method_14_code 11 = .ok (.new 45, 3) := by decide +kernel
theorem d_V_run_14 : decode prog_1_method_14_code 14 = .ok (.dup, 1) := by decide +kernel
theorem d_V_run_15 : decode prog_1_method_14_code 15 = .ok (.ldc 202, 2) := by decide +kernel
theorem d_V_run_17 : decode prog_1_method_14_code 17 = .ok (.invokespecial 49, 3) := by decide +kernel
theorem d_V_run_20 : decode prog_1_method_14_code 20 = .ok (.athrow, 1) := by decide +kernel
theorem d_V_run_1 : decode prog_1_method_14_code 1 = .ok (.ifCond .lt 10, 3) := by decide +kernel
theorem d_V_run_4 : decode prog_1_method_14_code 4 = .ok (.iload_n 1, 1) := by decide +kernel
theorem d_V_run_5 : decode prog_1_method_14_code 5 = .ok (.sipush 500, 3) := by decide +kernel
theorem d_V_run_8 : decode prog_1_method_14_code 8 = .ok (.if_icmp .le 13, 3) := by decide +kernel
theorem d_V_run_21 : decode prog_1_method_14_code 21 = .ok (.aload_n 0, 1) := by decide +kernel
theorem d_V_run_22 : decode prog_1_method_14_code 22 = .ok (.getfield 41, 3) := by decide +kernel
theorem d_V_run_25 : decode prog_1_method_14_code 25 = .ok (.getfield 204, 3) := by decide +kernel
theorem d_V_run_28 : decode prog_1_method_14_code 28 = .ok (.ifCond .ne 13, 3) := by decide +kernel
theorem d_V_run_41 : decode prog_1_method_14_code 41 = .ok (.aload_n 0, 1) := by decide +kernel
theorem d_V_run_42 : decode prog_1_method_14_code 42 = .ok (.getfield 41, 3) := by decide +kernel
theorem d_V_run_45 : decode prog_1_method_14_code 45 = .ok (.iload_n 1, 1) := by decide +kernel
theorem d_V_run_46 : decode prog_1_method_14_code 46 = .ok (.invokevirtual 209, 3) := by decide +kernel
theorem d_V_run_49 : decode prog_1_method_14_code 49 = .ok (.ireturn, 1) := by decide +kernel
theorem d_V_run_31 : decode prog_1_method_14_code 31 = .ok (.new 56, 3) := by decide +kernel
theorem d_V_run_34 : decode prog_1_method_14_code 34 = .ok (.dup, 1) := by decide +kernel
