theorem d_V_init_27 : decode prog_1_method_1_code 27 = .ok (.putfield 21, 3) := by decide +kernel
theorem d_V_init_30 : decode prog_1_method_1_code 30 = .ok (.aload_n 0, 1) := by decide +kernel
theorem d_V_init_31 : decode prog_1_method_1_code 31 = .ok (.new 25, 3) := by decide +kernel
theorem d_V_init_34 : decode prog_1_method_1_code 34 = .ok (.dup, 1) := by decide +kernel
theorem d_V_init_35 : decode prog_1_method_1_code 35 = .ok (.aload_n 0, 1) := by decide +kernel
theorem d_V_init_36 : decode prog_1_method_1_code 36 = .ok (.getfield 12, 3) := by decide +kernel
theorem d_V_init_39 : decode prog_1_method_1_code 39 = .ok (.invokespecial 27, 3) := by decide +kernel
theorem d_V_init_42 : decode prog_1_method_1_code 42 = .ok (.putfield 28, 3) := by decide +kernel
theorem d_V_init_45 : decode prog_1_method_1_code 45 = .ok (.aload_n 0, 1) := by decide +kernel
theorem d_V_init_46 : decode prog_1_method_1_code 46 = .ok (.new 32, 3) := by decide +kernel
theorem d_V_init_49 : decode prog_1_method_1_code 49 = .ok (.dup, 1) := by decide +kernel
theorem d_V_init_50 : decode prog_1_method_1_code 50 = .ok (.aload_n 0, 1) := by decide +kernel
theorem d_V_init_51 : decode prog_1_method_1_code 51 = .ok (.getfield 12, 3) := by decide +kernel
theorem d_V_init_54 : decode prog_1_method_1_code 54 = .ok (.aload_n 0, 1) := by decide +kernel
theorem d_V_init_55 : decode prog_1_method_1_code 55 = .ok (.getfield 21, 3) := by decide +kernel
theorem d_V_init_58 : decode prog_1_method_1_code 58 = .ok (.getfield 34, 3) := by decide +kernel
theorem d_V_init_61 : decode prog_1_method_1_code 61 = .ok (.aload_n 0, 1) := by decide +kernel
theorem d_V_init_62 : decode prog_1_method_1_code 62 = .ok (.getfield 28, 3) := by decide +kernel
theorem d_V_init_65 : decode prog_1_method_1_code 65 = .ok (.invokespecial 38, 3) := by decide +kernel
theorem d_V_init_68 : decode prog_1_method_1_code 68 = .ok (.putfield 41, 3) := by decide +kernel
theorem d_V_init_71 : decode prog_1_method_1_code 71 = .ok (.return_, 1) := by decide +kernel
theorem d_U_end_0 : decode prog_8_method_3_code 0 = .ok (.aload_n 0, 1) := by decide +kernel
theorem d_U_end_1 : decode prog_8_method_3_code 1 = .ok (.iconst 0, 1) := by decide +kernel
theorem d_U_end_2 : decode prog_8_method_3_code 2 = .ok (.putfield 66, 3) := by decide +kernel
theorem d_U_end_5 : decode prog_8_method_3_code 5 = .ok (.return_, 1) := by decide +kernel
theorem d_V_dropAnalysis_0 : decode prog_1_method_19_code 0 = .ok (.aload_n 0, 1) := by decide +kernel
theorem d_V_dropAnalysis_1 : decode prog_1_method_19_code 1 = .ok (.getfield 21, 3) := by decide +kernel
theorem d_V_dropAnalysis_4 : decode prog_1_method_19_code 4 = .ok (.iconst 0, 1) := by decide +kernel
theorem d_V_dropAnalysis_5 : decode prog_1_method_19_code 5 = .ok (.putfield 125, 3) := by decide +kernel
theorem d_V_dropAnalysis_8 : decode prog_1_method_19_code 8 = .ok (.aload_n 0, 1) := by decide +kernel
theorem d_V_dropAnalysis_9 : decode prog_1_method_19_code 9 = .ok (.getfield 41, 3) := by decide +kernel
theorem d_V_dropAnalysis_12 : decode prog_1_method_19_code 12 = .ok (.invokevirtual 111, 3) := by decide +kernel
theorem d_V_dropAnalysis_15 : decode prog_1_method_19_code 15 = .ok (.return_, 1) := by decide +kernel
theorem d_V_requireAnalysis_0 : decode prog_1_method_20_code 0 = .ok (.aload_n 0, 1) := by decide +kernel
theorem d_V_requireAnalysis_1 : decode prog_1_method_20_code 1 = .ok (.getfield 21, 3) := by decide +kernel
theorem d_V_requireAnalysis_4 : decode prog_1_method_20_code 4 = .ok (.getfield 125, 3) := by decide +kernel
theorem d_V_requireAnalysis_7 : decode prog_1_method_20_code 7 = .ok (.ifCond .ne 13, 3) := by decide +kernel
theorem d_V_requireAnalysis_10 : decode prog_1_method_20_code 10 = .ok (.new 56, 3) := by decide +kernel
theorem d_V_requireAnalysis_13 : decode prog_1_method_20_code 13 = .ok (.dup, 1) := by decide +kernel
theorem d_V_requireAnalysis_14 : decode prog_1_method_20_code 14 = .ok (.ldc 228, 2) := by decide +kernel
theorem d_V_requireAnalysis_16 : decode prog_1_method_20_code 16 = .ok (.invokespecial 60, 3) := by decide +kernel
theorem d_V_requireAnalysis_19 : decode prog_1_method_20_code 19 = .ok (.athrow, 1) := by decide +kernel
theorem d_G_hasSymbol_0 : decode prog_3_method_2_code 0 = .ok (.iload_n 1, 1) := by decide +kernel
theorem d_G_hasSymbol_1 : decode prog_3_method_2_code 1 = .ok (.ifCond .lt 15, 3) := by decide +kernel
theorem d_G_hasSymbol_16 : decode prog_3_method_2_code 16 = .ok (.iconst 0, 1) := by decide +kernel
theorem d_G_hasSymbol_17 : decode prog_3_method_2_code 17 = .ok (.ireturn, 1) := by decide +kernel
theorem d_G_hasSymbol_4 : decode prog_3_method_2_code 4 = .ok (.iload_n 1, 1) := by decide +kernel
theorem d_G_hasSymbol_5 : decode prog_3_method_2_code 5 = .ok (.aload_n 0, 1) := by decide +kernel
theorem d_G_hasSymbol_6 : decode prog_3_method_2_code 6 = .ok (.getfield 45, 3) := by decide +kernel
theorem d_G_hasSymbol_9 : decode prog_3_method_2_code 9 = .ok (.if_icmp .ge 7, 3) := by decide +kernel
theorem d_G_hasProduction_0 : decode prog_3_method_4_code 0 = .ok (.iload_n 1, 1) := by decide +kernel
theorem d_G_hasProduction_1 : decode prog_3_method_4_code 1 = .ok (.ifCond .lt 15, 3) := by decide +kernel
theorem d_G_hasProduction_16 : decode prog_3_method_4_code 16 = .ok (.iconst 0, 1) := by decide +kernel
theorem d_G_hasProduction_17 : decode prog_3_method_4_code 17 = .ok (.ireturn, 1) := by decide +kernel
theorem d_G_hasProduction_4 : decode prog_3_method_4_code 4 = .ok (.iload_n 1, 1) := by decide +kernel
theorem d_G_hasProduction_5 : decode prog_3_method_4_code 5 = .ok (.aload_n 0, 1) := by decide +kernel
theorem d_G_hasProduction_6 : decode prog_3_method_4_code 6 = .ok (.getfield 49, 3) := by decide +kernel
theorem d_G_hasProduction_9 : decode prog_3_method_4_code 9 = .ok (.if_icmp .ge 7, 3) := by decide +kernel
theorem d_Z_hasNode_0 : decode prog_7_method_2_code 0 = .ok (.iload_n 1, 1) := by decide +kernel
theorem d_Z_hasNode_1 : decode prog_7_method_2_code 1 = .ok (.ifCond .lt 15, 3) := by decide +kernel
theorem d_Z_hasNode_16 : decode prog_7_method_2_code 16 = .ok (.iconst 0, 1) := by decide +kernel
theorem d_Z_hasNode_17 : decode prog_7_method_2_code 17 = .ok (.ireturn, 1) := by decide +kernel
theorem d_Z_hasNode_4 : decode prog_7_method_2_code 4 = .ok (.iload_n 1, 1) := by decide +kernel
theorem d_Z_hasNode_5 : decode prog_7_method_2_code 5 = .ok (.aload_n 0, 1) := by decide +kernel
theorem d_Z_hasNode_6 : decode prog_7_method_2_code 6 = .ok (.getfield 28, 3) := by decide +kernel
theorem d_Z_hasNode_9 : decode prog_7_method_2_code 9 = .ok (.if_icmp .ge 7, 3) := by decide +kernel
theorem d_Z_clear_0 : decode prog_7_method_9_code 0 = .ok (.aload_n 0, 1) := by decide +kernel
theorem d_Z_clear_1 : decode prog_7_method_9_code 1 = .ok (.iconst 0, 1) := by decide +kernel
theorem d_Z_clear_2 : decode prog_7_method_9_code 2 = .ok (.putfield 28, 3) := by decide +kernel
theorem d_Z_clear_5 : decode prog_7_method_9_code 5 = .ok (.return_, 1) := by decide +kernel
theorem d_G_allAttributes_0 : decode prog_3_method_14_code 0 = .ok (.iconst 1, 1) := by decide +kernel
theorem d_G_allAttributes_1 : decode prog_3_method_14_code 1 = .ok (.aload_n 0, 1) := by decide +kernel
theorem d_G_allAttributes_2 : decode prog_3_method_14_code 2 = .ok (.getfield 9, 3) := by decide +kernel
theorem d_G_allAttributes_5 : decode prog_3_method_14_code 5 = .ok (.iload_n 1, 1) := by decide +kernel
theorem d_G_allAttributes_6 : decode prog_3_method_14_code 6 = .ok (.iaload, 1) := by decide +kernel
theorem d_G_allAttributes_7 : decode prog_3_method_14_code 7 = .ok (.ishl, 1) := by decide +kernel
theorem d_G_allAttributes_8 : decode prog_3_method_14_code 8 = .ok (.iconst 1, 1) := by decide +kernel
theorem d_G_allAttributes_9 : decode prog_3_method_14_code 9 = .ok (.isub, 1) := by decide +kernel
theorem d_G_allAttributes_10 : decode prog_3_method_14_code 10 = .ok (.ireturn, 1) := by decide +kernel
theorem d_G_addSymbol_0 : decode prog_3_method_10_code 0 = .ok (.aload_n 0, 1) := by decide +kernel
theorem d_G_addSymbol_1 : decode prog_3_method_10_code 1 = .ok (.getfield 45, 3) := by decide +kernel
theorem d_G_addSymbol_4 : decode prog_3_method_10_code 4 = .ok (.istore_n 3, 1) := by decide +kernel
theorem d_G_addSymbol_5 : decode prog_3_method_10_code 5 = .ok (.aload_n 0, 1) := by decide +kernel
theorem d_G_addSymbol_6 : decode prog_3_method_10_code 6 = .ok (.getfield 9, 3) := by decide +kernel
theorem d_G_addSymbol_9 : decode prog_3_method_10_code 9 = .ok (.iload_n 3, 1) := by decide +kernel
theorem d_G_addSymbol_10 : decode prog_3_method_10_code 10 = .ok (.iload_n 1, 1) := by decide +kernel
theorem d_G_addSymbol_11 : decode prog_3_method_10_code 11 = .ok (.iastore, 1) := by decide +kernel
theorem d_G_addSymbol_12 : decode prog_3_method_10_code 12 = .ok (.aload_n 0, 1) := by decide +kernel
theorem d_G_addSymbol_13 : decode prog_3_method_10_code 13 = .ok (.getfield 15, 3) := by decide +kernel
theorem d_G_addSymbol_16 : decode prog_3_method_10_code 16 = .ok (.iload_n 3, 1) := by decide +kernel
theorem d_G_addSymbol_17 : decode prog_3_method_10_code 17 = .ok (.iload_n 2, 1) := by decide +kernel
theorem d_G_addSymbol_18 : decode prog_3_method_10_code 18 = .ok (.aload_n 0, 1) := by decide +kernel
theorem d_G_addSymbol_19 : decode prog_3_method_10_code 19 = .ok (.iload_n 3, 1) := by decide +kernel
theorem d_G_addSymbol_20 : decode prog_3_method_10_code 20 = .ok (.invokevirtual 69, 3) := by decide +kernel
theorem d_G_addSymbol_23 : decode prog_3_method_10_code 23 = .ok (.iand, 1) := by decide +kernel
theorem d_G_addSymbol_24 : decode prog_3_method_10_code 24 = .ok (.iastore, 1) := by decide +kernel
theorem d_G_addSymbol_25 : decode prog_3_method_10_code 25 = .ok (.aload_n 0, 1) := by decide +kernel
theorem d_G_addSymbol_26 : decode prog_3_method_10_code 26 = .ok (.dup, 1) := by decide +kernel
theorem d_G_addSymbol_27 : decode prog_3_method_10_code 27 = .ok (.getfield 45, 3) := by decide +kernel
theorem d_G_addSymbol_30 : decode prog_3_method_10_code 30 = .ok (.iconst 1, 1) := by decide +kernel
theorem d_G_addSymbol_31 : decode prog_3_method_10_code 31 = .ok (.iadd, 1) := by decide +kernel
theorem d_G_addSymbol_32 : decode prog_3_method_10_code 32 = .ok (.putfield 45, 3) := by decide +kernel
theorem d_G_addSymbol_35 : decode prog_3_method_10_code 35 = .ok (.iload_n 3, 1) := by decide +kernel
theorem d_G_addSymbol_36 : decode prog_3_method_10_code 36 = .ok (.ireturn, 1) := by decide +kernel
theorem d_A_forgetFault_0 : decode prog_2_method_3_code 0 = .ok (.aload_n 0, 1) := by decide +kernel
theorem d_A_forgetFault_1 : decode prog_2_method_3_code 1 = .ok (.iconst 0, 1) := by decide +kernel
theorem d_A_forgetFault_2 : decode prog_2_method_3_code 2 = .ok (.putfield 74, 3) := by decide +kernel
theorem d_A_forgetFault_5 : decode prog_2_method_3_code 5 = .ok (.aload_n 0, 1) := by decide +kernel
theorem d_A_forgetFault_6 : decode prog_2_method_3_code 6 = .ok (.iconst (-1), 1) := by decide +kernel
theorem d_A_forgetFault_7 : decode prog_2_method_3_code 7 = .ok (.putfield 9, 3) := by decide +kernel
theorem d_A_forgetFault_10 : decode prog_2_method_3_code 10 = .ok (.aload_n 0, 1) := by decide +kernel
theorem d_A_forgetFault_11 : decode prog_2_method_3_code 11 = .ok (.iconst (-1), 1) := by decide +kernel
theorem d_A_forgetFault_12 : decode prog_2_method_3_code 12 = .ok (.putfield 15, 3) := by decide +kernel
theorem d_A_forgetFault_15 : decode prog_2_method_3_code 15 = .ok (.return_, 1) := by decide +kernel
theorem d_A_make_0 : decode prog_2_method_2_code 0 = .ok (.aload_n 0, 1) := by decide +kernel
theorem d_A_make_1 : decode prog_2_method_2_code 1 = .ok (.invokevirtual 49, 3) := by decide +kernel
theorem d_A_make_4 : decode prog_2_method_2_code 4 = .ok (.aload_n 0, 1) := by decide +kernel
theorem d_A_make_5 : decode prog_2_method_2_code 5 = .ok (.aload_n 0, 1) := by decide +kernel
theorem d_A_make_6 : decode prog_2_method_2_code 6 = .ok (.getfield 18, 3) := by decide +kernel
theorem d_A_make_9 : decode prog_2_method_2_code 9 = .ok (.getfield 52, 3) := by decide +kernel
theorem d_A_make_12 : decode prog_2_method_2_code 12 = .ok (.ifCond .le 28, 3) := by decide +kernel
theorem d_A_make_40 : decode prog_2_method_2_code 40 = .ok (.iconst 0, 1) := by decide +kernel
theorem d_A_make_41 : decode prog_2_method_2_code 41 = .ok (.putfield 67, 3) := by decide +kernel
theorem d_A_make_44 : decode prog_2_method_2_code 44 = .ok (.aload_n 0, 1) := by decide +kernel
theorem d_A_make_45 : decode prog_2_method_2_code 45 = .ok (.getfield 67, 3) := by decide +kernel
theorem d_A_make_48 : decode prog_2_method_2_code 48 = .ok (.ifCond .eq 10, 3) := by decide +kernel
theorem d_A_make_58 : decode prog_2_method_2_code 58 = .ok (.return_, 1) := by decide +kernel
theorem d_V_requireAttribute_0 : decode prog_1_method_21_code 0 = .ok (.aload_n 0, 1) := by decide +kernel
theorem d_V_requireAttribute_1 : decode prog_1_method_21_code 1 = .ok (.getfield 28, 3) := by decide +kernel
theorem d_V_requireAttribute_4 : decode prog_1_method_21_code 4 = .ok (.iload_n 1, 1) := by decide +kernel
theorem d_V_requireAttribute_5 : decode prog_1_method_21_code 5 = .ok (.invokevirtual 193, 3) := by decide +kernel
theorem d_V_requireAttribute_8 : decode prog_1_method_21_code 8 = .ok (.ifCond .eq 22, 3) := by decide +kernel
theorem d_V_requireAttribute_30 : decode prog_1_method_21_code 30 = .ok (.new 90, 3) := by decide +kernel
theorem d_V_requireAttribute_33 : decode prog_1_method_21_code 33 = .ok (.dup, 1) := by decide +kernel
theorem d_V_requireAttribute_34 : decode prog_1_method_21_code 34 = .ok (.ldc 233, 2) := by decide +kernel
theorem d_V_requireAttribute_36 : decode prog_1_method_21_code 36 = .ok (.invokespecial 94, 3) := by decide +kernel
theorem d_V_requireAttribute_39 : decode prog_1_method_21_code 39 = .ok (.athrow, 1) := by decide +kernel
theorem d_V_symbol_0 : decode prog_1_method_2_code 0 = .ok (.iload_n 1, 1) := by decide +kernel
theorem d_V_symbol_1 : decode prog_1_method_2_code 1 = .ok (.ifCond .lt 8, 3) := by decide +kernel
theorem d_V_symbol_4 : decode prog_1_method_2_code 4 = .ok (.iload_n 1, 1) := by decide +kernel
theorem d_V_symbol_5 : decode prog_1_method_2_code 5 = .ok (.iconst 4, 1) := by decide +kernel
theorem d_V_symbol_6 : decode prog_1_method_2_code 6 = .ok (.if_icmp .le 13, 3) := by decide +kernel
theorem d_V_symbol_19 : decode prog_1_method_2_code 19 = .ok (.aload_n 0, 1) := by decide +kernel
theorem d_V_symbol_20 : decode prog_1_method_2_code 20 = .ok (.getfield 12, 3) := by decide +kernel
theorem d_V_symbol_23 : decode prog_1_method_2_code 23 = .ok (.getfield 52, 3) := by decide +kernel
theorem d_V_symbol_26 : decode prog_1_method_2_code 26 = .ok (.bipush 6, 2) := by decide +kernel
theorem d_V_symbol_28 : decode prog_1_method_2_code 28 = .ok (.if_icmp .ne 13, 3) := by decide +kernel
theorem d_V_symbol_41 : decode prog_1_method_2_code 41 = .ok (.aload_n 0, 1) := by decide +kernel
theorem d_V_symbol_42 : decode prog_1_method_2_code 42 = .ok (.invokevirtual 61, 3) := by decide +kernel
theorem d_V_symbol_45 : decode prog_1_method_2_code 45 = .ok (.aload_n 0, 1) := by decide +kernel
theorem d_V_symbol_46 : decode prog_1_method_2_code 46 = .ok (.getfield 12, 3) := by decide +kernel
theorem d_V_symbol_49 : decode prog_1_method_2_code 49 = .ok (.iload_n 1, 1) := by decide +kernel
theorem d_V_symbol_50 : decode prog_1_method_2_code 50 = .ok (.iload_n 2, 1) := by decide +kernel
theorem d_V_symbol_51 : decode prog_1_method_2_code 51 = .ok (.invokevirtual 64, 3) := by decide +kernel
theorem d_V_symbol_54 : decode prog_1_method_2_code 54 = .ok (.ireturn, 1) := by decide +kernel
theorem d_V_symbol_9 : decode prog_1_method_2_code 9 = .ok (.new 45, 3) := by decide +kernel
theorem d_V_symbol_12 : decode prog_1_method_2_code 12 = .ok (.dup, 1) := by decide +kernel
theorem d_V_symbol_13 : decode prog_1_method_2_code 13 = .ok (.ldc 47, 2) := by decide +kernel
theorem d_V_symbol_15 : decode prog_1_method_2_code 15 = .ok (.invokespecial 49, 3) := by decide +kernel
theorem d_V_symbol_18 : decode prog_1_method_2_code 18 = .ok (.athrow, 1) := by decide +kernel
theorem d_V_production_0 : decode prog_1_method_3_code 0 = .ok (.aload_n 0, 1) := by decide +kernel
theorem d_V_production_1 : decode prog_1_method_3_code 1 = .ok (.getfield 12, 3) := by decide +kernel
theorem d_V_production_4 : decode prog_1_method_3_code 4 = .ok (.iload_n 1, 1) := by decide +kernel
theorem d_V_production_5 : decode prog_1_method_3_code 5 = .ok (.invokevirtual 68, 3) := by decide +kernel
theorem d_V_production_8 : decode prog_1_method_3_code 8 = .ok (.ifCond .eq 17, 3) := by decide +kernel
theorem d_V_production_25 : decode prog_1_method_3_code 25 = .ok (.new 45, 3) := by decide +kernel
theorem d_V_production_28 : decode prog_1_method_3_code 28 = .ok (.dup, 1) := by decide +kernel
theorem d_V_production_29 : decode prog_1_method_3_code 29 = .ok (.ldc 76, 2) := by decide +kernel
theorem d_V_production_31 : decode prog_1_method_3_code 31 = .ok (.invokespecial 49, 3) := by decide +kernel
theorem d_V_production_34 : decode prog_1_method_3_code 34 = .ok (.athrow, 1) := by decide +kernel
theorem d_V_rule_0 : decode prog_1_method_4_code 0 = .ok (.aload_n 0, 1) := by decide +kernel
theorem d_V_rule_1 : decode prog_1_method_4_code 1 = .ok (.getfield 12, 3) := by decide +kernel
theorem d_V_rule_4 : decode prog_1_method_4_code 4 = .ok (.iload_n 1, 1) := by decide +kernel
theorem d_V_rule_5 : decode prog_1_method_4_code 5 = .ok (.invokevirtual 87, 3) := by decide +kernel
theorem d_V_rule_8 : decode prog_1_method_4_code 8 = .ok (.ifCond .ne 13, 3) := by decide +kernel
theorem d_V_rule_11 : decode prog_1_method_4_code 11 = .ok (.new 90, 3) := by decide +kernel
theorem d_V_rule_14 : decode prog_1_method_4_code 14 = .ok (.dup, 1) := by decide +kernel
theorem d_V_rule_15 : decode prog_1_method_4_code 15 = .ok (.ldc 92, 2) := by decide +kernel
theorem d_V_rule_17 : decode prog_1_method_4_code 17 = .ok (.invokespecial 94, 3) := by decide +kernel
theorem d_V_rule_20 : decode prog_1_method_4_code 20 = .ok (.athrow, 1) := by decide +kernel
theorem d_V_analyse_0 : decode prog_1_method_5_code 0 = .ok (.aload_n 0, 1) := by decide +kernel
theorem d_V_analyse_1 : decode prog_1_method_5_code 1 = .ok (.getfield 41, 3) := by decide +kernel
theorem d_V_analyse_4 : decode prog_1_method_5_code 4 = .ok (.invokevirtual 111, 3) := by decide +kernel
theorem d_V_analyse_7 : decode prog_1_method_5_code 7 = .ok (.aload_n 0, 1) := by decide +kernel
theorem d_V_analyse_8 : decode prog_1_method_5_code 8 = .ok (.getfield 21, 3) := by decide +kernel
theorem d_V_analyse_11 : decode prog_1_method_5_code 11 = .ok (.invokevirtual 114, 3) := by decide +kernel
theorem d_V_analyse_14 : decode prog_1_method_5_code 14 = .ok (.aload_n 0, 1) := by decide +kernel
theorem d_V_analyse_15 : decode prog_1_method_5_code 15 = .ok (.getfield 21, 3) := by decide +kernel
theorem d_V_analyse_18 : decode prog_1_method_5_code 18 = .ok (.getfield 117, 3) := by decide +kernel
theorem d_V_analyse_21 : decode prog_1_method_5_code 21 = .ok (.iconst 2, 1) := by decide +kernel
theorem d_V_analyse_22 : decode prog_1_method_5_code 22 = .ok (.if_icmp .eq 14, 3) := by decide +kernel
theorem d_V_analyse_25 : decode prog_1_method_5_code 25 = .ok (.aload_n 0, 1) := by decide +kernel
theorem d_V_analyse_26 : decode prog_1_method_5_code 26 = .ok (.getfield 21, 3) := by decide +kernel
theorem d_V_analyse_29 : decode prog_1_method_5_code 29 = .ok (.getfield 117, 3) := by decide +kernel
theorem d_V_analyse_32 : decode prog_1_method_5_code 32 = .ok (.iconst 3, 1) := by decide +kernel
theorem d_V_analyse_33 : decode prog_1_method_5_code 33 = .ok (.if_icmp .ne 13, 3) := by decide +kernel
theorem d_V_analyse_46 : decode prog_1_method_5_code 46 = .ok (.aload_n 0, 1) := by decide +kernel
theorem d_V_analyse_47 : decode prog_1_method_5_code 47 = .ok (.getfield 21, 3) := by decide +kernel
theorem d_V_analyse_50 : decode prog_1_method_5_code 50 = .ok (.getfield 125, 3) := by decide +kernel
theorem d_V_analyse_53 : decode prog_1_method_5_code 53 = .ok (.ifCond .ne 13, 3) := by decide +kernel
