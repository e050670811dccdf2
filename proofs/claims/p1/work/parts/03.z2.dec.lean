theorem d_V_analyse_56 : decode prog_1_method_5_code 56 = .ok (.new 56, 3) := by decide +kernel
theorem d_V_analyse_59 : decode prog_1_method_5_code 59 = .ok (.dup, 1) := by decide +kernel
theorem d_V_analyse_60 : decode prog_1_method_5_code 60 = .ok (.ldc 129, 2) := by decide +kernel
theorem d_V_analyse_62 : decode prog_1_method_5_code 62 = .ok (.invokespecial 60, 3) := by decide +kernel
theorem d_V_analyse_65 : decode prog_1_method_5_code 65 = .ok (.athrow, 1) := by decide +kernel
theorem d_V_visits_0 : decode prog_1_method_7_code 0 = .ok (.aload_n 0, 1) := by decide +kernel
theorem d_V_visits_1 : decode prog_1_method_7_code 1 = .ok (.invokevirtual 143, 3) := by decide +kernel
theorem d_V_rank_0 : decode prog_1_method_8_code 0 = .ok (.aload_n 0, 1) := by decide +kernel
theorem d_V_rank_1 : decode prog_1_method_8_code 1 = .ok (.invokevirtual 143, 3) := by decide +kernel
theorem d_V_instruction_0 : decode prog_1_method_9_code 0 = .ok (.aload_n 0, 1) := by decide +kernel
theorem d_V_instruction_1 : decode prog_1_method_9_code 1 = .ok (.invokevirtual 143, 3) := by decide +kernel
theorem d_V_node_0 : decode prog_1_method_10_code 0 = .ok (.aload_n 0, 1) := by decide +kernel
theorem d_V_node_1 : decode prog_1_method_10_code 1 = .ok (.getfield 12, 3) := by decide +kernel
theorem d_V_node_4 : decode prog_1_method_10_code 4 = .ok (.iload_n 1, 1) := by decide +kernel
theorem d_V_node_5 : decode prog_1_method_10_code 5 = .ok (.invokevirtual 87, 3) := by decide +kernel
theorem d_V_node_8 : decode prog_1_method_10_code 8 = .ok (.ifCond .eq 19, 3) := by decide +kernel
theorem d_V_node_27 : decode prog_1_method_10_code 27 = .ok (.new 45, 3) := by decide +kernel
theorem d_V_node_30 : decode prog_1_method_10_code 30 = .ok (.dup, 1) := by decide +kernel
theorem d_V_node_31 : decode prog_1_method_10_code 31 = .ok (.ldc 174, 2) := by decide +kernel
theorem d_V_node_33 : decode prog_1_method_10_code 33 = .ok (.invokespecial 49, 3) := by decide +kernel
theorem d_V_node_36 : decode prog_1_method_10_code 36 = .ok (.athrow, 1) := by decide +kernel
theorem d_V_fell_0 : decode prog_1_method_11_code 0 = .ok (.aload_n 0, 1) := by decide +kernel
theorem d_V_fell_1 : decode prog_1_method_11_code 1 = .ok (.getfield 41, 3) := by decide +kernel
theorem d_V_fell_4 : decode prog_1_method_11_code 4 = .ok (.invokevirtual 111, 3) := by decide +kernel
theorem d_V_fell_7 : decode prog_1_method_11_code 7 = .ok (.aload_n 0, 1) := by decide +kernel
theorem d_V_fell_8 : decode prog_1_method_11_code 8 = .ok (.getfield 28, 3) := by decide +kernel
theorem d_V_fell_11 : decode prog_1_method_11_code 11 = .ok (.invokevirtual 185, 3) := by decide +kernel
theorem d_V_fell_14 : decode prog_1_method_11_code 14 = .ok (.return_, 1) := by decide +kernel
theorem d_V_give_0 : decode prog_1_method_12_code 0 = .ok (.iload_n 1, 1) := by decide +kernel
theorem d_V_give_1 : decode prog_1_method_12_code 1 = .ok (.ifCond .lt 8, 3) := by decide +kernel
theorem d_V_give_9 : decode prog_1_method_12_code 9 = .ok (.new 90, 3) := by decide +kernel
theorem d_V_give_12 : decode prog_1_method_12_code 12 = .ok (.dup, 1) := by decide +kernel
theorem d_V_give_13 : decode prog_1_method_12_code 13 = .ok (.ldc 188, 2) := by decide +kernel
theorem d_V_give_15 : decode prog_1_method_12_code 15 = .ok (.invokespecial 94, 3) := by decide +kernel
theorem d_V_give_18 : decode prog_1_method_12_code 18 = .ok (.athrow, 1) := by decide +kernel
theorem d_V_give_4 : decode prog_1_method_12_code 4 = .ok (.iload_n 1, 1) := by decide +kernel
theorem d_V_give_5 : decode prog_1_method_12_code 5 = .ok (.iconst 4, 1) := by decide +kernel
theorem d_V_give_6 : decode prog_1_method_12_code 6 = .ok (.if_icmp .lt 13, 3) := by decide +kernel
theorem d_V_give_19 : decode prog_1_method_12_code 19 = .ok (.aload_n 0, 1) := by decide +kernel
theorem d_V_give_20 : decode prog_1_method_12_code 20 = .ok (.getfield 41, 3) := by decide +kernel
theorem d_V_give_23 : decode prog_1_method_12_code 23 = .ok (.getfield 190, 3) := by decide +kernel
theorem d_V_give_26 : decode prog_1_method_12_code 26 = .ok (.iload_n 1, 1) := by decide +kernel
theorem d_V_give_27 : decode prog_1_method_12_code 27 = .ok (.iload_n 2, 1) := by decide +kernel
theorem d_V_give_28 : decode prog_1_method_12_code 28 = .ok (.iastore, 1) := by decide +kernel
theorem d_V_give_29 : decode prog_1_method_12_code 29 = .ok (.return_, 1) := by decide +kernel
theorem d_V_start_0 : decode prog_1_method_13_code 0 = .ok (.aload_n 0, 1) := by decide +kernel
theorem d_V_start_1 : decode prog_1_method_13_code 1 = .ok (.invokevirtual 143, 3) := by decide +kernel
theorem d_V_run_0 : decode prog_1_method_14_code 0 = .ok (.iload_n 1, 1) := by decide +kernel
theorem d_V_run_1 : decode prog_1_method_14_code 1 = .ok (.ifCond .lt 10, 3) := by decide +kernel
theorem d_V_run_11 : decode prog_1_method_14_code 11 = .ok (.new 45, 3) := by decide +kernel
theorem d_V_run_14 : decode prog_1_method_14_code 14 = .ok (.dup, 1) := by decide +kernel
theorem d_V_run_15 : decode prog_1_method_14_code 15 = .ok (.ldc 202, 2) := by decide +kernel
theorem d_V_run_17 : decode prog_1_method_14_code 17 = .ok (.invokespecial 49, 3) := by decide +kernel
theorem d_V_run_20 : decode prog_1_method_14_code 20 = .ok (.athrow, 1) := by decide +kernel
theorem d_V_run_4 : decode prog_1_method_14_code 4 = .ok (.iload_n 1, 1) := by decide +kernel
theorem d_V_run_5 : decode prog_1_method_14_code 5 = .ok (.sipush 500, 3) := by decide +kernel
theorem d_V_run_8 : decode prog_1_method_14_code 8 = .ok (.if_icmp .le 13, 3) := by decide +kernel
theorem d_V_run_21 : decode prog_1_method_14_code 21 = .ok (.aload_n 0, 1) := by decide +kernel
theorem d_V_run_22 : decode prog_1_method_14_code 22 = .ok (.getfield 41, 3) := by decide +kernel
theorem d_V_run_25 : decode prog_1_method_14_code 25 = .ok (.getfield 204, 3) := by decide +kernel
theorem d_V_run_28 : decode prog_1_method_14_code 28 = .ok (.ifCond .ne 13, 3) := by decide +kernel
theorem d_V_run_31 : decode prog_1_method_14_code 31 = .ok (.new 56, 3) := by decide +kernel
theorem d_V_run_34 : decode prog_1_method_14_code 34 = .ok (.dup, 1) := by decide +kernel
theorem d_V_run_35 : decode prog_1_method_14_code 35 = .ok (.ldc 207, 2) := by decide +kernel
theorem d_V_run_37 : decode prog_1_method_14_code 37 = .ok (.invokespecial 60, 3) := by decide +kernel
theorem d_V_run_40 : decode prog_1_method_14_code 40 = .ok (.athrow, 1) := by decide +kernel
theorem d_V_status_0 : decode prog_1_method_15_code 0 = .ok (.aload_n 0, 1) := by decide +kernel
theorem d_V_status_1 : decode prog_1_method_15_code 1 = .ok (.getfield 41, 3) := by decide +kernel
theorem d_V_status_4 : decode prog_1_method_15_code 4 = .ok (.getfield 204, 3) := by decide +kernel
theorem d_V_status_7 : decode prog_1_method_15_code 7 = .ok (.ireturn, 1) := by decide +kernel
theorem d_V_atHand_0 : decode prog_1_method_16_code 0 = .ok (.aload_n 0, 1) := by decide +kernel
theorem d_V_atHand_1 : decode prog_1_method_16_code 1 = .ok (.getfield 41, 3) := by decide +kernel
theorem d_V_atHand_4 : decode prog_1_method_16_code 4 = .ok (.getfield 204, 3) := by decide +kernel
theorem d_V_atHand_7 : decode prog_1_method_16_code 7 = .ok (.iconst 1, 1) := by decide +kernel
theorem d_V_atHand_8 : decode prog_1_method_16_code 8 = .ok (.if_icmp .ne 13, 3) := by decide +kernel
theorem d_V_atHand_21 : decode prog_1_method_16_code 21 = .ok (.iconst (-1), 1) := by decide +kernel
theorem d_V_atHand_22 : decode prog_1_method_16_code 22 = .ok (.ireturn, 1) := by decide +kernel
theorem d_V_knows_0 : decode prog_1_method_17_code 0 = .ok (.aload_n 0, 1) := by decide +kernel
theorem d_V_knows_1 : decode prog_1_method_17_code 1 = .ok (.iload_n 1, 1) := by decide +kernel
theorem d_V_knows_2 : decode prog_1_method_17_code 2 = .ok (.iload_n 2, 1) := by decide +kernel
theorem d_V_knows_3 : decode prog_1_method_17_code 3 = .ok (.invokevirtual 216, 3) := by decide +kernel
theorem d_V_value_0 : decode prog_1_method_18_code 0 = .ok (.aload_n 0, 1) := by decide +kernel
theorem d_V_value_1 : decode prog_1_method_18_code 1 = .ok (.iload_n 1, 1) := by decide +kernel
theorem d_V_value_2 : decode prog_1_method_18_code 2 = .ok (.iload_n 2, 1) := by decide +kernel
theorem d_V_value_3 : decode prog_1_method_18_code 3 = .ok (.invokevirtual 216, 3) := by decide +kernel
theorem d_V_fault_0 : decode prog_1_method_6_code 0 = .ok (.iload_n 1, 1) := by decide +kernel
theorem d_V_fault_1 : decode prog_1_method_6_code 1 = .ok (.tableswitch 51 0 2 #[27, 35, 43], 27) := by decide +kernel
theorem d_V_fault_28 : decode prog_1_method_6_code 28 = .ok (.aload_n 0, 1) := by decide +kernel
theorem d_V_fault_29 : decode prog_1_method_6_code 29 = .ok (.getfield 21, 3) := by decide +kernel
theorem d_V_fault_32 : decode prog_1_method_6_code 32 = .ok (.getfield 117, 3) := by decide +kernel
theorem d_V_fault_35 : decode prog_1_method_6_code 35 = .ok (.ireturn, 1) := by decide +kernel
theorem d_V_fault_36 : decode prog_1_method_6_code 36 = .ok (.aload_n 0, 1) := by decide +kernel
theorem d_V_fault_37 : decode prog_1_method_6_code 37 = .ok (.getfield 21, 3) := by decide +kernel
theorem d_V_fault_40 : decode prog_1_method_6_code 40 = .ok (.getfield 137, 3) := by decide +kernel
theorem d_V_fault_43 : decode prog_1_method_6_code 43 = .ok (.ireturn, 1) := by decide +kernel
theorem d_V_fault_44 : decode prog_1_method_6_code 44 = .ok (.aload_n 0, 1) := by decide +kernel
theorem d_V_fault_45 : decode prog_1_method_6_code 45 = .ok (.getfield 21, 3) := by decide +kernel
theorem d_V_fault_48 : decode prog_1_method_6_code 48 = .ok (.getfield 140, 3) := by decide +kernel
theorem d_V_fault_51 : decode prog_1_method_6_code 51 = .ok (.ireturn, 1) := by decide +kernel
theorem d_V_fault_52 : decode prog_1_method_6_code 52 = .ok (.iconst (-1), 1) := by decide +kernel
theorem d_V_fault_53 : decode prog_1_method_6_code 53 = .ok (.ireturn, 1) := by decide +kernel
theorem d_M_init_0 : decode prog_10_method_1_code 0 = .ok (.aload_n 0, 1) := by decide +kernel
theorem d_M_init_1 : decode prog_10_method_1_code 1 = .ok (.invokespecial 1, 3) := by decide +kernel
theorem d_M_init_4 : decode prog_10_method_1_code 4 = .ok (.aload_n 0, 1) := by decide +kernel
theorem d_M_init_5 : decode prog_10_method_1_code 5 = .ok (.bipush 6, 2) := by decide +kernel
theorem d_M_init_7 : decode prog_10_method_1_code 7 = .ok (.newarray .int, 2) := by decide +kernel
theorem d_M_init_9 : decode prog_10_method_1_code 9 = .ok (.putfield 7, 3) := by decide +kernel
theorem d_M_init_12 : decode prog_10_method_1_code 12 = .ok (.aload_n 0, 1) := by decide +kernel
theorem d_M_init_13 : decode prog_10_method_1_code 13 = .ok (.bipush 24, 2) := by decide +kernel
theorem d_M_init_15 : decode prog_10_method_1_code 15 = .ok (.newarray .boolean, 2) := by decide +kernel
theorem d_M_init_17 : decode prog_10_method_1_code 17 = .ok (.putfield 13, 3) := by decide +kernel
theorem d_M_init_20 : decode prog_10_method_1_code 20 = .ok (.aload_n 0, 1) := by decide +kernel
theorem d_M_init_21 : decode prog_10_method_1_code 21 = .ok (.bipush 10, 2) := by decide +kernel
theorem d_M_init_23 : decode prog_10_method_1_code 23 = .ok (.newarray .int, 2) := by decide +kernel
theorem d_M_init_25 : decode prog_10_method_1_code 25 = .ok (.putfield 17, 3) := by decide +kernel
theorem d_M_init_28 : decode prog_10_method_1_code 28 = .ok (.aload_n 0, 1) := by decide +kernel
theorem d_M_init_29 : decode prog_10_method_1_code 29 = .ok (.bipush 40, 2) := by decide +kernel
theorem d_M_init_31 : decode prog_10_method_1_code 31 = .ok (.newarray .int, 2) := by decide +kernel
theorem d_M_init_33 : decode prog_10_method_1_code 33 = .ok (.putfield 20, 3) := by decide +kernel
theorem d_M_init_36 : decode prog_10_method_1_code 36 = .ok (.aload_n 0, 1) := by decide +kernel
theorem d_M_init_37 : decode prog_10_method_1_code 37 = .ok (.sipush 160, 3) := by decide +kernel
theorem d_M_init_40 : decode prog_10_method_1_code 40 = .ok (.newarray .int, 2) := by decide +kernel
theorem d_M_init_42 : decode prog_10_method_1_code 42 = .ok (.putfield 23, 3) := by decide +kernel
theorem d_M_init_45 : decode prog_10_method_1_code 45 = .ok (.aload_n 0, 1) := by decide +kernel
theorem d_M_init_46 : decode prog_10_method_1_code 46 = .ok (.sipush 160, 3) := by decide +kernel
theorem d_M_init_49 : decode prog_10_method_1_code 49 = .ok (.newarray .int, 2) := by decide +kernel
theorem d_M_init_51 : decode prog_10_method_1_code 51 = .ok (.putfield 26, 3) := by decide +kernel
theorem d_M_init_54 : decode prog_10_method_1_code 54 = .ok (.aload_n 0, 1) := by decide +kernel
theorem d_M_init_55 : decode prog_10_method_1_code 55 = .ok (.sipush 160, 3) := by decide +kernel
theorem d_M_init_58 : decode prog_10_method_1_code 58 = .ok (.newarray .int, 2) := by decide +kernel
theorem d_M_init_60 : decode prog_10_method_1_code 60 = .ok (.putfield 29, 3) := by decide +kernel
theorem d_M_init_63 : decode prog_10_method_1_code 63 = .ok (.aload_n 0, 1) := by decide +kernel
theorem d_M_init_64 : decode prog_10_method_1_code 64 = .ok (.iconst (-1), 1) := by decide +kernel
theorem d_M_init_65 : decode prog_10_method_1_code 65 = .ok (.putfield 32, 3) := by decide +kernel
theorem d_M_init_68 : decode prog_10_method_1_code 68 = .ok (.aload_n 0, 1) := by decide +kernel
theorem d_M_init_69 : decode prog_10_method_1_code 69 = .ok (.iconst (-1), 1) := by decide +kernel
theorem d_M_init_70 : decode prog_10_method_1_code 70 = .ok (.putfield 36, 3) := by decide +kernel
theorem d_M_init_73 : decode prog_10_method_1_code 73 = .ok (.aload_n 0, 1) := by decide +kernel
theorem d_M_init_74 : decode prog_10_method_1_code 74 = .ok (.sipush 2560, 3) := by decide +kernel
theorem d_M_init_77 : decode prog_10_method_1_code 77 = .ok (.newarray .boolean, 2) := by decide +kernel
theorem d_M_init_79 : decode prog_10_method_1_code 79 = .ok (.putfield 39, 3) := by decide +kernel
theorem d_M_init_82 : decode prog_10_method_1_code 82 = .ok (.aload_n 0, 1) := by decide +kernel
theorem d_M_init_83 : decode prog_10_method_1_code 83 = .ok (.sipush 2560, 3) := by decide +kernel
theorem d_M_init_86 : decode prog_10_method_1_code 86 = .ok (.newarray .boolean, 2) := by decide +kernel
theorem d_M_init_88 : decode prog_10_method_1_code 88 = .ok (.putfield 42, 3) := by decide +kernel
theorem d_M_init_91 : decode prog_10_method_1_code 91 = .ok (.aload_n 0, 1) := by decide +kernel
theorem d_M_init_92 : decode prog_10_method_1_code 92 = .ok (.bipush 96, 2) := by decide +kernel
theorem d_M_init_94 : decode prog_10_method_1_code 94 = .ok (.newarray .boolean, 2) := by decide +kernel
theorem d_M_init_96 : decode prog_10_method_1_code 96 = .ok (.putfield 45, 3) := by decide +kernel
theorem d_M_init_99 : decode prog_10_method_1_code 99 = .ok (.aload_n 0, 1) := by decide +kernel
theorem d_M_init_100 : decode prog_10_method_1_code 100 = .ok (.sipush 256, 3) := by decide +kernel
theorem d_M_init_103 : decode prog_10_method_1_code 103 = .ok (.newarray .boolean, 2) := by decide +kernel
theorem d_M_init_105 : decode prog_10_method_1_code 105 = .ok (.putfield 48, 3) := by decide +kernel
theorem d_M_init_108 : decode prog_10_method_1_code 108 = .ok (.aload_n 0, 1) := by decide +kernel
theorem d_M_init_109 : decode prog_10_method_1_code 109 = .ok (.bipush 24, 2) := by decide +kernel
theorem d_M_init_111 : decode prog_10_method_1_code 111 = .ok (.newarray .int, 2) := by decide +kernel
theorem d_M_init_113 : decode prog_10_method_1_code 113 = .ok (.putfield 51, 3) := by decide +kernel
theorem d_M_init_116 : decode prog_10_method_1_code 116 = .ok (.aload_n 0, 1) := by decide +kernel
theorem d_M_init_117 : decode prog_10_method_1_code 117 = .ok (.bipush 6, 2) := by decide +kernel
theorem d_M_init_119 : decode prog_10_method_1_code 119 = .ok (.newarray .int, 2) := by decide +kernel
theorem d_M_init_121 : decode prog_10_method_1_code 121 = .ok (.putfield 54, 3) := by decide +kernel
theorem d_M_init_124 : decode prog_10_method_1_code 124 = .ok (.aload_n 0, 1) := by decide +kernel
theorem d_M_init_125 : decode prog_10_method_1_code 125 = .ok (.bipush 10, 2) := by decide +kernel
theorem d_M_init_127 : decode prog_10_method_1_code 127 = .ok (.newarray .int, 2) := by decide +kernel
theorem d_M_init_129 : decode prog_10_method_1_code 129 = .ok (.putfield 57, 3) := by decide +kernel
theorem d_M_init_132 : decode prog_10_method_1_code 132 = .ok (.aload_n 0, 1) := by decide +kernel
theorem d_M_init_133 : decode prog_10_method_1_code 133 = .ok (.sipush 480, 3) := by decide +kernel
theorem d_M_init_136 : decode prog_10_method_1_code 136 = .ok (.newarray .int, 2) := by decide +kernel
theorem d_M_init_138 : decode prog_10_method_1_code 138 = .ok (.putfield 60, 3) := by decide +kernel
theorem d_M_init_141 : decode prog_10_method_1_code 141 = .ok (.aload_n 0, 1) := by decide +kernel
theorem d_M_init_142 : decode prog_10_method_1_code 142 = .ok (.bipush 16, 2) := by decide +kernel
theorem d_M_init_144 : decode prog_10_method_1_code 144 = .ok (.newarray .boolean, 2) := by decide +kernel
theorem d_M_init_146 : decode prog_10_method_1_code 146 = .ok (.putfield 63, 3) := by decide +kernel
theorem d_M_init_149 : decode prog_10_method_1_code 149 = .ok (.aload_n 0, 1) := by decide +kernel
theorem d_M_init_150 : decode prog_10_method_1_code 150 = .ok (.iconst 4, 1) := by decide +kernel
theorem d_M_init_151 : decode prog_10_method_1_code 151 = .ok (.newarray .int, 2) := by decide +kernel
theorem d_M_init_153 : decode prog_10_method_1_code 153 = .ok (.putfield 66, 3) := by decide +kernel
theorem d_M_init_156 : decode prog_10_method_1_code 156 = .ok (.aload_n 0, 1) := by decide +kernel
theorem d_M_init_157 : decode prog_10_method_1_code 157 = .ok (.bipush 40, 2) := by decide +kernel
theorem d_M_init_159 : decode prog_10_method_1_code 159 = .ok (.newarray .int, 2) := by decide +kernel
theorem d_M_init_161 : decode prog_10_method_1_code 161 = .ok (.putfield 69, 3) := by decide +kernel
theorem d_M_init_164 : decode prog_10_method_1_code 164 = .ok (.aload_n 0, 1) := by decide +kernel
theorem d_M_init_165 : decode prog_10_method_1_code 165 = .ok (.bipush 40, 2) := by decide +kernel
theorem d_M_init_167 : decode prog_10_method_1_code 167 = .ok (.newarray .int, 2) := by decide +kernel
theorem d_M_init_169 : decode prog_10_method_1_code 169 = .ok (.putfield 72, 3) := by decide +kernel
theorem d_M_init_172 : decode prog_10_method_1_code 172 = .ok (.aload_n 0, 1) := by decide +kernel
theorem d_M_init_173 : decode prog_10_method_1_code 173 = .ok (.bipush 120, 2) := by decide +kernel
theorem d_M_init_175 : decode prog_10_method_1_code 175 = .ok (.newarray .int, 2) := by decide +kernel
theorem d_M_init_177 : decode prog_10_method_1_code 177 = .ok (.putfield 75, 3) := by decide +kernel
theorem d_M_init_180 : decode prog_10_method_1_code 180 = .ok (.aload_n 0, 1) := by decide +kernel
theorem d_M_init_181 : decode prog_10_method_1_code 181 = .ok (.bipush 40, 2) := by decide +kernel
theorem d_M_init_183 : decode prog_10_method_1_code 183 = .ok (.newarray .int, 2) := by decide +kernel
theorem d_M_init_185 : decode prog_10_method_1_code 185 = .ok (.putfield 78, 3) := by decide +kernel
theorem d_M_init_188 : decode prog_10_method_1_code 188 = .ok (.aload_n 0, 1) := by decide +kernel
theorem d_M_init_189 : decode prog_10_method_1_code 189 = .ok (.bipush 40, 2) := by decide +kernel
theorem d_M_init_191 : decode prog_10_method_1_code 191 = .ok (.newarray .int, 2) := by decide +kernel
theorem d_M_init_193 : decode prog_10_method_1_code 193 = .ok (.putfield 81, 3) := by decide +kernel
theorem d_M_init_196 : decode prog_10_method_1_code 196 = .ok (.aload_n 0, 1) := by decide +kernel
theorem d_M_init_197 : decode prog_10_method_1_code 197 = .ok (.sipush 160, 3) := by decide +kernel
theorem d_M_init_200 : decode prog_10_method_1_code 200 = .ok (.newarray .boolean, 2) := by decide +kernel
