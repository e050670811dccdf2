theorem d_V_run_35 : decode prog_1_method_14_code 35 = .ok (.ldc 207, 2) := by decide +kernel
theorem d_V_run_37 : decode prog_1_method_14_code 37 = .ok (.invokespecial 60, 3) := by decide +kernel
theorem d_V_run_40 : decode prog_1_method_14_code 40 = .ok (.athrow, 1) := by decide +kernel
theorem d_V_status_0 : decode prog_1_method_15_code 0 = .ok (.aload_n 0, 1) := by decide +kernel
theorem d_V_status_1 : decode prog_1_method_15_code 1 = .ok (.getfield 41, 3) := by decide +kernel
theorem d_V_status_4 : decode prog_1_method_15_code 4 = .ok (.getfield 204, 3) := by decide +kernel
theorem d_V_status_7 : decode prog_1_method_15_code 7 = .ok (.ireturn, 1) := by decide +kernel
theorem d_V_atHand_0 : decode prog_1_method_16_code 0 = .ok (.aload_n 0, 1) := by decide +kernel
theorem d_V_atHand_1 : decode prog_1_method_16_code 1 = .ok (.getfield 41, 3) := by decide +kernel
theorem d_V_atHand_4 : decode prog_1_method_16_code 4 = .ok (.getfield 204, 3) := by decide +kernel
theorem d_V_atHand_7 : decode prog_1_method_16_code 7 = .ok (.iconst 1, 1) := by decide +kernel
theorem d_V_atHand_8 : decode prog_1_method_16_code 8 = .ok (.if_icmp .ne 13, 3) := by decide +kernel
theorem d_V_atHand_21 : decode prog_1_method_16_code 21 = .ok (.iconst (-1), 1) := by decide +kernel
theorem d_V_atHand_22 : decode prog_1_method_16_code 22 = .ok (.ireturn, 1) := by decide +kernel
theorem d_V_atHand_11 : decode prog_1_method_16_code 11 = .ok (.aload_n 0, 1) := by decide +kernel
theorem d_V_atHand_12 : decode prog_1_method_16_code 12 = .ok (.getfield 41, 3) := by decide +kernel
theorem d_V_atHand_15 : decode prog_1_method_16_code 15 = .ok (.getfield 213, 3) := by decide +kernel
theorem d_V_atHand_18 : decode prog_1_method_16_code 18 = .ok (.goto 4, 3) := by decide +kernel
theorem d_V_knows_0 : decode prog_1_method_17_code 0 = .ok (.aload_n 0, 1) := by decide +kernel
theorem d_V_knows_1 : decode prog_1_method_17_code 1 = .ok (.iload_n 1, 1) := by decide +kernel
theorem d_V_knows_2 : decode prog_1_method_17_code 2 = .ok (.iload_n 2, 1) := by decide +kernel
theorem d_V_knows_3 : decode prog_1_method_17_code 3 = .ok (.invokevirtual 216, 3) := by decide +kernel
theorem d_V_knows_6 : decode prog_1_method_17_code 6 = .ok (.aload_n 0, 1) := by decide +kernel
theorem d_V_knows_7 : decode prog_1_method_17_code 7 = .ok (.getfield 41, 3) := by decide +kernel
theorem d_V_knows_10 : decode prog_1_method_17_code 10 = .ok (.iload_n 1, 1) := by decide +kernel
theorem d_V_knows_11 : decode prog_1_method_17_code 11 = .ok (.iload_n 2, 1) := by decide +kernel
theorem d_V_knows_12 : decode prog_1_method_17_code 12 = .ok (.invokevirtual 220, 3) := by decide +kernel
theorem d_V_knows_15 : decode prog_1_method_17_code 15 = .ok (.ireturn, 1) := by decide +kernel
theorem d_V_value_0 : decode prog_1_method_18_code 0 = .ok (.aload_n 0, 1) := by decide +kernel
theorem d_V_value_1 : decode prog_1_method_18_code 1 = .ok (.iload_n 1, 1) := by decide +kernel
theorem d_V_value_2 : decode prog_1_method_18_code 2 = .ok (.iload_n 2, 1) := by decide +kernel
theorem d_V_value_3 : decode prog_1_method_18_code 3 = .ok (.invokevirtual 216, 3) := by decide +kernel
theorem d_V_value_6 : decode prog_1_method_18_code 6 = .ok (.aload_n 0, 1) := by decide +kernel
theorem d_V_value_7 : decode prog_1_method_18_code 7 = .ok (.getfield 41, 3) := by decide +kernel
theorem d_V_value_10 : decode prog_1_method_18_code 10 = .ok (.iload_n 1, 1) := by decide +kernel
theorem d_V_value_11 : decode prog_1_method_18_code 11 = .ok (.iload_n 2, 1) := by decide +kernel
theorem d_V_value_12 : decode prog_1_method_18_code 12 = .ok (.invokevirtual 220, 3) := by decide +kernel
theorem d_V_value_15 : decode prog_1_method_18_code 15 = .ok (.ifCond .ne 13, 3) := by decide +kernel
theorem d_V_value_28 : decode prog_1_method_18_code 28 = .ok (.aload_n 0, 1) := by decide +kernel
theorem d_V_value_29 : decode prog_1_method_18_code 29 = .ok (.getfield 41, 3) := by decide +kernel
theorem d_V_value_32 : decode prog_1_method_18_code 32 = .ok (.getfield 225, 3) := by decide +kernel
theorem d_V_value_35 : decode prog_1_method_18_code 35 = .ok (.iload_n 1, 1) := by decide +kernel
theorem d_V_value_36 : decode prog_1_method_18_code 36 = .ok (.iconst 4, 1) := by decide +kernel
theorem d_V_value_37 : decode prog_1_method_18_code 37 = .ok (.imul, 1) := by decide +kernel
theorem d_V_value_38 : decode prog_1_method_18_code 38 = .ok (.iload_n 2, 1) := by decide +kernel
theorem d_V_value_39 : decode prog_1_method_18_code 39 = .ok (.iadd, 1) := by decide +kernel
theorem d_V_value_40 : decode prog_1_method_18_code 40 = .ok (.iaload, 1) := by decide +kernel
theorem d_V_value_41 : decode prog_1_method_18_code 41 = .ok (.ireturn, 1) := by decide +kernel
theorem d_V_value_18 : decode prog_1_method_18_code 18 = .ok (.new 56, 3) := by decide +kernel
theorem d_V_value_21 : decode prog_1_method_18_code 21 = .ok (.dup, 1) := by decide +kernel
theorem d_V_value_22 : decode prog_1_method_18_code 22 = .ok (.ldc 223, 2) := by decide +kernel
theorem d_V_value_24 : decode prog_1_method_18_code 24 = .ok (.invokespecial 60, 3) := by decide +kernel
theorem d_V_value_27 : decode prog_1_method_18_code 27 = .ok (.athrow, 1) := by decide +kernel
theorem d_R_fill_0 : decode prog_22_method_103_code 0 = .ok (.iconst 0, 1) := by decide +kernel
theorem d_R_fill_1 : decode prog_22_method_103_code 1 = .ok (.istore_n 2, 1) := by decide +kernel
theorem d_R_fill_2 : decode prog_22_method_103_code 2 = .ok (.aload_n 0, 1) := by decide +kernel
theorem d_R_fill_3 : decode prog_22_method_103_code 3 = .ok (.arraylength, 1) := by decide +kernel
theorem d_R_fill_4 : decode prog_22_method_103_code 4 = .ok (.istore_n 3, 1) := by decide +kernel
theorem d_R_fill_5 : decode prog_22_method_103_code 5 = .ok (.iload_n 2, 1) := by decide +kernel
theorem d_R_fill_6 : decode prog_22_method_103_code 6 = .ok (.iload_n 3, 1) := by decide +kernel
theorem d_R_fill_7 : decode prog_22_method_103_code 7 = .ok (.if_icmp .ge 13, 3) := by decide +kernel
theorem d_R_fill_10 : decode prog_22_method_103_code 10 = .ok (.aload_n 0, 1) := by decide +kernel
theorem d_R_fill_11 : decode prog_22_method_103_code 11 = .ok (.iload_n 2, 1) := by decide +kernel
theorem d_R_fill_12 : decode prog_22_method_103_code 12 = .ok (.iload_n 1, 1) := by decide +kernel
theorem d_R_fill_13 : decode prog_22_method_103_code 13 = .ok (.iastore, 1) := by decide +kernel
theorem d_R_fill_14 : decode prog_22_method_103_code 14 = .ok (.iinc 2 1, 3) := by decide +kernel
theorem d_R_fill_17 : decode prog_22_method_103_code 17 = .ok (.goto (-12), 3) := by decide +kernel
theorem d_R_fill_20 : decode prog_22_method_103_code 20 = .ok (.return_, 1) := by decide +kernel
