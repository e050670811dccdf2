theorem d_V_holds_0 : decode prog_1_method_22_code 0 = .ok (.iload_n 0, 1) := by decide +kernel
theorem d_V_holds_1 : decode prog_1_method_22_code 1 = .ok (.iload_n 1, 1) := by decide +kernel
theorem d_V_holds_2 : decode prog_1_method_22_code 2 = .ok (.ishr, 1) := by decide +kernel
theorem d_V_holds_3 : decode prog_1_method_22_code 3 = .ok (.iconst 1, 1) := by decide +kernel
theorem d_V_holds_4 : decode prog_1_method_22_code 4 = .ok (.iand, 1) := by decide +kernel
theorem d_V_holds_5 : decode prog_1_method_22_code 5 = .ok (.ifCond .eq 7, 3) := by decide +kernel
theorem d_V_holds_12 : decode prog_1_method_22_code 12 = .ok (.iconst 0, 1) := by decide +kernel
theorem d_V_holds_13 : decode prog_1_method_22_code 13 = .ok (.ireturn, 1) := by decide +kernel
theorem d_V_holds_8 : decode prog_1_method_22_code 8 = .ok (.iconst 1, 1) := by decide +kernel
theorem d_V_holds_9 : decode prog_1_method_22_code 9 = .ok (.goto 4, 3) := by decide +kernel
theorem d_V_holdsAll_0 : decode prog_1_method_23_code 0 = .ok (.iload_n 1, 1) := by decide +kernel
theorem d_V_holdsAll_1 : decode prog_1_method_23_code 1 = .ok (.iload_n 0, 1) := by decide +kernel
theorem d_V_holdsAll_2 : decode prog_1_method_23_code 2 = .ok (.iconst (-1), 1) := by decide +kernel
theorem d_V_holdsAll_3 : decode prog_1_method_23_code 3 = .ok (.ixor, 1) := by decide +kernel
theorem d_V_holdsAll_4 : decode prog_1_method_23_code 4 = .ok (.iand, 1) := by decide +kernel
theorem d_V_holdsAll_5 : decode prog_1_method_23_code 5 = .ok (.ifCond .ne 7, 3) := by decide +kernel
theorem d_V_holdsAll_12 : decode prog_1_method_23_code 12 = .ok (.iconst 0, 1) := by decide +kernel
theorem d_V_holdsAll_13 : decode prog_1_method_23_code 13 = .ok (.ireturn, 1) := by decide +kernel
theorem d_V_holdsAll_8 : decode prog_1_method_23_code 8 = .ok (.iconst 1, 1) := by decide +kernel
theorem d_V_holdsAll_9 : decode prog_1_method_23_code 9 = .ok (.goto 4, 3) := by decide +kernel
theorem d_G_usesFirst_0 : decode prog_3_method_16_code 0 = .ok (.iload_n 0, 1) := by decide +kernel
theorem d_G_usesFirst_1 : decode prog_3_method_16_code 1 = .ok (.iconst 2, 1) := by decide +kernel
theorem d_G_usesFirst_2 : decode prog_3_method_16_code 2 = .ok (.if_icmp .lt 7, 3) := by decide +kernel
theorem d_G_usesFirst_9 : decode prog_3_method_16_code 9 = .ok (.iconst 0, 1) := by decide +kernel
theorem d_G_usesFirst_10 : decode prog_3_method_16_code 10 = .ok (.ireturn, 1) := by decide +kernel
theorem d_G_usesFirst_5 : decode prog_3_method_16_code 5 = .ok (.iconst 1, 1) := by decide +kernel
theorem d_G_usesFirst_6 : decode prog_3_method_16_code 6 = .ok (.goto 4, 3) := by decide +kernel
theorem d_G_usesSecond_0 : decode prog_3_method_17_code 0 = .ok (.iload_n 0, 1) := by decide +kernel
theorem d_G_usesSecond_1 : decode prog_3_method_17_code 1 = .ok (.iconst 3, 1) := by decide +kernel
theorem d_G_usesSecond_2 : decode prog_3_method_17_code 2 = .ok (.if_icmp .lt 13, 3) := by decide +kernel
theorem d_G_usesSecond_15 : decode prog_3_method_17_code 15 = .ok (.iconst 0, 1) := by decide +kernel
theorem d_G_usesSecond_16 : decode prog_3_method_17_code 16 = .ok (.ireturn, 1) := by decide +kernel
theorem d_G_usesSecond_5 : decode prog_3_method_17_code 5 = .ok (.iload_n 0, 1) := by decide +kernel
theorem d_G_usesSecond_6 : decode prog_3_method_17_code 6 = .ok (.bipush 6, 2) := by decide +kernel
theorem d_G_usesSecond_8 : decode prog_3_method_17_code 8 = .ok (.if_icmp .gt 7, 3) := by decide +kernel
theorem d_G_usesSecond_11 : decode prog_3_method_17_code 11 = .ok (.iconst 1, 1) := by decide +kernel
theorem d_G_usesSecond_12 : decode prog_3_method_17_code 12 = .ok (.goto 4, 3) := by decide +kernel
theorem d_E_othersAt_0 : decode prog_4_method_10_code 0 = .ok (.bipush 15, 2) := by decide +kernel
theorem d_E_othersAt_2 : decode prog_4_method_10_code 2 = .ok (.istore_n 3, 1) := by decide +kernel
theorem d_E_othersAt_3 : decode prog_4_method_10_code 3 = .ok (.iload_n 2, 1) := by decide +kernel
theorem d_E_othersAt_4 : decode prog_4_method_10_code 4 = .ok (.iload_n 0, 1) := by decide +kernel
theorem d_E_othersAt_5 : decode prog_4_method_10_code 5 = .ok (.ishr, 1) := by decide +kernel
theorem d_E_othersAt_6 : decode prog_4_method_10_code 6 = .ok (.iload_n 3, 1) := by decide +kernel
theorem d_E_othersAt_7 : decode prog_4_method_10_code 7 = .ok (.iand, 1) := by decide +kernel
theorem d_E_othersAt_8 : decode prog_4_method_10_code 8 = .ok (.iconst 1, 1) := by decide +kernel
theorem d_E_othersAt_9 : decode prog_4_method_10_code 9 = .ok (.iload_n 1, 1) := by decide +kernel
theorem d_E_othersAt_10 : decode prog_4_method_10_code 10 = .ok (.ishl, 1) := by decide +kernel
theorem d_E_othersAt_11 : decode prog_4_method_10_code 11 = .ok (.iconst (-1), 1) := by decide +kernel
theorem d_E_othersAt_12 : decode prog_4_method_10_code 12 = .ok (.ixor, 1) := by decide +kernel
theorem d_E_othersAt_13 : decode prog_4_method_10_code 13 = .ok (.iand, 1) := by decide +kernel
theorem d_E_othersAt_14 : decode prog_4_method_10_code 14 = .ok (.ireturn, 1) := by decide +kernel
theorem d_M_needs_0 : decode prog_10_method_12_code 0 = .ok (.iload_n 0, 1) := by decide +kernel
theorem d_M_needs_1 : decode prog_10_method_12_code 1 = .ok (.iconst 2, 1) := by decide +kernel
theorem d_M_needs_2 : decode prog_10_method_12_code 2 = .ok (.if_icmp .ge 7, 3) := by decide +kernel
theorem d_M_needs_9 : decode prog_10_method_12_code 9 = .ok (.iload_n 0, 1) := by decide +kernel
theorem d_M_needs_10 : decode prog_10_method_12_code 10 = .ok (.iconst 2, 1) := by decide +kernel
theorem d_M_needs_20 : decode prog_10_method_12_code 20 = .ok (.iconst 1, 1) := by decide +kernel
theorem d_M_needs_21 : decode prog_10_method_12_code 21 = .ok (.goto 4, 3) := by decide +kernel
theorem d_M_needs_25 : decode prog_10_method_12_code 25 = .ok (.ireturn, 1) := by decide +kernel
theorem d_M_needs_11 : decode prog_10_method_12_code 11 = .ok (.if_icmp .eq 9, 3) := by decide +kernel
theorem d_M_needs_14 : decode prog_10_method_12_code 14 = .ok (.iload_n 0, 1) := by decide +kernel
theorem d_M_needs_15 : decode prog_10_method_12_code 15 = .ok (.bipush 7, 2) := by decide +kernel
theorem d_M_needs_17 : decode prog_10_method_12_code 17 = .ok (.if_icmp .ne 7, 3) := by decide +kernel
theorem d_M_needs_24 : decode prog_10_method_12_code 24 = .ok (.iconst 2, 1) := by decide +kernel
theorem d_M_needs_5 : decode prog_10_method_12_code 5 = .ok (.iconst 0, 1) := by decide +kernel
theorem d_M_needs_6 : decode prog_10_method_12_code 6 = .ok (.goto 19, 3) := by decide +kernel
theorem d_I_bitCount_0 : decode prog_15_method_49_code 0 = .ok (.iload_n 0, 1) := by decide +kernel
theorem d_I_bitCount_1 : decode prog_15_method_49_code 1 = .ok (.iload_n 0, 1) := by decide +kernel
theorem d_I_bitCount_2 : decode prog_15_method_49_code 2 = .ok (.iconst 1, 1) := by decide +kernel
theorem d_I_bitCount_3 : decode prog_15_method_49_code 3 = .ok (.iushr, 1) := by decide +kernel
theorem d_I_bitCount_4 : decode prog_15_method_49_code 4 = .ok (.ldc_w 265, 3) := by decide +kernel
theorem d_I_bitCount_7 : decode prog_15_method_49_code 7 = .ok (.iand, 1) := by decide +kernel
theorem d_I_bitCount_8 : decode prog_15_method_49_code 8 = .ok (.isub, 1) := by decide +kernel
theorem d_I_bitCount_9 : decode prog_15_method_49_code 9 = .ok (.istore_n 0, 1) := by decide +kernel
theorem d_I_bitCount_10 : decode prog_15_method_49_code 10 = .ok (.iload_n 0, 1) := by decide +kernel
theorem d_I_bitCount_11 : decode prog_15_method_49_code 11 = .ok (.ldc_w 266, 3) := by decide +kernel
theorem d_I_bitCount_14 : decode prog_15_method_49_code 14 = .ok (.iand, 1) := by decide +kernel
theorem d_I_bitCount_15 : decode prog_15_method_49_code 15 = .ok (.iload_n 0, 1) := by decide +kernel
theorem d_I_bitCount_16 : decode prog_15_method_49_code 16 = .ok (.iconst 2, 1) := by decide +kernel
theorem d_I_bitCount_17 : decode prog_15_method_49_code 17 = .ok (.iushr, 1) := by decide +kernel
theorem d_I_bitCount_18 : decode prog_15_method_49_code 18 = .ok (.ldc_w 266, 3) := by decide +kernel
theorem d_I_bitCount_21 : decode prog_15_method_49_code 21 = .ok (.iand, 1) := by decide +kernel
theorem d_I_bitCount_22 : decode prog_15_method_49_code 22 = .ok (.iadd, 1) := by decide +kernel
theorem d_I_bitCount_23 : decode prog_15_method_49_code 23 = .ok (.istore_n 0, 1) := by decide +kernel
theorem d_I_bitCount_24 : decode prog_15_method_49_code 24 = .ok (.iload_n 0, 1) := by decide +kernel
theorem d_I_bitCount_25 : decode prog_15_method_49_code 25 = .ok (.iload_n 0, 1) := by decide +kernel
theorem d_I_bitCount_26 : decode prog_15_method_49_code 26 = .ok (.iconst 4, 1) := by decide +kernel
theorem d_I_bitCount_27 : decode prog_15_method_49_code 27 = .ok (.iushr, 1) := by decide +kernel
theorem d_I_bitCount_28 : decode prog_15_method_49_code 28 = .ok (.iadd, 1) := by decide +kernel
theorem d_I_bitCount_29 : decode prog_15_method_49_code 29 = .ok (.ldc_w 267, 3) := by decide +kernel
theorem d_I_bitCount_32 : decode prog_15_method_49_code 32 = .ok (.iand, 1) := by decide +kernel
theorem d_I_bitCount_33 : decode prog_15_method_49_code 33 = .ok (.istore_n 0, 1) := by decide +kernel
theorem d_I_bitCount_34 : decode prog_15_method_49_code 34 = .ok (.iload_n 0, 1) := by decide +kernel
theorem d_I_bitCount_35 : decode prog_15_method_49_code 35 = .ok (.iload_n 0, 1) := by decide +kernel
theorem d_I_bitCount_36 : decode prog_15_method_49_code 36 = .ok (.bipush 8, 2) := by decide +kernel
theorem d_I_bitCount_38 : decode prog_15_method_49_code 38 = .ok (.iushr, 1) := by decide +kernel
theorem d_I_bitCount_39 : decode prog_15_method_49_code 39 = .ok (.iadd, 1) := by decide +kernel
theorem d_I_bitCount_40 : decode prog_15_method_49_code 40 = .ok (.istore_n 0, 1) := by decide +kernel
theorem d_I_bitCount_41 : decode prog_15_method_49_code 41 = .ok (.iload_n 0, 1) := by decide +kernel
theorem d_I_bitCount_42 : decode prog_15_method_49_code 42 = .ok (.iload_n 0, 1) := by decide +kernel
theorem d_I_bitCount_43 : decode prog_15_method_49_code 43 = .ok (.bipush 16, 2) := by decide +kernel
theorem d_I_bitCount_45 : decode prog_15_method_49_code 45 = .ok (.iushr, 1) := by decide +kernel
theorem d_I_bitCount_46 : decode prog_15_method_49_code 46 = .ok (.iadd, 1) := by decide +kernel
theorem d_I_bitCount_47 : decode prog_15_method_49_code 47 = .ok (.istore_n 0, 1) := by decide +kernel
theorem d_I_bitCount_48 : decode prog_15_method_49_code 48 = .ok (.iload_n 0, 1) := by decide +kernel
theorem d_I_bitCount_49 : decode prog_15_method_49_code 49 = .ok (.bipush 63, 2) := by decide +kernel
theorem d_I_bitCount_51 : decode prog_15_method_49_code 51 = .ok (.iand, 1) := by decide +kernel
theorem d_I_bitCount_52 : decode prog_15_method_49_code 52 = .ok (.ireturn, 1) := by decide +kernel
theorem d_V_leastOf_0 : decode prog_1_method_24_code 0 = .ok (.iload_n 0, 1) := by decide +kernel
theorem d_V_leastOf_1 : decode prog_1_method_24_code 1 = .ok (.ifCond .ne 7, 3) := by decide +kernel
theorem d_V_leastOf_8 : decode prog_1_method_24_code 8 = .ok (.iload_n 0, 1) := by decide +kernel
theorem d_V_leastOf_9 : decode prog_1_method_24_code 9 = .ok (.iload_n 0, 1) := by decide +kernel
theorem d_V_leastOf_10 : decode prog_1_method_24_code 10 = .ok (.ineg, 1) := by decide +kernel
theorem d_V_leastOf_11 : decode prog_1_method_24_code 11 = .ok (.iand, 1) := by decide +kernel
theorem d_V_leastOf_12 : decode prog_1_method_24_code 12 = .ok (.iconst 1, 1) := by decide +kernel
theorem d_V_leastOf_13 : decode prog_1_method_24_code 13 = .ok (.isub, 1) := by decide +kernel
theorem d_V_leastOf_14 : decode prog_1_method_24_code 14 = .ok (.invokestatic 235, 3) := by decide +kernel
theorem d_V_leastOf_17 : decode prog_1_method_24_code 17 = .ok (.ireturn, 1) := by decide +kernel
theorem d_V_leastOf_4 : decode prog_1_method_24_code 4 = .ok (.iconst (-1), 1) := by decide +kernel
theorem d_V_leastOf_5 : decode prog_1_method_24_code 5 = .ok (.goto 12, 3) := by decide +kernel
theorem d_G_hasSymbol_0 : decode prog_3_method_2_code 0 = .ok (.iload_n 1, 1) := by decide +kernel
theorem d_G_hasSymbol_1 : decode prog_3_method_2_code 1 = .ok (.ifCond .lt 15, 3) := by decide +kernel
theorem d_G_hasSymbol_16 : decode prog_3_method_2_code 16 = .ok (.iconst 0, 1) := by decide +kernel
theorem d_G_hasSymbol_17 : decode prog_3_method_2_code 17 = .ok (.ireturn, 1) := by decide +kernel
theorem d_G_hasSymbol_4 : decode prog_3_method_2_code 4 = .ok (.iload_n 1, 1) := by decide +kernel
theorem d_G_hasSymbol_5 : decode prog_3_method_2_code 5 = .ok (.aload_n 0, 1) := by decide +kernel
theorem d_G_hasSymbol_6 : decode prog_3_method_2_code 6 = .ok (.getfield 45, 3) := by decide +kernel
theorem d_G_hasSymbol_9 : decode prog_3_method_2_code 9 = .ok (.if_icmp .ge 7, 3) := by decide +kernel
theorem d_G_hasSymbol_12 : decode prog_3_method_2_code 12 = .ok (.iconst 1, 1) := by decide +kernel
theorem d_G_hasSymbol_13 : decode prog_3_method_2_code 13 = .ok (.goto 4, 3) := by decide +kernel
theorem d_G_hasAttribute_0 : decode prog_3_method_3_code 0 = .ok (.iload_n 2, 1) := by decide +kernel
theorem d_G_hasAttribute_1 : decode prog_3_method_3_code 1 = .ok (.ifCond .lt 17, 3) := by decide +kernel
theorem d_G_hasAttribute_18 : decode prog_3_method_3_code 18 = .ok (.iconst 0, 1) := by decide +kernel
theorem d_G_hasAttribute_19 : decode prog_3_method_3_code 19 = .ok (.ireturn, 1) := by decide +kernel
theorem d_G_hasAttribute_4 : decode prog_3_method_3_code 4 = .ok (.iload_n 2, 1) := by decide +kernel
theorem d_G_hasAttribute_5 : decode prog_3_method_3_code 5 = .ok (.aload_n 0, 1) := by decide +kernel
theorem d_G_hasAttribute_6 : decode prog_3_method_3_code 6 = .ok (.getfield 9, 3) := by decide +kernel
theorem d_G_hasAttribute_9 : decode prog_3_method_3_code 9 = .ok (.iload_n 1, 1) := by decide +kernel
theorem d_G_hasAttribute_10 : decode prog_3_method_3_code 10 = .ok (.iaload, 1) := by decide +kernel
theorem d_G_hasAttribute_11 : decode prog_3_method_3_code 11 = .ok (.if_icmp .ge 7, 3) := by decide +kernel
theorem d_G_hasAttribute_14 : decode prog_3_method_3_code 14 = .ok (.iconst 1, 1) := by decide +kernel
theorem d_G_hasAttribute_15 : decode prog_3_method_3_code 15 = .ok (.goto 4, 3) := by decide +kernel
theorem d_G_hasProduction_0 : decode prog_3_method_4_code 0 = .ok (.iload_n 1, 1) := by decide +kernel
theorem d_G_hasProduction_1 : decode prog_3_method_4_code 1 = .ok (.ifCond .lt 15, 3) := by decide +kernel
theorem d_G_hasProduction_16 : decode prog_3_method_4_code 16 = .ok (.iconst 0, 1) := by decide +kernel
theorem d_G_hasProduction_17 : decode prog_3_method_4_code 17 = .ok (.ireturn, 1) := by decide +kernel
theorem d_G_hasProduction_4 : decode prog_3_method_4_code 4 = .ok (.iload_n 1, 1) := by decide +kernel
theorem d_G_hasProduction_5 : decode prog_3_method_4_code 5 = .ok (.aload_n 0, 1) := by decide +kernel
theorem d_G_hasProduction_6 : decode prog_3_method_4_code 6 = .ok (.getfield 49, 3) := by decide +kernel
theorem d_G_hasProduction_9 : decode prog_3_method_4_code 9 = .ok (.if_icmp .ge 7, 3) := by decide +kernel
theorem d_G_hasProduction_12 : decode prog_3_method_4_code 12 = .ok (.iconst 1, 1) := by decide +kernel
theorem d_G_hasProduction_13 : decode prog_3_method_4_code 13 = .ok (.goto 4, 3) := by decide +kernel
theorem d_G_hasOccurrence_0 : decode prog_3_method_5_code 0 = .ok (.iload_n 2, 1) := by decide +kernel
theorem d_G_hasOccurrence_1 : decode prog_3_method_5_code 1 = .ok (.ifCond .lt 26, 3) := by decide +kernel
theorem d_G_hasOccurrence_27 : decode prog_3_method_5_code 27 = .ok (.iconst 0, 1) := by decide +kernel
theorem d_G_hasOccurrence_28 : decode prog_3_method_5_code 28 = .ok (.ireturn, 1) := by decide +kernel
theorem d_G_hasOccurrence_4 : decode prog_3_method_5_code 4 = .ok (.iload_n 2, 1) := by decide +kernel
theorem d_G_hasOccurrence_5 : decode prog_3_method_5_code 5 = .ok (.bipush 16, 2) := by decide +kernel
theorem d_G_hasOccurrence_7 : decode prog_3_method_5_code 7 = .ok (.if_icmp .ge 20, 3) := by decide +kernel
theorem d_G_hasOccurrence_10 : decode prog_3_method_5_code 10 = .ok (.aload_n 0, 1) := by decide +kernel
theorem d_G_hasOccurrence_11 : decode prog_3_method_5_code 11 = .ok (.getfield 24, 3) := by decide +kernel
theorem d_G_hasOccurrence_14 : decode prog_3_method_5_code 14 = .ok (.iload_n 1, 1) := by decide +kernel
theorem d_G_hasOccurrence_15 : decode prog_3_method_5_code 15 = .ok (.iaload, 1) := by decide +kernel
theorem d_G_hasOccurrence_16 : decode prog_3_method_5_code 16 = .ok (.iload_n 2, 1) := by decide +kernel
theorem d_G_hasOccurrence_17 : decode prog_3_method_5_code 17 = .ok (.invokestatic 52, 3) := by decide +kernel
theorem d_G_hasOccurrence_20 : decode prog_3_method_5_code 20 = .ok (.ifCond .eq 7, 3) := by decide +kernel
theorem d_G_hasOccurrence_23 : decode prog_3_method_5_code 23 = .ok (.iconst 1, 1) := by decide +kernel
theorem d_G_hasOccurrence_24 : decode prog_3_method_5_code 24 = .ok (.goto 4, 3) := by decide +kernel
theorem d_G_isToBeDefined_0 : decode prog_3_method_6_code 0 = .ok (.aload_n 0, 1) := by decide +kernel
theorem d_G_isToBeDefined_1 : decode prog_3_method_6_code 1 = .ok (.iload_n 1, 1) := by decide +kernel
theorem d_G_isToBeDefined_2 : decode prog_3_method_6_code 2 = .ok (.iload_n 2, 1) := by decide +kernel
theorem d_G_isToBeDefined_3 : decode prog_3_method_6_code 3 = .ok (.invokevirtual 56, 3) := by decide +kernel
theorem d_G_isToBeDefined_6 : decode prog_3_method_6_code 6 = .ok (.ifCond .eq 20, 3) := by decide +kernel
theorem d_G_isToBeDefined_26 : decode prog_3_method_6_code 26 = .ok (.iconst 0, 1) := by decide +kernel
theorem d_G_isToBeDefined_27 : decode prog_3_method_6_code 27 = .ok (.ireturn, 1) := by decide +kernel
theorem d_G_isToBeDefined_9 : decode prog_3_method_6_code 9 = .ok (.aload_n 0, 1) := by decide +kernel
theorem d_G_isToBeDefined_10 : decode prog_3_method_6_code 10 = .ok (.getfield 27, 3) := by decide +kernel
theorem d_G_isToBeDefined_13 : decode prog_3_method_6_code 13 = .ok (.iload_n 1, 1) := by decide +kernel
theorem d_G_isToBeDefined_14 : decode prog_3_method_6_code 14 = .ok (.iaload, 1) := by decide +kernel
theorem d_G_isToBeDefined_15 : decode prog_3_method_6_code 15 = .ok (.iload_n 2, 1) := by decide +kernel
theorem d_G_isToBeDefined_16 : decode prog_3_method_6_code 16 = .ok (.invokestatic 52, 3) := by decide +kernel
theorem d_G_isToBeDefined_19 : decode prog_3_method_6_code 19 = .ok (.ifCond .eq 7, 3) := by decide +kernel
theorem d_G_isToBeDefined_22 : decode prog_3_method_6_code 22 = .ok (.iconst 1, 1) := by decide +kernel
theorem d_G_isToBeDefined_23 : decode prog_3_method_6_code 23 = .ok (.goto 4, 3) := by decide +kernel
theorem d_G_isRight_0 : decode prog_3_method_7_code 0 = .ok (.iload_n 1, 1) := by decide +kernel
theorem d_G_isRight_1 : decode prog_3_method_7_code 1 = .ok (.iconst (-1), 1) := by decide +kernel
theorem d_G_isRight_2 : decode prog_3_method_7_code 2 = .ok (.if_icmp .ne 19, 3) := by decide +kernel
theorem d_G_isRight_21 : decode prog_3_method_7_code 21 = .ok (.iload_n 2, 1) := by decide +kernel
theorem d_G_isRight_22 : decode prog_3_method_7_code 22 = .ok (.iconst (-1), 1) := by decide +kernel
theorem d_G_isRight_23 : decode prog_3_method_7_code 23 = .ok (.if_icmp .ne 22, 3) := by decide +kernel
theorem d_G_isRight_45 : decode prog_3_method_7_code 45 = .ok (.aload_n 0, 1) := by decide +kernel
theorem d_G_isRight_46 : decode prog_3_method_7_code 46 = .ok (.iload_n 1, 1) := by decide +kernel
theorem d_G_isRight_47 : decode prog_3_method_7_code 47 = .ok (.invokevirtual 59, 3) := by decide +kernel
theorem d_G_isRight_50 : decode prog_3_method_7_code 50 = .ok (.ifCond .eq 28, 3) := by decide +kernel
theorem d_G_isRight_78 : decode prog_3_method_7_code 78 = .ok (.iconst 0, 1) := by decide +kernel
theorem d_G_isRight_79 : decode prog_3_method_7_code 79 = .ok (.ireturn, 1) := by decide +kernel
theorem d_G_isRight_53 : decode prog_3_method_7_code 53 = .ok (.aload_n 0, 1) := by decide +kernel
theorem d_G_isRight_54 : decode prog_3_method_7_code 54 = .ok (.iload_n 2, 1) := by decide +kernel
theorem d_G_isRight_55 : decode prog_3_method_7_code 55 = .ok (.invokevirtual 59, 3) := by decide +kernel
theorem d_G_isRight_58 : decode prog_3_method_7_code 58 = .ok (.ifCond .eq 20, 3) := by decide +kernel
