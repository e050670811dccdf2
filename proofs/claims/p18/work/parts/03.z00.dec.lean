theorem d_V_holds_0 : decode prog_1_method_22_code 0 = .ok (.iload_n 0, 1) := by decide +kernel
theorem d_V_holds_1 : decode prog_1_method_22_code 1 = .ok (.iload_n 1, 1) := by decide +kernel
theorem d_V_holds_2 : decode prog_1_method_22_code 2 = .ok (.ishr, 1) := by decide +kernel
theorem d_V_holds_3 : decode prog_1_method_22_code 3 = .ok (.iconst 1, 1) := by decide +kernel
theorem d_V_holds_4 : decode prog_1_method_22_code 4 = .ok (.iand, 1) := by decide +kernel
theorem d_V_holds_5 : decode prog_1_method_22_code 5 = .ok (.ifCond .eq 7, 3) := by decide +kernel
theorem d_V_holds_12 : decode prog_1_method_22_code 12 = .ok (.iconst 0, 1) := by decide +kernel
theorem d_V_holds_13 : decode prog_1_method_22_code 13 = .ok (.ireturn, 1) := by decide +kernel
theorem d_V_holds_8 : decode prog_1_method_22_code 8 = .ok (.iconst 1, 1) := by decide +kernel
theorem d_V_holds_9 : decode prog_1_method_22_code 9 = .ok (.goto 4, 3) := by decide +kernel
theorem d_V_holdsAll_0 : decode prog_1_method_23_code 0 = .ok (.iload_n 1, 1) := by decide +kernel
theorem d_V_holdsAll_1 : decode prog_1_method_23_code 1 = .ok (.iload_n 0, 1) := by decide +kernel
theorem d_V_holdsAll_2 : decode prog_1_method_23_code 2 = .ok (.iconst (-1), 1) := by decide +kernel
theorem d_V_holdsAll_3 : decode prog_1_method_23_code 3 = .ok (.ixor, 1) := by decide +kernel
theorem d_V_holdsAll_4 : decode prog_1_method_23_code 4 = .ok (.iand, 1) := by decide +kernel
theorem d_V_holdsAll_5 : decode prog_1_method_23_code 5 = .ok (.ifCond .ne 7, 3) := by decide +kernel
theorem d_V_holdsAll_12 : decode prog_1_method_23_code 12 = .ok (.iconst 0, 1) := by decide +kernel
theorem d_V_holdsAll_13 : decode prog_1_method_23_code 13 = .ok (.ireturn, 1) := by decide +kernel
theorem d_V_holdsAll_8 : decode prog_1_method_23_code 8 = .ok (.iconst 1, 1) := by decide +kernel
theorem d_V_holdsAll_9 : decode prog_1_method_23_code 9 = .ok (.goto 4, 3) := by decide +kernel
theorem d_G_usesFirst_0 : decode prog_3_method_16_code 0 = .ok (.iload_n 0, 1) := by decide +kernel
theorem d_G_usesFirst_1 : decode prog_3_method_16_code 1 = .ok (.iconst 2, 1) := by decide +kernel
theorem d_G_usesFirst_2 : decode prog_3_method_16_code 2 = .ok (.if_icmp .lt 7, 3) := by decide +kernel
theorem d_G_usesFirst_9 : decode prog_3_method_16_code 9 = .ok (.iconst 0, 1) := by decide +kernel
theorem d_G_usesFirst_10 : decode prog_3_method_16_code 10 = .ok (.ireturn, 1) := by decide +kernel
theorem d_G_usesFirst_5 : decode prog_3_method_16_code 5 = .ok (.iconst 1, 1) := by decide +kernel
theorem d_G_usesFirst_6 : decode prog_3_method_16_code 6 = .ok (.goto 4, 3) := by decide +kernel
theorem d_G_usesSecond_0 : decode prog_3_method_17_code 0 = .ok (.iload_n 0, 1) := by decide +kernel
theorem d_G_usesSecond_1 : decode prog_3_method_17_code 1 = .ok (.iconst 3, 1) := by decide +kernel
theorem d_G_usesSecond_2 : decode prog_3_method_17_code 2 = .ok (.if_icmp .lt 13, 3) := by decide +kernel
theorem d_G_usesSecond_15 : decode prog_3_method_17_code 15 = .ok (.iconst 0, 1) := by decide +kernel
theorem d_G_usesSecond_16 : decode prog_3_method_17_code 16 = .ok (.ireturn, 1) := by decide +kernel
theorem d_G_usesSecond_5 : decode prog_3_method_17_code 5 = .ok (.iload_n 0, 1) := by decide +kernel
theorem d_G_usesSecond_6 : decode prog_3_method_17_code 6 = .ok (.bipush 6, 2) := by decide +kernel
theorem d_G_usesSecond_8 : decode prog_3_method_17_code 8 = .ok (.if_icmp .gt 7, 3) := by decide +kernel
theorem d_G_usesSecond_11 : decode prog_3_method_17_code 11 = .ok (.iconst 1, 1) := by decide +kernel
theorem d_G_usesSecond_12 : decode prog_3_method_17_code 12 = .ok (.goto 4, 3) := by decide +kernel
theorem d_E_othersAt_0 : decode prog_4_method_10_code 0 = .ok (.bipush 15, 2) := by decide +kernel
theorem d_E_othersAt_2 : decode prog_4_method_10_code 2 = .ok (.istore_n 3, 1) := by decide +kernel
theorem d_E_othersAt_3 : decode prog_4_method_10_code 3 = .ok (.iload_n 2, 1) := by decide +kernel
theorem d_E_othersAt_4 : decode prog_4_method_10_code 4 = .ok (.iload_n 0, 1) := by decide +kernel
theorem d_E_othersAt_5 : decode prog_4_method_10_code 5 = .ok (.ishr, 1) := by decide +kernel
theorem d_E_othersAt_6 : decode prog_4_method_10_code 6 = .ok (.iload_n 3, 1) := by decide +kernel
theorem d_E_othersAt_7 : decode prog_4_method_10_code 7 = .ok (.iand, 1) := by decide +kernel
theorem d_E_othersAt_8 : decode prog_4_method_10_code 8 = .ok (.iconst 1, 1) := by decide +kernel
theorem d_E_othersAt_9 : decode prog_4_method_10_code 9 = .ok (.iload_n 1, 1) := by decide +kernel
theorem d_E_othersAt_10 : decode prog_4_method_10_code 10 = .ok (.ishl, 1) := by decide +kernel
theorem d_E_othersAt_11 : decode prog_4_method_10_code 11 = .ok (.iconst (-1), 1) := by decide +kernel
theorem d_E_othersAt_12 : decode prog_4_method_10_code 12 = .ok (.ixor, 1) := by decide +kernel
theorem d_E_othersAt_13 : decode prog_4_method_10_code 13 = .ok (.iand, 1) := by decide +kernel
theorem d_E_othersAt_14 : decode prog_4_method_10_code 14 = .ok (.ireturn, 1) := by decide +kernel
theorem d_M_needs_0 : decode prog_10_method_12_code 0 = .ok (.iload_n 0, 1) := by decide +kernel
theorem d_M_needs_1 : decode prog_10_method_12_code 1 = .ok (.iconst 2, 1) := by decide +kernel
theorem d_M_needs_2 : decode prog_10_method_12_code 2 = .ok (.if_icmp .ge 7, 3) := by decide +kernel
theorem d_M_needs_9 : decode prog_10_method_12_code 9 = .ok (.iload_n 0, 1) := by decide +kernel
theorem d_M_needs_10 : decode prog_10_method_12_code 10 = .ok (.iconst 2, 1) := by decide +kernel
theorem d_M_needs_20 : decode prog_10_method_12_code 20 = .ok (.iconst 1, 1) := by decide +kernel
theorem d_M_needs_21 : decode prog_10_method_12_code 21 = .ok (.goto 4, 3) := by decide +kernel
theorem d_M_needs_25 : decode prog_10_method_12_code 25 = .ok (.ireturn, 1) := by decide +kernel
theorem d_M_needs_11 : decode prog_10_method_12_code 11 = .ok (.if_icmp .eq 9, 3) := by decide +kernel
theorem d_M_needs_14 : decode prog_10_method_12_code 14 = .ok (.iload_n 0, 1) := by decide +kernel
theorem d_M_needs_15 : decode prog_10_method_12_code 15 = .ok (.bipush 7, 2) := by decide +kernel
theorem d_M_needs_17 : decode prog_10_method_12_code 17 = .ok (.if_icmp .ne 7, 3) := by decide +kernel
theorem d_M_needs_24 : decode prog_10_method_12_code 24 = .ok (.iconst 2, 1) := by decide +kernel
theorem d_M_needs_5 : decode prog_10_method_12_code 5 = .ok (.iconst 0, 1) := by decide +kernel
theorem d_M_needs_6 : decode prog_10_method_12_code 6 = .ok (.goto 19, 3) := by decide +kernel
theorem d_I_bitCount_0 : decode prog_15_method_49_code 0 = .ok (.iload_n 0, 1) := by decide +kernel
theorem d_I_bitCount_1 : decode prog_15_method_49_code 1 = .ok (.iload_n 0, 1) := by decide +kernel
theorem d_I_bitCount_2 : decode prog_15_method_49_code 2 = .ok (.iconst 1, 1) := by decide +kernel
theorem d_I_bitCount_3 : decode prog_15_method_49_code 3 = .ok (.iushr, 1) := by decide +kernel
theorem d_I_bitCount_4 : decode prog_15_method_49_code 4 = .ok (.ldc_w 265, 3) := by decide +kernel
theorem d_I_bitCount_7 : decode prog_15_method_49_code 7 = .ok (.iand, 1) := by decide +kernel
theorem d_I_bitCount_8 : decode prog_15_method_49_code 8 = .ok (.isub, 1) := by decide +kernel
theorem d_I_bitCount_9 : decode prog_15_method_49_code 9 = .ok (.istore_n 0, 1) := by decide +kernel
theorem d_I_bitCount_10 : decode prog_15_method_49_code 10 = .ok (.iload_n 0, 1) := by decide +kernel
theorem d_I_bitCount_11 : decode prog_15_method_49_code 11 = .ok (.ldc_w 266, 3) := by decide +kernel
theorem d_I_bitCount_14 : decode prog_15_method_49_code 14 = .ok (.iand, 1) := by decide +kernel
theorem d_I_bitCount_15 : decode prog_15_method_49_code 15 = .ok (.iload_n 0, 1) := by decide +kernel
theorem d_I_bitCount_16 : decode prog_15_method_49_code 16 = .ok (.iconst 2, 1) := by decide +kernel
theorem d_I_bitCount_17 : decode prog_15_method_49_code 17 = .ok (.iushr, 1) := by decide +kernel
theorem d_I_bitCount_18 : decode prog_15_method_49_code 18 = .ok (.ldc_w 266, 3) := by decide +kernel
theorem d_I_bitCount_21 : decode prog_15_method_49_code 21 = .ok (.iand, 1) := by decide +kernel
theorem d_I_bitCount_22 : decode prog_15_method_49_code 22 = .ok (.iadd, 1) := by decide +kernel
theorem d_I_bitCount_23 : decode prog_15_method_49_code 23 = .ok (.istore_n 0, 1) := by decide +kernel
theorem d_I_bitCount_24 : decode prog_15_method_49_code 24 = .ok (.iload_n 0, 1) := by decide +kernel
theorem d_I_bitCount_25 : decode prog_15_method_49_code 25 = .ok (.iload_n 0, 1) := by decide +kernel
theorem d_I_bitCount_26 : decode prog_15_method_49_code 26 = .ok (.iconst 4, 1) := by decide +kernel
theorem d_I_bitCount_27 : decode prog_15_method_49_code 27 = .ok (.iushr, 1) := by decide +kernel
theorem d_I_bitCount_28 : decode prog_15_method_49_code 28 = .ok (.iadd, 1) := by decide +kernel
theorem d_I_bitCount_29 : decode prog_15_method_49_code 29 = .ok (.ldc_w 267, 3) := by decide +kernel
theorem d_I_bitCount_32 : decode prog_15_method_49_code 32 = .ok (.iand, 1) := by decide +kernel
theorem d_I_bitCount_33 : decode prog_15_method_49_code 33 = .ok (.istore_n 0, 1) := by decide +kernel
theorem d_I_bitCount_34 : decode prog_15_method_49_code 34 = .ok (.iload_n 0, 1) := by decide +kernel
theorem d_I_bitCount_35 : decode prog_15_method_49_code 35 = .ok (.iload_n 0, 1) := by decide +kernel
theorem d_I_bitCount_36 : decode prog_15_method_49_code 36 = .ok (.bipush 8, 2) := by decide +kernel
theorem d_I_bitCount_38 : decode prog_15_method_49_code 38 = .ok (.iushr, 1) := by decide +kernel
theorem d_I_bitCount_39 : decode prog_15_method_49_code 39 = .ok (.iadd, 1) := by decide +kernel
theorem d_I_bitCount_40 : decode prog_15_method_49_code 40 = .ok (.istore_n 0, 1) := by decide +kernel
theorem d_I_bitCount_41 : decode prog_15_method_49_code 41 = .ok (.iload_n 0, 1) := by decide +kernel
theorem d_I_bitCount_42 : decode prog_15_method_49_code 42 = .ok (.iload_n 0, 1) := by decide +kernel
theorem d_I_bitCount_43 : decode prog_15_method_49_code 43 = .ok (.bipush 16, 2) := by decide +kernel
theorem d_I_bitCount_45 : decode prog_15_method_49_code 45 = .ok (.iushr, 1) := by decide +kernel
theorem d_I_bitCount_46 : decode prog_15_method_49_code 46 = .ok (.iadd, 1) := by decide +kernel
theorem d_I_bitCount_47 : decode prog_15_method_49_code 47 = .ok (.istore_n 0, 1) := by decide +kernel
theorem d_I_bitCount_48 : decode prog_15_method_49_code 48 = .ok (.iload_n 0, 1) := by decide +kernel
theorem d_I_bitCount_49 : decode prog_15_method_49_code 49 = .ok (.bipush 63, 2) := by decide +kernel
theorem d_I_bitCount_51 : decode prog_15_method_49_code 51 = .ok (.iand, 1) := by decide +kernel
theorem d_I_bitCount_52 : decode prog_15_method_49_code 52 = .ok (.ireturn, 1) := by decide +kernel
theorem d_V_leastOf_0 : decode prog_1_method_24_code 0 = .ok (.iload_n 0, 1) := by decide +kernel
theorem d_V_leastOf_1 : decode prog_1_method_24_code 1 = .ok (.ifCond .ne 7, 3) := by decide +kernel
theorem d_V_leastOf_8 : decode prog_1_method_24_code 8 = .ok (.iload_n 0, 1) := by decide +kernel
theorem d_V_leastOf_9 : decode prog_1_method_24_code 9 = .ok (.iload_n 0, 1) := by decide +kernel
theorem d_V_leastOf_10 : decode prog_1_method_24_code 10 = .ok (.ineg, 1) := by decide +kernel
theorem d_V_leastOf_11 : decode prog_1_method_24_code 11 = .ok (.iand, 1) := by decide +kernel
theorem d_V_leastOf_12 : decode prog_1_method_24_code 12 = .ok (.iconst 1, 1) := by decide +kernel
theorem d_V_leastOf_13 : decode prog_1_method_24_code 13 = .ok (.isub, 1) := by decide +kernel
theorem d_V_leastOf_14 : decode prog_1_method_24_code 14 = .ok (.invokestatic 235, 3) := by decide +kernel
theorem d_V_leastOf_17 : decode prog_1_method_24_code 17 = .ok (.ireturn, 1) := by decide +kernel
theorem d_V_leastOf_4 : decode prog_1_method_24_code 4 = .ok (.iconst (-1), 1) := by decide +kernel
theorem d_V_leastOf_5 : decode prog_1_method_24_code 5 = .ok (.goto 12, 3) := by decide +kernel
theorem d_G_hasSymbol_0 : decode prog_3_method_2_code 0 = .ok (.iload_n 1, 1) := by decide +kernel
theorem d_G_hasSymbol_1 : decode prog_3_method_2_code 1 = .ok (.ifCond .lt 15, 3) := by decide +kernel
theorem d_G_hasSymbol_16 : decode prog_3_method_2_code 16 = .ok (.iconst 0, 1) := by decide +kernel
theorem d_G_hasSymbol_17 : decode prog_3_method_2_code 17 = .ok (.ireturn, 1) := by decide +kernel
theorem d_G_hasSymbol_4 : decode prog_3_method_2_code 4 = .ok (.iload_n 1, 1) := by decide +kernel
theorem d_G_hasSymbol_5 : decode prog_3_method_2_code 5 = .ok (.aload_n 0, 1) := by decide +kernel
theorem d_G_hasSymbol_6 : decode prog_3_method_2_code 6 = .ok (.getfield 45, 3) := by decide +kernel
theorem d_G_hasSymbol_9 : decode prog_3_method_2_code 9 = .ok (.if_icmp .ge 7, 3) := by decide +kernel
theorem d_G_hasSymbol_12 : decode prog_3_method_2_code 12 = .ok (.iconst 1, 1) := by decide +kernel
theorem d_G_hasSymbol_13 : decode prog_3_method_2_code 13 = .ok (.goto 4, 3) := by decide +kernel
theorem d_G_hasAttribute_0 : decode prog_3_method_3_code 0 = .ok (.iload_n 2, 1) := by decide +kernel
theorem d_G_hasAttribute_1 : decode prog_3_method_3_code 1 = .ok (.ifCond .lt 17, 3) := by decide +kernel
theorem d_G_hasAttribute_18 : decode prog_3_method_3_code 18 = .ok (.iconst 0, 1) := by decide +kernel
theorem d_G_hasAttribute_19 : decode prog_3_method_3_code 19 = .ok (.ireturn, 1) := by decide +kernel
theorem d_G_hasAttribute_4 : decode prog_3_method_3_code 4 = .ok (.iload_n 2, 1) := by decide +kernel
theorem d_G_hasAttribute_5 : decode prog_3_method_3_code 5 = .ok (.aload_n 0, 1) := by decide +kernel
theorem d_G_hasAttribute_6 : decode prog_3_method_3_code 6 = .ok (.getfield 9, 3) := by decide +kernel
theorem d_G_hasAttribute_9 : decode prog_3_method_3_code 9 = .ok (.iload_n 1, 1) := by decide +kernel
theorem d_G_hasAttribute_10 : decode prog_3_method_3_code 10 = .ok (.iaload, 1) := by decide +kernel
theorem d_G_hasAttribute_11 : decode prog_3_method_3_code 11 = .ok (.if_icmp .ge 7, 3) := by decide +kernel
theorem d_G_hasAttribute_14 : decode prog_3_method_3_code 14 = .ok (.iconst 1, 1) := by decide +kernel
theorem d_G_hasAttribute_15 : decode prog_3_method_3_code 15 = .ok (.goto 4, 3) := by decide +kernel
theorem d_G_hasProduction_0 : decode prog_3_method_4_code 0 = .ok (.iload_n 1, 1) := by decide +kernel
theorem d_G_hasProduction_1 : decode prog_3_method_4_code 1 = .ok (.ifCond .lt 15, 3) := by decide +kernel
theorem d_G_hasProduction_16 : decode prog_3_method_4_code 16 = .ok (.iconst 0, 1) := by decide +kernel
theorem d_G_hasProduction_17 : decode prog_3_method_4_code 17 = .ok (.ireturn, 1) := by decide +kernel
theorem d_G_hasProduction_4 : decode prog_3_method_4_code 4 = .ok (.iload_n 1, 1) := by decide +kernel
theorem d_G_hasProduction_5 : decode prog_3_method_4_code 5 = .ok (.aload_n 0, 1) := by decide +kernel
theorem d_G_hasProduction_6 : decode prog_3_method_4_code 6 = .ok (.getfield 49, 3) := by decide +kernel
theorem d_G_hasProduction_9 : decode prog_3_method_4_code 9 = .ok (.if_icmp .ge 7, 3) := by decide +kernel
theorem d_G_hasProduction_12 : decode prog_3_method_4_code 12 = .ok (.iconst 1, 1) := by decide +kernel
theorem d_G_hasProduction_13 : decode prog_3_method_4_code 13 = .ok (.goto 4, 3) := by decide +kernel
theorem d_G_hasOccurrence_0 : decode prog_3_method_5_code 0 = .ok (.iload_n 2, 1) := by decide +kernel
theorem d_G_hasOccurrence_1 : decode prog_3_method_5_code 1 = .ok (.ifCond .lt 26, 3) := by decide +kernel
theorem d_G_hasOccurrence_27 : decode prog_3_method_5_code 27 = .ok (.iconst 0, 1) := by decide +kernel
theorem d_G_hasOccurrence_28 : decode prog_3_method_5_code 28 = .ok (.ireturn, 1) := by decide +kernel
theorem d_G_hasOccurrence_4 : decode prog_3_method_5_code 4 = .ok (.iload_n 2, 1) := by decide +kernel
theorem d_G_hasOccurrence_5 : decode prog_3_method_5_code 5 = .ok (.bipush 16, 2) := by decide +kernel
theorem d_G_hasOccurrence_7 : decode prog_3_method_5_code 7 = .ok (.if_icmp .ge 20, 3) := by decide +kernel
theorem d_G_hasOccurrence_10 : decode prog_3_method_5_code 10 = .ok (.aload_n 0, 1) := by decide +kernel
theorem d_G_hasOccurrence_11 : decode prog_3_method_5_code 11 = .ok (.getfield 24, 3) := by decide +kernel
theorem d_G_hasOccurrence_14 : decode prog_3_method_5_code 14 = .ok (.iload_n 1, 1) := by decide +kernel
theorem d_G_hasOccurrence_15 : decode prog_3_method_5_code 15 = .ok (.iaload, 1) := by decide +kernel
theorem d_G_hasOccurrence_16 : decode prog_3_method_5_code 16 = .ok (.iload_n 2, 1) := by decide +kernel
theorem d_G_hasOccurrence_17 : decode prog_3_method_5_code 17 = .ok (.invokestatic 52, 3) := by decide +kernel
theorem d_G_hasOccurrence_20 : decode prog_3_method_5_code 20 = .ok (.ifCond .eq 7, 3) := by decide +kernel
theorem d_G_hasOccurrence_23 : decode prog_3_method_5_code 23 = .ok (.iconst 1, 1) := by decide +kernel
theorem d_G_hasOccurrence_24 : decode prog_3_method_5_code 24 = .ok (.goto 4, 3) := by decide +kernel
theorem d_G_isToBeDefined_0 : decode prog_3_method_6_code 0 = .ok (.aload_n 0, 1) := by decide +kernel
theorem d_G_isToBeDefined_1 : decode prog_3_method_6_code 1 = .ok (.iload_n 1, 1) := by decide +kernel
theorem d_G_isToBeDefined_2 : decode prog_3_method_6_code 2 = .ok (.iload_n 2, 1) := by decide +kernel
theorem d_G_isToBeDefined_3 : decode prog_3_method_6_code 3 = .ok (.invokevirtual 56, 3) := by decide +kernel
theorem d_G_isToBeDefined_6 : decode prog_3_method_6_code 6 = .ok (.ifCond .eq 20, 3) := by decide +kernel
theorem d_G_isToBeDefined_26 : decode prog_3_method_6_code 26 = .ok (.iconst 0, 1) := by decide +kernel
theorem d_G_isToBeDefined_27 : decode prog_3_method_6_code 27 = .ok (.ireturn, 1) := by decide +kernel
theorem d_G_isToBeDefined_9 : decode prog_3_method_6_code 9 = .ok (.aload_n 0, 1) := by decide +kernel
theorem d_G_isToBeDefined_10 : decode prog_3_method_6_code 10 = .ok (.getfield 27, 3) := by decide +kernel
theorem d_G_isToBeDefined_13 : decode prog_3_method_6_code 13 = .ok (.iload_n 1, 1) := by decide +kernel
theorem d_G_isToBeDefined_14 : decode prog_3_method_6_code 14 = .ok (.iaload, 1) := by decide +kernel
theorem d_G_isToBeDefined_15 : decode prog_3_method_6_code 15 = .ok (.iload_n 2, 1) := by decide +kernel
theorem d_G_isToBeDefined_16 : decode prog_3_method_6_code 16 = .ok (.invokestatic 52, 3) := by decide +kernel
theorem d_G_isToBeDefined_19 : decode prog_3_method_6_code 19 = .ok (.ifCond .eq 7, 3) := by decide +kernel
theorem d_G_isToBeDefined_22 : decode prog_3_method_6_code 22 = .ok (.iconst 1, 1) := by decide +kernel
theorem d_G_isToBeDefined_23 : decode prog_3_method_6_code 23 = .ok (.goto 4, 3) := by decide +kernel
theorem d_G_isRight_0 : decode prog_3_method_7_code 0 = .ok (.iload_n 1, 1) := by decide +kernel
theorem d_G_isRight_1 : decode prog_3_method_7_code 1 = .ok (.iconst (-1), 1) := by decide +kernel
theorem d_G_isRight_2 : decode prog_3_method_7_code 2 = .ok (.if_icmp .ne 19, 3) := by decide +kernel
theorem d_G_isRight_21 : decode prog_3_method_7_code 21 = .ok (.iload_n 2, 1) := by decide +kernel
theorem d_G_isRight_22 : decode prog_3_method_7_code 22 = .ok (.iconst (-1), 1) := by decide +kernel
theorem d_G_isRight_23 : decode prog_3_method_7_code 23 = .ok (.if_icmp .ne 22, 3) := by decide +kernel
theorem d_G_isRight_45 : decode prog_3_method_7_code 45 = .ok (.aload_n 0, 1) := by decide +kernel
theorem d_G_isRight_46 : decode prog_3_method_7_code 46 = .ok (.iload_n 1, 1) := by decide +kernel
theorem d_G_isRight_47 : decode prog_3_method_7_code 47 = .ok (.invokevirtual 59, 3) := by decide +kernel
theorem d_G_isRight_50 : decode prog_3_method_7_code 50 = .ok (.ifCond .eq 28, 3) := by decide +kernel
theorem d_G_isRight_78 : decode prog_3_method_7_code 78 = .ok (.iconst 0, 1) := by decide +kernel
theorem d_G_isRight_79 : decode prog_3_method_7_code 79 = .ok (.ireturn, 1) := by decide +kernel
theorem d_G_isRight_53 : decode prog_3_method_7_code 53 = .ok (.aload_n 0, 1) := by decide +kernel
theorem d_G_isRight_54 : decode prog_3_method_7_code 54 = .ok (.iload_n 2, 1) := by decide +kernel
theorem d_G_isRight_55 : decode prog_3_method_7_code 55 = .ok (.invokevirtual 59, 3) := by decide +kernel
theorem d_G_isRight_58 : decode prog_3_method_7_code 58 = .ok (.ifCond .eq 20, 3) := by decide +kernel
theorem d_G_isRight_61 : decode prog_3_method_7_code 61 = .ok (.iload_n 3, 1) := by decide +kernel
theorem d_G_isRight_62 : decode prog_3_method_7_code 62 = .ok (.iconst (-1), 1) := by decide +kernel
theorem d_G_isRight_74 : decode prog_3_method_7_code 74 = .ok (.iconst 1, 1) := by decide +kernel
theorem d_G_isRight_75 : decode prog_3_method_7_code 75 = .ok (.goto 4, 3) := by decide +kernel
theorem d_G_isRight_63 : decode prog_3_method_7_code 63 = .ok (.if_icmp .eq 11, 3) := by decide +kernel
theorem d_G_isRight_66 : decode prog_3_method_7_code 66 = .ok (.aload_n 0, 1) := by decide +kernel
theorem d_G_isRight_67 : decode prog_3_method_7_code 67 = .ok (.iload_n 3, 1) := by decide +kernel
theorem d_G_isRight_68 : decode prog_3_method_7_code 68 = .ok (.invokevirtual 59, 3) := by decide +kernel
theorem d_G_isRight_71 : decode prog_3_method_7_code 71 = .ok (.ifCond .eq 7, 3) := by decide +kernel
theorem d_G_isRight_26 : decode prog_3_method_7_code 26 = .ok (.aload_n 0, 1) := by decide +kernel
theorem d_G_isRight_27 : decode prog_3_method_7_code 27 = .ok (.iload_n 1, 1) := by decide +kernel
theorem d_G_isRight_28 : decode prog_3_method_7_code 28 = .ok (.invokevirtual 59, 3) := by decide +kernel
theorem d_G_isRight_31 : decode prog_3_method_7_code 31 = .ok (.ifCond .eq 12, 3) := by decide +kernel
theorem d_G_isRight_43 : decode prog_3_method_7_code 43 = .ok (.iconst 0, 1) := by decide +kernel
theorem d_G_isRight_44 : decode prog_3_method_7_code 44 = .ok (.ireturn, 1) := by decide +kernel
theorem d_G_isRight_34 : decode prog_3_method_7_code 34 = .ok (.iload_n 3, 1) := by decide +kernel
theorem d_G_isRight_35 : decode prog_3_method_7_code 35 = .ok (.iconst (-1), 1) := by decide +kernel
theorem d_G_isRight_36 : decode prog_3_method_7_code 36 = .ok (.if_icmp .ne 7, 3) := by decide +kernel
theorem d_G_isRight_39 : decode prog_3_method_7_code 39 = .ok (.iconst 1, 1) := by decide +kernel
theorem d_G_isRight_40 : decode prog_3_method_7_code 40 = .ok (.goto 4, 3) := by decide +kernel
theorem d_G_isRight_5 : decode prog_3_method_7_code 5 = .ok (.iload_n 2, 1) := by decide +kernel
theorem d_G_isRight_6 : decode prog_3_method_7_code 6 = .ok (.iconst (-1), 1) := by decide +kernel
theorem d_G_isRight_7 : decode prog_3_method_7_code 7 = .ok (.if_icmp .ne 12, 3) := by decide +kernel
theorem d_G_isRight_19 : decode prog_3_method_7_code 19 = .ok (.iconst 0, 1) := by decide +kernel
theorem d_G_isRight_20 : decode prog_3_method_7_code 20 = .ok (.ireturn, 1) := by decide +kernel
theorem d_G_isRight_10 : decode prog_3_method_7_code 10 = .ok (.iload_n 3, 1) := by decide +kernel
theorem d_G_isRight_11 : decode prog_3_method_7_code 11 = .ok (.iconst (-1), 1) := by decide +kernel
theorem d_G_isRight_12 : decode prog_3_method_7_code 12 = .ok (.if_icmp .ne 7, 3) := by decide +kernel
theorem d_G_isRight_15 : decode prog_3_method_7_code 15 = .ok (.iconst 1, 1) := by decide +kernel
theorem d_G_isRight_16 : decode prog_3_method_7_code 16 = .ok (.goto 4, 3) := by decide +kernel
theorem d_G_isForm_0 : decode prog_3_method_8_code 0 = .ok (.iload_n 2, 1) := by decide +kernel
theorem d_G_isForm_1 : decode prog_3_method_8_code 1 = .ok (.ifCond .lt 46, 3) := by decide +kernel
theorem d_G_isForm_47 : decode prog_3_method_8_code 47 = .ok (.iconst 0, 1) := by decide +kernel
theorem d_G_isForm_48 : decode prog_3_method_8_code 48 = .ok (.ireturn, 1) := by decide +kernel
theorem d_G_isForm_4 : decode prog_3_method_8_code 4 = .ok (.iload_n 2, 1) := by decide +kernel
theorem d_G_isForm_5 : decode prog_3_method_8_code 5 = .ok (.bipush 7, 2) := by decide +kernel
theorem d_G_isForm_7 : decode prog_3_method_8_code 7 = .ok (.if_icmp .gt 40, 3) := by decide +kernel
theorem d_G_isForm_10 : decode prog_3_method_8_code 10 = .ok (.iload_n 2, 1) := by decide +kernel
theorem d_G_isForm_11 : decode prog_3_method_8_code 11 = .ok (.invokestatic 63, 3) := by decide +kernel
theorem d_G_isForm_26 : decode prog_3_method_8_code 26 = .ok (.iload_n 2, 1) := by decide +kernel
theorem d_G_isForm_27 : decode prog_3_method_8_code 27 = .ok (.invokestatic 66, 3) := by decide +kernel
theorem d_G_isForm_43 : decode prog_3_method_8_code 43 = .ok (.iconst 1, 1) := by decide +kernel
theorem d_G_isForm_44 : decode prog_3_method_8_code 44 = .ok (.goto 4, 3) := by decide +kernel
theorem d_G_isForm_30 : decode prog_3_method_8_code 30 = .ok (.ifCond .eq 13, 3) := by decide +kernel
theorem d_G_isForm_33 : decode prog_3_method_8_code 33 = .ok (.aload_n 0, 1) := by decide +kernel
theorem d_G_isForm_34 : decode prog_3_method_8_code 34 = .ok (.iload_n 1, 1) := by decide +kernel
theorem d_G_isForm_35 : decode prog_3_method_8_code 35 = .ok (.iload 4, 2) := by decide +kernel
theorem d_G_isForm_37 : decode prog_3_method_8_code 37 = .ok (.invokevirtual 56, 3) := by decide +kernel
theorem d_G_isForm_40 : decode prog_3_method_8_code 40 = .ok (.ifCond .eq 7, 3) := by decide +kernel
theorem d_G_isForm_14 : decode prog_3_method_8_code 14 = .ok (.ifCond .eq 12, 3) := by decide +kernel
theorem d_G_isForm_17 : decode prog_3_method_8_code 17 = .ok (.aload_n 0, 1) := by decide +kernel
theorem d_G_isForm_18 : decode prog_3_method_8_code 18 = .ok (.iload_n 1, 1) := by decide +kernel
theorem d_G_isForm_19 : decode prog_3_method_8_code 19 = .ok (.iload_n 3, 1) := by decide +kernel
theorem d_G_isForm_20 : decode prog_3_method_8_code 20 = .ok (.invokevirtual 56, 3) := by decide +kernel
theorem d_G_isForm_23 : decode prog_3_method_8_code 23 = .ok (.ifCond .eq 24, 3) := by decide +kernel
theorem d_G_symbolAt_0 : decode prog_3_method_9_code 0 = .ok (.aload_n 0, 1) := by decide +kernel
theorem d_G_symbolAt_1 : decode prog_3_method_9_code 1 = .ok (.getfield 18, 3) := by decide +kernel
theorem d_G_symbolAt_4 : decode prog_3_method_9_code 4 = .ok (.iload_n 1, 1) := by decide +kernel
theorem d_G_symbolAt_5 : decode prog_3_method_9_code 5 = .ok (.iconst 4, 1) := by decide +kernel
theorem d_G_symbolAt_6 : decode prog_3_method_9_code 6 = .ok (.imul, 1) := by decide +kernel
theorem d_G_symbolAt_7 : decode prog_3_method_9_code 7 = .ok (.iload_n 2, 1) := by decide +kernel
theorem d_G_symbolAt_8 : decode prog_3_method_9_code 8 = .ok (.iadd, 1) := by decide +kernel
theorem d_G_symbolAt_9 : decode prog_3_method_9_code 9 = .ok (.iaload, 1) := by decide +kernel
theorem d_G_symbolAt_10 : decode prog_3_method_9_code 10 = .ok (.ireturn, 1) := by decide +kernel
theorem d_G_allAttributes_0 : decode prog_3_method_14_code 0 = .ok (.iconst 1, 1) := by decide +kernel
theorem d_G_allAttributes_1 : decode prog_3_method_14_code 1 = .ok (.aload_n 0, 1) := by decide +kernel
theorem d_G_allAttributes_2 : decode prog_3_method_14_code 2 = .ok (.getfield 9, 3) := by decide +kernel
theorem d_G_allAttributes_5 : decode prog_3_method_14_code 5 = .ok (.iload_n 1, 1) := by decide +kernel
theorem d_G_allAttributes_6 : decode prog_3_method_14_code 6 = .ok (.iaload, 1) := by decide +kernel
theorem d_G_allAttributes_7 : decode prog_3_method_14_code 7 = .ok (.ishl, 1) := by decide +kernel
theorem d_G_allAttributes_8 : decode prog_3_method_14_code 8 = .ok (.iconst 1, 1) := by decide +kernel
theorem d_G_allAttributes_9 : decode prog_3_method_14_code 9 = .ok (.isub, 1) := by decide +kernel
theorem d_G_allAttributes_10 : decode prog_3_method_14_code 10 = .ok (.ireturn, 1) := by decide +kernel
theorem d_G_addSymbol_0 : decode prog_3_method_10_code 0 = .ok (.aload_n 0, 1) := by decide +kernel
theorem d_G_addSymbol_1 : decode prog_3_method_10_code 1 = .ok (.getfield 45, 3) := by decide +kernel
theorem d_G_addSymbol_4 : decode prog_3_method_10_code 4 = .ok (.istore_n 3, 1) := by decide +kernel
theorem d_G_addSymbol_5 : decode prog_3_method_10_code 5 = .ok (.aload_n 0, 1) := by decide +kernel
theorem d_G_addSymbol_6 : decode prog_3_method_10_code 6 = .ok (.getfield 9, 3) := by decide +kernel
theorem d_G_addSymbol_9 : decode prog_3_method_10_code 9 = .ok (.iload_n 3, 1) := by decide +kernel
theorem d_G_addSymbol_10 : decode prog_3_method_10_code 10 = .ok (.iload_n 1, 1) := by decide +kernel
theorem d_G_addSymbol_11 : decode prog_3_method_10_code 11 = .ok (.iastore, 1) := by decide +kernel
theorem d_G_addSymbol_12 : decode prog_3_method_10_code 12 = .ok (.aload_n 0, 1) := by decide +kernel
theorem d_G_addSymbol_13 : decode prog_3_method_10_code 13 = .ok (.getfield 15, 3) := by decide +kernel
theorem d_G_addSymbol_16 : decode prog_3_method_10_code 16 = .ok (.iload_n 3, 1) := by decide +kernel
theorem d_G_addSymbol_17 : decode prog_3_method_10_code 17 = .ok (.iload_n 2, 1) := by decide +kernel
theorem d_G_addSymbol_18 : decode prog_3_method_10_code 18 = .ok (.aload_n 0, 1) := by decide +kernel
theorem d_G_addSymbol_19 : decode prog_3_method_10_code 19 = .ok (.iload_n 3, 1) := by decide +kernel
theorem d_G_addSymbol_20 : decode prog_3_method_10_code 20 = .ok (.invokevirtual 69, 3) := by decide +kernel
theorem d_G_addSymbol_23 : decode prog_3_method_10_code 23 = .ok (.iand, 1) := by decide +kernel
theorem d_G_addSymbol_24 : decode prog_3_method_10_code 24 = .ok (.iastore, 1) := by decide +kernel
theorem d_G_addSymbol_25 : decode prog_3_method_10_code 25 = .ok (.aload_n 0, 1) := by decide +kernel
theorem d_G_addSymbol_26 : decode prog_3_method_10_code 26 = .ok (.dup, 1) := by decide +kernel
theorem d_G_addSymbol_27 : decode prog_3_method_10_code 27 = .ok (.getfield 45, 3) := by decide +kernel
theorem d_G_addSymbol_30 : decode prog_3_method_10_code 30 = .ok (.iconst 1, 1) := by decide +kernel
theorem d_G_addSymbol_31 : decode prog_3_method_10_code 31 = .ok (.iadd, 1) := by decide +kernel
theorem d_G_addSymbol_32 : decode prog_3_method_10_code 32 = .ok (.putfield 45, 3) := by decide +kernel
theorem d_G_addSymbol_35 : decode prog_3_method_10_code 35 = .ok (.iload_n 3, 1) := by decide +kernel
theorem d_G_addSymbol_36 : decode prog_3_method_10_code 36 = .ok (.ireturn, 1) := by decide +kernel
theorem d_G_place_0 : decode prog_3_method_12_code 0 = .ok (.iload_n 3, 1) := by decide +kernel
theorem d_G_place_1 : decode prog_3_method_12_code 1 = .ok (.iconst (-1), 1) := by decide +kernel
theorem d_G_place_2 : decode prog_3_method_12_code 2 = .ok (.if_icmp .ne 4, 3) := by decide +kernel
theorem d_G_place_6 : decode prog_3_method_12_code 6 = .ok (.aload_n 0, 1) := by decide +kernel
theorem d_G_place_7 : decode prog_3_method_12_code 7 = .ok (.getfield 15, 3) := by decide +kernel
theorem d_G_place_10 : decode prog_3_method_12_code 10 = .ok (.iload_n 3, 1) := by decide +kernel
theorem d_G_place_11 : decode prog_3_method_12_code 11 = .ok (.iaload, 1) := by decide +kernel
theorem d_G_place_12 : decode prog_3_method_12_code 12 = .ok (.istore 4, 2) := by decide +kernel
theorem d_G_place_14 : decode prog_3_method_12_code 14 = .ok (.aload_n 0, 1) := by decide +kernel
theorem d_G_place_15 : decode prog_3_method_12_code 15 = .ok (.iload_n 3, 1) := by decide +kernel
theorem d_G_place_16 : decode prog_3_method_12_code 16 = .ok (.invokevirtual 69, 3) := by decide +kernel
theorem d_G_place_19 : decode prog_3_method_12_code 19 = .ok (.istore 5, 2) := by decide +kernel
theorem d_G_place_21 : decode prog_3_method_12_code 21 = .ok (.iload_n 2, 1) := by decide +kernel
theorem d_G_place_37 : decode prog_3_method_12_code 37 = .ok (.istore 6, 2) := by decide +kernel
theorem d_G_place_39 : decode prog_3_method_12_code 39 = .ok (.iload_n 2, 1) := by decide +kernel
theorem d_G_place_40 : decode prog_3_method_12_code 40 = .ok (.iconst 4, 1) := by decide +kernel
theorem d_G_place_41 : decode prog_3_method_12_code 41 = .ok (.imul, 1) := by decide +kernel
theorem d_G_place_42 : decode prog_3_method_12_code 42 = .ok (.istore 7, 2) := by decide +kernel
theorem d_G_place_44 : decode prog_3_method_12_code 44 = .ok (.aload_n 0, 1) := by decide +kernel
theorem d_G_place_45 : decode prog_3_method_12_code 45 = .ok (.getfield 18, 3) := by decide +kernel
theorem d_G_place_48 : decode prog_3_method_12_code 48 = .ok (.iload_n 1, 1) := by decide +kernel
theorem d_G_place_49 : decode prog_3_method_12_code 49 = .ok (.iconst 4, 1) := by decide +kernel
theorem d_G_place_50 : decode prog_3_method_12_code 50 = .ok (.imul, 1) := by decide +kernel
theorem d_G_place_51 : decode prog_3_method_12_code 51 = .ok (.iload_n 2, 1) := by decide +kernel
theorem d_G_place_52 : decode prog_3_method_12_code 52 = .ok (.iadd, 1) := by decide +kernel
theorem d_G_place_53 : decode prog_3_method_12_code 53 = .ok (.iload_n 3, 1) := by decide +kernel
theorem d_G_place_54 : decode prog_3_method_12_code 54 = .ok (.iastore, 1) := by decide +kernel
theorem d_G_place_55 : decode prog_3_method_12_code 55 = .ok (.aload_n 0, 1) := by decide +kernel
theorem d_G_place_56 : decode prog_3_method_12_code 56 = .ok (.getfield 21, 3) := by decide +kernel
theorem d_G_place_59 : decode prog_3_method_12_code 59 = .ok (.iload_n 1, 1) := by decide +kernel
theorem d_G_place_60 : decode prog_3_method_12_code 60 = .ok (.iload_n 2, 1) := by decide +kernel
theorem d_G_place_61 : decode prog_3_method_12_code 61 = .ok (.iastore, 1) := by decide +kernel
theorem d_G_place_62 : decode prog_3_method_12_code 62 = .ok (.aload_n 0, 1) := by decide +kernel
theorem d_G_place_63 : decode prog_3_method_12_code 63 = .ok (.getfield 24, 3) := by decide +kernel
theorem d_G_place_66 : decode prog_3_method_12_code 66 = .ok (.iload_n 1, 1) := by decide +kernel
theorem d_G_place_67 : decode prog_3_method_12_code 67 = .ok (.dup2, 1) := by decide +kernel
theorem d_G_place_68 : decode prog_3_method_12_code 68 = .ok (.iaload, 1) := by decide +kernel
theorem d_G_place_69 : decode prog_3_method_12_code 69 = .ok (.iload 5, 2) := by decide +kernel
theorem d_G_place_71 : decode prog_3_method_12_code 71 = .ok (.iload 7, 2) := by decide +kernel
theorem d_G_place_73 : decode prog_3_method_12_code 73 = .ok (.ishl, 1) := by decide +kernel
theorem d_G_place_74 : decode prog_3_method_12_code 74 = .ok (.ior, 1) := by decide +kernel
theorem d_G_place_75 : decode prog_3_method_12_code 75 = .ok (.iastore, 1) := by decide +kernel
theorem d_G_place_76 : decode prog_3_method_12_code 76 = .ok (.aload_n 0, 1) := by decide +kernel
theorem d_G_place_77 : decode prog_3_method_12_code 77 = .ok (.getfield 27, 3) := by decide +kernel
theorem d_G_place_80 : decode prog_3_method_12_code 80 = .ok (.iload_n 1, 1) := by decide +kernel
theorem d_G_place_81 : decode prog_3_method_12_code 81 = .ok (.dup2, 1) := by decide +kernel
theorem d_G_place_82 : decode prog_3_method_12_code 82 = .ok (.iaload, 1) := by decide +kernel
theorem d_G_place_83 : decode prog_3_method_12_code 83 = .ok (.iload 6, 2) := by decide +kernel
theorem d_G_place_85 : decode prog_3_method_12_code 85 = .ok (.iload 7, 2) := by decide +kernel
theorem d_G_place_87 : decode prog_3_method_12_code 87 = .ok (.ishl, 1) := by decide +kernel
theorem d_G_place_88 : decode prog_3_method_12_code 88 = .ok (.ior, 1) := by decide +kernel
theorem d_G_place_89 : decode prog_3_method_12_code 89 = .ok (.iastore, 1) := by decide +kernel
theorem d_G_place_90 : decode prog_3_method_12_code 90 = .ok (.return_, 1) := by decide +kernel
theorem d_G_place_22 : decode prog_3_method_12_code 22 = .ok (.ifCond .ne 13, 3) := by decide +kernel
theorem d_G_place_35 : decode prog_3_method_12_code 35 = .ok (.iload 4, 2) := by decide +kernel
theorem d_G_place_25 : decode prog_3_method_12_code 25 = .ok (.iload 5, 2) := by decide +kernel
theorem d_G_place_27 : decode prog_3_method_12_code 27 = .ok (.iload 4, 2) := by decide +kernel
theorem d_G_place_29 : decode prog_3_method_12_code 29 = .ok (.iconst (-1), 1) := by decide +kernel
theorem d_G_place_30 : decode prog_3_method_12_code 30 = .ok (.ixor, 1) := by decide +kernel
theorem d_G_place_31 : decode prog_3_method_12_code 31 = .ok (.iand, 1) := by decide +kernel
theorem d_G_place_32 : decode prog_3_method_12_code 32 = .ok (.goto 5, 3) := by decide +kernel
theorem d_G_place_5 : decode prog_3_method_12_code 5 = .ok (.return_, 1) := by decide +kernel
theorem d_G_addProduction_0 : decode prog_3_method_11_code 0 = .ok (.aload_n 0, 1) := by decide +kernel
theorem d_G_addProduction_1 : decode prog_3_method_11_code 1 = .ok (.getfield 49, 3) := by decide +kernel
theorem d_G_addProduction_4 : decode prog_3_method_11_code 4 = .ok (.istore 5, 2) := by decide +kernel
theorem d_G_addProduction_6 : decode prog_3_method_11_code 6 = .ok (.aload_n 0, 1) := by decide +kernel
theorem d_G_addProduction_7 : decode prog_3_method_11_code 7 = .ok (.dup, 1) := by decide +kernel
theorem d_G_addProduction_8 : decode prog_3_method_11_code 8 = .ok (.getfield 49, 3) := by decide +kernel
theorem d_G_addProduction_11 : decode prog_3_method_11_code 11 = .ok (.iconst 1, 1) := by decide +kernel
theorem d_G_addProduction_12 : decode prog_3_method_11_code 12 = .ok (.iadd, 1) := by decide +kernel
theorem d_G_addProduction_13 : decode prog_3_method_11_code 13 = .ok (.putfield 49, 3) := by decide +kernel
theorem d_G_addProduction_16 : decode prog_3_method_11_code 16 = .ok (.aload_n 0, 1) := by decide +kernel
theorem d_G_addProduction_17 : decode prog_3_method_11_code 17 = .ok (.iload 5, 2) := by decide +kernel
theorem d_G_addProduction_19 : decode prog_3_method_11_code 19 = .ok (.iconst 0, 1) := by decide +kernel
theorem d_G_addProduction_20 : decode prog_3_method_11_code 20 = .ok (.iload_n 1, 1) := by decide +kernel
theorem d_G_addProduction_21 : decode prog_3_method_11_code 21 = .ok (.invokevirtual 73, 3) := by decide +kernel
theorem d_G_addProduction_24 : decode prog_3_method_11_code 24 = .ok (.aload_n 0, 1) := by decide +kernel
theorem d_G_addProduction_25 : decode prog_3_method_11_code 25 = .ok (.iload 5, 2) := by decide +kernel
theorem d_G_addProduction_27 : decode prog_3_method_11_code 27 = .ok (.iconst 1, 1) := by decide +kernel
theorem d_G_addProduction_28 : decode prog_3_method_11_code 28 = .ok (.iload_n 2, 1) := by decide +kernel
theorem d_G_addProduction_29 : decode prog_3_method_11_code 29 = .ok (.invokevirtual 73, 3) := by decide +kernel
theorem d_G_addProduction_32 : decode prog_3_method_11_code 32 = .ok (.aload_n 0, 1) := by decide +kernel
theorem d_G_addProduction_33 : decode prog_3_method_11_code 33 = .ok (.iload 5, 2) := by decide +kernel
theorem d_G_addProduction_35 : decode prog_3_method_11_code 35 = .ok (.iconst 2, 1) := by decide +kernel
theorem d_G_addProduction_36 : decode prog_3_method_11_code 36 = .ok (.iload_n 3, 1) := by decide +kernel
theorem d_G_addProduction_37 : decode prog_3_method_11_code 37 = .ok (.invokevirtual 73, 3) := by decide +kernel
theorem d_G_addProduction_40 : decode prog_3_method_11_code 40 = .ok (.aload_n 0, 1) := by decide +kernel
theorem d_G_addProduction_41 : decode prog_3_method_11_code 41 = .ok (.iload 5, 2) := by decide +kernel
theorem d_G_addProduction_43 : decode prog_3_method_11_code 43 = .ok (.iconst 3, 1) := by decide +kernel
theorem d_G_addProduction_44 : decode prog_3_method_11_code 44 = .ok (.iload 4, 2) := by decide +kernel
theorem d_G_addProduction_46 : decode prog_3_method_11_code 46 = .ok (.invokevirtual 73, 3) := by decide +kernel
theorem d_G_addProduction_49 : decode prog_3_method_11_code 49 = .ok (.iload 5, 2) := by decide +kernel
theorem d_G_addProduction_51 : decode prog_3_method_11_code 51 = .ok (.ireturn, 1) := by decide +kernel
theorem d_G_setRule_0 : decode prog_3_method_13_code 0 = .ok (.iload_n 1, 1) := by decide +kernel
theorem d_G_setRule_1 : decode prog_3_method_13_code 1 = .ok (.bipush 16, 2) := by decide +kernel
theorem d_G_setRule_3 : decode prog_3_method_13_code 3 = .ok (.imul, 1) := by decide +kernel
theorem d_G_setRule_4 : decode prog_3_method_13_code 4 = .ok (.iload_n 2, 1) := by decide +kernel
theorem d_G_setRule_5 : decode prog_3_method_13_code 5 = .ok (.iadd, 1) := by decide +kernel
theorem d_G_setRule_6 : decode prog_3_method_13_code 6 = .ok (.istore 6, 2) := by decide +kernel
theorem d_G_setRule_8 : decode prog_3_method_13_code 8 = .ok (.aload_n 0, 1) := by decide +kernel
theorem d_G_setRule_9 : decode prog_3_method_13_code 9 = .ok (.getfield 33, 3) := by decide +kernel
theorem d_G_setRule_12 : decode prog_3_method_13_code 12 = .ok (.iload 6, 2) := by decide +kernel
