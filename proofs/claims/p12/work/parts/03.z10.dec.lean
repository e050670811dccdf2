theorem d_A_noneLeadsToItself_4 : decode prog_2_method_7_code 4 = .ok (.getfield 18, 3) := by decide +kernel
theorem d_A_noneLeadsToItself_7 : decode prog_2_method_7_code 7 = .ok (.getfield 52, 3) := by decide +kernel
theorem d_A_noneLeadsToItself_10 : decode prog_2_method_7_code 10 = .ok (.if_icmp .ge 32, 3) := by decide +kernel
theorem d_A_noneLeadsToItself_42 : decode prog_2_method_7_code 42 = .ok (.iconst 1, 1) := by decide +kernel
theorem d_A_noneLeadsToItself_43 : decode prog_2_method_7_code 43 = .ok (.ireturn, 1) := by decide +kernel
theorem d_A_noneLeadsToItself_13 : decode prog_2_method_7_code 13 = .ok (.aload_n 0, 1) := by decide +kernel
theorem d_A_noneLeadsToItself_14 : decode prog_2_method_7_code 14 = .ok (.getfield 27, 3) := by decide +kernel
theorem d_A_noneLeadsToItself_17 : decode prog_2_method_7_code 17 = .ok (.iload_n 2, 1) := by decide +kernel
theorem d_A_noneLeadsToItself_18 : decode prog_2_method_7_code 18 = .ok (.invokevirtual 101, 3) := by decide +kernel
theorem d_A_noneLeadsToItself_21 : decode prog_2_method_7_code 21 = .ok (.istore_n 3, 1) := by decide +kernel
theorem d_A_noneLeadsToItself_22 : decode prog_2_method_7_code 22 = .ok (.iload_n 3, 1) := by decide +kernel
theorem d_A_noneLeadsToItself_23 : decode prog_2_method_7_code 23 = .ok (.iconst (-1), 1) := by decide +kernel
theorem d_A_noneLeadsToItself_24 : decode prog_2_method_7_code 24 = .ok (.if_icmp .eq 12, 3) := by decide +kernel
theorem d_A_noneLeadsToItself_36 : decode prog_2_method_7_code 36 = .ok (.iinc 2 1, 3) := by decide +kernel
theorem d_A_noneLeadsToItself_39 : decode prog_2_method_7_code 39 = .ok (.goto (-37), 3) := by decide +kernel
theorem d_A_noneLeadsToItself_27 : decode prog_2_method_7_code 27 = .ok (.aload_n 0, 1) := by decide +kernel
theorem d_A_noneLeadsToItself_28 : decode prog_2_method_7_code 28 = .ok (.iload_n 1, 1) := by decide +kernel
theorem d_A_noneLeadsToItself_29 : decode prog_2_method_7_code 29 = .ok (.iload_n 2, 1) := by decide +kernel
theorem d_A_noneLeadsToItself_30 : decode prog_2_method_7_code 30 = .ok (.iload_n 3, 1) := by decide +kernel
theorem d_A_noneLeadsToItself_31 : decode prog_2_method_7_code 31 = .ok (.invokevirtual 81, 3) := by decide +kernel
theorem d_A_noneLeadsToItself_34 : decode prog_2_method_7_code 34 = .ok (.iconst 0, 1) := by decide +kernel
theorem d_A_noneLeadsToItself_35 : decode prog_2_method_7_code 35 = .ok (.ireturn, 1) := by decide +kernel
theorem d_A_isWithoutCircle_0 : decode prog_2_method_5_code 0 = .ok (.aload_n 0, 1) := by decide +kernel
theorem d_A_isWithoutCircle_1 : decode prog_2_method_5_code 1 = .ok (.getfield 27, 3) := by decide +kernel
theorem d_A_isWithoutCircle_4 : decode prog_2_method_5_code 4 = .ok (.invokevirtual 85, 3) := by decide +kernel
theorem d_A_isWithoutCircle_7 : decode prog_2_method_5_code 7 = .ok (.aload_n 0, 1) := by decide +kernel
theorem d_A_isWithoutCircle_8 : decode prog_2_method_5_code 8 = .ok (.iconst 2, 1) := by decide +kernel
theorem d_A_isWithoutCircle_9 : decode prog_2_method_5_code 9 = .ok (.invokevirtual 88, 3) := by decide +kernel
theorem d_A_isWithoutCircle_12 : decode prog_2_method_5_code 12 = .ok (.ireturn, 1) := by decide +kernel
theorem d_A_isOrdered_0 : decode prog_2_method_6_code 0 = .ok (.aload_n 0, 1) := by decide +kernel
theorem d_A_isOrdered_1 : decode prog_2_method_6_code 1 = .ok (.getfield 36, 3) := by decide +kernel
theorem d_A_isOrdered_4 : decode prog_2_method_6_code 4 = .ok (.invokevirtual 92, 3) := by decide +kernel
theorem d_A_isOrdered_7 : decode prog_2_method_6_code 7 = .ok (.aload_n 0, 1) := by decide +kernel
theorem d_A_isOrdered_8 : decode prog_2_method_6_code 8 = .ok (.getfield 36, 3) := by decide +kernel
theorem d_A_isOrdered_11 : decode prog_2_method_6_code 11 = .ok (.invokevirtual 95, 3) := by decide +kernel
theorem d_A_isOrdered_14 : decode prog_2_method_6_code 14 = .ok (.aload_n 0, 1) := by decide +kernel
theorem d_A_isOrdered_15 : decode prog_2_method_6_code 15 = .ok (.getfield 27, 3) := by decide +kernel
theorem d_A_isOrdered_18 : decode prog_2_method_6_code 18 = .ok (.invokevirtual 98, 3) := by decide +kernel
theorem d_A_isOrdered_21 : decode prog_2_method_6_code 21 = .ok (.aload_n 0, 1) := by decide +kernel
theorem d_A_isOrdered_22 : decode prog_2_method_6_code 22 = .ok (.iconst 3, 1) := by decide +kernel
theorem d_A_isOrdered_23 : decode prog_2_method_6_code 23 = .ok (.invokevirtual 88, 3) := by decide +kernel
theorem d_A_isOrdered_26 : decode prog_2_method_6_code 26 = .ok (.ireturn, 1) := by decide +kernel
theorem d_A_make_0 : decode prog_2_method_2_code 0 = .ok (.aload_n 0, 1) := by decide +kernel
theorem d_A_make_1 : decode prog_2_method_2_code 1 = .ok (.invokevirtual 49, 3) := by decide +kernel
theorem d_A_make_4 : decode prog_2_method_2_code 4 = .ok (.aload_n 0, 1) := by decide +kernel
theorem d_A_make_5 : decode prog_2_method_2_code 5 = .ok (.aload_n 0, 1) := by decide +kernel
theorem d_A_make_6 : decode prog_2_method_2_code 6 = .ok (.getfield 18, 3) := by decide +kernel
theorem d_A_make_9 : decode prog_2_method_2_code 9 = .ok (.getfield 52, 3) := by decide +kernel
theorem d_A_make_40 : decode prog_2_method_2_code 40 = .ok (.iconst 0, 1) := by decide +kernel
theorem d_A_make_41 : decode prog_2_method_2_code 41 = .ok (.putfield 67, 3) := by decide +kernel
theorem d_A_make_44 : decode prog_2_method_2_code 44 = .ok (.aload_n 0, 1) := by decide +kernel
theorem d_A_make_45 : decode prog_2_method_2_code 45 = .ok (.getfield 67, 3) := by decide +kernel
theorem d_A_make_48 : decode prog_2_method_2_code 48 = .ok (.ifCond .eq 10, 3) := by decide +kernel
theorem d_A_make_58 : decode prog_2_method_2_code 58 = .ok (.return_, 1) := by decide +kernel
theorem d_A_make_51 : decode prog_2_method_2_code 51 = .ok (.aload_n 0, 1) := by decide +kernel
theorem d_A_make_52 : decode prog_2_method_2_code 52 = .ok (.getfield 45, 3) := by decide +kernel
theorem d_A_make_55 : decode prog_2_method_2_code 55 = .ok (.invokevirtual 71, 3) := by decide +kernel
theorem d_A_make_12 : decode prog_2_method_2_code 12 = .ok (.ifCond .le 28, 3) := by decide +kernel
theorem d_A_make_15 : decode prog_2_method_2_code 15 = .ok (.aload_n 0, 1) := by decide +kernel
theorem d_A_make_16 : decode prog_2_method_2_code 16 = .ok (.invokevirtual 57, 3) := by decide +kernel
theorem d_A_make_19 : decode prog_2_method_2_code 19 = .ok (.ifCond .eq 21, 3) := by decide +kernel
theorem d_A_make_22 : decode prog_2_method_2_code 22 = .ok (.aload_n 0, 1) := by decide +kernel
theorem d_A_make_23 : decode prog_2_method_2_code 23 = .ok (.invokevirtual 61, 3) := by decide +kernel
theorem d_A_make_26 : decode prog_2_method_2_code 26 = .ok (.ifCond .eq 14, 3) := by decide +kernel
theorem d_A_make_29 : decode prog_2_method_2_code 29 = .ok (.aload_n 0, 1) := by decide +kernel
theorem d_A_make_30 : decode prog_2_method_2_code 30 = .ok (.invokevirtual 64, 3) := by decide +kernel
theorem d_A_make_33 : decode prog_2_method_2_code 33 = .ok (.ifCond .eq 7, 3) := by decide +kernel
theorem d_A_make_36 : decode prog_2_method_2_code 36 = .ok (.iconst 1, 1) := by decide +kernel
theorem d_A_make_37 : decode prog_2_method_2_code 37 = .ok (.goto 4, 3) := by decide +kernel
theorem d_M_thrown_0 : decode prog_10_method_2_code 0 = .ok (.aload_n 0, 1) := by decide +kernel
theorem d_M_thrown_1 : decode prog_10_method_2_code 1 = .ok (.getfield 99, 3) := by decide +kernel
theorem d_M_thrown_4 : decode prog_10_method_2_code 4 = .ok (.ireturn, 1) := by decide +kernel
theorem d_M_fail_0 : decode prog_10_method_3_code 0 = .ok (.aload_n 0, 1) := by decide +kernel
theorem d_M_fail_1 : decode prog_10_method_3_code 1 = .ok (.iload_n 1, 1) := by decide +kernel
theorem d_M_fail_2 : decode prog_10_method_3_code 2 = .ok (.putfield 99, 3) := by decide +kernel
theorem d_M_fail_5 : decode prog_10_method_3_code 5 = .ok (.iconst 0, 1) := by decide +kernel
theorem d_M_fail_6 : decode prog_10_method_3_code 6 = .ok (.ireturn, 1) := by decide +kernel
theorem d_M_endRun_0 : decode prog_10_method_4_code 0 = .ok (.aload_n 0, 1) := by decide +kernel
theorem d_M_endRun_1 : decode prog_10_method_4_code 1 = .ok (.iconst (-1), 1) := by decide +kernel
theorem d_M_endRun_2 : decode prog_10_method_4_code 2 = .ok (.putfield 93, 3) := by decide +kernel
theorem d_M_endRun_5 : decode prog_10_method_4_code 5 = .ok (.aload_n 0, 1) := by decide +kernel
theorem d_M_endRun_6 : decode prog_10_method_4_code 6 = .ok (.iconst (-1), 1) := by decide +kernel
theorem d_M_endRun_7 : decode prog_10_method_4_code 7 = .ok (.putfield 96, 3) := by decide +kernel
theorem d_M_endRun_10 : decode prog_10_method_4_code 10 = .ok (.iconst 0, 1) := by decide +kernel
theorem d_M_endRun_11 : decode prog_10_method_4_code 11 = .ok (.istore_n 1, 1) := by decide +kernel
theorem d_M_endRun_12 : decode prog_10_method_4_code 12 = .ok (.iload_n 1, 1) := by decide +kernel
theorem d_M_endRun_13 : decode prog_10_method_4_code 13 = .ok (.sipush 160, 3) := by decide +kernel
theorem d_M_endRun_16 : decode prog_10_method_4_code 16 = .ok (.if_icmp .ge 16, 3) := by decide +kernel
theorem d_M_endRun_32 : decode prog_10_method_4_code 32 = .ok (.return_, 1) := by decide +kernel
theorem d_M_endRun_19 : decode prog_10_method_4_code 19 = .ok (.aload_n 0, 1) := by decide +kernel
theorem d_M_endRun_20 : decode prog_10_method_4_code 20 = .ok (.getfield 84, 3) := by decide +kernel
theorem d_M_endRun_23 : decode prog_10_method_4_code 23 = .ok (.iload_n 1, 1) := by decide +kernel
theorem d_M_endRun_24 : decode prog_10_method_4_code 24 = .ok (.iconst 0, 1) := by decide +kernel
theorem d_M_endRun_25 : decode prog_10_method_4_code 25 = .ok (.bastore, 1) := by decide +kernel
theorem d_M_endRun_26 : decode prog_10_method_4_code 26 = .ok (.iinc 1 1, 3) := by decide +kernel
theorem d_M_endRun_29 : decode prog_10_method_4_code 29 = .ok (.goto (-17), 3) := by decide +kernel
theorem d_M_forget_0 : decode prog_10_method_5_code 0 = .ok (.aload_n 0, 1) := by decide +kernel
theorem d_M_forget_1 : decode prog_10_method_5_code 1 = .ok (.iconst 0, 1) := by decide +kernel
theorem d_M_forget_2 : decode prog_10_method_5_code 2 = .ok (.putfield 102, 3) := by decide +kernel
theorem d_M_forget_5 : decode prog_10_method_5_code 5 = .ok (.aload_n 0, 1) := by decide +kernel
theorem d_M_forget_6 : decode prog_10_method_5_code 6 = .ok (.invokevirtual 106, 3) := by decide +kernel
theorem d_M_forget_9 : decode prog_10_method_5_code 9 = .ok (.return_, 1) := by decide +kernel
theorem d_M_symbol_0 : decode prog_10_method_6_code 0 = .ok (.aload_n 0, 1) := by decide +kernel
theorem d_M_symbol_1 : decode prog_10_method_6_code 1 = .ok (.iload_n 1, 1) := by decide +kernel
theorem d_M_symbol_28 : decode prog_10_method_6_code 28 = .ok (.putfield 99, 3) := by decide +kernel
theorem d_M_symbol_31 : decode prog_10_method_6_code 31 = .ok (.aload_n 0, 1) := by decide +kernel
theorem d_M_symbol_32 : decode prog_10_method_6_code 32 = .ok (.getfield 99, 3) := by decide +kernel
theorem d_M_symbol_35 : decode prog_10_method_6_code 35 = .ok (.ifCond .le 5, 3) := by decide +kernel
theorem d_M_symbol_40 : decode prog_10_method_6_code 40 = .ok (.aload_n 0, 1) := by decide +kernel
theorem d_M_symbol_41 : decode prog_10_method_6_code 41 = .ok (.getfield 7, 3) := by decide +kernel
theorem d_M_symbol_44 : decode prog_10_method_6_code 44 = .ok (.aload_n 0, 1) := by decide +kernel
theorem d_M_symbol_45 : decode prog_10_method_6_code 45 = .ok (.getfield 109, 3) := by decide +kernel
theorem d_M_symbol_48 : decode prog_10_method_6_code 48 = .ok (.iload_n 1, 1) := by decide +kernel
theorem d_M_symbol_49 : decode prog_10_method_6_code 49 = .ok (.iastore, 1) := by decide +kernel
theorem d_M_symbol_50 : decode prog_10_method_6_code 50 = .ok (.iconst 0, 1) := by decide +kernel
theorem d_M_symbol_51 : decode prog_10_method_6_code 51 = .ok (.istore_n 3, 1) := by decide +kernel
theorem d_M_symbol_52 : decode prog_10_method_6_code 52 = .ok (.iload_n 3, 1) := by decide +kernel
theorem d_M_symbol_53 : decode prog_10_method_6_code 53 = .ok (.iconst 4, 1) := by decide +kernel
theorem d_M_symbol_54 : decode prog_10_method_6_code 54 = .ok (.if_icmp .ge 41, 3) := by decide +kernel
theorem d_M_symbol_95 : decode prog_10_method_6_code 95 = .ok (.aload_n 0, 1) := by decide +kernel
theorem d_M_symbol_96 : decode prog_10_method_6_code 96 = .ok (.dup, 1) := by decide +kernel
theorem d_M_symbol_97 : decode prog_10_method_6_code 97 = .ok (.getfield 109, 3) := by decide +kernel
theorem d_M_symbol_100 : decode prog_10_method_6_code 100 = .ok (.iconst 1, 1) := by decide +kernel
theorem d_M_symbol_101 : decode prog_10_method_6_code 101 = .ok (.iadd, 1) := by decide +kernel
theorem d_M_symbol_102 : decode prog_10_method_6_code 102 = .ok (.putfield 109, 3) := by decide +kernel
theorem d_M_symbol_105 : decode prog_10_method_6_code 105 = .ok (.aload_n 0, 1) := by decide +kernel
theorem d_M_symbol_106 : decode prog_10_method_6_code 106 = .ok (.invokevirtual 112, 3) := by decide +kernel
theorem d_M_symbol_109 : decode prog_10_method_6_code 109 = .ok (.aload_n 0, 1) := by decide +kernel
theorem d_M_symbol_110 : decode prog_10_method_6_code 110 = .ok (.getfield 109, 3) := by decide +kernel
theorem d_M_symbol_113 : decode prog_10_method_6_code 113 = .ok (.iconst 1, 1) := by decide +kernel
theorem d_M_symbol_114 : decode prog_10_method_6_code 114 = .ok (.isub, 1) := by decide +kernel
theorem d_M_symbol_115 : decode prog_10_method_6_code 115 = .ok (.ireturn, 1) := by decide +kernel
theorem d_M_symbol_57 : decode prog_10_method_6_code 57 = .ok (.aload_n 0, 1) := by decide +kernel
theorem d_M_symbol_58 : decode prog_10_method_6_code 58 = .ok (.getfield 13, 3) := by decide +kernel
theorem d_M_symbol_61 : decode prog_10_method_6_code 61 = .ok (.iconst 4, 1) := by decide +kernel
theorem d_M_symbol_62 : decode prog_10_method_6_code 62 = .ok (.aload_n 0, 1) := by decide +kernel
theorem d_M_symbol_63 : decode prog_10_method_6_code 63 = .ok (.getfield 109, 3) := by decide +kernel
theorem d_M_symbol_66 : decode prog_10_method_6_code 66 = .ok (.imul, 1) := by decide +kernel
theorem d_M_symbol_67 : decode prog_10_method_6_code 67 = .ok (.iload_n 3, 1) := by decide +kernel
theorem d_M_symbol_68 : decode prog_10_method_6_code 68 = .ok (.iadd, 1) := by decide +kernel
theorem d_M_symbol_69 : decode prog_10_method_6_code 69 = .ok (.iload_n 3, 1) := by decide +kernel
theorem d_M_symbol_70 : decode prog_10_method_6_code 70 = .ok (.iload_n 1, 1) := by decide +kernel
theorem d_M_symbol_88 : decode prog_10_method_6_code 88 = .ok (.bastore, 1) := by decide +kernel
theorem d_M_symbol_89 : decode prog_10_method_6_code 89 = .ok (.iinc 3 1, 3) := by decide +kernel
theorem d_M_symbol_92 : decode prog_10_method_6_code 92 = .ok (.goto (-40), 3) := by decide +kernel
theorem d_M_symbol_87 : decode prog_10_method_6_code 87 = .ok (.iconst 0, 1) := by decide +kernel
theorem d_M_symbol_71 : decode prog_10_method_6_code 71 = .ok (.if_icmp .ge 16, 3) := by decide +kernel
theorem d_M_symbol_74 : decode prog_10_method_6_code 74 = .ok (.iload_n 2, 1) := by decide +kernel
theorem d_M_symbol_75 : decode prog_10_method_6_code 75 = .ok (.iload_n 3, 1) := by decide +kernel
theorem d_M_symbol_76 : decode prog_10_method_6_code 76 = .ok (.ishr, 1) := by decide +kernel
theorem d_M_symbol_77 : decode prog_10_method_6_code 77 = .ok (.iconst 1, 1) := by decide +kernel
theorem d_M_symbol_78 : decode prog_10_method_6_code 78 = .ok (.iand, 1) := by decide +kernel
theorem d_M_symbol_79 : decode prog_10_method_6_code 79 = .ok (.iconst 1, 1) := by decide +kernel
theorem d_M_symbol_80 : decode prog_10_method_6_code 80 = .ok (.if_icmp .ne 7, 3) := by decide +kernel
theorem d_M_symbol_83 : decode prog_10_method_6_code 83 = .ok (.iconst 1, 1) := by decide +kernel
theorem d_M_symbol_84 : decode prog_10_method_6_code 84 = .ok (.goto 4, 3) := by decide +kernel
theorem d_M_symbol_38 : decode prog_10_method_6_code 38 = .ok (.iconst 0, 1) := by decide +kernel
theorem d_M_symbol_39 : decode prog_10_method_6_code 39 = .ok (.ireturn, 1) := by decide +kernel
theorem d_M_symbol_10 : decode prog_10_method_6_code 10 = .ok (.iconst 1, 1) := by decide +kernel
theorem d_M_symbol_11 : decode prog_10_method_6_code 11 = .ok (.goto 17, 3) := by decide +kernel
theorem d_M_symbol_2 : decode prog_10_method_6_code 2 = .ok (.ifCond .lt 8, 3) := by decide +kernel
theorem d_M_symbol_5 : decode prog_10_method_6_code 5 = .ok (.iload_n 1, 1) := by decide +kernel
theorem d_M_symbol_6 : decode prog_10_method_6_code 6 = .ok (.iconst 4, 1) := by decide +kernel
theorem d_M_symbol_7 : decode prog_10_method_6_code 7 = .ok (.if_icmp .le 7, 3) := by decide +kernel
theorem d_M_symbol_14 : decode prog_10_method_6_code 14 = .ok (.aload_n 0, 1) := by decide +kernel
theorem d_M_symbol_15 : decode prog_10_method_6_code 15 = .ok (.getfield 109, 3) := by decide +kernel
theorem d_M_symbol_18 : decode prog_10_method_6_code 18 = .ok (.bipush 6, 2) := by decide +kernel
theorem d_M_symbol_20 : decode prog_10_method_6_code 20 = .ok (.if_icmp .ne 7, 3) := by decide +kernel
theorem d_M_symbol_27 : decode prog_10_method_6_code 27 = .ok (.iconst 0, 1) := by decide +kernel
theorem d_M_symbol_23 : decode prog_10_method_6_code 23 = .ok (.iconst 2, 1) := by decide +kernel
theorem d_M_symbol_24 : decode prog_10_method_6_code 24 = .ok (.goto 4, 3) := by decide +kernel
theorem d_M_isSymbol_0 : decode prog_10_method_7_code 0 = .ok (.iload_n 1, 1) := by decide +kernel
theorem d_M_isSymbol_1 : decode prog_10_method_7_code 1 = .ok (.ifCond .lt 15, 3) := by decide +kernel
theorem d_M_isSymbol_16 : decode prog_10_method_7_code 16 = .ok (.iconst 0, 1) := by decide +kernel
theorem d_M_isSymbol_17 : decode prog_10_method_7_code 17 = .ok (.ireturn, 1) := by decide +kernel
theorem d_M_isSymbol_4 : decode prog_10_method_7_code 4 = .ok (.iload_n 1, 1) := by decide +kernel
theorem d_M_isSymbol_5 : decode prog_10_method_7_code 5 = .ok (.aload_n 0, 1) := by decide +kernel
theorem d_M_isSymbol_6 : decode prog_10_method_7_code 6 = .ok (.getfield 109, 3) := by decide +kernel
theorem d_M_isSymbol_9 : decode prog_10_method_7_code 9 = .ok (.if_icmp .ge 7, 3) := by decide +kernel
theorem d_M_isSymbol_12 : decode prog_10_method_7_code 12 = .ok (.iconst 1, 1) := by decide +kernel
theorem d_M_isSymbol_13 : decode prog_10_method_7_code 13 = .ok (.goto 4, 3) := by decide +kernel
theorem d_M_production_0 : decode prog_10_method_8_code 0 = .ok (.iload_n 2, 1) := by decide +kernel
theorem d_M_production_1 : decode prog_10_method_8_code 1 = .ok (.iconst (-1), 1) := by decide +kernel
theorem d_M_production_29 : decode prog_10_method_8_code 29 = .ok (.istore 5, 2) := by decide +kernel
theorem d_M_production_31 : decode prog_10_method_8_code 31 = .ok (.iload_n 3, 1) := by decide +kernel
theorem d_M_production_32 : decode prog_10_method_8_code 32 = .ok (.iconst (-1), 1) := by decide +kernel
theorem d_M_production_55 : decode prog_10_method_8_code 55 = .ok (.istore 6, 2) := by decide +kernel
theorem d_M_production_57 : decode prog_10_method_8_code 57 = .ok (.iload 4, 2) := by decide +kernel
theorem d_M_production_59 : decode prog_10_method_8_code 59 = .ok (.iconst (-1), 1) := by decide +kernel
theorem d_M_production_77 : decode prog_10_method_8_code 77 = .ok (.istore 7, 2) := by decide +kernel
theorem d_M_production_79 : decode prog_10_method_8_code 79 = .ok (.aload_n 0, 1) := by decide +kernel
theorem d_M_production_80 : decode prog_10_method_8_code 80 = .ok (.aload_n 0, 1) := by decide +kernel
theorem d_M_production_81 : decode prog_10_method_8_code 81 = .ok (.iload_n 1, 1) := by decide +kernel
theorem d_M_production_82 : decode prog_10_method_8_code 82 = .ok (.invokevirtual 115, 3) := by decide +kernel
theorem d_M_production_121 : decode prog_10_method_8_code 121 = .ok (.putfield 99, 3) := by decide +kernel
theorem d_M_production_124 : decode prog_10_method_8_code 124 = .ok (.aload_n 0, 1) := by decide +kernel
theorem d_M_production_125 : decode prog_10_method_8_code 125 = .ok (.getfield 99, 3) := by decide +kernel
theorem d_M_production_128 : decode prog_10_method_8_code 128 = .ok (.ifCond .le 5, 3) := by decide +kernel
theorem d_M_production_133 : decode prog_10_method_8_code 133 = .ok (.aload_n 0, 1) := by decide +kernel
theorem d_M_production_134 : decode prog_10_method_8_code 134 = .ok (.getfield 119, 3) := by decide +kernel
