theorem d_A_noneLeadsToItself_4 : decode prog_2_method_7_code 4 = .ok (.getfield 18, 3) := by decide +kernel
theorem d_A_noneLeadsToItself_7 : decode prog_2_method_7_code 7 = .ok (.getfield 52, 3) := by decide +kernel
theorem d_A_noneLeadsToItself_10 : decode prog_2_method_7_code 10 = .ok (.if_icmp .ge 32, 3) := by decide +kernel
theorem d_A_noneLeadsToItself_42 : decode prog_2_method_7_code 42 = .ok (.iconst 1, 1) := by decide +kernel
theorem d_A_noneLeadsToItself_43 : decode prog_2_method_7_code 43 = .ok (.ireturn, 1) := by decide +kernel
theorem d_A_noneLeadsToItself_13 : decode prog_2_method_7_code 13 = .ok (.aload_n 0, 1) := by decide +kernel
theorem d_A_noneLeadsToItself_14 : decode prog_2_method_7_code 14 = .ok (.getfield 27, 3) := by decide +kernel
theorem d_A_noneLeadsToItself_17 : decode prog_2_method_7_code 17 = .ok (.iload_n 2, 1) := by decide +kernel
theorem d_A_noneLeadsToItself_18 : decode prog_2_method_7_code 18 = .ok (.invokevirtual 101, 3) := by decide +kernel
theorem d_A_noneLeadsToItself_21 : decode prog_2_method_7_code 21 = .ok (.istore_n 3, 1) := by decide +kernel
theorem d_A_noneLeadsToItself_22 : decode prog_2_method_7_code 22 = .ok (.iload_n 3, 1) := by decide +kernel
theorem d_A_noneLeadsToItself_23 : decode prog_2_method_7_code 23 = .ok (.iconst (-1), 1) := by decide +kernel
theorem d_A_noneLeadsToItself_24 : decode prog_2_method_7_code 24 = .ok (.if_icmp .eq 12, 3) := by decide +kernel
theorem d_A_noneLeadsToItself_36 : decode prog_2_method_7_code 36 = .ok (.iinc 2 1, 3) := by decide +kernel
theorem d_A_noneLeadsToItself_39 : decode prog_2_method_7_code 39 = .ok (.goto (-37), 3) := by decide +kernel
theorem d_A_noneLeadsToItself_27 : decode prog_2_method_7_code 27 = .ok (.aload_n 0, 1) := by decide +kernel
theorem d_A_noneLeadsToItself_28 : decode prog_2_method_7_code 28 = .ok (.iload_n 1, 1) := by decide +kernel
theorem d_A_noneLeadsToItself_29 : decode prog_2_method_7_code 29 = .ok (.iload_n 2, 1) := by decide +kernel
theorem d_A_noneLeadsToItself_30 : decode prog_2_method_7_code 30 = .ok (.iload_n 3, 1) := by decide +kernel
theorem d_A_noneLeadsToItself_31 : decode prog_2_method_7_code 31 = .ok (.invokevirtual 81, 3) := by decide +kernel
theorem d_A_noneLeadsToItself_34 : decode prog_2_method_7_code 34 = .ok (.iconst 0, 1) := by decide +kernel
theorem d_A_noneLeadsToItself_35 : decode prog_2_method_7_code 35 = .ok (.ireturn, 1) := by decide +kernel
theorem d_A_isWithoutCircle_0 : decode prog_2_method_5_code 0 = .ok (.aload_n 0, 1) := by decide +kernel
theorem d_A_isWithoutCircle_1 : decode prog_2_method_5_code 1 = .ok (.getfield 27, 3) := by decide +kernel
theorem d_A_isWithoutCircle_4 : decode prog_2_method_5_code 4 = .ok (.invokevirtual 85, 3) := by decide +kernel
theorem d_A_isWithoutCircle_7 : decode prog_2_method_5_code 7 = .ok (.aload_n 0, 1) := by decide +kernel
theorem d_A_isWithoutCircle_8 : decode prog_2_method_5_code 8 = .ok (.iconst 2, 1) := by decide +kernel
theorem d_A_isWithoutCircle_9 : decode prog_2_method_5_code 9 = .ok (.invokevirtual 88, 3) := by decide +kernel
theorem d_A_isWithoutCircle_12 : decode prog_2_method_5_code 12 = .ok (.ireturn, 1) := by decide +kernel
theorem d_A_isOrdered_0 : decode prog_2_method_6_code 0 = .ok (.aload_n 0, 1) := by decide +kernel
theorem d_A_isOrdered_1 : decode prog_2_method_6_code 1 = .ok (.getfield 36, 3) := by decide +kernel
theorem d_A_isOrdered_4 : decode prog_2_method_6_code 4 = .ok (.invokevirtual 92, 3) := by decide +kernel
theorem d_A_isOrdered_7 : decode prog_2_method_6_code 7 = .ok (.aload_n 0, 1) := by decide +kernel
theorem d_A_isOrdered_8 : decode prog_2_method_6_code 8 = .ok (.getfield 36, 3) := by decide +kernel
theorem d_A_isOrdered_11 : decode prog_2_method_6_code 11 = .ok (.invokevirtual 95, 3) := by decide +kernel
theorem d_A_isOrdered_14 : decode prog_2_method_6_code 14 = .ok (.aload_n 0, 1) := by decide +kernel
theorem d_A_isOrdered_15 : decode prog_2_method_6_code 15 = .ok (.getfield 27, 3) := by decide +kernel
theorem d_A_isOrdered_18 : decode prog_2_method_6_code 18 = .ok (.invokevirtual 98, 3) := by decide +kernel
theorem d_A_isOrdered_21 : decode prog_2_method_6_code 21 = .ok (.aload_n 0, 1) := by decide +kernel
theorem d_A_isOrdered_22 : decode prog_2_method_6_code 22 = .ok (.iconst 3, 1) := by decide +kernel
theorem d_A_isOrdered_23 : decode prog_2_method_6_code 23 = .ok (.invokevirtual 88, 3) := by decide +kernel
theorem d_A_isOrdered_26 : decode prog_2_method_6_code 26 = .ok (.ireturn, 1) := by decide +kernel
theorem d_A_make_0 : decode prog_2_method_2_code 0 = .ok (.aload_n 0, 1) := by decide +kernel
theorem d_A_make_1 : decode prog_2_method_2_code 1 = .ok (.invokevirtual 49, 3) := by decide +kernel
theorem d_A_make_4 : decode prog_2_method_2_code 4 = .ok (.aload_n 0, 1) := by decide +kernel
theorem d_A_make_5 : decode prog_2_method_2_code 5 = .ok (.aload_n 0, 1) := by decide +kernel
theorem d_A_make_6 : decode prog_2_method_2_code 6 = .ok (.getfield 18, 3) := by decide +kernel
theorem d_A_make_9 : decode prog_2_method_2_code 9 = .ok (.getfield 52, 3) := by decide +kernel
theorem d_A_make_40 : decode prog_2_method_2_code 40 = .ok (.iconst 0, 1) := by decide +kernel
theorem d_A_make_41 : decode prog_2_method_2_code 41 = .ok (.putfield 67, 3) := by decide +kernel
theorem d_A_make_44 : decode prog_2_method_2_code 44 = .ok (.aload_n 0, 1) := by decide +kernel
theorem d_A_make_45 : decode prog_2_method_2_code 45 = .ok (.getfield 67, 3) := by decide +kernel
theorem d_A_make_48 : decode prog_2_method_2_code 48 = .ok (.ifCond .eq 10, 3) := by decide +kernel
theorem d_A_make_58 : decode prog_2_method_2_code 58 = .ok (.return_, 1) := by decide +kernel
theorem d_A_make_51 : decode prog_2_method_2_code 51 = .ok (.aload_n 0, 1) := by decide +kernel
theorem d_A_make_52 : decode prog_2_method_2_code 52 = .ok (.getfield 45, 3) := by decide +kernel
theorem d_A_make_55 : decode prog_2_method_2_code 55 = .ok (.invokevirtual 71, 3) := by decide +kernel
theorem d_A_make_12 : decode prog_2_method_2_code 12 = .ok (.ifCond .le 28, 3) := by decide +kernel
theorem d_A_make_15 : decode prog_2_method_2_code 15 = .ok (.aload_n 0, 1) := by decide +kernel
theorem d_A_make_16 : decode prog_2_method_2_code 16 = .ok (.invokevirtual 57, 3) := by decide +kernel
theorem d_A_make_19 : decode prog_2_method_2_code 19 = .ok (.ifCond .eq 21, 3) := by decide +kernel
theorem d_A_make_22 : decode prog_2_method_2_code 22 = .ok (.aload_n 0, 1) := by decide +kernel
theorem d_A_make_23 : decode prog_2_method_2_code 23 = .ok (.invokevirtual 61, 3) := by decide +kernel
theorem d_A_make_26 : decode prog_2_method_2_code 26 = .ok (.ifCond .eq 14, 3) := by decide +kernel
theorem d_A_make_29 : decode prog_2_method_2_code 29 = .ok (.aload_n 0, 1) := by decide +kernel
theorem d_A_make_30 : decode prog_2_method_2_code 30 = .ok (.invokevirtual 64, 3) := by decide +kernel
theorem d_A_make_33 : decode prog_2_method_2_code 33 = .ok (.ifCond .eq 7, 3) := by decide +kernel
theorem d_A_make_36 : decode prog_2_method_2_code 36 = .ok (.iconst 1, 1) := by decide +kernel
theorem d_A_make_37 : decode prog_2_method_2_code 37 = .ok (.goto 4, 3) := by decide +kernel
theorem d_M_thrown_0 : decode prog_10_method_2_code 0 = .ok (.aload_n 0, 1) := by decide +kernel
theorem d_M_thrown_1 : decode prog_10_method_2_code 1 = .ok (.getfield 99, 3) := by decide +kernel
theorem d_M_thrown_4 : decode prog_10_method_2_code 4 = .ok (.ireturn, 1) := by decide +kernel
theorem d_M_fail_0 : decode prog_10_method_3_code 0 = .ok (.aload_n 0, 1) := by decide +kernel
theorem d_M_fail_1 : decode prog_10_method_3_code 1 = .ok (.iload_n 1, 1) := by decide +kernel
theorem d_M_fail_2 : decode prog_10_method_3_code 2 = .ok (.putfield 99, 3) := by decide +kernel
theorem d_M_fail_5 : decode prog_10_method_3_code 5 = .ok (.iconst 0, 1) := by decide +kernel
theorem d_M_fail_6 : decode prog_10_method_3_code 6 = .ok (.ireturn, 1) := by decide +kernel
theorem d_M_endRun_0 : decode prog_10_method_4_code 0 = .ok (.aload_n 0, 1) := by decide +kernel
theorem d_M_endRun_1 : decode prog_10_method_4_code 1 = .ok (.iconst (-1), 1) := by decide +kernel
theorem d_M_endRun_2 : decode prog_10_method_4_code 2 = .ok (.putfield 93, 3) := by decide +kernel
theorem d_M_endRun_5 : decode prog_10_method_4_code 5 = .ok (.aload_n 0, 1) := by decide +kernel
theorem d_M_endRun_6 : decode prog_10_method_4_code 6 = .ok (.iconst (-1), 1) := by decide +kernel
theorem d_M_endRun_7 : decode prog_10_method_4_code 7 = .ok (.putfield 96, 3) := by decide +kernel
theorem d_M_endRun_10 : decode prog_10_method_4_code 10 = .ok (.iconst 0, 1) := by decide +kernel
theorem d_M_endRun_11 : decode prog_10_method_4_code 11 = .ok (.istore_n 1, 1) := by decide +kernel
theorem d_M_endRun_12 : decode prog_10_method_4_code 12 = .ok (.iload_n 1, 1) := by decide +kernel
theorem d_M_endRun_13 : decode prog_10_method_4_code 13 = .ok (.sipush 160, 3) := by decide +kernel
theorem d_M_endRun_16 : decode prog_10_method_4_code 16 = .ok (.if_icmp .ge 16, 3) := by decide +kernel
theorem d_M_endRun_32 : decode prog_10_method_4_code 32 = .ok (.return_, 1) := by decide +kernel
theorem d_M_endRun_19 : decode prog_10_method_4_code 19 = .ok (.aload_n 0, 1) := by decide +kernel
theorem d_M_endRun_20 : decode prog_10_method_4_code 20 = .ok (.getfield 84, 3) := by decide +kernel
theorem d_M_endRun_23 : decode prog_10_method_4_code 23 = .ok (.iload_n 1, 1) := by decide +kernel
theorem d_M_endRun_24 : decode prog_10_method_4_code 24 = .ok (.iconst 0, 1) := by decide +kernel
theorem d_M_endRun_25 : decode prog_10_method_4_code 25 = .ok (.bastore, 1) := by decide +kernel
theorem d_M_endRun_26 : decode prog_10_method_4_code 26 = .ok (.iinc 1 1, 3) := by decide +kernel
theorem d_M_endRun_29 : decode prog_10_method_4_code 29 = .ok (.goto (-17), 3) := by decide +kernel
theorem d_M_forget_0 : decode prog_10_method_5_code 0 = .ok (.aload_n 0, 1) := by decide +kernel
theorem d_M_forget_1 : decode prog_10_method_5_code 1 = .ok (.iconst 0, 1) := by decide +kernel
theorem d_M_forget_2 : decode prog_10_method_5_code 2 = .ok (.putfield 102, 3) := by decide +kernel
theorem d_M_forget_5 : decode prog_10_method_5_code 5 = .ok (.aload_n 0, 1) := by decide +kernel
theorem d_M_forget_6 : decode prog_10_method_5_code 6 = .ok (.invokevirtual 106, 3) := by decide +kernel
theorem d_M_forget_9 : decode prog_10_method_5_code 9 = .ok (.return_, 1) := by decide +kernel
theorem d_M_symbol_0 : decode prog_10_method_6_code 0 = .ok (.aload_n 0, 1) := by decide +kernel
theorem d_M_symbol_1 : decode prog_10_method_6_code 1 = .ok (.iload_n 1, 1) := by decide +kernel
theorem d_M_symbol_28 : decode prog_10_method_6_code 28 = .ok (.putfield 99, 3) := by decide +kernel
theorem d_M_symbol_31 : decode prog_10_method_6_code 31 = .ok (.aload_n 0, 1) := by decide +kernel
theorem d_M_symbol_32 : decode prog_10_method_6_code 32 = .ok (.getfield 99, 3) := by decide +kernel
theorem d_M_symbol_35 : decode prog_10_method_6_code 35 = .ok (.ifCond .le 5, 3) := by decide +kernel
theorem d_M_symbol_40 : decode prog_10_method_6_code 40 = .ok (.aload_n 0, 1) := by decide +kernel
theorem d_M_symbol_41 : decode prog_10_method_6_code 41 = .ok (.getfield 7, 3) := by decide +kernel
theorem d_M_symbol_44 : decode prog_10_method_6_code 44 = .ok (.aload_n 0, 1) := by decide +kernel
theorem d_M_symbol_45 : decode prog_10_method_6_code 45 = .ok (.getfield 109, 3) := by decide +kernel
theorem d_M_symbol_48 : decode prog_10_method_6_code 48 = .ok (.iload_n 1, 1) := by decide +kernel
theorem d_M_symbol_49 : decode prog_10_method_6_code 49 = .ok (.iastore, 1) := by decide +kernel
theorem d_M_symbol_50 : decode prog_10_method_6_code 50 = .ok (.iconst 0, 1) := by decide +kernel
theorem d_M_symbol_51 : decode prog_10_method_6_code 51 = .ok (.istore_n 3, 1) := by decide +kernel
theorem d_M_symbol_52 : decode prog_10_method_6_code 52 = .ok (.iload_n 3, 1) := by decide +kernel
theorem d_M_symbol_53 : decode prog_10_method_6_code 53 = .ok (.iconst 4, 1) := by decide +kernel
theorem d_M_symbol_54 : decode prog_10_method_6_code 54 = .ok (.if_icmp .ge 41, 3) := by decide +kernel
theorem d_M_symbol_95 : decode prog_10_method_6_code 95 = .ok (.aload_n 0, 1) := by decide +kernel
theorem d_M_symbol_96 : decode prog_10_method_6_code 96 = .ok (.dup, 1) := by decide +kernel
theorem d_M_symbol_97 : decode prog_10_method_6_code 97 = .ok (.getfield 109, 3) := by decide +kernel
theorem d_M_symbol_100 : decode prog_10_method_6_code 100 = .ok (.iconst 1, 1) := by decide +kernel
theorem d_M_symbol_101 : decode prog_10_method_6_code 101 = .ok (.iadd, 1) := by decide +kernel
theorem d_M_symbol_102 : decode prog_10_method_6_code 102 = .ok (.putfield 109, 3) := by decide +kernel
theorem d_M_symbol_105 : decode prog_10_method_6_code 105 = .ok (.aload_n 0, 1) := by decide +kernel
theorem d_M_symbol_106 : decode prog_10_method_6_code 106 = .ok (.invokevirtual 112, 3) := by decide +kernel
theorem d_M_symbol_109 : decode prog_10_method_6_code 109 = .ok (.aload_n 0, 1) := by decide +kernel
theorem d_M_symbol_110 : decode prog_10_method_6_code 110 = .ok (.getfield 109, 3) := by decide +kernel
theorem d_M_symbol_113 : decode prog_10_method_6_code 113 = .ok (.iconst 1, 1) := by decide +kernel
theorem d_M_symbol_114 : decode prog_10_method_6_code 114 = .ok (.isub, 1) := by decide +kernel
theorem d_M_symbol_115 : decode prog_10_method_6_code 115 = .ok (.ireturn, 1) := by decide +kernel
theorem d_M_symbol_57 : decode prog_10_method_6_code 57 = .ok (.aload_n 0, 1) := by decide +kernel
theorem d_M_symbol_58 : decode prog_10_method_6_code 58 = .ok (.getfield 13, 3) := by decide +kernel
theorem d_M_symbol_61 : decode prog_10_method_6_code 61 = .ok (.iconst 4, 1) := by decide +kernel
theorem d_M_symbol_62 : decode prog_10_method_6_code 62 = .ok (.aload_n 0, 1) := by decide +kernel
theorem d_M_symbol_63 : decode prog_10_method_6_code 63 = .ok (.getfield 109, 3) := by decide +kernel
theorem d_M_symbol_66 : decode prog_10_method_6_code 66 = .ok (.imul, 1) := by decide +kernel
theorem d_M_symbol_67 : decode prog_10_method_6_code 67 = .ok (.iload_n 3, 1) := by decide +kernel
theorem d_M_symbol_68 : decode prog_10_method_6_code 68 = .ok (.iadd, 1) := by decide +kernel
theorem d_M_symbol_69 : decode prog_10_method_6_code 69 = .ok (.iload_n 3, 1) := by decide +kernel
theorem d_M_symbol_70 : decode prog_10_method_6_code 70 = .ok (.iload_n 1, 1) := by decide +kernel
theorem d_M_symbol_88 : decode prog_10_method_6_code 88 = .ok (.bastore, 1) := by decide +kernel
theorem d_M_symbol_89 : decode prog_10_method_6_code 89 = .ok (.iinc 3 1, 3) := by decide +kernel
theorem d_M_symbol_92 : decode prog_10_method_6_code 92 = .ok (.goto (-40), 3) := by decide +kernel
theorem d_M_symbol_87 : decode prog_10_method_6_code 87 = .ok (.iconst 0, 1) := by decide +kernel
theorem d_M_symbol_71 : decode prog_10_method_6_code 71 = .ok (.if_icmp .ge 16, 3) := by decide +kernel
theorem d_M_symbol_74 : decode prog_10_method_6_code 74 = .ok (.iload_n 2, 1) := by decide +kernel
theorem d_M_symbol_75 : decode prog_10_method_6_code 75 = .ok (.iload_n 3, 1) := by decide +kernel
theorem d_M_symbol_76 : decode prog_10_method_6_code 76 = .ok (.ishr, 1) := by decide +kernel
theorem d_M_symbol_77 : decode prog_10_method_6_code 77 = .ok (.iconst 1, 1) := by decide +kernel
theorem d_M_symbol_78 : decode prog_10_method_6_code 78 = .ok (.iand, 1) := by decide +kernel
theorem d_M_symbol_79 : decode prog_10_method_6_code 79 = .ok (.iconst 1, 1) := by decide +kernel
theorem d_M_symbol_80 : decode prog_10_method_6_code 80 = .ok (.if_icmp .ne 7, 3) := by decide +kernel
theorem d_M_symbol_83 : decode prog_10_method_6_code 83 = .ok (.iconst 1, 1) := by decide +kernel
theorem d_M_symbol_84 : decode prog_10_method_6_code 84 = .ok (.goto 4, 3) := by decide +kernel
theorem d_M_symbol_38 : decode prog_10_method_6_code 38 = .ok (.iconst 0, 1) := by decide +kernel
theorem d_M_symbol_39 : decode prog_10_method_6_code 39 = .ok (.ireturn, 1) := by decide +kernel
theorem d_M_symbol_10 : decode prog_10_method_6_code 10 = .ok (.iconst 1, 1) := by decide +kernel
theorem d_M_symbol_11 : decode prog_10_method_6_code 11 = .ok (.goto 17, 3) := by decide +kernel
theorem d_M_symbol_2 : decode prog_10_method_6_code 2 = .ok (.ifCond .lt 8, 3) := by decide +kernel
theorem d_M_symbol_5 : decode prog_10_method_6_code 5 = .ok (.iload_n 1, 1) := by decide +kernel
theorem d_M_symbol_6 : decode prog_10_method_6_code 6 = .ok (.iconst 4, 1) := by decide +kernel
theorem d_M_symbol_7 : decode prog_10_method_6_code 7 = .ok (.if_icmp .le 7, 3) := by decide +kernel
theorem d_M_symbol_14 : decode prog_10_method_6_code 14 = .ok (.aload_n 0, 1) := by decide +kernel
theorem d_M_symbol_15 : decode prog_10_method_6_code 15 = .ok (.getfield 109, 3) := by decide +kernel
theorem d_M_symbol_18 : decode prog_10_method_6_code 18 = .ok (.bipush 6, 2) := by decide +kernel
theorem d_M_symbol_20 : decode prog_10_method_6_code 20 = .ok (.if_icmp .ne 7, 3) := by decide +kernel
theorem d_M_symbol_27 : decode prog_10_method_6_code 27 = .ok (.iconst 0, 1) := by decide +kernel
theorem d_M_symbol_23 : decode prog_10_method_6_code 23 = .ok (.iconst 2, 1) := by decide +kernel
theorem d_M_symbol_24 : decode prog_10_method_6_code 24 = .ok (.goto 4, 3) := by decide +kernel
theorem d_M_isSymbol_0 : decode prog_10_method_7_code 0 = .ok (.iload_n 1, 1) := by decide +kernel
theorem d_M_isSymbol_1 : decode prog_10_method_7_code 1 = .ok (.ifCond .lt 15, 3) := by decide +kernel
theorem d_M_isSymbol_16 : decode prog_10_method_7_code 16 = .ok (.iconst 0, 1) := by decide +kernel
theorem d_M_isSymbol_17 : decode prog_10_method_7_code 17 = .ok (.ireturn, 1) := by decide +kernel
theorem d_M_isSymbol_4 : decode prog_10_method_7_code 4 = .ok (.iload_n 1, 1) := by decide +kernel
theorem d_M_isSymbol_5 : decode prog_10_method_7_code 5 = .ok (.aload_n 0, 1) := by decide +kernel
theorem d_M_isSymbol_6 : decode prog_10_method_7_code 6 = .ok (.getfield 109, 3) := by decide +kernel
theorem d_M_isSymbol_9 : decode prog_10_method_7_code 9 = .ok (.if_icmp .ge 7, 3) := by decide +kernel
theorem d_M_isSymbol_12 : decode prog_10_method_7_code 12 = .ok (.iconst 1, 1) := by decide +kernel
theorem d_M_isSymbol_13 : decode prog_10_method_7_code 13 = .ok (.goto 4, 3) := by decide +kernel
theorem d_M_production_0 : decode prog_10_method_8_code 0 = .ok (.iload_n 2, 1) := by decide +kernel
theorem d_M_production_1 : decode prog_10_method_8_code 1 = .ok (.iconst (-1), 1) := by decide +kernel
theorem d_M_production_29 : decode prog_10_method_8_code 29 = .ok (.istore 5, 2) := by decide +kernel
theorem d_M_production_31 : decode prog_10_method_8_code 31 = .ok (.iload_n 3, 1) := by decide +kernel
theorem d_M_production_32 : decode prog_10_method_8_code 32 = .ok (.iconst (-1), 1) := by decide +kernel
theorem d_M_production_55 : decode prog_10_method_8_code 55 = .ok (.istore 6, 2) := by decide +kernel
theorem d_M_production_57 : decode prog_10_method_8_code 57 = .ok (.iload 4, 2) := by decide +kernel
theorem d_M_production_59 : decode prog_10_method_8_code 59 = .ok (.iconst (-1), 1) := by decide +kernel
theorem d_M_production_77 : decode prog_10_method_8_code 77 = .ok (.istore 7, 2) := by decide +kernel
theorem d_M_production_79 : decode prog_10_method_8_code 79 = .ok (.aload_n 0, 1) := by decide +kernel
theorem d_M_production_80 : decode prog_10_method_8_code 80 = .ok (.aload_n 0, 1) := by decide +kernel
theorem d_M_production_81 : decode prog_10_method_8_code 81 = .ok (.iload_n 1, 1) := by decide +kernel
theorem d_M_production_82 : decode prog_10_method_8_code 82 = .ok (.invokevirtual 115, 3) := by decide +kernel
theorem d_M_production_121 : decode prog_10_method_8_code 121 = .ok (.putfield 99, 3) := by decide +kernel
theorem d_M_production_124 : decode prog_10_method_8_code 124 = .ok (.aload_n 0, 1) := by decide +kernel
theorem d_M_production_125 : decode prog_10_method_8_code 125 = .ok (.getfield 99, 3) := by decide +kernel
theorem d_M_production_128 : decode prog_10_method_8_code 128 = .ok (.ifCond .le 5, 3) := by decide +kernel
theorem d_M_production_133 : decode prog_10_method_8_code 133 = .ok (.aload_n 0, 1) := by decide +kernel
theorem d_M_production_134 : decode prog_10_method_8_code 134 = .ok (.getfield 119, 3) := by decide +kernel
theorem d_M_production_137 : decode prog_10_method_8_code 137 = .ok (.istore 8, 2) := by decide +kernel
theorem d_M_production_139 : decode prog_10_method_8_code 139 = .ok (.aload_n 0, 1) := by decide +kernel
theorem d_M_production_140 : decode prog_10_method_8_code 140 = .ok (.getfield 20, 3) := by decide +kernel
theorem d_M_production_143 : decode prog_10_method_8_code 143 = .ok (.iconst 4, 1) := by decide +kernel
theorem d_M_production_144 : decode prog_10_method_8_code 144 = .ok (.iload 8, 2) := by decide +kernel
theorem d_M_production_146 : decode prog_10_method_8_code 146 = .ok (.imul, 1) := by decide +kernel
theorem d_M_production_147 : decode prog_10_method_8_code 147 = .ok (.iload_n 1, 1) := by decide +kernel
theorem d_M_production_148 : decode prog_10_method_8_code 148 = .ok (.iastore, 1) := by decide +kernel
theorem d_M_production_149 : decode prog_10_method_8_code 149 = .ok (.aload_n 0, 1) := by decide +kernel
theorem d_M_production_150 : decode prog_10_method_8_code 150 = .ok (.getfield 20, 3) := by decide +kernel
theorem d_M_production_153 : decode prog_10_method_8_code 153 = .ok (.iconst 4, 1) := by decide +kernel
theorem d_M_production_154 : decode prog_10_method_8_code 154 = .ok (.iload 8, 2) := by decide +kernel
theorem d_M_production_156 : decode prog_10_method_8_code 156 = .ok (.imul, 1) := by decide +kernel
theorem d_M_production_157 : decode prog_10_method_8_code 157 = .ok (.iconst 1, 1) := by decide +kernel
theorem d_M_production_158 : decode prog_10_method_8_code 158 = .ok (.iadd, 1) := by decide +kernel
theorem d_M_production_159 : decode prog_10_method_8_code 159 = .ok (.iload_n 2, 1) := by decide +kernel
theorem d_M_production_160 : decode prog_10_method_8_code 160 = .ok (.iastore, 1) := by decide +kernel
theorem d_M_production_161 : decode prog_10_method_8_code 161 = .ok (.aload_n 0, 1) := by decide +kernel
theorem d_M_production_162 : decode prog_10_method_8_code 162 = .ok (.getfield 20, 3) := by decide +kernel
theorem d_M_production_165 : decode prog_10_method_8_code 165 = .ok (.iconst 4, 1) := by decide +kernel
theorem d_M_production_166 : decode prog_10_method_8_code 166 = .ok (.iload 8, 2) := by decide +kernel
theorem d_M_production_168 : decode prog_10_method_8_code 168 = .ok (.imul, 1) := by decide +kernel
theorem d_M_production_169 : decode prog_10_method_8_code 169 = .ok (.iconst 2, 1) := by decide +kernel
theorem d_M_production_170 : decode prog_10_method_8_code 170 = .ok (.iadd, 1) := by decide +kernel
theorem d_M_production_171 : decode prog_10_method_8_code 171 = .ok (.iload_n 3, 1) := by decide +kernel
theorem d_M_production_172 : decode prog_10_method_8_code 172 = .ok (.iastore, 1) := by decide +kernel
theorem d_M_production_173 : decode prog_10_method_8_code 173 = .ok (.aload_n 0, 1) := by decide +kernel
theorem d_M_production_174 : decode prog_10_method_8_code 174 = .ok (.getfield 20, 3) := by decide +kernel
theorem d_M_production_177 : decode prog_10_method_8_code 177 = .ok (.iconst 4, 1) := by decide +kernel
theorem d_M_production_178 : decode prog_10_method_8_code 178 = .ok (.iload 8, 2) := by decide +kernel
theorem d_M_production_180 : decode prog_10_method_8_code 180 = .ok (.imul, 1) := by decide +kernel
theorem d_M_production_181 : decode prog_10_method_8_code 181 = .ok (.iconst 3, 1) := by decide +kernel
theorem d_M_production_182 : decode prog_10_method_8_code 182 = .ok (.iadd, 1) := by decide +kernel
theorem d_M_production_183 : decode prog_10_method_8_code 183 = .ok (.iload 4, 2) := by decide +kernel
theorem d_M_production_185 : decode prog_10_method_8_code 185 = .ok (.iastore, 1) := by decide +kernel
theorem d_M_production_186 : decode prog_10_method_8_code 186 = .ok (.aload_n 0, 1) := by decide +kernel
theorem d_M_production_187 : decode prog_10_method_8_code 187 = .ok (.getfield 17, 3) := by decide +kernel
theorem d_M_production_190 : decode prog_10_method_8_code 190 = .ok (.iload 8, 2) := by decide +kernel
theorem d_M_production_192 : decode prog_10_method_8_code 192 = .ok (.iload_n 2, 1) := by decide +kernel
theorem d_M_production_193 : decode prog_10_method_8_code 193 = .ok (.iconst (-1), 1) := by decide +kernel
theorem d_M_production_221 : decode prog_10_method_8_code 221 = .ok (.iastore, 1) := by decide +kernel
theorem d_M_production_222 : decode prog_10_method_8_code 222 = .ok (.aload_n 0, 1) := by decide +kernel
theorem d_M_production_223 : decode prog_10_method_8_code 223 = .ok (.dup, 1) := by decide +kernel
theorem d_M_production_224 : decode prog_10_method_8_code 224 = .ok (.getfield 119, 3) := by decide +kernel
theorem d_M_production_227 : decode prog_10_method_8_code 227 = .ok (.iconst 1, 1) := by decide +kernel
theorem d_M_production_228 : decode prog_10_method_8_code 228 = .ok (.iadd, 1) := by decide +kernel
theorem d_M_production_229 : decode prog_10_method_8_code 229 = .ok (.putfield 119, 3) := by decide +kernel
theorem d_M_production_232 : decode prog_10_method_8_code 232 = .ok (.aload_n 0, 1) := by decide +kernel
theorem d_M_production_233 : decode prog_10_method_8_code 233 = .ok (.invokevirtual 112, 3) := by decide +kernel
theorem d_M_production_236 : decode prog_10_method_8_code 236 = .ok (.iload 8, 2) := by decide +kernel
theorem d_M_production_238 : decode prog_10_method_8_code 238 = .ok (.ireturn, 1) := by decide +kernel
theorem d_M_production_194 : decode prog_10_method_8_code 194 = .ok (.if_icmp .ne 7, 3) := by decide +kernel
theorem d_M_production_201 : decode prog_10_method_8_code 201 = .ok (.iload_n 3, 1) := by decide +kernel
theorem d_M_production_202 : decode prog_10_method_8_code 202 = .ok (.iconst (-1), 1) := by decide +kernel
theorem d_M_production_203 : decode prog_10_method_8_code 203 = .ok (.if_icmp .ne 7, 3) := by decide +kernel
theorem d_M_production_210 : decode prog_10_method_8_code 210 = .ok (.iload 4, 2) := by decide +kernel
theorem d_M_production_212 : decode prog_10_method_8_code 212 = .ok (.iconst (-1), 1) := by decide +kernel
theorem d_M_production_213 : decode prog_10_method_8_code 213 = .ok (.if_icmp .ne 7, 3) := by decide +kernel
theorem d_M_production_220 : decode prog_10_method_8_code 220 = .ok (.iconst 4, 1) := by decide +kernel
theorem d_M_production_216 : decode prog_10_method_8_code 216 = .ok (.iconst 3, 1) := by decide +kernel
theorem d_M_production_217 : decode prog_10_method_8_code 217 = .ok (.goto 4, 3) := by decide +kernel
theorem d_M_production_206 : decode prog_10_method_8_code 206 = .ok (.iconst 2, 1) := by decide +kernel
theorem d_M_production_207 : decode prog_10_method_8_code 207 = .ok (.goto 14, 3) := by decide +kernel
theorem d_M_production_197 : decode prog_10_method_8_code 197 = .ok (.iconst 1, 1) := by decide +kernel
theorem d_M_production_198 : decode prog_10_method_8_code 198 = .ok (.goto 23, 3) := by decide +kernel
theorem d_M_production_131 : decode prog_10_method_8_code 131 = .ok (.iconst 0, 1) := by decide +kernel
theorem d_M_production_132 : decode prog_10_method_8_code 132 = .ok (.ireturn, 1) := by decide +kernel
theorem d_M_production_103 : decode prog_10_method_8_code 103 = .ok (.iconst 1, 1) := by decide +kernel
theorem d_M_production_104 : decode prog_10_method_8_code 104 = .ok (.goto 17, 3) := by decide +kernel
theorem d_M_production_85 : decode prog_10_method_8_code 85 = .ok (.ifCond .eq 18, 3) := by decide +kernel
theorem d_M_production_88 : decode prog_10_method_8_code 88 = .ok (.iload 5, 2) := by decide +kernel
theorem d_M_production_90 : decode prog_10_method_8_code 90 = .ok (.ifCond .eq 13, 3) := by decide +kernel
theorem d_M_production_93 : decode prog_10_method_8_code 93 = .ok (.iload 6, 2) := by decide +kernel
theorem d_M_production_95 : decode prog_10_method_8_code 95 = .ok (.ifCond .eq 8, 3) := by decide +kernel
theorem d_M_production_98 : decode prog_10_method_8_code 98 = .ok (.iload 7, 2) := by decide +kernel
theorem d_M_production_100 : decode prog_10_method_8_code 100 = .ok (.ifCond .ne 7, 3) := by decide +kernel
theorem d_M_production_107 : decode prog_10_method_8_code 107 = .ok (.aload_n 0, 1) := by decide +kernel
theorem d_M_production_108 : decode prog_10_method_8_code 108 = .ok (.getfield 119, 3) := by decide +kernel
theorem d_M_production_111 : decode prog_10_method_8_code 111 = .ok (.bipush 10, 2) := by decide +kernel
theorem d_M_production_113 : decode prog_10_method_8_code 113 = .ok (.if_icmp .ne 7, 3) := by decide +kernel
theorem d_M_production_120 : decode prog_10_method_8_code 120 = .ok (.iconst 0, 1) := by decide +kernel
theorem d_M_production_116 : decode prog_10_method_8_code 116 = .ok (.iconst 2, 1) := by decide +kernel
theorem d_M_production_117 : decode prog_10_method_8_code 117 = .ok (.goto 4, 3) := by decide +kernel
theorem d_M_production_72 : decode prog_10_method_8_code 72 = .ok (.iconst 1, 1) := by decide +kernel
theorem d_M_production_73 : decode prog_10_method_8_code 73 = .ok (.goto 4, 3) := by decide +kernel
theorem d_M_production_60 : decode prog_10_method_8_code 60 = .ok (.if_icmp .eq 12, 3) := by decide +kernel
theorem d_M_production_63 : decode prog_10_method_8_code 63 = .ok (.aload_n 0, 1) := by decide +kernel
theorem d_M_production_64 : decode prog_10_method_8_code 64 = .ok (.iload 4, 2) := by decide +kernel
theorem d_M_production_66 : decode prog_10_method_8_code 66 = .ok (.invokevirtual 115, 3) := by decide +kernel
theorem d_M_production_69 : decode prog_10_method_8_code 69 = .ok (.ifCond .eq 7, 3) := by decide +kernel
theorem d_M_production_76 : decode prog_10_method_8_code 76 = .ok (.iconst 0, 1) := by decide +kernel
theorem d_M_production_33 : decode prog_10_method_8_code 33 = .ok (.if_icmp .ne 17, 3) := by decide +kernel
theorem d_M_production_50 : decode prog_10_method_8_code 50 = .ok (.aload_n 0, 1) := by decide +kernel
theorem d_M_production_51 : decode prog_10_method_8_code 51 = .ok (.iload_n 3, 1) := by decide +kernel
theorem d_M_production_52 : decode prog_10_method_8_code 52 = .ok (.invokevirtual 115, 3) := by decide +kernel
theorem d_M_production_36 : decode prog_10_method_8_code 36 = .ok (.iload 4, 2) := by decide +kernel
theorem d_M_production_38 : decode prog_10_method_8_code 38 = .ok (.iconst (-1), 1) := by decide +kernel
theorem d_M_production_39 : decode prog_10_method_8_code 39 = .ok (.if_icmp .ne 7, 3) := by decide +kernel
theorem d_M_production_46 : decode prog_10_method_8_code 46 = .ok (.iconst 0, 1) := by decide +kernel
theorem d_M_production_47 : decode prog_10_method_8_code 47 = .ok (.goto 8, 3) := by decide +kernel
theorem d_M_production_42 : decode prog_10_method_8_code 42 = .ok (.iconst 1, 1) := by decide +kernel
theorem d_M_production_43 : decode prog_10_method_8_code 43 = .ok (.goto 12, 3) := by decide +kernel
theorem d_M_production_2 : decode prog_10_method_8_code 2 = .ok (.if_icmp .ne 22, 3) := by decide +kernel
theorem d_M_production_24 : decode prog_10_method_8_code 24 = .ok (.aload_n 0, 1) := by decide +kernel
theorem d_M_production_25 : decode prog_10_method_8_code 25 = .ok (.iload_n 2, 1) := by decide +kernel
theorem d_M_production_26 : decode prog_10_method_8_code 26 = .ok (.invokevirtual 115, 3) := by decide +kernel
theorem d_M_production_5 : decode prog_10_method_8_code 5 = .ok (.iload_n 3, 1) := by decide +kernel
theorem d_M_production_6 : decode prog_10_method_8_code 6 = .ok (.iconst (-1), 1) := by decide +kernel
theorem d_M_production_20 : decode prog_10_method_8_code 20 = .ok (.iconst 0, 1) := by decide +kernel
theorem d_M_production_21 : decode prog_10_method_8_code 21 = .ok (.goto 8, 3) := by decide +kernel
theorem d_M_production_7 : decode prog_10_method_8_code 7 = .ok (.if_icmp .ne 13, 3) := by decide +kernel
theorem d_M_production_10 : decode prog_10_method_8_code 10 = .ok (.iload 4, 2) := by decide +kernel
theorem d_M_production_12 : decode prog_10_method_8_code 12 = .ok (.iconst (-1), 1) := by decide +kernel
theorem d_M_production_13 : decode prog_10_method_8_code 13 = .ok (.if_icmp .ne 7, 3) := by decide +kernel
theorem d_M_production_16 : decode prog_10_method_8_code 16 = .ok (.iconst 1, 1) := by decide +kernel
theorem d_M_production_17 : decode prog_10_method_8_code 17 = .ok (.goto 12, 3) := by decide +kernel
theorem d_M_isOccurrence_0 : decode prog_10_method_9_code 0 = .ok (.iload_n 2, 1) := by decide +kernel
theorem d_M_isOccurrence_1 : decode prog_10_method_9_code 1 = .ok (.ifCond .lt 42, 3) := by decide +kernel
theorem d_M_isOccurrence_43 : decode prog_10_method_9_code 43 = .ok (.iconst 0, 1) := by decide +kernel
theorem d_M_isOccurrence_44 : decode prog_10_method_9_code 44 = .ok (.ireturn, 1) := by decide +kernel
theorem d_M_isOccurrence_4 : decode prog_10_method_9_code 4 = .ok (.iload_n 2, 1) := by decide +kernel
theorem d_M_isOccurrence_5 : decode prog_10_method_9_code 5 = .ok (.iconst 4, 1) := by decide +kernel
theorem d_M_isOccurrence_6 : decode prog_10_method_9_code 6 = .ok (.aload_n 0, 1) := by decide +kernel
theorem d_M_isOccurrence_7 : decode prog_10_method_9_code 7 = .ok (.getfield 17, 3) := by decide +kernel
theorem d_M_isOccurrence_10 : decode prog_10_method_9_code 10 = .ok (.iload_n 1, 1) := by decide +kernel
theorem d_M_isOccurrence_11 : decode prog_10_method_9_code 11 = .ok (.iaload, 1) := by decide +kernel
theorem d_M_isOccurrence_12 : decode prog_10_method_9_code 12 = .ok (.imul, 1) := by decide +kernel
theorem d_M_isOccurrence_13 : decode prog_10_method_9_code 13 = .ok (.if_icmp .ge 30, 3) := by decide +kernel
theorem d_M_isOccurrence_16 : decode prog_10_method_9_code 16 = .ok (.iload_n 2, 1) := by decide +kernel
theorem d_M_isOccurrence_17 : decode prog_10_method_9_code 17 = .ok (.iconst 4, 1) := by decide +kernel
theorem d_M_isOccurrence_18 : decode prog_10_method_9_code 18 = .ok (.irem, 1) := by decide +kernel
theorem d_M_isOccurrence_19 : decode prog_10_method_9_code 19 = .ok (.aload_n 0, 1) := by decide +kernel
theorem d_M_isOccurrence_20 : decode prog_10_method_9_code 20 = .ok (.getfield 7, 3) := by decide +kernel
theorem d_M_isOccurrence_23 : decode prog_10_method_9_code 23 = .ok (.aload_n 0, 1) := by decide +kernel
theorem d_M_isOccurrence_24 : decode prog_10_method_9_code 24 = .ok (.getfield 20, 3) := by decide +kernel
theorem d_M_isOccurrence_27 : decode prog_10_method_9_code 27 = .ok (.iconst 4, 1) := by decide +kernel
theorem d_M_isOccurrence_28 : decode prog_10_method_9_code 28 = .ok (.iload_n 1, 1) := by decide +kernel
theorem d_M_isOccurrence_29 : decode prog_10_method_9_code 29 = .ok (.imul, 1) := by decide +kernel
theorem d_M_isOccurrence_30 : decode prog_10_method_9_code 30 = .ok (.iload_n 2, 1) := by decide +kernel
theorem d_M_isOccurrence_31 : decode prog_10_method_9_code 31 = .ok (.iconst 4, 1) := by decide +kernel
theorem d_M_isOccurrence_32 : decode prog_10_method_9_code 32 = .ok (.idiv, 1) := by decide +kernel
theorem d_M_isOccurrence_33 : decode prog_10_method_9_code 33 = .ok (.iadd, 1) := by decide +kernel
theorem d_M_isOccurrence_34 : decode prog_10_method_9_code 34 = .ok (.iaload, 1) := by decide +kernel
theorem d_M_isOccurrence_35 : decode prog_10_method_9_code 35 = .ok (.iaload, 1) := by decide +kernel
theorem d_M_isOccurrence_36 : decode prog_10_method_9_code 36 = .ok (.if_icmp .ge 7, 3) := by decide +kernel
theorem d_M_isOccurrence_39 : decode prog_10_method_9_code 39 = .ok (.iconst 1, 1) := by decide +kernel
theorem d_M_isOccurrence_40 : decode prog_10_method_9_code 40 = .ok (.goto 4, 3) := by decide +kernel
theorem d_M_attributeOf_0 : decode prog_10_method_10_code 0 = .ok (.iconst 4, 1) := by decide +kernel
theorem d_M_attributeOf_1 : decode prog_10_method_10_code 1 = .ok (.aload_n 0, 1) := by decide +kernel
theorem d_M_attributeOf_2 : decode prog_10_method_10_code 2 = .ok (.getfield 20, 3) := by decide +kernel
theorem d_M_attributeOf_5 : decode prog_10_method_10_code 5 = .ok (.iconst 4, 1) := by decide +kernel
theorem d_M_attributeOf_6 : decode prog_10_method_10_code 6 = .ok (.iload_n 1, 1) := by decide +kernel
theorem d_M_attributeOf_7 : decode prog_10_method_10_code 7 = .ok (.imul, 1) := by decide +kernel
theorem d_M_attributeOf_8 : decode prog_10_method_10_code 8 = .ok (.iload_n 2, 1) := by decide +kernel
theorem d_M_attributeOf_9 : decode prog_10_method_10_code 9 = .ok (.iconst 4, 1) := by decide +kernel
theorem d_M_attributeOf_10 : decode prog_10_method_10_code 10 = .ok (.idiv, 1) := by decide +kernel
theorem d_M_attributeOf_11 : decode prog_10_method_10_code 11 = .ok (.iadd, 1) := by decide +kernel
theorem d_M_attributeOf_12 : decode prog_10_method_10_code 12 = .ok (.iaload, 1) := by decide +kernel
theorem d_M_attributeOf_13 : decode prog_10_method_10_code 13 = .ok (.imul, 1) := by decide +kernel
theorem d_M_attributeOf_14 : decode prog_10_method_10_code 14 = .ok (.iload_n 2, 1) := by decide +kernel
theorem d_M_attributeOf_15 : decode prog_10_method_10_code 15 = .ok (.iconst 4, 1) := by decide +kernel
theorem d_M_attributeOf_16 : decode prog_10_method_10_code 16 = .ok (.irem, 1) := by decide +kernel
theorem d_M_attributeOf_17 : decode prog_10_method_10_code 17 = .ok (.iadd, 1) := by decide +kernel
theorem d_M_attributeOf_18 : decode prog_10_method_10_code 18 = .ok (.ireturn, 1) := by decide +kernel
theorem d_M_isDefined_0 : decode prog_10_method_11_code 0 = .ok (.aload_n 0, 1) := by decide +kernel
theorem d_M_isDefined_1 : decode prog_10_method_11_code 1 = .ok (.iload_n 1, 1) := by decide +kernel
theorem d_M_isDefined_2 : decode prog_10_method_11_code 2 = .ok (.iload_n 2, 1) := by decide +kernel
theorem d_M_isDefined_3 : decode prog_10_method_11_code 3 = .ok (.invokevirtual 122, 3) := by decide +kernel
theorem d_M_isDefined_6 : decode prog_10_method_11_code 6 = .ok (.ifCond .eq 31, 3) := by decide +kernel
theorem d_M_isDefined_37 : decode prog_10_method_11_code 37 = .ok (.iconst 0, 1) := by decide +kernel
theorem d_M_isDefined_38 : decode prog_10_method_11_code 38 = .ok (.ireturn, 1) := by decide +kernel
theorem d_M_isDefined_9 : decode prog_10_method_11_code 9 = .ok (.aload_n 0, 1) := by decide +kernel
theorem d_M_isDefined_10 : decode prog_10_method_11_code 10 = .ok (.getfield 13, 3) := by decide +kernel
theorem d_M_isDefined_13 : decode prog_10_method_11_code 13 = .ok (.aload_n 0, 1) := by decide +kernel
theorem d_M_isDefined_14 : decode prog_10_method_11_code 14 = .ok (.iload_n 1, 1) := by decide +kernel
theorem d_M_isDefined_15 : decode prog_10_method_11_code 15 = .ok (.iload_n 2, 1) := by decide +kernel
theorem d_M_isDefined_16 : decode prog_10_method_11_code 16 = .ok (.invokevirtual 126, 3) := by decide +kernel
theorem d_M_isDefined_19 : decode prog_10_method_11_code 19 = .ok (.baload, 1) := by decide +kernel
theorem d_M_isDefined_20 : decode prog_10_method_11_code 20 = .ok (.iload_n 2, 1) := by decide +kernel
theorem d_M_isDefined_21 : decode prog_10_method_11_code 21 = .ok (.iconst 3, 1) := by decide +kernel
theorem d_M_isDefined_30 : decode prog_10_method_11_code 30 = .ok (.if_icmp .ne 7, 3) := by decide +kernel
theorem d_M_isDefined_33 : decode prog_10_method_11_code 33 = .ok (.iconst 1, 1) := by decide +kernel
theorem d_M_isDefined_34 : decode prog_10_method_11_code 34 = .ok (.goto 4, 3) := by decide +kernel
theorem d_M_isDefined_22 : decode prog_10_method_11_code 22 = .ok (.if_icmp .le 7, 3) := by decide +kernel
theorem d_M_isDefined_29 : decode prog_10_method_11_code 29 = .ok (.iconst 0, 1) := by decide +kernel
theorem d_M_isDefined_25 : decode prog_10_method_11_code 25 = .ok (.iconst 1, 1) := by decide +kernel
theorem d_M_isDefined_26 : decode prog_10_method_11_code 26 = .ok (.goto 4, 3) := by decide +kernel
theorem d_M_rule_0 : decode prog_10_method_13_code 0 = .ok (.aload_n 0, 1) := by decide +kernel
theorem d_M_rule_1 : decode prog_10_method_13_code 1 = .ok (.iload_n 1, 1) := by decide +kernel
theorem d_M_rule_18 : decode prog_10_method_13_code 18 = .ok (.putfield 99, 3) := by decide +kernel
theorem d_M_rule_21 : decode prog_10_method_13_code 21 = .ok (.aload_n 0, 1) := by decide +kernel
theorem d_M_rule_22 : decode prog_10_method_13_code 22 = .ok (.getfield 99, 3) := by decide +kernel
theorem d_M_rule_25 : decode prog_10_method_13_code 25 = .ok (.ifCond .le 4, 3) := by decide +kernel
theorem d_M_rule_29 : decode prog_10_method_13_code 29 = .ok (.aload_n 0, 1) := by decide +kernel
theorem d_M_rule_30 : decode prog_10_method_13_code 30 = .ok (.iload_n 1, 1) := by decide +kernel
theorem d_M_rule_31 : decode prog_10_method_13_code 31 = .ok (.iload_n 2, 1) := by decide +kernel
theorem d_M_rule_32 : decode prog_10_method_13_code 32 = .ok (.invokevirtual 130, 3) := by decide +kernel
theorem d_M_rule_89 : decode prog_10_method_13_code 89 = .ok (.istore 6, 2) := by decide +kernel
theorem d_M_rule_91 : decode prog_10_method_13_code 91 = .ok (.aload_n 0, 1) := by decide +kernel
theorem d_M_rule_92 : decode prog_10_method_13_code 92 = .ok (.iload 6, 2) := by decide +kernel
