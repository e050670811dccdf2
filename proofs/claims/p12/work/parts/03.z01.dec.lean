theorem d_G_isRight_61 : decode prog_3_method_7_code 61 = .ok (.iload_n 3, 1) := by decide +kernel
theorem d_G_isRight_62 : decode prog_3_method_7_code 62 = .ok (.iconst (-1), 1) := by decide +kernel
theorem d_G_isRight_74 : decode prog_3_method_7_code 74 = .ok (.iconst 1, 1) := by decide +kernel
theorem d_G_isRight_75 : decode prog_3_method_7_code 75 = .ok (.goto 4, 3) := by decide +kernel
theorem d_G_isRight_63 : decode prog_3_method_7_code 63 = .ok (.if_icmp .eq 11, 3) := by decide +kernel
theorem d_G_isRight_66 : decode prog_3_method_7_code 66 = .ok (.aload_n 0, 1) := by decide +kernel
theorem d_G_isRight_67 : decode prog_3_method_7_code 67 = .ok (.iload_n 3, 1) := by decide +kernel
theorem d_G_isRight_68 : decode prog_3_method_7_code 68 = .ok (.invokevirtual 59, 3) := by decide +kernel
theorem d_G_isRight_71 : decode prog_3_method_7_code 71 = .ok (.ifCond .eq 7, 3) := by decide +kernel
theorem d_G_isRight_26 : decode prog_3_method_7_code 26 = .ok (.aload_n 0, 1) := by decide +kernel
theorem d_G_isRight_27 : decode prog_3_method_7_code 27 = .ok (.iload_n 1, 1) := by decide +kernel
theorem d_G_isRight_28 : decode prog_3_method_7_code 28 = .ok (.invokevirtual 59, 3) := by decide +kernel
theorem d_G_isRight_31 : decode prog_3_method_7_code 31 = .ok (.ifCond .eq 12, 3) := by decide +kernel
theorem d_G_isRight_43 : decode prog_3_method_7_code 43 = .ok (.iconst 0, 1) := by decide +kernel
theorem d_G_isRight_44 : decode prog_3_method_7_code 44 = .ok (.ireturn, 1) := by decide +kernel
theorem d_G_isRight_34 : decode prog_3_method_7_code 34 = .ok (.iload_n 3, 1) := by decide +kernel
theorem d_G_isRight_35 : decode prog_3_method_7_code 35 = .ok (.iconst (-1), 1) := by decide +kernel
theorem d_G_isRight_36 : decode prog_3_method_7_code 36 = .ok (.if_icmp .ne 7, 3) := by decide +kernel
theorem d_G_isRight_39 : decode prog_3_method_7_code 39 = .ok (.iconst 1, 1) := by decide +kernel
theorem d_G_isRight_40 : decode prog_3_method_7_code 40 = .ok (.goto 4, 3) := by decide +kernel
theorem d_G_isRight_5 : decode prog_3_method_7_code 5 = .ok (.iload_n 2, 1) := by decide +kernel
theorem d_G_isRight_6 : decode prog_3_method_7_code 6 = .ok (.iconst (-1), 1) := by decide +kernel
theorem d_G_isRight_7 : decode prog_3_method_7_code 7 = .ok (.if_icmp .ne 12, 3) := by decide +kernel
theorem d_G_isRight_19 : decode prog_3_method_7_code 19 = .ok (.iconst 0, 1) := by decide +kernel
theorem d_G_isRight_20 : decode prog_3_method_7_code 20 = .ok (.ireturn, 1) := by decide +kernel
theorem d_G_isRight_10 : decode prog_3_method_7_code 10 = .ok (.iload_n 3, 1) := by decide +kernel
theorem d_G_isRight_11 : decode prog_3_method_7_code 11 = .ok (.iconst (-1), 1) := by decide +kernel
theorem d_G_isRight_12 : decode prog_3_method_7_code 12 = .ok (.if_icmp .ne 7, 3) := by decide +kernel
theorem d_G_isRight_15 : decode prog_3_method_7_code 15 = .ok (.iconst 1, 1) := by decide +kernel
theorem d_G_isRight_16 : decode prog_3_method_7_code 16 = .ok (.goto 4, 3) := by decide +kernel
theorem d_G_isForm_0 : decode prog_3_method_8_code 0 = .ok (.iload_n 2, 1) := by decide +kernel
theorem d_G_isForm_1 : decode prog_3_method_8_code 1 = .ok (.ifCond .lt 46, 3) := by decide +kernel
theorem d_G_isForm_47 : decode prog_3_method_8_code 47 = .ok (.iconst 0, 1) := by decide +kernel
theorem d_G_isForm_48 : decode prog_3_method_8_code 48 = .ok (.ireturn, 1) := by decide +kernel
theorem d_G_isForm_4 : decode prog_3_method_8_code 4 = .ok (.iload_n 2, 1) := by decide +kernel
theorem d_G_isForm_5 : decode prog_3_method_8_code 5 = .ok (.bipush 7, 2) := by decide +kernel
theorem d_G_isForm_7 : decode prog_3_method_8_code 7 = .ok (.if_icmp .gt 40, 3) := by decide +kernel
theorem d_G_isForm_10 : decode prog_3_method_8_code 10 = .ok (.iload_n 2, 1) := by decide +kernel
theorem d_G_isForm_11 : decode prog_3_method_8_code 11 = .ok (.invokestatic 63, 3) := by decide +kernel
theorem d_G_isForm_26 : decode prog_3_method_8_code 26 = .ok (.iload_n 2, 1) := by decide +kernel
theorem d_G_isForm_27 : decode prog_3_method_8_code 27 = .ok (.invokestatic 66, 3) := by decide +kernel
theorem d_G_isForm_43 : decode prog_3_method_8_code 43 = .ok (.iconst 1, 1) := by decide +kernel
theorem d_G_isForm_44 : decode prog_3_method_8_code 44 = .ok (.goto 4, 3) := by decide +kernel
theorem d_G_isForm_30 : decode prog_3_method_8_code 30 = .ok (.ifCond .eq 13, 3) := by decide +kernel
theorem d_G_isForm_33 : decode prog_3_method_8_code 33 = .ok (.aload_n 0, 1) := by decide +kernel
theorem d_G_isForm_34 : decode prog_3_method_8_code 34 = .ok (.iload_n 1, 1) := by decide +kernel
theorem d_G_isForm_35 : decode prog_3_method_8_code 35 = .ok (.iload 4, 2) := by decide +kernel
theorem d_G_isForm_37 : decode prog_3_method_8_code 37 = .ok (.invokevirtual 56, 3) := by decide +kernel
theorem d_G_isForm_40 : decode prog_3_method_8_code 40 = .ok (.ifCond .eq 7, 3) := by decide +kernel
theorem d_G_isForm_14 : decode prog_3_method_8_code 14 = .ok (.ifCond .eq 12, 3) := by decide +kernel
theorem d_G_isForm_17 : decode prog_3_method_8_code 17 = .ok (.aload_n 0, 1) := by decide +kernel
theorem d_G_isForm_18 : decode prog_3_method_8_code 18 = .ok (.iload_n 1, 1) := by decide +kernel
theorem d_G_isForm_19 : decode prog_3_method_8_code 19 = .ok (.iload_n 3, 1) := by decide +kernel
theorem d_G_isForm_20 : decode prog_3_method_8_code 20 = .ok (.invokevirtual 56, 3) := by decide +kernel
theorem d_G_isForm_23 : decode prog_3_method_8_code 23 = .ok (.ifCond .eq 24, 3) := by decide +kernel
theorem d_G_symbolAt_0 : decode prog_3_method_9_code 0 = .ok (.aload_n 0, 1) := by decide +kernel
theorem d_G_symbolAt_1 : decode prog_3_method_9_code 1 = .ok (.getfield 18, 3) := by decide +kernel
theorem d_G_symbolAt_4 : decode prog_3_method_9_code 4 = .ok (.iload_n 1, 1) := by decide +kernel
theorem d_G_symbolAt_5 : decode prog_3_method_9_code 5 = .ok (.iconst 4, 1) := by decide +kernel
theorem d_G_symbolAt_6 : decode prog_3_method_9_code 6 = .ok (.imul, 1) := by decide +kernel
theorem d_G_symbolAt_7 : decode prog_3_method_9_code 7 = .ok (.iload_n 2, 1) := by decide +kernel
theorem d_G_symbolAt_8 : decode prog_3_method_9_code 8 = .ok (.iadd, 1) := by decide +kernel
theorem d_G_symbolAt_9 : decode prog_3_method_9_code 9 = .ok (.iaload, 1) := by decide +kernel
theorem d_G_symbolAt_10 : decode prog_3_method_9_code 10 = .ok (.ireturn, 1) := by decide +kernel
theorem d_G_allAttributes_0 : decode prog_3_method_14_code 0 = .ok (.iconst 1, 1) := by decide +kernel
theorem d_G_allAttributes_1 : decode prog_3_method_14_code 1 = .ok (.aload_n 0, 1) := by decide +kernel
theorem d_G_allAttributes_2 : decode prog_3_method_14_code 2 = .ok (.getfield 9, 3) := by decide +kernel
theorem d_G_allAttributes_5 : decode prog_3_method_14_code 5 = .ok (.iload_n 1, 1) := by decide +kernel
theorem d_G_allAttributes_6 : decode prog_3_method_14_code 6 = .ok (.iaload, 1) := by decide +kernel
theorem d_G_allAttributes_7 : decode prog_3_method_14_code 7 = .ok (.ishl, 1) := by decide +kernel
theorem d_G_allAttributes_8 : decode prog_3_method_14_code 8 = .ok (.iconst 1, 1) := by decide +kernel
theorem d_G_allAttributes_9 : decode prog_3_method_14_code 9 = .ok (.isub, 1) := by decide +kernel
theorem d_G_allAttributes_10 : decode prog_3_method_14_code 10 = .ok (.ireturn, 1) := by decide +kernel
theorem d_G_addSymbol_0 : decode prog_3_method_10_code 0 = .ok (.aload_n 0, 1) := by decide +kernel
theorem d_G_addSymbol_1 : decode prog_3_method_10_code 1 = .ok (.getfield 45, 3) := by decide +kernel
theorem d_G_addSymbol_4 : decode prog_3_method_10_code 4 = .ok (.istore_n 3, 1) := by decide +kernel
theorem d_G_addSymbol_5 : decode prog_3_method_10_code 5 = .ok (.aload_n 0, 1) := by decide +kernel
theorem d_G_addSymbol_6 : decode prog_3_method_10_code 6 = .ok (.getfield 9, 3) := by decide +kernel
theorem d_G_addSymbol_9 : decode prog_3_method_10_code 9 = .ok (.iload_n 3, 1) := by decide +kernel
theorem d_G_addSymbol_10 : decode prog_3_method_10_code 10 = .ok (.iload_n 1, 1) := by decide +kernel
theorem d_G_addSymbol_11 : decode prog_3_method_10_code 11 = .ok (.iastore, 1) := by decide +kernel
theorem d_G_addSymbol_12 : decode prog_3_method_10_code 12 = .ok (.aload_n 0, 1) := by decide +kernel
theorem d_G_addSymbol_13 : decode prog_3_method_10_code 13 = .ok (.getfield 15, 3) := by decide +kernel
theorem d_G_addSymbol_16 : decode prog_3_method_10_code 16 = .ok (.iload_n 3, 1) := by decide +kernel
theorem d_G_addSymbol_17 : decode prog_3_method_10_code 17 = .ok (.iload_n 2, 1) := by decide +kernel
theorem d_G_addSymbol_18 : decode prog_3_method_10_code 18 = .ok (.aload_n 0, 1) := by decide +kernel
theorem d_G_addSymbol_19 : decode prog_3_method_10_code 19 = .ok (.iload_n 3, 1) := by decide +kernel
theorem d_G_addSymbol_20 : decode prog_3_method_10_code 20 = .ok (.invokevirtual 69, 3) := by decide +kernel
theorem d_G_addSymbol_23 : decode prog_3_method_10_code 23 = .ok (.iand, 1) := by decide +kernel
theorem d_G_addSymbol_24 : decode prog_3_method_10_code 24 = .ok (.iastore, 1) := by decide +kernel
theorem d_G_addSymbol_25 : decode prog_3_method_10_code 25 = .ok (.aload_n 0, 1) := by decide +kernel
theorem d_G_addSymbol_26 : decode prog_3_method_10_code 26 = .ok (.dup, 1) := by decide +kernel
theorem d_G_addSymbol_27 : decode prog_3_method_10_code 27 = .ok (.getfield 45, 3) := by decide +kernel
theorem d_G_addSymbol_30 : decode prog_3_method_10_code 30 = .ok (.iconst 1, 1) := by decide +kernel
theorem d_G_addSymbol_31 : decode prog_3_method_10_code 31 = .ok (.iadd, 1) := by decide +kernel
theorem d_G_addSymbol_32 : decode prog_3_method_10_code 32 = .ok (.putfield 45, 3) := by decide +kernel
theorem d_G_addSymbol_35 : decode prog_3_method_10_code 35 = .ok (.iload_n 3, 1) := by decide +kernel
theorem d_G_addSymbol_36 : decode prog_3_method_10_code 36 = .ok (.ireturn, 1) := by decide +kernel
theorem d_G_place_0 : decode prog_3_method_12_code 0 = .ok (.iload_n 3, 1) := by decide +kernel
theorem d_G_place_1 : decode prog_3_method_12_code 1 = .ok (.iconst (-1), 1) := by decide +kernel
theorem d_G_place_2 : decode prog_3_method_12_code 2 = .ok (.if_icmp .ne 4, 3) := by decide +kernel
theorem d_G_place_6 : decode prog_3_method_12_code 6 = .ok (.aload_n 0, 1) := by decide +kernel
theorem d_G_place_7 : decode prog_3_method_12_code 7 = .ok (.getfield 15, 3) := by decide +kernel
theorem d_G_place_10 : decode prog_3_method_12_code 10 = .ok (.iload_n 3, 1) := by decide +kernel
theorem d_G_place_11 : decode prog_3_method_12_code 11 = .ok (.iaload, 1) := by decide +kernel
theorem d_G_place_12 : decode prog_3_method_12_code 12 = .ok (.istore 4, 2) := by decide +kernel
theorem d_G_place_14 : decode prog_3_method_12_code 14 = .ok (.aload_n 0, 1) := by decide +kernel
theorem d_G_place_15 : decode prog_3_method_12_code 15 = .ok (.iload_n 3, 1) := by decide +kernel
theorem d_G_place_16 : decode prog_3_method_12_code 16 = .ok (.invokevirtual 69, 3) := by decide +kernel
theorem d_G_place_19 : decode prog_3_method_12_code 19 = .ok (.istore 5, 2) := by decide +kernel
theorem d_G_place_21 : decode prog_3_method_12_code 21 = .ok (.iload_n 2, 1) := by decide +kernel
theorem d_G_place_37 : decode prog_3_method_12_code 37 = .ok (.istore 6, 2) := by decide +kernel
theorem d_G_place_39 : decode prog_3_method_12_code 39 = .ok (.iload_n 2, 1) := by decide +kernel
theorem d_G_place_40 : decode prog_3_method_12_code 40 = .ok (.iconst 4, 1) := by decide +kernel
theorem d_G_place_41 : decode prog_3_method_12_code 41 = .ok (.imul, 1) := by decide +kernel
theorem d_G_place_42 : decode prog_3_method_12_code 42 = .ok (.istore 7, 2) := by decide +kernel
theorem d_G_place_44 : decode prog_3_method_12_code 44 = .ok (.aload_n 0, 1) := by decide +kernel
theorem d_G_place_45 : decode prog_3_method_12_code 45 = .ok (.getfield 18, 3) := by decide +kernel
theorem d_G_place_48 : decode prog_3_method_12_code 48 = .ok (.iload_n 1, 1) := by decide +kernel
theorem d_G_place_49 : decode prog_3_method_12_code 49 = .ok (.iconst 4, 1) := by decide +kernel
theorem d_G_place_50 : decode prog_3_method_12_code 50 = .ok (.imul, 1) := by decide +kernel
theorem d_G_place_51 : decode prog_3_method_12_code 51 = .ok (.iload_n 2, 1) := by decide +kernel
theorem d_G_place_52 : decode prog_3_method_12_code 52 = .ok (.iadd, 1) := by decide +kernel
theorem d_G_place_53 : decode prog_3_method_12_code 53 = .ok (.iload_n 3, 1) := by decide +kernel
theorem d_G_place_54 : decode prog_3_method_12_code 54 = .ok (.iastore, 1) := by decide +kernel
theorem d_G_place_55 : decode prog_3_method_12_code 55 = .ok (.aload_n 0, 1) := by decide +kernel
theorem d_G_place_56 : decode prog_3_method_12_code 56 = .ok (.getfield 21, 3) := by decide +kernel
theorem d_G_place_59 : decode prog_3_method_12_code 59 = .ok (.iload_n 1, 1) := by decide +kernel
theorem d_G_place_60 : decode prog_3_method_12_code 60 = .ok (.iload_n 2, 1) := by decide +kernel
theorem d_G_place_61 : decode prog_3_method_12_code 61 = .ok (.iastore, 1) := by decide +kernel
theorem d_G_place_62 : decode prog_3_method_12_code 62 = .ok (.aload_n 0, 1) := by decide +kernel
theorem d_G_place_63 : decode prog_3_method_12_code 63 = .ok (.getfield 24, 3) := by decide +kernel
theorem d_G_place_66 : decode prog_3_method_12_code 66 = .ok (.iload_n 1, 1) := by decide +kernel
theorem d_G_place_67 : decode prog_3_method_12_code 67 = .ok (.dup2, 1) := by decide +kernel
theorem d_G_place_68 : decode prog_3_method_12_code 68 = .ok (.iaload, 1) := by decide +kernel
theorem d_G_place_69 : decode prog_3_method_12_code 69 = .ok (.iload 5, 2) := by decide +kernel
theorem d_G_place_71 : decode prog_3_method_12_code 71 = .ok (.iload 7, 2) := by decide +kernel
theorem d_G_place_73 : decode prog_3_method_12_code 73 = .ok (.ishl, 1) := by decide +kernel
theorem d_G_place_74 : decode prog_3_method_12_code 74 = .ok (.ior, 1) := by decide +kernel
theorem d_G_place_75 : decode prog_3_method_12_code 75 = .ok (.iastore, 1) := by decide +kernel
theorem d_G_place_76 : decode prog_3_method_12_code 76 = .ok (.aload_n 0, 1) := by decide +kernel
theorem d_G_place_77 : decode prog_3_method_12_code 77 = .ok (.getfield 27, 3) := by decide +kernel
theorem d_G_place_80 : decode prog_3_method_12_code 80 = .ok (.iload_n 1, 1) := by decide +kernel
theorem d_G_place_81 : decode prog_3_method_12_code 81 = .ok (.dup2, 1) := by decide +kernel
theorem d_G_place_82 : decode prog_3_method_12_code 82 = .ok (.iaload, 1) := by decide +kernel
theorem d_G_place_83 : decode prog_3_method_12_code 83 = .ok (.iload 6, 2) := by decide +kernel
theorem d_G_place_85 : decode prog_3_method_12_code 85 = .ok (.iload 7, 2) := by decide +kernel
theorem d_G_place_87 : decode prog_3_method_12_code 87 = .ok (.ishl, 1) := by decide +kernel
theorem d_G_place_88 : decode prog_3_method_12_code 88 = .ok (.ior, 1) := by decide +kernel
theorem d_G_place_89 : decode prog_3_method_12_code 89 = .ok (.iastore, 1) := by decide +kernel
theorem d_G_place_90 : decode prog_3_method_12_code 90 = .ok (.return_, 1) := by decide +kernel
theorem d_G_place_22 : decode prog_3_method_12_code 22 = .ok (.ifCond .ne 13, 3) := by decide +kernel
theorem d_G_place_35 : decode prog_3_method_12_code 35 = .ok (.iload 4, 2) := by decide +kernel
theorem d_G_place_25 : decode prog_3_method_12_code 25 = .ok (.iload 5, 2) := by decide +kernel
theorem d_G_place_27 : decode prog_3_method_12_code 27 = .ok (.iload 4, 2) := by decide +kernel
theorem d_G_place_29 : decode prog_3_method_12_code 29 = .ok (.iconst (-1), 1) := by decide +kernel
theorem d_G_place_30 : decode prog_3_method_12_code 30 = .ok (.ixor, 1) := by decide +kernel
theorem d_G_place_31 : decode prog_3_method_12_code 31 = .ok (.iand, 1) := by decide +kernel
theorem d_G_place_32 : decode prog_3_method_12_code 32 = .ok (.goto 5, 3) := by decide +kernel
theorem d_G_place_5 : decode prog_3_method_12_code 5 = .ok (.return_, 1) := by decide +kernel
theorem d_G_addProduction_0 : decode prog_3_method_11_code 0 = .ok (.aload_n 0, 1) := by decide +kernel
theorem d_G_addProduction_1 : decode prog_3_method_11_code 1 = .ok (.getfield 49, 3) := by decide +kernel
theorem d_G_addProduction_4 : decode prog_3_method_11_code 4 = .ok (.istore 5, 2) := by decide +kernel
theorem d_G_addProduction_6 : decode prog_3_method_11_code 6 = .ok (.aload_n 0, 1) := by decide +kernel
theorem d_G_addProduction_7 : decode prog_3_method_11_code 7 = .ok (.dup, 1) := by decide +kernel
theorem d_G_addProduction_8 : decode prog_3_method_11_code 8 = .ok (.getfield 49, 3) := by decide +kernel
theorem d_G_addProduction_11 : decode prog_3_method_11_code 11 = .ok (.iconst 1, 1) := by decide +kernel
theorem d_G_addProduction_12 : decode prog_3_method_11_code 12 = .ok (.iadd, 1) := by decide +kernel
theorem d_G_addProduction_13 : decode prog_3_method_11_code 13 = .ok (.putfield 49, 3) := by decide +kernel
theorem d_G_addProduction_16 : decode prog_3_method_11_code 16 = .ok (.aload_n 0, 1) := by decide +kernel
theorem d_G_addProduction_17 : decode prog_3_method_11_code 17 = .ok (.iload 5, 2) := by decide +kernel
theorem d_G_addProduction_19 : decode prog_3_method_11_code 19 = .ok (.iconst 0, 1) := by decide +kernel
theorem d_G_addProduction_20 : decode prog_3_method_11_code 20 = .ok (.iload_n 1, 1) := by decide +kernel
theorem d_G_addProduction_21 : decode prog_3_method_11_code 21 = .ok (.invokevirtual 73, 3) := by decide +kernel
theorem d_G_addProduction_24 : decode prog_3_method_11_code 24 = .ok (.aload_n 0, 1) := by decide +kernel
theorem d_G_addProduction_25 : decode prog_3_method_11_code 25 = .ok (.iload 5, 2) := by decide +kernel
theorem d_G_addProduction_27 : decode prog_3_method_11_code 27 = .ok (.iconst 1, 1) := by decide +kernel
theorem d_G_addProduction_28 : decode prog_3_method_11_code 28 = .ok (.iload_n 2, 1) := by decide +kernel
theorem d_G_addProduction_29 : decode prog_3_method_11_code 29 = .ok (.invokevirtual 73, 3) := by decide +kernel
theorem d_G_addProduction_32 : decode prog_3_method_11_code 32 = .ok (.aload_n 0, 1) := by decide +kernel
theorem d_G_addProduction_33 : decode prog_3_method_11_code 33 = .ok (.iload 5, 2) := by decide +kernel
theorem d_G_addProduction_35 : decode prog_3_method_11_code 35 = .ok (.iconst 2, 1) := by decide +kernel
theorem d_G_addProduction_36 : decode prog_3_method_11_code 36 = .ok (.iload_n 3, 1) := by decide +kernel
theorem d_G_addProduction_37 : decode prog_3_method_11_code 37 = .ok (.invokevirtual 73, 3) := by decide +kernel
theorem d_G_addProduction_40 : decode prog_3_method_11_code 40 = .ok (.aload_n 0, 1) := by decide +kernel
theorem d_G_addProduction_41 : decode prog_3_method_11_code 41 = .ok (.iload 5, 2) := by decide +kernel
theorem d_G_addProduction_43 : decode prog_3_method_11_code 43 = .ok (.iconst 3, 1) := by decide +kernel
theorem d_G_addProduction_44 : decode prog_3_method_11_code 44 = .ok (.iload 4, 2) := by decide +kernel
theorem d_G_addProduction_46 : decode prog_3_method_11_code 46 = .ok (.invokevirtual 73, 3) := by decide +kernel
theorem d_G_addProduction_49 : decode prog_3_method_11_code 49 = .ok (.iload 5, 2) := by decide +kernel
theorem d_G_addProduction_51 : decode prog_3_method_11_code 51 = .ok (.ireturn, 1) := by decide +kernel
theorem d_G_setRule_0 : decode prog_3_method_13_code 0 = .ok (.iload_n 1, 1) := by decide +kernel
theorem d_G_setRule_1 : decode prog_3_method_13_code 1 = .ok (.bipush 16, 2) := by decide +kernel
theorem d_G_setRule_3 : decode prog_3_method_13_code 3 = .ok (.imul, 1) := by decide +kernel
theorem d_G_setRule_4 : decode prog_3_method_13_code 4 = .ok (.iload_n 2, 1) := by decide +kernel
theorem d_G_setRule_5 : decode prog_3_method_13_code 5 = .ok (.iadd, 1) := by decide +kernel
theorem d_G_setRule_6 : decode prog_3_method_13_code 6 = .ok (.istore 6, 2) := by decide +kernel
theorem d_G_setRule_8 : decode prog_3_method_13_code 8 = .ok (.aload_n 0, 1) := by decide +kernel
theorem d_G_setRule_9 : decode prog_3_method_13_code 9 = .ok (.getfield 33, 3) := by decide +kernel
theorem d_G_setRule_12 : decode prog_3_method_13_code 12 = .ok (.iload 6, 2) := by decide +kernel
