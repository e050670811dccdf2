theorem d_G_setRule_14 : decode prog_3_method_13_code 14 = .ok (.iload_n 3, 1) := by decide +kernel
theorem d_G_setRule_15 : decode prog_3_method_13_code 15 = .ok (.iastore, 1) := by decide +kernel
theorem d_G_setRule_16 : decode prog_3_method_13_code 16 = .ok (.aload_n 0, 1) := by decide +kernel
theorem d_G_setRule_17 : decode prog_3_method_13_code 17 = .ok (.getfield 36, 3) := by decide +kernel
theorem d_G_setRule_20 : decode prog_3_method_13_code 20 = .ok (.iload 6, 2) := by decide +kernel
theorem d_G_setRule_22 : decode prog_3_method_13_code 22 = .ok (.iload 4, 2) := by decide +kernel
theorem d_G_setRule_24 : decode prog_3_method_13_code 24 = .ok (.iastore, 1) := by decide +kernel
theorem d_G_setRule_25 : decode prog_3_method_13_code 25 = .ok (.aload_n 0, 1) := by decide +kernel
theorem d_G_setRule_26 : decode prog_3_method_13_code 26 = .ok (.getfield 39, 3) := by decide +kernel
theorem d_G_setRule_29 : decode prog_3_method_13_code 29 = .ok (.iload 6, 2) := by decide +kernel
theorem d_G_setRule_31 : decode prog_3_method_13_code 31 = .ok (.iload 5, 2) := by decide +kernel
theorem d_G_setRule_33 : decode prog_3_method_13_code 33 = .ok (.iastore, 1) := by decide +kernel
theorem d_G_setRule_34 : decode prog_3_method_13_code 34 = .ok (.aload_n 0, 1) := by decide +kernel
theorem d_G_setRule_35 : decode prog_3_method_13_code 35 = .ok (.getfield 42, 3) := by decide +kernel
theorem d_G_setRule_38 : decode prog_3_method_13_code 38 = .ok (.iload 6, 2) := by decide +kernel
theorem d_G_setRule_40 : decode prog_3_method_13_code 40 = .ok (.iload_n 3, 1) := by decide +kernel
theorem d_G_setRule_41 : decode prog_3_method_13_code 41 = .ok (.invokestatic 63, 3) := by decide +kernel
theorem d_G_setRule_55 : decode prog_3_method_13_code 55 = .ok (.iload_n 3, 1) := by decide +kernel
theorem d_G_setRule_56 : decode prog_3_method_13_code 56 = .ok (.invokestatic 66, 3) := by decide +kernel
theorem d_G_setRule_70 : decode prog_3_method_13_code 70 = .ok (.ior, 1) := by decide +kernel
theorem d_G_setRule_71 : decode prog_3_method_13_code 71 = .ok (.iastore, 1) := by decide +kernel
theorem d_G_setRule_72 : decode prog_3_method_13_code 72 = .ok (.aload_n 0, 1) := by decide +kernel
theorem d_G_setRule_73 : decode prog_3_method_13_code 73 = .ok (.getfield 30, 3) := by decide +kernel
theorem d_G_setRule_76 : decode prog_3_method_13_code 76 = .ok (.iload_n 1, 1) := by decide +kernel
theorem d_G_setRule_77 : decode prog_3_method_13_code 77 = .ok (.dup2, 1) := by decide +kernel
theorem d_G_setRule_78 : decode prog_3_method_13_code 78 = .ok (.iaload, 1) := by decide +kernel
theorem d_G_setRule_79 : decode prog_3_method_13_code 79 = .ok (.iconst 1, 1) := by decide +kernel
theorem d_G_setRule_80 : decode prog_3_method_13_code 80 = .ok (.iload_n 2, 1) := by decide +kernel
theorem d_G_setRule_81 : decode prog_3_method_13_code 81 = .ok (.ishl, 1) := by decide +kernel
theorem d_G_setRule_82 : decode prog_3_method_13_code 82 = .ok (.ior, 1) := by decide +kernel
theorem d_G_setRule_83 : decode prog_3_method_13_code 83 = .ok (.iastore, 1) := by decide +kernel
theorem d_G_setRule_84 : decode prog_3_method_13_code 84 = .ok (.return_, 1) := by decide +kernel
theorem d_G_setRule_59 : decode prog_3_method_13_code 59 = .ok (.ifCond .eq 10, 3) := by decide +kernel
theorem d_G_setRule_69 : decode prog_3_method_13_code 69 = .ok (.iconst 0, 1) := by decide +kernel
theorem d_G_setRule_62 : decode prog_3_method_13_code 62 = .ok (.iconst 1, 1) := by decide +kernel
theorem d_G_setRule_63 : decode prog_3_method_13_code 63 = .ok (.iload 5, 2) := by decide +kernel
theorem d_G_setRule_65 : decode prog_3_method_13_code 65 = .ok (.ishl, 1) := by decide +kernel
theorem d_G_setRule_66 : decode prog_3_method_13_code 66 = .ok (.goto 4, 3) := by decide +kernel
theorem d_G_setRule_44 : decode prog_3_method_13_code 44 = .ok (.ifCond .eq 10, 3) := by decide +kernel
theorem d_G_setRule_54 : decode prog_3_method_13_code 54 = .ok (.iconst 0, 1) := by decide +kernel
theorem d_G_setRule_47 : decode prog_3_method_13_code 47 = .ok (.iconst 1, 1) := by decide +kernel
theorem d_G_setRule_48 : decode prog_3_method_13_code 48 = .ok (.iload 4, 2) := by decide +kernel
theorem d_G_setRule_50 : decode prog_3_method_13_code 50 = .ok (.ishl, 1) := by decide +kernel
theorem d_G_setRule_51 : decode prog_3_method_13_code 51 = .ok (.goto 4, 3) := by decide +kernel
theorem d_G_leastWithoutRule_0 : decode prog_3_method_15_code 0 = .ok (.aload_n 0, 1) := by decide +kernel
theorem d_G_leastWithoutRule_1 : decode prog_3_method_15_code 1 = .ok (.getfield 27, 3) := by decide +kernel
theorem d_G_leastWithoutRule_4 : decode prog_3_method_15_code 4 = .ok (.iload_n 1, 1) := by decide +kernel
theorem d_G_leastWithoutRule_5 : decode prog_3_method_15_code 5 = .ok (.iaload, 1) := by decide +kernel
theorem d_G_leastWithoutRule_6 : decode prog_3_method_15_code 6 = .ok (.aload_n 0, 1) := by decide +kernel
theorem d_G_leastWithoutRule_7 : decode prog_3_method_15_code 7 = .ok (.getfield 30, 3) := by decide +kernel
theorem d_G_leastWithoutRule_10 : decode prog_3_method_15_code 10 = .ok (.iload_n 1, 1) := by decide +kernel
theorem d_G_leastWithoutRule_11 : decode prog_3_method_15_code 11 = .ok (.iaload, 1) := by decide +kernel
theorem d_G_leastWithoutRule_12 : decode prog_3_method_15_code 12 = .ok (.iconst (-1), 1) := by decide +kernel
theorem d_G_leastWithoutRule_13 : decode prog_3_method_15_code 13 = .ok (.ixor, 1) := by decide +kernel
theorem d_G_leastWithoutRule_14 : decode prog_3_method_15_code 14 = .ok (.iand, 1) := by decide +kernel
theorem d_G_leastWithoutRule_15 : decode prog_3_method_15_code 15 = .ok (.invokestatic 77, 3) := by decide +kernel
theorem d_G_leastWithoutRule_18 : decode prog_3_method_15_code 18 = .ok (.ireturn, 1) := by decide +kernel
theorem d_E_takeRule_0 : decode prog_4_method_6_code 0 = .ok (.iconst 0, 1) := by decide +kernel
theorem d_E_takeRule_1 : decode prog_4_method_6_code 1 = .ok (.istore 4, 2) := by decide +kernel
theorem d_E_takeRule_3 : decode prog_4_method_6_code 3 = .ok (.iload_n 3, 1) := by decide +kernel
theorem d_E_takeRule_4 : decode prog_4_method_6_code 4 = .ok (.ifCond .eq 40, 3) := by decide +kernel
theorem d_E_takeRule_44 : decode prog_4_method_6_code 44 = .ok (.return_, 1) := by decide +kernel
theorem d_E_takeRule_7 : decode prog_4_method_6_code 7 = .ok (.iload 4, 2) := by decide +kernel
theorem d_E_takeRule_9 : decode prog_4_method_6_code 9 = .ok (.bipush 16, 2) := by decide +kernel
theorem d_E_takeRule_11 : decode prog_4_method_6_code 11 = .ok (.if_icmp .ge 33, 3) := by decide +kernel
theorem d_E_takeRule_14 : decode prog_4_method_6_code 14 = .ok (.iload_n 3, 1) := by decide +kernel
theorem d_E_takeRule_15 : decode prog_4_method_6_code 15 = .ok (.iload 4, 2) := by decide +kernel
theorem d_E_takeRule_17 : decode prog_4_method_6_code 17 = .ok (.invokestatic 48, 3) := by decide +kernel
theorem d_E_takeRule_38 : decode prog_4_method_6_code 38 = .ok (.iinc 4 1, 3) := by decide +kernel
theorem d_E_takeRule_41 : decode prog_4_method_6_code 41 = .ok (.goto (-38), 3) := by decide +kernel
theorem d_E_takeRule_20 : decode prog_4_method_6_code 20 = .ok (.ifCond .eq 18, 3) := by decide +kernel
theorem d_E_takeRule_23 : decode prog_4_method_6_code 23 = .ok (.aload_n 0, 1) := by decide +kernel
theorem d_E_takeRule_24 : decode prog_4_method_6_code 24 = .ok (.getfield 9, 3) := by decide +kernel
theorem d_E_takeRule_27 : decode prog_4_method_6_code 27 = .ok (.iload_n 1, 1) := by decide +kernel
theorem d_E_takeRule_28 : decode prog_4_method_6_code 28 = .ok (.iload 4, 2) := by decide +kernel
theorem d_E_takeRule_30 : decode prog_4_method_6_code 30 = .ok (.iadd, 1) := by decide +kernel
theorem d_E_takeRule_31 : decode prog_4_method_6_code 31 = .ok (.dup2, 1) := by decide +kernel
theorem d_E_takeRule_32 : decode prog_4_method_6_code 32 = .ok (.iaload, 1) := by decide +kernel
theorem d_E_takeRule_33 : decode prog_4_method_6_code 33 = .ok (.iconst 1, 1) := by decide +kernel
theorem d_E_takeRule_34 : decode prog_4_method_6_code 34 = .ok (.iload_n 2, 1) := by decide +kernel
theorem d_E_takeRule_35 : decode prog_4_method_6_code 35 = .ok (.ishl, 1) := by decide +kernel
theorem d_E_takeRule_36 : decode prog_4_method_6_code 36 = .ok (.ior, 1) := by decide +kernel
theorem d_E_takeRule_37 : decode prog_4_method_6_code 37 = .ok (.iastore, 1) := by decide +kernel
theorem d_E_takeRules_0 : decode prog_4_method_5_code 0 = .ok (.aload_n 0, 1) := by decide +kernel
theorem d_E_takeRules_1 : decode prog_4_method_5_code 1 = .ok (.getfield 9, 3) := by decide +kernel
theorem d_E_takeRules_4 : decode prog_4_method_5_code 4 = .ok (.iconst 0, 1) := by decide +kernel
theorem d_E_takeRules_5 : decode prog_4_method_5_code 5 = .ok (.invokestatic 22, 3) := by decide +kernel
theorem d_E_takeRules_8 : decode prog_4_method_5_code 8 = .ok (.iconst 0, 1) := by decide +kernel
theorem d_E_takeRules_9 : decode prog_4_method_5_code 9 = .ok (.istore_n 1, 1) := by decide +kernel
theorem d_E_takeRules_10 : decode prog_4_method_5_code 10 = .ok (.iload_n 1, 1) := by decide +kernel
theorem d_E_takeRules_11 : decode prog_4_method_5_code 11 = .ok (.aload_n 0, 1) := by decide +kernel
theorem d_E_takeRules_12 : decode prog_4_method_5_code 12 = .ok (.getfield 18, 3) := by decide +kernel
theorem d_E_takeRules_15 : decode prog_4_method_5_code 15 = .ok (.getfield 31, 3) := by decide +kernel
theorem d_E_takeRules_18 : decode prog_4_method_5_code 18 = .ok (.if_icmp .ge 45, 3) := by decide +kernel
theorem d_E_takeRules_63 : decode prog_4_method_5_code 63 = .ok (.return_, 1) := by decide +kernel
theorem d_E_takeRules_21 : decode prog_4_method_5_code 21 = .ok (.iload_n 1, 1) := by decide +kernel
theorem d_E_takeRules_22 : decode prog_4_method_5_code 22 = .ok (.bipush 16, 2) := by decide +kernel
theorem d_E_takeRules_24 : decode prog_4_method_5_code 24 = .ok (.imul, 1) := by decide +kernel
theorem d_E_takeRules_25 : decode prog_4_method_5_code 25 = .ok (.istore_n 2, 1) := by decide +kernel
theorem d_E_takeRules_26 : decode prog_4_method_5_code 26 = .ok (.iconst 0, 1) := by decide +kernel
theorem d_E_takeRules_27 : decode prog_4_method_5_code 27 = .ok (.istore_n 3, 1) := by decide +kernel
theorem d_E_takeRules_28 : decode prog_4_method_5_code 28 = .ok (.iload_n 3, 1) := by decide +kernel
theorem d_E_takeRules_29 : decode prog_4_method_5_code 29 = .ok (.bipush 16, 2) := by decide +kernel
theorem d_E_takeRules_31 : decode prog_4_method_5_code 31 = .ok (.if_icmp .ge 26, 3) := by decide +kernel
theorem d_E_takeRules_57 : decode prog_4_method_5_code 57 = .ok (.iinc 1 1, 3) := by decide +kernel
theorem d_E_takeRules_60 : decode prog_4_method_5_code 60 = .ok (.goto (-50), 3) := by decide +kernel
theorem d_E_takeRules_34 : decode prog_4_method_5_code 34 = .ok (.aload_n 0, 1) := by decide +kernel
theorem d_E_takeRules_35 : decode prog_4_method_5_code 35 = .ok (.iload_n 2, 1) := by decide +kernel
theorem d_E_takeRules_36 : decode prog_4_method_5_code 36 = .ok (.iload_n 3, 1) := by decide +kernel
theorem d_E_takeRules_37 : decode prog_4_method_5_code 37 = .ok (.aload_n 0, 1) := by decide +kernel
theorem d_E_takeRules_38 : decode prog_4_method_5_code 38 = .ok (.getfield 18, 3) := by decide +kernel
theorem d_E_takeRules_41 : decode prog_4_method_5_code 41 = .ok (.getfield 52, 3) := by decide +kernel
theorem d_E_takeRules_44 : decode prog_4_method_5_code 44 = .ok (.iload_n 2, 1) := by decide +kernel
theorem d_E_takeRules_45 : decode prog_4_method_5_code 45 = .ok (.iload_n 3, 1) := by decide +kernel
theorem d_E_takeRules_46 : decode prog_4_method_5_code 46 = .ok (.iadd, 1) := by decide +kernel
theorem d_E_takeRules_47 : decode prog_4_method_5_code 47 = .ok (.iaload, 1) := by decide +kernel
theorem d_E_takeRules_48 : decode prog_4_method_5_code 48 = .ok (.invokevirtual 55, 3) := by decide +kernel
theorem d_E_takeRules_51 : decode prog_4_method_5_code 51 = .ok (.iinc 3 1, 3) := by decide +kernel
theorem d_E_takeRules_54 : decode prog_4_method_5_code 54 = .ok (.goto (-26), 3) := by decide +kernel
theorem d_E_takeFromSymbols_0 : decode prog_4_method_7_code 0 = .ok (.iconst 0, 1) := by decide +kernel
theorem d_E_takeFromSymbols_1 : decode prog_4_method_7_code 1 = .ok (.istore_n 2, 1) := by decide +kernel
theorem d_E_takeFromSymbols_2 : decode prog_4_method_7_code 2 = .ok (.iload_n 2, 1) := by decide +kernel
theorem d_E_takeFromSymbols_3 : decode prog_4_method_7_code 3 = .ok (.aload_n 0, 1) := by decide +kernel
theorem d_E_takeFromSymbols_4 : decode prog_4_method_7_code 4 = .ok (.getfield 18, 3) := by decide +kernel
theorem d_E_takeFromSymbols_7 : decode prog_4_method_7_code 7 = .ok (.getfield 59, 3) := by decide +kernel
theorem d_E_takeFromSymbols_10 : decode prog_4_method_7_code 10 = .ok (.iload_n 1, 1) := by decide +kernel
theorem d_E_takeFromSymbols_11 : decode prog_4_method_7_code 11 = .ok (.iaload, 1) := by decide +kernel
theorem d_E_takeFromSymbols_12 : decode prog_4_method_7_code 12 = .ok (.if_icmp .gt 75, 3) := by decide +kernel
theorem d_E_takeFromSymbols_87 : decode prog_4_method_7_code 87 = .ok (.return_, 1) := by decide +kernel
theorem d_E_takeFromSymbols_15 : decode prog_4_method_7_code 15 = .ok (.aload_n 0, 1) := by decide +kernel
theorem d_E_takeFromSymbols_16 : decode prog_4_method_7_code 16 = .ok (.getfield 18, 3) := by decide +kernel
theorem d_E_takeFromSymbols_19 : decode prog_4_method_7_code 19 = .ok (.iload_n 1, 1) := by decide +kernel
theorem d_E_takeFromSymbols_20 : decode prog_4_method_7_code 20 = .ok (.iload_n 2, 1) := by decide +kernel
theorem d_E_takeFromSymbols_21 : decode prog_4_method_7_code 21 = .ok (.invokevirtual 62, 3) := by decide +kernel
theorem d_E_takeFromSymbols_24 : decode prog_4_method_7_code 24 = .ok (.iconst 4, 1) := by decide +kernel
theorem d_E_takeFromSymbols_25 : decode prog_4_method_7_code 25 = .ok (.imul, 1) := by decide +kernel
theorem d_E_takeFromSymbols_26 : decode prog_4_method_7_code 26 = .ok (.istore_n 3, 1) := by decide +kernel
theorem d_E_takeFromSymbols_27 : decode prog_4_method_7_code 27 = .ok (.iload_n 2, 1) := by decide +kernel
theorem d_E_takeFromSymbols_28 : decode prog_4_method_7_code 28 = .ok (.iconst 4, 1) := by decide +kernel
theorem d_E_takeFromSymbols_29 : decode prog_4_method_7_code 29 = .ok (.imul, 1) := by decide +kernel
theorem d_E_takeFromSymbols_30 : decode prog_4_method_7_code 30 = .ok (.istore 4, 2) := by decide +kernel
theorem d_E_takeFromSymbols_32 : decode prog_4_method_7_code 32 = .ok (.iload_n 1, 1) := by decide +kernel
theorem d_E_takeFromSymbols_33 : decode prog_4_method_7_code 33 = .ok (.bipush 16, 2) := by decide +kernel
theorem d_E_takeFromSymbols_35 : decode prog_4_method_7_code 35 = .ok (.imul, 1) := by decide +kernel
theorem d_E_takeFromSymbols_36 : decode prog_4_method_7_code 36 = .ok (.iload 4, 2) := by decide +kernel
theorem d_E_takeFromSymbols_38 : decode prog_4_method_7_code 38 = .ok (.iadd, 1) := by decide +kernel
theorem d_E_takeFromSymbols_39 : decode prog_4_method_7_code 39 = .ok (.istore 5, 2) := by decide +kernel
theorem d_E_takeFromSymbols_41 : decode prog_4_method_7_code 41 = .ok (.iconst 0, 1) := by decide +kernel
theorem d_E_takeFromSymbols_42 : decode prog_4_method_7_code 42 = .ok (.istore 6, 2) := by decide +kernel
theorem d_E_takeFromSymbols_44 : decode prog_4_method_7_code 44 = .ok (.iload 6, 2) := by decide +kernel
theorem d_E_takeFromSymbols_46 : decode prog_4_method_7_code 46 = .ok (.iconst 4, 1) := by decide +kernel
theorem d_E_takeFromSymbols_47 : decode prog_4_method_7_code 47 = .ok (.if_icmp .ge 34, 3) := by decide +kernel
theorem d_E_takeFromSymbols_81 : decode prog_4_method_7_code 81 = .ok (.iinc 2 1, 3) := by decide +kernel
theorem d_E_takeFromSymbols_84 : decode prog_4_method_7_code 84 = .ok (.goto (-82), 3) := by decide +kernel
theorem d_E_takeFromSymbols_50 : decode prog_4_method_7_code 50 = .ok (.aload_n 0, 1) := by decide +kernel
theorem d_E_takeFromSymbols_51 : decode prog_4_method_7_code 51 = .ok (.getfield 9, 3) := by decide +kernel
theorem d_E_takeFromSymbols_54 : decode prog_4_method_7_code 54 = .ok (.iload 5, 2) := by decide +kernel
theorem d_E_takeFromSymbols_56 : decode prog_4_method_7_code 56 = .ok (.iload 6, 2) := by decide +kernel
theorem d_E_takeFromSymbols_58 : decode prog_4_method_7_code 58 = .ok (.iadd, 1) := by decide +kernel
theorem d_E_takeFromSymbols_59 : decode prog_4_method_7_code 59 = .ok (.dup2, 1) := by decide +kernel
theorem d_E_takeFromSymbols_60 : decode prog_4_method_7_code 60 = .ok (.iaload, 1) := by decide +kernel
theorem d_E_takeFromSymbols_61 : decode prog_4_method_7_code 61 = .ok (.aload_n 0, 1) := by decide +kernel
theorem d_E_takeFromSymbols_62 : decode prog_4_method_7_code 62 = .ok (.getfield 15, 3) := by decide +kernel
theorem d_E_takeFromSymbols_65 : decode prog_4_method_7_code 65 = .ok (.iload_n 3, 1) := by decide +kernel
theorem d_E_takeFromSymbols_66 : decode prog_4_method_7_code 66 = .ok (.iload 6, 2) := by decide +kernel
theorem d_E_takeFromSymbols_68 : decode prog_4_method_7_code 68 = .ok (.iadd, 1) := by decide +kernel
theorem d_E_takeFromSymbols_69 : decode prog_4_method_7_code 69 = .ok (.iaload, 1) := by decide +kernel
theorem d_E_takeFromSymbols_70 : decode prog_4_method_7_code 70 = .ok (.iload 4, 2) := by decide +kernel
theorem d_E_takeFromSymbols_72 : decode prog_4_method_7_code 72 = .ok (.ishl, 1) := by decide +kernel
theorem d_E_takeFromSymbols_73 : decode prog_4_method_7_code 73 = .ok (.ior, 1) := by decide +kernel
theorem d_E_takeFromSymbols_74 : decode prog_4_method_7_code 74 = .ok (.iastore, 1) := by decide +kernel
theorem d_E_takeFromSymbols_75 : decode prog_4_method_7_code 75 = .ok (.iinc 6 1, 3) := by decide +kernel
theorem d_E_takeFromSymbols_78 : decode prog_4_method_7_code 78 = .ok (.goto (-34), 3) := by decide +kernel
theorem d_E_close_0 : decode prog_4_method_8_code 0 = .ok (.iload_n 1, 1) := by decide +kernel
theorem d_E_close_1 : decode prog_4_method_8_code 1 = .ok (.bipush 16, 2) := by decide +kernel
theorem d_E_close_3 : decode prog_4_method_8_code 3 = .ok (.imul, 1) := by decide +kernel
theorem d_E_close_4 : decode prog_4_method_8_code 4 = .ok (.istore_n 2, 1) := by decide +kernel
theorem d_E_close_5 : decode prog_4_method_8_code 5 = .ok (.iconst 0, 1) := by decide +kernel
theorem d_E_close_6 : decode prog_4_method_8_code 6 = .ok (.istore_n 3, 1) := by decide +kernel
theorem d_E_close_7 : decode prog_4_method_8_code 7 = .ok (.iload_n 3, 1) := by decide +kernel
theorem d_E_close_8 : decode prog_4_method_8_code 8 = .ok (.bipush 16, 2) := by decide +kernel
theorem d_E_close_10 : decode prog_4_method_8_code 10 = .ok (.if_icmp .ge 70, 3) := by decide +kernel
theorem d_E_close_80 : decode prog_4_method_8_code 80 = .ok (.return_, 1) := by decide +kernel
theorem d_E_close_13 : decode prog_4_method_8_code 13 = .ok (.aload_n 0, 1) := by decide +kernel
theorem d_E_close_14 : decode prog_4_method_8_code 14 = .ok (.getfield 9, 3) := by decide +kernel
theorem d_E_close_17 : decode prog_4_method_8_code 17 = .ok (.iload_n 2, 1) := by decide +kernel
theorem d_E_close_18 : decode prog_4_method_8_code 18 = .ok (.iload_n 3, 1) := by decide +kernel
theorem d_E_close_19 : decode prog_4_method_8_code 19 = .ok (.iadd, 1) := by decide +kernel
theorem d_E_close_20 : decode prog_4_method_8_code 20 = .ok (.iaload, 1) := by decide +kernel
theorem d_E_close_21 : decode prog_4_method_8_code 21 = .ok (.istore 4, 2) := by decide +kernel
theorem d_E_close_23 : decode prog_4_method_8_code 23 = .ok (.iconst 0, 1) := by decide +kernel
theorem d_E_close_24 : decode prog_4_method_8_code 24 = .ok (.istore 5, 2) := by decide +kernel
theorem d_E_close_26 : decode prog_4_method_8_code 26 = .ok (.iload 4, 2) := by decide +kernel
theorem d_E_close_74 : decode prog_4_method_8_code 74 = .ok (.iinc 3 1, 3) := by decide +kernel
theorem d_E_close_77 : decode prog_4_method_8_code 77 = .ok (.goto (-70), 3) := by decide +kernel
theorem d_E_close_28 : decode prog_4_method_8_code 28 = .ok (.ifCond .eq 46, 3) := by decide +kernel
theorem d_E_close_31 : decode prog_4_method_8_code 31 = .ok (.iload 5, 2) := by decide +kernel
theorem d_E_close_33 : decode prog_4_method_8_code 33 = .ok (.bipush 16, 2) := by decide +kernel
theorem d_E_close_35 : decode prog_4_method_8_code 35 = .ok (.if_icmp .ge 39, 3) := by decide +kernel
theorem d_E_close_38 : decode prog_4_method_8_code 38 = .ok (.aload_n 0, 1) := by decide +kernel
theorem d_E_close_39 : decode prog_4_method_8_code 39 = .ok (.getfield 9, 3) := by decide +kernel
theorem d_E_close_42 : decode prog_4_method_8_code 42 = .ok (.iload_n 2, 1) := by decide +kernel
theorem d_E_close_43 : decode prog_4_method_8_code 43 = .ok (.iload 5, 2) := by decide +kernel
theorem d_E_close_45 : decode prog_4_method_8_code 45 = .ok (.iadd, 1) := by decide +kernel
theorem d_E_close_46 : decode prog_4_method_8_code 46 = .ok (.iaload, 1) := by decide +kernel
theorem d_E_close_47 : decode prog_4_method_8_code 47 = .ok (.iload_n 3, 1) := by decide +kernel
theorem d_E_close_48 : decode prog_4_method_8_code 48 = .ok (.invokestatic 48, 3) := by decide +kernel
theorem d_E_close_68 : decode prog_4_method_8_code 68 = .ok (.iinc 5 1, 3) := by decide +kernel
theorem d_E_close_71 : decode prog_4_method_8_code 71 = .ok (.goto (-45), 3) := by decide +kernel
theorem d_E_close_51 : decode prog_4_method_8_code 51 = .ok (.ifCond .eq 17, 3) := by decide +kernel
theorem d_E_close_54 : decode prog_4_method_8_code 54 = .ok (.aload_n 0, 1) := by decide +kernel
theorem d_E_close_55 : decode prog_4_method_8_code 55 = .ok (.getfield 9, 3) := by decide +kernel
theorem d_E_close_58 : decode prog_4_method_8_code 58 = .ok (.iload_n 2, 1) := by decide +kernel
theorem d_E_close_59 : decode prog_4_method_8_code 59 = .ok (.iload 5, 2) := by decide +kernel
theorem d_E_close_61 : decode prog_4_method_8_code 61 = .ok (.iadd, 1) := by decide +kernel
theorem d_E_close_62 : decode prog_4_method_8_code 62 = .ok (.dup2, 1) := by decide +kernel
theorem d_E_close_63 : decode prog_4_method_8_code 63 = .ok (.iaload, 1) := by decide +kernel
theorem d_E_close_64 : decode prog_4_method_8_code 64 = .ok (.iload 4, 2) := by decide +kernel
theorem d_E_close_66 : decode prog_4_method_8_code 66 = .ok (.ior, 1) := by decide +kernel
theorem d_E_close_67 : decode prog_4_method_8_code 67 = .ok (.iastore, 1) := by decide +kernel
theorem d_E_giveToSymbols_0 : decode prog_4_method_9_code 0 = .ok (.iconst 0, 1) := by decide +kernel
theorem d_E_giveToSymbols_1 : decode prog_4_method_9_code 1 = .ok (.istore_n 2, 1) := by decide +kernel
theorem d_E_giveToSymbols_2 : decode prog_4_method_9_code 2 = .ok (.iconst 0, 1) := by decide +kernel
theorem d_E_giveToSymbols_3 : decode prog_4_method_9_code 3 = .ok (.istore_n 3, 1) := by decide +kernel
theorem d_E_giveToSymbols_4 : decode prog_4_method_9_code 4 = .ok (.iload_n 3, 1) := by decide +kernel
theorem d_E_giveToSymbols_5 : decode prog_4_method_9_code 5 = .ok (.aload_n 0, 1) := by decide +kernel
theorem d_E_giveToSymbols_6 : decode prog_4_method_9_code 6 = .ok (.getfield 18, 3) := by decide +kernel
theorem d_E_giveToSymbols_9 : decode prog_4_method_9_code 9 = .ok (.getfield 59, 3) := by decide +kernel
theorem d_E_giveToSymbols_12 : decode prog_4_method_9_code 12 = .ok (.iload_n 1, 1) := by decide +kernel
theorem d_E_giveToSymbols_13 : decode prog_4_method_9_code 13 = .ok (.iaload, 1) := by decide +kernel
theorem d_E_giveToSymbols_14 : decode prog_4_method_9_code 14 = .ok (.if_icmp .gt 105, 3) := by decide +kernel
theorem d_E_giveToSymbols_119 : decode prog_4_method_9_code 119 = .ok (.iload_n 2, 1) := by decide +kernel
theorem d_E_giveToSymbols_120 : decode prog_4_method_9_code 120 = .ok (.ireturn, 1) := by decide +kernel
theorem d_E_giveToSymbols_17 : decode prog_4_method_9_code 17 = .ok (.aload_n 0, 1) := by decide +kernel
theorem d_E_giveToSymbols_18 : decode prog_4_method_9_code 18 = .ok (.getfield 18, 3) := by decide +kernel
theorem d_E_giveToSymbols_21 : decode prog_4_method_9_code 21 = .ok (.iload_n 1, 1) := by decide +kernel
theorem d_E_giveToSymbols_22 : decode prog_4_method_9_code 22 = .ok (.iload_n 3, 1) := by decide +kernel
theorem d_E_giveToSymbols_23 : decode prog_4_method_9_code 23 = .ok (.invokevirtual 62, 3) := by decide +kernel
theorem d_E_giveToSymbols_26 : decode prog_4_method_9_code 26 = .ok (.iconst 4, 1) := by decide +kernel
theorem d_E_giveToSymbols_27 : decode prog_4_method_9_code 27 = .ok (.imul, 1) := by decide +kernel
theorem d_E_giveToSymbols_28 : decode prog_4_method_9_code 28 = .ok (.istore 4, 2) := by decide +kernel
theorem d_E_giveToSymbols_30 : decode prog_4_method_9_code 30 = .ok (.iload_n 3, 1) := by decide +kernel
theorem d_E_giveToSymbols_31 : decode prog_4_method_9_code 31 = .ok (.iconst 4, 1) := by decide +kernel
theorem d_E_giveToSymbols_32 : decode prog_4_method_9_code 32 = .ok (.imul, 1) := by decide +kernel
theorem d_E_giveToSymbols_33 : decode prog_4_method_9_code 33 = .ok (.istore 5, 2) := by decide +kernel
theorem d_E_giveToSymbols_35 : decode prog_4_method_9_code 35 = .ok (.iload_n 1, 1) := by decide +kernel
theorem d_E_giveToSymbols_36 : decode prog_4_method_9_code 36 = .ok (.bipush 16, 2) := by decide +kernel
theorem d_E_giveToSymbols_38 : decode prog_4_method_9_code 38 = .ok (.imul, 1) := by decide +kernel
theorem d_E_giveToSymbols_39 : decode prog_4_method_9_code 39 = .ok (.iload 5, 2) := by decide +kernel
theorem d_E_giveToSymbols_41 : decode prog_4_method_9_code 41 = .ok (.iadd, 1) := by decide +kernel
theorem d_E_giveToSymbols_42 : decode prog_4_method_9_code 42 = .ok (.istore 6, 2) := by decide +kernel
theorem d_E_giveToSymbols_44 : decode prog_4_method_9_code 44 = .ok (.iconst 0, 1) := by decide +kernel
theorem d_E_giveToSymbols_45 : decode prog_4_method_9_code 45 = .ok (.istore 7, 2) := by decide +kernel
theorem d_E_giveToSymbols_47 : decode prog_4_method_9_code 47 = .ok (.iload 7, 2) := by decide +kernel
theorem d_E_giveToSymbols_49 : decode prog_4_method_9_code 49 = .ok (.iconst 4, 1) := by decide +kernel
theorem d_E_giveToSymbols_50 : decode prog_4_method_9_code 50 = .ok (.if_icmp .ge 63, 3) := by decide +kernel
theorem d_E_giveToSymbols_113 : decode prog_4_method_9_code 113 = .ok (.iinc 3 1, 3) := by decide +kernel
theorem d_E_giveToSymbols_116 : decode prog_4_method_9_code 116 = .ok (.goto (-112), 3) := by decide +kernel
theorem d_E_giveToSymbols_53 : decode prog_4_method_9_code 53 = .ok (.iload 5, 2) := by decide +kernel
theorem d_E_giveToSymbols_55 : decode prog_4_method_9_code 55 = .ok (.iload 7, 2) := by decide +kernel
theorem d_E_giveToSymbols_57 : decode prog_4_method_9_code 57 = .ok (.aload_n 0, 1) := by decide +kernel
theorem d_E_giveToSymbols_58 : decode prog_4_method_9_code 58 = .ok (.getfield 9, 3) := by decide +kernel
theorem d_E_giveToSymbols_61 : decode prog_4_method_9_code 61 = .ok (.iload 6, 2) := by decide +kernel
theorem d_E_giveToSymbols_63 : decode prog_4_method_9_code 63 = .ok (.iload 7, 2) := by decide +kernel
theorem d_E_giveToSymbols_65 : decode prog_4_method_9_code 65 = .ok (.iadd, 1) := by decide +kernel
theorem d_E_giveToSymbols_66 : decode prog_4_method_9_code 66 = .ok (.iaload, 1) := by decide +kernel
theorem d_E_giveToSymbols_67 : decode prog_4_method_9_code 67 = .ok (.invokestatic 66, 3) := by decide +kernel
theorem d_E_giveToSymbols_70 : decode prog_4_method_9_code 70 = .ok (.istore 8, 2) := by decide +kernel
theorem d_E_giveToSymbols_72 : decode prog_4_method_9_code 72 = .ok (.aload_n 0, 1) := by decide +kernel
theorem d_E_giveToSymbols_73 : decode prog_4_method_9_code 73 = .ok (.getfield 15, 3) := by decide +kernel
theorem d_E_giveToSymbols_76 : decode prog_4_method_9_code 76 = .ok (.iload 4, 2) := by decide +kernel
theorem d_E_giveToSymbols_78 : decode prog_4_method_9_code 78 = .ok (.iload 7, 2) := by decide +kernel
theorem d_E_giveToSymbols_80 : decode prog_4_method_9_code 80 = .ok (.iadd, 1) := by decide +kernel
theorem d_E_giveToSymbols_81 : decode prog_4_method_9_code 81 = .ok (.iaload, 1) := by decide +kernel
theorem d_E_giveToSymbols_82 : decode prog_4_method_9_code 82 = .ok (.iload 8, 2) := by decide +kernel
theorem d_E_giveToSymbols_84 : decode prog_4_method_9_code 84 = .ok (.invokestatic 70, 3) := by decide +kernel
theorem d_E_giveToSymbols_107 : decode prog_4_method_9_code 107 = .ok (.iinc 7 1, 3) := by decide +kernel
theorem d_E_giveToSymbols_110 : decode prog_4_method_9_code 110 = .ok (.goto (-63), 3) := by decide +kernel
theorem d_E_giveToSymbols_87 : decode prog_4_method_9_code 87 = .ok (.ifCond .ne 20, 3) := by decide +kernel
theorem d_E_giveToSymbols_90 : decode prog_4_method_9_code 90 = .ok (.aload_n 0, 1) := by decide +kernel
theorem d_E_giveToSymbols_91 : decode prog_4_method_9_code 91 = .ok (.getfield 15, 3) := by decide +kernel
theorem d_E_giveToSymbols_94 : decode prog_4_method_9_code 94 = .ok (.iload 4, 2) := by decide +kernel
theorem d_E_giveToSymbols_96 : decode prog_4_method_9_code 96 = .ok (.iload 7, 2) := by decide +kernel
theorem d_E_giveToSymbols_98 : decode prog_4_method_9_code 98 = .ok (.iadd, 1) := by decide +kernel
theorem d_E_giveToSymbols_99 : decode prog_4_method_9_code 99 = .ok (.dup2, 1) := by decide +kernel
theorem d_E_giveToSymbols_100 : decode prog_4_method_9_code 100 = .ok (.iaload, 1) := by decide +kernel
theorem d_E_giveToSymbols_101 : decode prog_4_method_9_code 101 = .ok (.iload 8, 2) := by decide +kernel
theorem d_E_giveToSymbols_103 : decode prog_4_method_9_code 103 = .ok (.ior, 1) := by decide +kernel
theorem d_E_giveToSymbols_104 : decode prog_4_method_9_code 104 = .ok (.iastore, 1) := by decide +kernel
theorem d_E_giveToSymbols_105 : decode prog_4_method_9_code 105 = .ok (.iconst 1, 1) := by decide +kernel
theorem d_E_giveToSymbols_106 : decode prog_4_method_9_code 106 = .ok (.istore_n 2, 1) := by decide +kernel
theorem d_E_takeOrder_0 : decode prog_4_method_3_code 0 = .ok (.iconst 0, 1) := by decide +kernel
theorem d_E_takeOrder_1 : decode prog_4_method_3_code 1 = .ok (.istore_n 1, 1) := by decide +kernel
theorem d_E_takeOrder_2 : decode prog_4_method_3_code 2 = .ok (.iload_n 1, 1) := by decide +kernel
theorem d_E_takeOrder_3 : decode prog_4_method_3_code 3 = .ok (.aload_n 0, 1) := by decide +kernel
theorem d_E_takeOrder_4 : decode prog_4_method_3_code 4 = .ok (.getfield 18, 3) := by decide +kernel
theorem d_E_takeOrder_7 : decode prog_4_method_3_code 7 = .ok (.getfield 31, 3) := by decide +kernel
theorem d_E_takeOrder_10 : decode prog_4_method_3_code 10 = .ok (.if_icmp .ge 19, 3) := by decide +kernel
theorem d_E_takeOrder_29 : decode prog_4_method_3_code 29 = .ok (.return_, 1) := by decide +kernel
theorem d_E_takeOrder_13 : decode prog_4_method_3_code 13 = .ok (.aload_n 0, 1) := by decide +kernel
theorem d_E_takeOrder_14 : decode prog_4_method_3_code 14 = .ok (.iload_n 1, 1) := by decide +kernel
theorem d_E_takeOrder_15 : decode prog_4_method_3_code 15 = .ok (.invokevirtual 37, 3) := by decide +kernel
theorem d_E_takeOrder_18 : decode prog_4_method_3_code 18 = .ok (.aload_n 0, 1) := by decide +kernel
theorem d_E_takeOrder_19 : decode prog_4_method_3_code 19 = .ok (.iload_n 1, 1) := by decide +kernel
theorem d_E_takeOrder_20 : decode prog_4_method_3_code 20 = .ok (.invokevirtual 41, 3) := by decide +kernel
theorem d_E_takeOrder_23 : decode prog_4_method_3_code 23 = .ok (.iinc 1 1, 3) := by decide +kernel
theorem d_E_takeOrder_26 : decode prog_4_method_3_code 26 = .ok (.goto (-24), 3) := by decide +kernel
theorem d_E_leastLeadingToItself_0 : decode prog_4_method_4_code 0 = .ok (.iload_n 1, 1) := by decide +kernel
theorem d_E_leastLeadingToItself_1 : decode prog_4_method_4_code 1 = .ok (.bipush 16, 2) := by decide +kernel
theorem d_E_leastLeadingToItself_3 : decode prog_4_method_4_code 3 = .ok (.imul, 1) := by decide +kernel
theorem d_E_leastLeadingToItself_4 : decode prog_4_method_4_code 4 = .ok (.istore_n 2, 1) := by decide +kernel
theorem d_E_leastLeadingToItself_5 : decode prog_4_method_4_code 5 = .ok (.iconst 0, 1) := by decide +kernel
theorem d_E_leastLeadingToItself_6 : decode prog_4_method_4_code 6 = .ok (.istore_n 3, 1) := by decide +kernel
theorem d_E_leastLeadingToItself_7 : decode prog_4_method_4_code 7 = .ok (.iload_n 3, 1) := by decide +kernel
theorem d_E_leastLeadingToItself_8 : decode prog_4_method_4_code 8 = .ok (.bipush 16, 2) := by decide +kernel
theorem d_E_leastLeadingToItself_10 : decode prog_4_method_4_code 10 = .ok (.if_icmp .ge 26, 3) := by decide +kernel
theorem d_E_leastLeadingToItself_36 : decode prog_4_method_4_code 36 = .ok (.iconst (-1), 1) := by decide +kernel
theorem d_E_leastLeadingToItself_37 : decode prog_4_method_4_code 37 = .ok (.ireturn, 1) := by decide +kernel
theorem d_E_leastLeadingToItself_13 : decode prog_4_method_4_code 13 = .ok (.aload_n 0, 1) := by decide +kernel
theorem d_E_leastLeadingToItself_14 : decode prog_4_method_4_code 14 = .ok (.getfield 9, 3) := by decide +kernel
theorem d_E_leastLeadingToItself_17 : decode prog_4_method_4_code 17 = .ok (.iload_n 2, 1) := by decide +kernel
theorem d_E_leastLeadingToItself_18 : decode prog_4_method_4_code 18 = .ok (.iload_n 3, 1) := by decide +kernel
theorem d_E_leastLeadingToItself_19 : decode prog_4_method_4_code 19 = .ok (.iadd, 1) := by decide +kernel
theorem d_E_leastLeadingToItself_20 : decode prog_4_method_4_code 20 = .ok (.iaload, 1) := by decide +kernel
theorem d_E_leastLeadingToItself_21 : decode prog_4_method_4_code 21 = .ok (.iload_n 3, 1) := by decide +kernel
theorem d_E_leastLeadingToItself_22 : decode prog_4_method_4_code 22 = .ok (.invokestatic 48, 3) := by decide +kernel
theorem d_E_leastLeadingToItself_25 : decode prog_4_method_4_code 25 = .ok (.ifCond .eq 5, 3) := by decide +kernel
theorem d_E_leastLeadingToItself_30 : decode prog_4_method_4_code 30 = .ok (.iinc 3 1, 3) := by decide +kernel
theorem d_E_leastLeadingToItself_33 : decode prog_4_method_4_code 33 = .ok (.goto (-26), 3) := by decide +kernel
theorem d_E_leastLeadingToItself_28 : decode prog_4_method_4_code 28 = .ok (.iload_n 3, 1) := by decide +kernel
theorem d_E_leastLeadingToItself_29 : decode prog_4_method_4_code 29 = .ok (.ireturn, 1) := by decide +kernel
theorem d_E_spread_0 : decode prog_4_method_2_code 0 = .ok (.aload_n 0, 1) := by decide +kernel
theorem d_E_spread_1 : decode prog_4_method_2_code 1 = .ok (.getfield 15, 3) := by decide +kernel
theorem d_E_spread_4 : decode prog_4_method_2_code 4 = .ok (.iconst 0, 1) := by decide +kernel
theorem d_E_spread_5 : decode prog_4_method_2_code 5 = .ok (.invokestatic 22, 3) := by decide +kernel
theorem d_E_spread_8 : decode prog_4_method_2_code 8 = .ok (.aload_n 0, 1) := by decide +kernel
theorem d_E_spread_9 : decode prog_4_method_2_code 9 = .ok (.invokevirtual 28, 3) := by decide +kernel
theorem d_E_spread_12 : decode prog_4_method_2_code 12 = .ok (.iconst 1, 1) := by decide +kernel
theorem d_E_spread_13 : decode prog_4_method_2_code 13 = .ok (.istore_n 1, 1) := by decide +kernel
theorem d_E_spread_14 : decode prog_4_method_2_code 14 = .ok (.iconst 0, 1) := by decide +kernel
theorem d_E_spread_15 : decode prog_4_method_2_code 15 = .ok (.istore_n 2, 1) := by decide +kernel
theorem d_E_spread_16 : decode prog_4_method_2_code 16 = .ok (.iload_n 1, 1) := by decide +kernel
theorem d_E_spread_17 : decode prog_4_method_2_code 17 = .ok (.ifCond .eq 56, 3) := by decide +kernel
theorem d_E_spread_73 : decode prog_4_method_2_code 73 = .ok (.return_, 1) := by decide +kernel
theorem d_E_spread_20 : decode prog_4_method_2_code 20 = .ok (.iload_n 2, 1) := by decide +kernel
theorem d_E_spread_21 : decode prog_4_method_2_code 21 = .ok (.bipush 97, 2) := by decide +kernel
theorem d_E_spread_23 : decode prog_4_method_2_code 23 = .ok (.if_icmp .ge 50, 3) := by decide +kernel
theorem d_E_spread_26 : decode prog_4_method_2_code 26 = .ok (.iconst 0, 1) := by decide +kernel
theorem d_E_spread_27 : decode prog_4_method_2_code 27 = .ok (.istore_n 1, 1) := by decide +kernel
theorem d_E_spread_28 : decode prog_4_method_2_code 28 = .ok (.iconst 0, 1) := by decide +kernel
theorem d_E_spread_29 : decode prog_4_method_2_code 29 = .ok (.istore_n 3, 1) := by decide +kernel
theorem d_E_spread_30 : decode prog_4_method_2_code 30 = .ok (.iload_n 3, 1) := by decide +kernel
theorem d_E_spread_31 : decode prog_4_method_2_code 31 = .ok (.aload_n 0, 1) := by decide +kernel
theorem d_E_spread_32 : decode prog_4_method_2_code 32 = .ok (.getfield 18, 3) := by decide +kernel
theorem d_E_spread_35 : decode prog_4_method_2_code 35 = .ok (.getfield 31, 3) := by decide +kernel
theorem d_E_spread_38 : decode prog_4_method_2_code 38 = .ok (.if_icmp .ge 29, 3) := by decide +kernel
theorem d_E_spread_67 : decode prog_4_method_2_code 67 = .ok (.iinc 2 1, 3) := by decide +kernel
theorem d_E_spread_70 : decode prog_4_method_2_code 70 = .ok (.goto (-54), 3) := by decide +kernel
theorem d_E_spread_41 : decode prog_4_method_2_code 41 = .ok (.aload_n 0, 1) := by decide +kernel
theorem d_E_spread_42 : decode prog_4_method_2_code 42 = .ok (.iload_n 3, 1) := by decide +kernel
theorem d_E_spread_43 : decode prog_4_method_2_code 43 = .ok (.invokevirtual 37, 3) := by decide +kernel
theorem d_E_spread_46 : decode prog_4_method_2_code 46 = .ok (.aload_n 0, 1) := by decide +kernel
theorem d_E_spread_47 : decode prog_4_method_2_code 47 = .ok (.iload_n 3, 1) := by decide +kernel
theorem d_E_spread_48 : decode prog_4_method_2_code 48 = .ok (.invokevirtual 41, 3) := by decide +kernel
theorem d_E_spread_51 : decode prog_4_method_2_code 51 = .ok (.aload_n 0, 1) := by decide +kernel
theorem d_E_spread_52 : decode prog_4_method_2_code 52 = .ok (.iload_n 3, 1) := by decide +kernel
theorem d_E_spread_53 : decode prog_4_method_2_code 53 = .ok (.invokevirtual 44, 3) := by decide +kernel
theorem d_E_spread_61 : decode prog_4_method_2_code 61 = .ok (.iinc 3 1, 3) := by decide +kernel
theorem d_E_spread_64 : decode prog_4_method_2_code 64 = .ok (.goto (-34), 3) := by decide +kernel
theorem d_E_spread_56 : decode prog_4_method_2_code 56 = .ok (.ifCond .eq 5, 3) := by decide +kernel
theorem d_E_spread_59 : decode prog_4_method_2_code 59 = .ok (.iconst 1, 1) := by decide +kernel
theorem d_E_spread_60 : decode prog_4_method_2_code 60 = .ok (.istore_n 1, 1) := by decide +kernel
theorem d_K_inheritedOf_0 : decode prog_5_method_4_code 0 = .ok (.aload_n 0, 1) := by decide +kernel
theorem d_K_inheritedOf_1 : decode prog_5_method_4_code 1 = .ok (.getfield 18, 3) := by decide +kernel
theorem d_K_inheritedOf_4 : decode prog_5_method_4_code 4 = .ok (.iload_n 1, 1) := by decide +kernel
theorem d_K_inheritedOf_5 : decode prog_5_method_4_code 5 = .ok (.iconst 4, 1) := by decide +kernel
theorem d_K_inheritedOf_6 : decode prog_5_method_4_code 6 = .ok (.imul, 1) := by decide +kernel
theorem d_K_inheritedOf_7 : decode prog_5_method_4_code 7 = .ok (.iload_n 2, 1) := by decide +kernel
theorem d_K_inheritedOf_8 : decode prog_5_method_4_code 8 = .ok (.iadd, 1) := by decide +kernel
theorem d_K_inheritedOf_9 : decode prog_5_method_4_code 9 = .ok (.iaload, 1) := by decide +kernel
theorem d_K_inheritedOf_10 : decode prog_5_method_4_code 10 = .ok (.aload_n 0, 1) := by decide +kernel
theorem d_K_inheritedOf_11 : decode prog_5_method_4_code 11 = .ok (.getfield 21, 3) := by decide +kernel
theorem d_K_inheritedOf_14 : decode prog_5_method_4_code 14 = .ok (.getfield 63, 3) := by decide +kernel
theorem d_K_inheritedOf_17 : decode prog_5_method_4_code 17 = .ok (.iload_n 1, 1) := by decide +kernel
theorem d_K_inheritedOf_18 : decode prog_5_method_4_code 18 = .ok (.iaload, 1) := by decide +kernel
theorem d_K_inheritedOf_19 : decode prog_5_method_4_code 19 = .ok (.iand, 1) := by decide +kernel
theorem d_K_inheritedOf_20 : decode prog_5_method_4_code 20 = .ok (.ireturn, 1) := by decide +kernel
theorem d_K_synthesizedOf_0 : decode prog_5_method_5_code 0 = .ok (.aload_n 0, 1) := by decide +kernel
theorem d_K_synthesizedOf_1 : decode prog_5_method_5_code 1 = .ok (.getfield 18, 3) := by decide +kernel
theorem d_K_synthesizedOf_4 : decode prog_5_method_5_code 4 = .ok (.iload_n 1, 1) := by decide +kernel
theorem d_K_synthesizedOf_5 : decode prog_5_method_5_code 5 = .ok (.iconst 4, 1) := by decide +kernel
theorem d_K_synthesizedOf_6 : decode prog_5_method_5_code 6 = .ok (.imul, 1) := by decide +kernel
theorem d_K_synthesizedOf_7 : decode prog_5_method_5_code 7 = .ok (.iload_n 2, 1) := by decide +kernel
theorem d_K_synthesizedOf_8 : decode prog_5_method_5_code 8 = .ok (.iadd, 1) := by decide +kernel
theorem d_K_synthesizedOf_9 : decode prog_5_method_5_code 9 = .ok (.iaload, 1) := by decide +kernel
theorem d_K_synthesizedOf_10 : decode prog_5_method_5_code 10 = .ok (.aload_n 0, 1) := by decide +kernel
theorem d_K_synthesizedOf_11 : decode prog_5_method_5_code 11 = .ok (.getfield 21, 3) := by decide +kernel
theorem d_K_synthesizedOf_14 : decode prog_5_method_5_code 14 = .ok (.getfield 63, 3) := by decide +kernel
theorem d_K_synthesizedOf_17 : decode prog_5_method_5_code 17 = .ok (.iload_n 1, 1) := by decide +kernel
theorem d_K_synthesizedOf_18 : decode prog_5_method_5_code 18 = .ok (.iaload, 1) := by decide +kernel
