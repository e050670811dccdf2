theorem d_K_synthesizedOf_19 : decode prog_5_method_5_code 19 = .ok (.iconst (-1), 1) := by decide +kernel
theorem d_K_synthesizedOf_20 : decode prog_5_method_5_code 20 = .ok (.ixor, 1) := by decide +kernel
theorem d_K_synthesizedOf_21 : decode prog_5_method_5_code 21 = .ok (.iand, 1) := by decide +kernel
theorem d_K_synthesizedOf_22 : decode prog_5_method_5_code 22 = .ok (.ireturn, 1) := by decide +kernel
theorem d_K_leastRank_0 : decode prog_5_method_7_code 0 = .ok (.aload_n 0, 1) := by decide +kernel
theorem d_K_leastRank_1 : decode prog_5_method_7_code 1 = .ok (.getfield 21, 3) := by decide +kernel
theorem d_K_leastRank_4 : decode prog_5_method_7_code 4 = .ok (.getfield 63, 3) := by decide +kernel
theorem d_K_leastRank_7 : decode prog_5_method_7_code 7 = .ok (.iload_n 1, 1) := by decide +kernel
theorem d_K_leastRank_8 : decode prog_5_method_7_code 8 = .ok (.iaload, 1) := by decide +kernel
theorem d_K_leastRank_9 : decode prog_5_method_7_code 9 = .ok (.iload_n 2, 1) := by decide +kernel
theorem d_K_leastRank_10 : decode prog_5_method_7_code 10 = .ok (.invokestatic 72, 3) := by decide +kernel
theorem d_K_leastRank_13 : decode prog_5_method_7_code 13 = .ok (.ifCond .eq 7, 3) := by decide +kernel
theorem d_K_leastRank_20 : decode prog_5_method_7_code 20 = .ok (.iconst 1, 1) := by decide +kernel
theorem d_K_leastRank_21 : decode prog_5_method_7_code 21 = .ok (.ireturn, 1) := by decide +kernel
theorem d_K_leastRank_16 : decode prog_5_method_7_code 16 = .ok (.iconst 2, 1) := by decide +kernel
theorem d_K_leastRank_17 : decode prog_5_method_7_code 17 = .ok (.goto 4, 3) := by decide +kernel
theorem d_K_rankAboveLed_0 : decode prog_5_method_8_code 0 = .ok (.iload_n 1, 1) := by decide +kernel
theorem d_K_rankAboveLed_1 : decode prog_5_method_8_code 1 = .ok (.iconst 4, 1) := by decide +kernel
theorem d_K_rankAboveLed_2 : decode prog_5_method_8_code 2 = .ok (.imul, 1) := by decide +kernel
theorem d_K_rankAboveLed_3 : decode prog_5_method_8_code 3 = .ok (.istore_n 3, 1) := by decide +kernel
theorem d_K_rankAboveLed_4 : decode prog_5_method_8_code 4 = .ok (.aload_n 0, 1) := by decide +kernel
theorem d_K_rankAboveLed_5 : decode prog_5_method_8_code 5 = .ok (.getfield 9, 3) := by decide +kernel
theorem d_K_rankAboveLed_8 : decode prog_5_method_8_code 8 = .ok (.iload_n 3, 1) := by decide +kernel
theorem d_K_rankAboveLed_9 : decode prog_5_method_8_code 9 = .ok (.iload_n 2, 1) := by decide +kernel
theorem d_K_rankAboveLed_10 : decode prog_5_method_8_code 10 = .ok (.iadd, 1) := by decide +kernel
theorem d_K_rankAboveLed_11 : decode prog_5_method_8_code 11 = .ok (.iaload, 1) := by decide +kernel
theorem d_K_rankAboveLed_12 : decode prog_5_method_8_code 12 = .ok (.istore 4, 2) := by decide +kernel
theorem d_K_rankAboveLed_14 : decode prog_5_method_8_code 14 = .ok (.iload 4, 2) := by decide +kernel
theorem d_K_rankAboveLed_16 : decode prog_5_method_8_code 16 = .ok (.istore 5, 2) := by decide +kernel
theorem d_K_rankAboveLed_18 : decode prog_5_method_8_code 18 = .ok (.iconst 0, 1) := by decide +kernel
theorem d_K_rankAboveLed_19 : decode prog_5_method_8_code 19 = .ok (.istore 6, 2) := by decide +kernel
theorem d_K_rankAboveLed_21 : decode prog_5_method_8_code 21 = .ok (.iload 6, 2) := by decide +kernel
theorem d_K_rankAboveLed_23 : decode prog_5_method_8_code 23 = .ok (.aload_n 0, 1) := by decide +kernel
theorem d_K_rankAboveLed_24 : decode prog_5_method_8_code 24 = .ok (.getfield 21, 3) := by decide +kernel
theorem d_K_rankAboveLed_27 : decode prog_5_method_8_code 27 = .ok (.getfield 51, 3) := by decide +kernel
theorem d_K_rankAboveLed_30 : decode prog_5_method_8_code 30 = .ok (.iload_n 1, 1) := by decide +kernel
theorem d_K_rankAboveLed_31 : decode prog_5_method_8_code 31 = .ok (.iaload, 1) := by decide +kernel
theorem d_K_rankAboveLed_32 : decode prog_5_method_8_code 32 = .ok (.if_icmp .ge 44, 3) := by decide +kernel
theorem d_K_rankAboveLed_76 : decode prog_5_method_8_code 76 = .ok (.iload 5, 2) := by decide +kernel
theorem d_K_rankAboveLed_78 : decode prog_5_method_8_code 78 = .ok (.iload 5, 2) := by decide +kernel
theorem d_K_rankAboveLed_80 : decode prog_5_method_8_code 80 = .ok (.iload 4, 2) := by decide +kernel
theorem d_K_rankAboveLed_82 : decode prog_5_method_8_code 82 = .ok (.isub, 1) := by decide +kernel
theorem d_K_rankAboveLed_83 : decode prog_5_method_8_code 83 = .ok (.iconst 1, 1) := by decide +kernel
theorem d_K_rankAboveLed_84 : decode prog_5_method_8_code 84 = .ok (.iand, 1) := by decide +kernel
theorem d_K_rankAboveLed_85 : decode prog_5_method_8_code 85 = .ok (.iadd, 1) := by decide +kernel
theorem d_K_rankAboveLed_86 : decode prog_5_method_8_code 86 = .ok (.ireturn, 1) := by decide +kernel
theorem d_K_rankAboveLed_35 : decode prog_5_method_8_code 35 = .ok (.aload_n 0, 1) := by decide +kernel
theorem d_K_rankAboveLed_36 : decode prog_5_method_8_code 36 = .ok (.getfield 25, 3) := by decide +kernel
theorem d_K_rankAboveLed_39 : decode prog_5_method_8_code 39 = .ok (.getfield 54, 3) := by decide +kernel
theorem d_K_rankAboveLed_42 : decode prog_5_method_8_code 42 = .ok (.iload_n 3, 1) := by decide +kernel
theorem d_K_rankAboveLed_43 : decode prog_5_method_8_code 43 = .ok (.iload_n 2, 1) := by decide +kernel
theorem d_K_rankAboveLed_44 : decode prog_5_method_8_code 44 = .ok (.iadd, 1) := by decide +kernel
theorem d_K_rankAboveLed_45 : decode prog_5_method_8_code 45 = .ok (.iaload, 1) := by decide +kernel
theorem d_K_rankAboveLed_46 : decode prog_5_method_8_code 46 = .ok (.iload 6, 2) := by decide +kernel
theorem d_K_rankAboveLed_48 : decode prog_5_method_8_code 48 = .ok (.invokestatic 72, 3) := by decide +kernel
theorem d_K_rankAboveLed_70 : decode prog_5_method_8_code 70 = .ok (.iinc 6 1, 3) := by decide +kernel
theorem d_K_rankAboveLed_73 : decode prog_5_method_8_code 73 = .ok (.goto (-52), 3) := by decide +kernel
theorem d_K_rankAboveLed_51 : decode prog_5_method_8_code 51 = .ok (.ifCond .eq 19, 3) := by decide +kernel
theorem d_K_rankAboveLed_54 : decode prog_5_method_8_code 54 = .ok (.iload 5, 2) := by decide +kernel
theorem d_K_rankAboveLed_56 : decode prog_5_method_8_code 56 = .ok (.aload_n 0, 1) := by decide +kernel
theorem d_K_rankAboveLed_57 : decode prog_5_method_8_code 57 = .ok (.getfield 9, 3) := by decide +kernel
theorem d_K_rankAboveLed_60 : decode prog_5_method_8_code 60 = .ok (.iload_n 3, 1) := by decide +kernel
theorem d_K_rankAboveLed_61 : decode prog_5_method_8_code 61 = .ok (.iload 6, 2) := by decide +kernel
theorem d_K_rankAboveLed_63 : decode prog_5_method_8_code 63 = .ok (.iadd, 1) := by decide +kernel
theorem d_K_rankAboveLed_64 : decode prog_5_method_8_code 64 = .ok (.iaload, 1) := by decide +kernel
theorem d_K_rankAboveLed_65 : decode prog_5_method_8_code 65 = .ok (.invokestatic 76, 3) := by decide +kernel
theorem d_K_rankAboveLed_68 : decode prog_5_method_8_code 68 = .ok (.istore 5, 2) := by decide +kernel
theorem d_K_rankAttributes_0 : decode prog_5_method_6_code 0 = .ok (.aload_n 0, 1) := by decide +kernel
theorem d_K_rankAttributes_1 : decode prog_5_method_6_code 1 = .ok (.getfield 21, 3) := by decide +kernel
theorem d_K_rankAttributes_4 : decode prog_5_method_6_code 4 = .ok (.getfield 51, 3) := by decide +kernel
theorem d_K_rankAttributes_7 : decode prog_5_method_6_code 7 = .ok (.iload_n 1, 1) := by decide +kernel
theorem d_K_rankAttributes_8 : decode prog_5_method_6_code 8 = .ok (.iaload, 1) := by decide +kernel
theorem d_K_rankAttributes_9 : decode prog_5_method_6_code 9 = .ok (.istore_n 2, 1) := by decide +kernel
theorem d_K_rankAttributes_10 : decode prog_5_method_6_code 10 = .ok (.iload_n 1, 1) := by decide +kernel
theorem d_K_rankAttributes_11 : decode prog_5_method_6_code 11 = .ok (.iconst 4, 1) := by decide +kernel
theorem d_K_rankAttributes_12 : decode prog_5_method_6_code 12 = .ok (.imul, 1) := by decide +kernel
theorem d_K_rankAttributes_13 : decode prog_5_method_6_code 13 = .ok (.istore_n 3, 1) := by decide +kernel
theorem d_K_rankAttributes_14 : decode prog_5_method_6_code 14 = .ok (.iconst 0, 1) := by decide +kernel
theorem d_K_rankAttributes_15 : decode prog_5_method_6_code 15 = .ok (.istore 4, 2) := by decide +kernel
theorem d_K_rankAttributes_17 : decode prog_5_method_6_code 17 = .ok (.iload 4, 2) := by decide +kernel
theorem d_K_rankAttributes_19 : decode prog_5_method_6_code 19 = .ok (.iload_n 2, 1) := by decide +kernel
theorem d_K_rankAttributes_20 : decode prog_5_method_6_code 20 = .ok (.if_icmp .ge 25, 3) := by decide +kernel
theorem d_K_rankAttributes_45 : decode prog_5_method_6_code 45 = .ok (.iconst 1, 1) := by decide +kernel
theorem d_K_rankAttributes_46 : decode prog_5_method_6_code 46 = .ok (.istore 4, 2) := by decide +kernel
theorem d_K_rankAttributes_48 : decode prog_5_method_6_code 48 = .ok (.iload 4, 2) := by decide +kernel
theorem d_K_rankAttributes_50 : decode prog_5_method_6_code 50 = .ok (.iload_n 2, 1) := by decide +kernel
theorem d_K_rankAttributes_51 : decode prog_5_method_6_code 51 = .ok (.if_icmp .ge 40, 3) := by decide +kernel
theorem d_K_rankAttributes_91 : decode prog_5_method_6_code 91 = .ok (.return_, 1) := by decide +kernel
theorem d_K_rankAttributes_54 : decode prog_5_method_6_code 54 = .ok (.iconst 0, 1) := by decide +kernel
theorem d_K_rankAttributes_55 : decode prog_5_method_6_code 55 = .ok (.istore 5, 2) := by decide +kernel
theorem d_K_rankAttributes_57 : decode prog_5_method_6_code 57 = .ok (.iload 5, 2) := by decide +kernel
theorem d_K_rankAttributes_59 : decode prog_5_method_6_code 59 = .ok (.iload_n 2, 1) := by decide +kernel
theorem d_K_rankAttributes_60 : decode prog_5_method_6_code 60 = .ok (.if_icmp .ge 25, 3) := by decide +kernel
theorem d_K_rankAttributes_85 : decode prog_5_method_6_code 85 = .ok (.iinc 4 1, 3) := by decide +kernel
theorem d_K_rankAttributes_88 : decode prog_5_method_6_code 88 = .ok (.goto (-40), 3) := by decide +kernel
theorem d_K_rankAttributes_63 : decode prog_5_method_6_code 63 = .ok (.aload_n 0, 1) := by decide +kernel
theorem d_K_rankAttributes_64 : decode prog_5_method_6_code 64 = .ok (.getfield 9, 3) := by decide +kernel
theorem d_K_rankAttributes_67 : decode prog_5_method_6_code 67 = .ok (.iload_n 3, 1) := by decide +kernel
theorem d_K_rankAttributes_68 : decode prog_5_method_6_code 68 = .ok (.iload 5, 2) := by decide +kernel
theorem d_K_rankAttributes_70 : decode prog_5_method_6_code 70 = .ok (.iadd, 1) := by decide +kernel
theorem d_K_rankAttributes_71 : decode prog_5_method_6_code 71 = .ok (.aload_n 0, 1) := by decide +kernel
theorem d_K_rankAttributes_72 : decode prog_5_method_6_code 72 = .ok (.iload_n 1, 1) := by decide +kernel
theorem d_K_rankAttributes_73 : decode prog_5_method_6_code 73 = .ok (.iload 5, 2) := by decide +kernel
theorem d_K_rankAttributes_75 : decode prog_5_method_6_code 75 = .ok (.invokevirtual 69, 3) := by decide +kernel
theorem d_K_rankAttributes_78 : decode prog_5_method_6_code 78 = .ok (.iastore, 1) := by decide +kernel
theorem d_K_rankAttributes_79 : decode prog_5_method_6_code 79 = .ok (.iinc 5 1, 3) := by decide +kernel
theorem d_K_rankAttributes_82 : decode prog_5_method_6_code 82 = .ok (.goto (-25), 3) := by decide +kernel
theorem d_K_rankAttributes_23 : decode prog_5_method_6_code 23 = .ok (.aload_n 0, 1) := by decide +kernel
theorem d_K_rankAttributes_24 : decode prog_5_method_6_code 24 = .ok (.getfield 9, 3) := by decide +kernel
theorem d_K_rankAttributes_27 : decode prog_5_method_6_code 27 = .ok (.iload_n 3, 1) := by decide +kernel
theorem d_K_rankAttributes_28 : decode prog_5_method_6_code 28 = .ok (.iload 4, 2) := by decide +kernel
theorem d_K_rankAttributes_30 : decode prog_5_method_6_code 30 = .ok (.iadd, 1) := by decide +kernel
theorem d_K_rankAttributes_31 : decode prog_5_method_6_code 31 = .ok (.aload_n 0, 1) := by decide +kernel
theorem d_K_rankAttributes_32 : decode prog_5_method_6_code 32 = .ok (.iload_n 1, 1) := by decide +kernel
theorem d_K_rankAttributes_33 : decode prog_5_method_6_code 33 = .ok (.iload 4, 2) := by decide +kernel
theorem d_K_rankAttributes_35 : decode prog_5_method_6_code 35 = .ok (.invokevirtual 66, 3) := by decide +kernel
theorem d_K_rankAttributes_38 : decode prog_5_method_6_code 38 = .ok (.iastore, 1) := by decide +kernel
theorem d_K_rankAttributes_39 : decode prog_5_method_6_code 39 = .ok (.iinc 4 1, 3) := by decide +kernel
theorem d_K_rankAttributes_42 : decode prog_5_method_6_code 42 = .ok (.goto (-25), 3) := by decide +kernel
theorem d_K_countVisits_0 : decode prog_5_method_9_code 0 = .ok (.iconst 1, 1) := by decide +kernel
theorem d_K_countVisits_1 : decode prog_5_method_9_code 1 = .ok (.istore_n 2, 1) := by decide +kernel
theorem d_K_countVisits_2 : decode prog_5_method_9_code 2 = .ok (.iconst 0, 1) := by decide +kernel
theorem d_K_countVisits_3 : decode prog_5_method_9_code 3 = .ok (.istore_n 3, 1) := by decide +kernel
theorem d_K_countVisits_4 : decode prog_5_method_9_code 4 = .ok (.iload_n 3, 1) := by decide +kernel
theorem d_K_countVisits_5 : decode prog_5_method_9_code 5 = .ok (.aload_n 0, 1) := by decide +kernel
theorem d_K_countVisits_6 : decode prog_5_method_9_code 6 = .ok (.getfield 21, 3) := by decide +kernel
theorem d_K_countVisits_9 : decode prog_5_method_9_code 9 = .ok (.getfield 51, 3) := by decide +kernel
theorem d_K_countVisits_12 : decode prog_5_method_9_code 12 = .ok (.iload_n 1, 1) := by decide +kernel
theorem d_K_countVisits_13 : decode prog_5_method_9_code 13 = .ok (.iaload, 1) := by decide +kernel
theorem d_K_countVisits_14 : decode prog_5_method_9_code 14 = .ok (.if_icmp .ge 24, 3) := by decide +kernel
theorem d_K_countVisits_38 : decode prog_5_method_9_code 38 = .ok (.aload_n 0, 1) := by decide +kernel
theorem d_K_countVisits_39 : decode prog_5_method_9_code 39 = .ok (.getfield 15, 3) := by decide +kernel
theorem d_K_countVisits_42 : decode prog_5_method_9_code 42 = .ok (.iload_n 1, 1) := by decide +kernel
theorem d_K_countVisits_43 : decode prog_5_method_9_code 43 = .ok (.iload_n 2, 1) := by decide +kernel
theorem d_K_countVisits_44 : decode prog_5_method_9_code 44 = .ok (.iconst 1, 1) := by decide +kernel
theorem d_K_countVisits_45 : decode prog_5_method_9_code 45 = .ok (.iadd, 1) := by decide +kernel
theorem d_K_countVisits_46 : decode prog_5_method_9_code 46 = .ok (.iconst 2, 1) := by decide +kernel
theorem d_K_countVisits_47 : decode prog_5_method_9_code 47 = .ok (.idiv, 1) := by decide +kernel
theorem d_K_countVisits_48 : decode prog_5_method_9_code 48 = .ok (.iastore, 1) := by decide +kernel
theorem d_K_countVisits_49 : decode prog_5_method_9_code 49 = .ok (.return_, 1) := by decide +kernel
theorem d_K_countVisits_17 : decode prog_5_method_9_code 17 = .ok (.iload_n 2, 1) := by decide +kernel
theorem d_K_countVisits_18 : decode prog_5_method_9_code 18 = .ok (.aload_n 0, 1) := by decide +kernel
theorem d_K_countVisits_19 : decode prog_5_method_9_code 19 = .ok (.getfield 9, 3) := by decide +kernel
theorem d_K_countVisits_22 : decode prog_5_method_9_code 22 = .ok (.iload_n 1, 1) := by decide +kernel
theorem d_K_countVisits_23 : decode prog_5_method_9_code 23 = .ok (.iconst 4, 1) := by decide +kernel
theorem d_K_countVisits_24 : decode prog_5_method_9_code 24 = .ok (.imul, 1) := by decide +kernel
theorem d_K_countVisits_25 : decode prog_5_method_9_code 25 = .ok (.iload_n 3, 1) := by decide +kernel
theorem d_K_countVisits_26 : decode prog_5_method_9_code 26 = .ok (.iadd, 1) := by decide +kernel
theorem d_K_countVisits_27 : decode prog_5_method_9_code 27 = .ok (.iaload, 1) := by decide +kernel
theorem d_K_countVisits_28 : decode prog_5_method_9_code 28 = .ok (.invokestatic 76, 3) := by decide +kernel
theorem d_K_countVisits_31 : decode prog_5_method_9_code 31 = .ok (.istore_n 2, 1) := by decide +kernel
theorem d_K_countVisits_32 : decode prog_5_method_9_code 32 = .ok (.iinc 3 1, 3) := by decide +kernel
theorem d_K_countVisits_35 : decode prog_5_method_9_code 35 = .ok (.goto (-31), 3) := by decide +kernel
theorem d_K_shareOut_0 : decode prog_5_method_10_code 0 = .ok (.iconst 0, 1) := by decide +kernel
theorem d_K_shareOut_1 : decode prog_5_method_10_code 1 = .ok (.istore_n 2, 1) := by decide +kernel
theorem d_K_shareOut_2 : decode prog_5_method_10_code 2 = .ok (.iload_n 2, 1) := by decide +kernel
theorem d_K_shareOut_3 : decode prog_5_method_10_code 3 = .ok (.aload_n 0, 1) := by decide +kernel
theorem d_K_shareOut_4 : decode prog_5_method_10_code 4 = .ok (.getfield 21, 3) := by decide +kernel
theorem d_K_shareOut_7 : decode prog_5_method_10_code 7 = .ok (.getfield 51, 3) := by decide +kernel
theorem d_K_shareOut_10 : decode prog_5_method_10_code 10 = .ok (.iload_n 1, 1) := by decide +kernel
theorem d_K_shareOut_11 : decode prog_5_method_10_code 11 = .ok (.iaload, 1) := by decide +kernel
theorem d_K_shareOut_12 : decode prog_5_method_10_code 12 = .ok (.if_icmp .ge 51, 3) := by decide +kernel
theorem d_K_shareOut_63 : decode prog_5_method_10_code 63 = .ok (.return_, 1) := by decide +kernel
theorem d_K_shareOut_15 : decode prog_5_method_10_code 15 = .ok (.aload_n 0, 1) := by decide +kernel
theorem d_K_shareOut_16 : decode prog_5_method_10_code 16 = .ok (.getfield 9, 3) := by decide +kernel
theorem d_K_shareOut_19 : decode prog_5_method_10_code 19 = .ok (.iload_n 1, 1) := by decide +kernel
theorem d_K_shareOut_20 : decode prog_5_method_10_code 20 = .ok (.iconst 4, 1) := by decide +kernel
theorem d_K_shareOut_21 : decode prog_5_method_10_code 21 = .ok (.imul, 1) := by decide +kernel
theorem d_K_shareOut_22 : decode prog_5_method_10_code 22 = .ok (.iload_n 2, 1) := by decide +kernel
theorem d_K_shareOut_23 : decode prog_5_method_10_code 23 = .ok (.iadd, 1) := by decide +kernel
theorem d_K_shareOut_24 : decode prog_5_method_10_code 24 = .ok (.iaload, 1) := by decide +kernel
theorem d_K_shareOut_25 : decode prog_5_method_10_code 25 = .ok (.istore_n 3, 1) := by decide +kernel
theorem d_K_shareOut_26 : decode prog_5_method_10_code 26 = .ok (.aload_n 0, 1) := by decide +kernel
theorem d_K_shareOut_27 : decode prog_5_method_10_code 27 = .ok (.getfield 15, 3) := by decide +kernel
theorem d_K_shareOut_30 : decode prog_5_method_10_code 30 = .ok (.iload_n 1, 1) := by decide +kernel
theorem d_K_shareOut_31 : decode prog_5_method_10_code 31 = .ok (.iaload, 1) := by decide +kernel
theorem d_K_shareOut_32 : decode prog_5_method_10_code 32 = .ok (.iload_n 3, 1) := by decide +kernel
theorem d_K_shareOut_33 : decode prog_5_method_10_code 33 = .ok (.iconst 1, 1) := by decide +kernel
theorem d_K_shareOut_34 : decode prog_5_method_10_code 34 = .ok (.isub, 1) := by decide +kernel
theorem d_K_shareOut_35 : decode prog_5_method_10_code 35 = .ok (.iconst 2, 1) := by decide +kernel
theorem d_K_shareOut_36 : decode prog_5_method_10_code 36 = .ok (.idiv, 1) := by decide +kernel
theorem d_K_shareOut_37 : decode prog_5_method_10_code 37 = .ok (.isub, 1) := by decide +kernel
theorem d_K_shareOut_38 : decode prog_5_method_10_code 38 = .ok (.istore 4, 2) := by decide +kernel
theorem d_K_shareOut_40 : decode prog_5_method_10_code 40 = .ok (.aload_n 0, 1) := by decide +kernel
theorem d_K_shareOut_41 : decode prog_5_method_10_code 41 = .ok (.getfield 18, 3) := by decide +kernel
theorem d_K_shareOut_44 : decode prog_5_method_10_code 44 = .ok (.iload_n 1, 1) := by decide +kernel
theorem d_K_shareOut_45 : decode prog_5_method_10_code 45 = .ok (.iconst 4, 1) := by decide +kernel
theorem d_K_shareOut_46 : decode prog_5_method_10_code 46 = .ok (.imul, 1) := by decide +kernel
theorem d_K_shareOut_47 : decode prog_5_method_10_code 47 = .ok (.iload 4, 2) := by decide +kernel
theorem d_K_shareOut_49 : decode prog_5_method_10_code 49 = .ok (.iadd, 1) := by decide +kernel
theorem d_K_shareOut_50 : decode prog_5_method_10_code 50 = .ok (.dup2, 1) := by decide +kernel
theorem d_K_shareOut_51 : decode prog_5_method_10_code 51 = .ok (.iaload, 1) := by decide +kernel
theorem d_K_shareOut_52 : decode prog_5_method_10_code 52 = .ok (.iconst 1, 1) := by decide +kernel
theorem d_K_shareOut_53 : decode prog_5_method_10_code 53 = .ok (.iload_n 2, 1) := by decide +kernel
theorem d_K_shareOut_54 : decode prog_5_method_10_code 54 = .ok (.ishl, 1) := by decide +kernel
theorem d_K_shareOut_55 : decode prog_5_method_10_code 55 = .ok (.ior, 1) := by decide +kernel
theorem d_K_shareOut_56 : decode prog_5_method_10_code 56 = .ok (.iastore, 1) := by decide +kernel
theorem d_K_shareOut_57 : decode prog_5_method_10_code 57 = .ok (.iinc 2 1, 3) := by decide +kernel
theorem d_K_shareOut_60 : decode prog_5_method_10_code 60 = .ok (.goto (-58), 3) := by decide +kernel
theorem d_K_ofLessRank_0 : decode prog_5_method_11_code 0 = .ok (.iconst 0, 1) := by decide +kernel
