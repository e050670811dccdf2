theorem d_K_synthesizedOf_19 : decode prog_5_method_5_code 19 = .ok (.iconst (-1), 1) := by decide +kernel
theorem d_K_synthesizedOf_20 : decode prog_5_method_5_code 20 = .ok (.ixor, 1) := by decide +kernel
theorem d_K_synthesizedOf_21 : decode prog_5_method_5_code 21 = .ok (.iand, 1) := by decide +kernel
theorem d_K_synthesizedOf_22 : decode prog_5_method_5_code 22 = .ok (.ireturn, 1) := by decide +kernel
theorem d_K_leastRank_0 : decode prog_5_method_7_code 0 = .ok (.aload_n 0, 1) := by decide +kernel
theorem d_K_leastRank_1 : decode prog_5_method_7_code 1 = .ok (.getfield 21, 3) := by decide +kernel
theorem d_K_leastRank_4 : decode prog_5_method_7_code 4 = .ok (.getfield 63, 3) := by decide +kernel
theorem d_K_leastRank_7 : decode prog_5_method_7_code 7 = .ok (.iload_n 1, 1) := by decide +kernel
theorem d_K_leastRank_8 : decode prog_5_method_7_code 8 = .ok (.iaload, 1) := by decide +kernel
theorem d_K_leastRank_9 : decode prog_5_method_7_code 9 = .ok (.iload_n 2, 1) := by decide +kernel
theorem d_K_leastRank_10 : decode prog_5_method_7_code 10 = .ok (.invokestatic 72, 3) := by decide +kernel
theorem d_K_leastRank_13 : decode prog_5_method_7_code 13 = .ok (.ifCond .eq 7, 3) := by decide +kernel
theorem d_K_leastRank_20 : decode prog_5_method_7_code 20 = .ok (.iconst 1, 1) := by decide +kernel
theorem d_K_leastRank_21 : decode prog_5_method_7_code 21 = .ok (.ireturn, 1) := by decide +kernel
theorem d_K_leastRank_16 : decode prog_5_method_7_code 16 = .ok (.iconst 2, 1) := by decide +kernel
theorem d_K_leastRank_17 : decode prog_5_method_7_code 17 = .ok (.goto 4, 3) := by decide +kernel
theorem d_K_rankAboveLed_0 : decode prog_5_method_8_code 0 = .ok (.iload_n 1, 1) := by decide +kernel
theorem d_K_rankAboveLed_1 : decode prog_5_method_8_code 1 = .ok (.iconst 4, 1) := by decide +kernel
theorem d_K_rankAboveLed_2 : decode prog_5_method_8_code 2 = .ok (.imul, 1) := by decide +kernel
theorem d_K_rankAboveLed_3 : decode prog_5_method_8_code 3 = .ok (.istore_n 3, 1) := by decide +kernel
theorem d_K_rankAboveLed_4 : decode prog_5_method_8_code 4 = .ok (.aload_n 0, 1) := by decide +kernel
theorem d_K_rankAboveLed_5 : decode prog_5_method_8_code 5 = .ok (.getfield 9, 3) := by decide +kernel
theorem d_K_rankAboveLed_8 : decode prog_5_method_8_code 8 = .ok (.iload_n 3, 1) := by decide +kernel
theorem d_K_rankAboveLed_9 : decode prog_5_method_8_code 9 = .ok (.iload_n 2, 1) := by decide +kernel
theorem d_K_rankAboveLed_10 : decode prog_5_method_8_code 10 = .ok (.iadd, 1) := by decide +kernel
theorem d_K_rankAboveLed_11 : decode prog_5_method_8_code 11 = .ok (.iaload, 1) := by decide +kernel
theorem d_K_rankAboveLed_12 : decode prog_5_method_8_code 12 = .ok (.istore 4, 2) := by decide +kernel
theorem d_K_rankAboveLed_14 : decode prog_5_method_8_code 14 = .ok (.iload 4, 2) := by decide +kernel
theorem d_K_rankAboveLed_16 : decode prog_5_method_8_code 16 = .ok (.istore 5, 2) := by decide +kernel
theorem d_K_rankAboveLed_18 : decode prog_5_method_8_code 18 = .ok (.iconst 0, 1) := by decide +kernel
theorem d_K_rankAboveLed_19 : decode prog_5_method_8_code 19 = .ok (.istore 6, 2) := by decide +kernel
theorem d_K_rankAboveLed_21 : decode prog_5_method_8_code 21 = .ok (.iload 6, 2) := by decide +kernel
theorem d_K_rankAboveLed_23 : decode prog_5_method_8_code 23 = .ok (.aload_n 0, 1) := by decide +kernel
theorem d_K_rankAboveLed_24 : decode prog_5_method_8_code 24 = .ok (.getfield 21, 3) := by decide +kernel
theorem d_K_rankAboveLed_27 : decode prog_5_method_8_code 27 = .ok (.getfield 51, 3) := by decide +kernel
theorem d_K_rankAboveLed_30 : decode prog_5_method_8_code 30 = .ok (.iload_n 1, 1) := by decide +kernel
theorem d_K_rankAboveLed_31 : decode prog_5_method_8_code 31 = .ok (.iaload, 1) := by decide +kernel
theorem d_K_rankAboveLed_32 : decode prog_5_method_8_code 32 = .ok (.if_icmp .ge 44, 3) := by decide +kernel
theorem d_K_rankAboveLed_76 : decode prog_5_method_8_code 76 = .ok (.iload 5, 2) := by decide +kernel
theorem d_K_rankAboveLed_78 : decode prog_5_method_8_code 78 = .ok (.iload 5, 2) := by decide +kernel
theorem d_K_rankAboveLed_80 : decode prog_5_method_8_code 80 = .ok (.iload 4, 2) := by decide +kernel
theorem d_K_rankAboveLed_82 : decode prog_5_method_8_code 82 = .ok (.isub, 1) := by decide +kernel
theorem d_K_rankAboveLed_83 : decode prog_5_method_8_code 83 = .ok (.iconst 1, 1) := by decide +kernel
theorem d_K_rankAboveLed_84 : decode prog_5_method_8_code 84 = .ok (.iand, 1) := by decide +kernel
theorem d_K_rankAboveLed_85 : decode prog_5_method_8_code 85 = .ok (.iadd, 1) := by decide +kernel
theorem d_K_rankAboveLed_86 : decode prog_5_method_8_code 86 = .ok (.ireturn, 1) := by decide +kernel
theorem d_K_rankAboveLed_35 : decode prog_5_method_8_code 35 = .ok (.aload_n 0, 1) := by decide +kernel
theorem d_K_rankAboveLed_36 : decode prog_5_method_8_code 36 = .ok (.getfield 25, 3) := by decide +kernel
theorem d_K_rankAboveLed_39 : decode prog_5_method_8_code 39 = .ok (.getfield 54, 3) := by decide +kernel
theorem d_K_rankAboveLed_42 : decode prog_5_method_8_code 42 = .ok (.iload_n 3, 1) := by decide +kernel
theorem d_K_rankAboveLed_43 : decode prog_5_method_8_code 43 = .ok (.iload_n 2, 1) := by decide +kernel
theorem d_K_rankAboveLed_44 : decode prog_5_method_8_code 44 = .ok (.iadd, 1) := by decide +kernel
theorem d_K_rankAboveLed_45 : decode prog_5_method_8_code 45 = .ok (.iaload, 1) := by decide +kernel
theorem d_K_rankAboveLed_46 : decode prog_5_method_8_code 46 = .ok (.iload 6, 2) := by decide +kernel
theorem d_K_rankAboveLed_48 : decode prog_5_method_8_code 48 = .ok (.invokestatic 72, 3) := by decide +kernel
theorem d_K_rankAboveLed_70 : decode prog_5_method_8_code 70 = .ok (.iinc 6 1, 3) := by decide +kernel
theorem d_K_rankAboveLed_73 : decode prog_5_method_8_code 73 = .ok (.goto (-52), 3) := by decide +kernel
theorem d_K_rankAboveLed_51 : decode prog_5_method_8_code 51 = .ok (.ifCond .eq 19, 3) := by decide +kernel
theorem d_K_rankAboveLed_54 : decode prog_5_method_8_code 54 = .ok (.iload 5, 2) := by decide +kernel
theorem d_K_rankAboveLed_56 : decode prog_5_method_8_code 56 = .ok (.aload_n 0, 1) := by decide +kernel
theorem d_K_rankAboveLed_57 : decode prog_5_method_8_code 57 = .ok (.getfield 9, 3) := by decide +kernel
theorem d_K_rankAboveLed_60 : decode prog_5_method_8_code 60 = .ok (.iload_n 3, 1) := by decide +kernel
theorem d_K_rankAboveLed_61 : decode prog_5_method_8_code 61 = .ok (.iload 6, 2) := by decide +kernel
theorem d_K_rankAboveLed_63 : decode prog_5_method_8_code 63 = .ok (.iadd, 1) := by decide +kernel
theorem d_K_rankAboveLed_64 : decode prog_5_method_8_code 64 = .ok (.iaload, 1) := by decide +kernel
theorem d_K_rankAboveLed_65 : decode prog_5_method_8_code 65 = .ok (.invokestatic 76, 3) := by decide +kernel
theorem d_K_rankAboveLed_68 : decode prog_5_method_8_code 68 = .ok (.istore 5, 2) := by decide +kernel
theorem d_K_rankAttributes_0 : decode prog_5_method_6_code 0 = .ok (.aload_n 0, 1) := by decide +kernel
theorem d_K_rankAttributes_1 : decode prog_5_method_6_code 1 = .ok (.getfield 21, 3) := by decide +kernel
theorem d_K_rankAttributes_4 : decode prog_5_method_6_code 4 = .ok (.getfield 51, 3) := by decide +kernel
theorem d_K_rankAttributes_7 : decode prog_5_method_6_code 7 = .ok (.iload_n 1, 1) := by decide +kernel
theorem d_K_rankAttributes_8 : decode prog_5_method_6_code 8 = .ok (.iaload, 1) := by decide +kernel
theorem d_K_rankAttributes_9 : decode prog_5_method_6_code 9 = .ok (.istore_n 2, 1) := by decide +kernel
theorem d_K_rankAttributes_10 : decode prog_5_method_6_code 10 = .ok (.iload_n 1, 1) := by decide +kernel
theorem d_K_rankAttributes_11 : decode prog_5_method_6_code 11 = .ok (.iconst 4, 1) := by decide +kernel
theorem d_K_rankAttributes_12 : decode prog_5_method_6_code 12 = .ok (.imul, 1) := by decide +kernel
theorem d_K_rankAttributes_13 : decode prog_5_method_6_code 13 = .ok (.istore_n 3, 1) := by decide +kernel
theorem d_K_rankAttributes_14 : decode prog_5_method_6_code 14 = .ok (.iconst 0, 1) := by decide +kernel
theorem d_K_rankAttributes_15 : decode prog_5_method_6_code 15 = .ok (.istore 4, 2) := by decide +kernel
theorem d_K_rankAttributes_17 : decode prog_5_method_6_code 17 = .ok (.iload 4, 2) := by decide +kernel
theorem d_K_rankAttributes_19 : decode prog_5_method_6_code 19 = .ok (.iload_n 2, 1) := by decide +kernel
theorem d_K_rankAttributes_20 : decode prog_5_method_6_code 20 = .ok (.if_icmp .ge 25, 3) := by decide +kernel
theorem d_K_rankAttributes_45 : decode prog_5_method_6_code 45 = .ok (.iconst 1, 1) := by decide +kernel
theorem d_K_rankAttributes_46 : decode prog_5_method_6_code 46 = .ok (.istore 4, 2) := by decide +kernel
theorem d_K_rankAttributes_48 : decode prog_5_method_6_code 48 = .ok (.iload 4, 2) := by decide +kernel
theorem d_K_rankAttributes_50 : decode prog_5_method_6_code 50 = .ok (.iload_n 2, 1) := by decide +kernel
theorem d_K_rankAttributes_51 : decode prog_5_method_6_code 51 = .ok (.if_icmp .ge 40, 3) := by decide +kernel
theorem d_K_rankAttributes_91 : decode prog_5_method_6_code 91 = .ok (.return_, 1) := by decide +kernel
theorem d_K_rankAttributes_54 : decode prog_5_method_6_code 54 = .ok (.iconst 0, 1) := by decide +kernel
theorem d_K_rankAttributes_55 : decode prog_5_method_6_code 55 = .ok (.istore 5, 2) := by decide +kernel
theorem d_K_rankAttributes_57 : decode prog_5_method_6_code 57 = .ok (.iload 5, 2) := by decide +kernel
theorem d_K_rankAttributes_59 : decode prog_5_method_6_code 59 = .ok (.iload_n 2, 1) := by decide +kernel
theorem d_K_rankAttributes_60 : decode prog_5_method_6_code 60 = .ok (.if_icmp .ge 25, 3) := by decide +kernel
theorem d_K_rankAttributes_85 : decode prog_5_method_6_code 85 = .ok (.iinc 4 1, 3) := by decide +kernel
theorem d_K_rankAttributes_88 : decode prog_5_method_6_code 88 = .ok (.goto (-40), 3) := by decide +kernel
theorem d_K_rankAttributes_63 : decode prog_5_method_6_code 63 = .ok (.aload_n 0, 1) := by decide +kernel
theorem d_K_rankAttributes_64 : decode prog_5_method_6_code 64 = .ok (.getfield 9, 3) := by decide +kernel
theorem d_K_rankAttributes_67 : decode prog_5_method_6_code 67 = .ok (.iload_n 3, 1) := by decide +kernel
theorem d_K_rankAttributes_68 : decode prog_5_method_6_code 68 = .ok (.iload 5, 2) := by decide +kernel
theorem d_K_rankAttributes_70 : decode prog_5_method_6_code 70 = .ok (.iadd, 1) := by decide +kernel
theorem d_K_rankAttributes_71 : decode prog_5_method_6_code 71 = .ok (.aload_n 0, 1) := by decide +kernel
theorem d_K_rankAttributes_72 : decode prog_5_method_6_code 72 = .ok (.iload_n 1, 1) := by decide +kernel
theorem d_K_rankAttributes_73 : decode prog_5_method_6_code 73 = .ok (.iload 5, 2) := by decide +kernel
theorem d_K_rankAttributes_75 : decode prog_5_method_6_code 75 = .ok (.invokevirtual 69, 3) := by decide +kernel
theorem d_K_rankAttributes_78 : decode prog_5_method_6_code 78 = .ok (.iastore, 1) := by decide +kernel
theorem d_K_rankAttributes_79 : decode prog_5_method_6_code 79 = .ok (.iinc 5 1, 3) := by decide +kernel
theorem d_K_rankAttributes_82 : decode prog_5_method_6_code 82 = .ok (.goto (-25), 3) := by decide +kernel
theorem d_K_rankAttributes_23 : decode prog_5_method_6_code 23 = .ok (.aload_n 0, 1) := by decide +kernel
theorem d_K_rankAttributes_24 : decode prog_5_method_6_code 24 = .ok (.getfield 9, 3) := by decide +kernel
theorem d_K_rankAttributes_27 : decode prog_5_method_6_code 27 = .ok (.iload_n 3, 1) := by decide +kernel
theorem d_K_rankAttributes_28 : decode prog_5_method_6_code 28 = .ok (.iload 4, 2) := by decide +kernel
theorem d_K_rankAttributes_30 : decode prog_5_method_6_code 30 = .ok (.iadd, 1) := by decide +kernel
theorem d_K_rankAttributes_31 : decode prog_5_method_6_code 31 = .ok (.aload_n 0, 1) := by decide +kernel
theorem d_K_rankAttributes_32 : decode prog_5_method_6_code 32 = .ok (.iload_n 1, 1) := by decide +kernel
theorem d_K_rankAttributes_33 : decode prog_5_method_6_code 33 = .ok (.iload 4, 2) := by decide +kernel
theorem d_K_rankAttributes_35 : decode prog_5_method_6_code 35 = .ok (.invokevirtual 66, 3) := by decide +kernel
theorem d_K_rankAttributes_38 : decode prog_5_method_6_code 38 = .ok (.iastore, 1) := by decide +kernel
theorem d_K_rankAttributes_39 : decode prog_5_method_6_code 39 = .ok (.iinc 4 1, 3) := by decide +kernel
theorem d_K_rankAttributes_42 : decode prog_5_method_6_code 42 = .ok (.goto (-25), 3) := by decide +kernel
theorem d_K_countVisits_0 : decode prog_5_method_9_code 0 = .ok (.iconst 1, 1) := by decide +kernel
theorem d_K_countVisits_1 : decode prog_5_method_9_code 1 = .ok (.istore_n 2, 1) := by decide +kernel
theorem d_K_countVisits_2 : decode prog_5_method_9_code 2 = .ok (.iconst 0, 1) := by decide +kernel
theorem d_K_countVisits_3 : decode prog_5_method_9_code 3 = .ok (.istore_n 3, 1) := by decide +kernel
theorem d_K_countVisits_4 : decode prog_5_method_9_code 4 = .ok (.iload_n 3, 1) := by decide +kernel
theorem d_K_countVisits_5 : decode prog_5_method_9_code 5 = .ok (.aload_n 0, 1) := by decide +kernel
theorem d_K_countVisits_6 : decode prog_5_method_9_code 6 = .ok (.getfield 21, 3) := by decide +kernel
theorem d_K_countVisits_9 : decode prog_5_method_9_code 9 = .ok (.getfield 51, 3) := by decide +kernel
theorem d_K_countVisits_12 : decode prog_5_method_9_code 12 = .ok (.iload_n 1, 1) := by decide +kernel
theorem d_K_countVisits_13 : decode prog_5_method_9_code 13 = .ok (.iaload, 1) := by decide +kernel
theorem d_K_countVisits_14 : decode prog_5_method_9_code 14 = .ok (.if_icmp .ge 24, 3) := by decide +kernel
theorem d_K_countVisits_38 : decode prog_5_method_9_code 38 = .ok (.aload_n 0, 1) := by decide +kernel
theorem d_K_countVisits_39 : decode prog_5_method_9_code 39 = .ok (.getfield 15, 3) := by decide +kernel
theorem d_K_countVisits_42 : decode prog_5_method_9_code 42 = .ok (.iload_n 1, 1) := by decide +kernel
theorem d_K_countVisits_43 : decode prog_5_method_9_code 43 = .ok (.iload_n 2, 1) := by decide +kernel
theorem d_K_countVisits_44 : decode prog_5_method_9_code 44 = .ok (.iconst 1, 1) := by decide +kernel
theorem d_K_countVisits_45 : decode prog_5_method_9_code 45 = .ok (.iadd, 1) := by decide +kernel
theorem d_K_countVisits_46 : decode prog_5_method_9_code 46 = .ok (.iconst 2, 1) := by decide +kernel
theorem d_K_countVisits_47 : decode prog_5_method_9_code 47 = .ok (.idiv, 1) := by decide +kernel
theorem d_K_countVisits_48 : decode prog_5_method_9_code 48 = .ok (.iastore, 1) := by decide +kernel
theorem d_K_countVisits_49 : decode prog_5_method_9_code 49 = .ok (.return_, 1) := by decide +kernel
theorem d_K_countVisits_17 : decode prog_5_method_9_code 17 = .ok (.iload_n 2, 1) := by decide +kernel
theorem d_K_countVisits_18 : decode prog_5_method_9_code 18 = .ok (.aload_n 0, 1) := by decide +kernel
theorem d_K_countVisits_19 : decode prog_5_method_9_code 19 = .ok (.getfield 9, 3) := by decide +kernel
theorem d_K_countVisits_22 : decode prog_5_method_9_code 22 = .ok (.iload_n 1, 1) := by decide +kernel
theorem d_K_countVisits_23 : decode prog_5_method_9_code 23 = .ok (.iconst 4, 1) := by decide +kernel
theorem d_K_countVisits_24 : decode prog_5_method_9_code 24 = .ok (.imul, 1) := by decide +kernel
theorem d_K_countVisits_25 : decode prog_5_method_9_code 25 = .ok (.iload_n 3, 1) := by decide +kernel
theorem d_K_countVisits_26 : decode prog_5_method_9_code 26 = .ok (.iadd, 1) := by decide +kernel
theorem d_K_countVisits_27 : decode prog_5_method_9_code 27 = .ok (.iaload, 1) := by decide +kernel
theorem d_K_countVisits_28 : decode prog_5_method_9_code 28 = .ok (.invokestatic 76, 3) := by decide +kernel
theorem d_K_countVisits_31 : decode prog_5_method_9_code 31 = .ok (.istore_n 2, 1) := by decide +kernel
theorem d_K_countVisits_32 : decode prog_5_method_9_code 32 = .ok (.iinc 3 1, 3) := by decide +kernel
theorem d_K_countVisits_35 : decode prog_5_method_9_code 35 = .ok (.goto (-31), 3) := by decide +kernel
theorem d_K_shareOut_0 : decode prog_5_method_10_code 0 = .ok (.iconst 0, 1) := by decide +kernel
theorem d_K_shareOut_1 : decode prog_5_method_10_code 1 = .ok (.istore_n 2, 1) := by decide +kernel
theorem d_K_shareOut_2 : decode prog_5_method_10_code 2 = .ok (.iload_n 2, 1) := by decide +kernel
theorem d_K_shareOut_3 : decode prog_5_method_10_code 3 = .ok (.aload_n 0, 1) := by decide +kernel
theorem d_K_shareOut_4 : decode prog_5_method_10_code 4 = .ok (.getfield 21, 3) := by decide +kernel
theorem d_K_shareOut_7 : decode prog_5_method_10_code 7 = .ok (.getfield 51, 3) := by decide +kernel
theorem d_K_shareOut_10 : decode prog_5_method_10_code 10 = .ok (.iload_n 1, 1) := by decide +kernel
theorem d_K_shareOut_11 : decode prog_5_method_10_code 11 = .ok (.iaload, 1) := by decide +kernel
theorem d_K_shareOut_12 : decode prog_5_method_10_code 12 = .ok (.if_icmp .ge 51, 3) := by decide +kernel
theorem d_K_shareOut_63 : decode prog_5_method_10_code 63 = .ok (.return_, 1) := by decide +kernel
theorem d_K_shareOut_15 : decode prog_5_method_10_code 15 = .ok (.aload_n 0, 1) := by decide +kernel
theorem d_K_shareOut_16 : decode prog_5_method_10_code 16 = .ok (.getfield 9, 3) := by decide +kernel
theorem d_K_shareOut_19 : decode prog_5_method_10_code 19 = .ok (.iload_n 1, 1) := by decide +kernel
theorem d_K_shareOut_20 : decode prog_5_method_10_code 20 = .ok (.iconst 4, 1) := by decide +kernel
theorem d_K_shareOut_21 : decode prog_5_method_10_code 21 = .ok (.imul, 1) := by decide +kernel
theorem d_K_shareOut_22 : decode prog_5_method_10_code 22 = .ok (.iload_n 2, 1) := by decide +kernel
theorem d_K_shareOut_23 : decode prog_5_method_10_code 23 = .ok (.iadd, 1) := by decide +kernel
theorem d_K_shareOut_24 : decode prog_5_method_10_code 24 = .ok (.iaload, 1) := by decide +kernel
theorem d_K_shareOut_25 : decode prog_5_method_10_code 25 = .ok (.istore_n 3, 1) := by decide +kernel
theorem d_K_shareOut_26 : decode prog_5_method_10_code 26 = .ok (.aload_n 0, 1) := by decide +kernel
theorem d_K_shareOut_27 : decode prog_5_method_10_code 27 = .ok (.getfield 15, 3) := by decide +kernel
theorem d_K_shareOut_30 : decode prog_5_method_10_code 30 = .ok (.iload_n 1, 1) := by decide +kernel
theorem d_K_shareOut_31 : decode prog_5_method_10_code 31 = .ok (.iaload, 1) := by decide +kernel
theorem d_K_shareOut_32 : decode prog_5_method_10_code 32 = .ok (.iload_n 3, 1) := by decide +kernel
theorem d_K_shareOut_33 : decode prog_5_method_10_code 33 = .ok (.iconst 1, 1) := by decide +kernel
theorem d_K_shareOut_34 : decode prog_5_method_10_code 34 = .ok (.isub, 1) := by decide +kernel
theorem d_K_shareOut_35 : decode prog_5_method_10_code 35 = .ok (.iconst 2, 1) := by decide +kernel
theorem d_K_shareOut_36 : decode prog_5_method_10_code 36 = .ok (.idiv, 1) := by decide +kernel
theorem d_K_shareOut_37 : decode prog_5_method_10_code 37 = .ok (.isub, 1) := by decide +kernel
theorem d_K_shareOut_38 : decode prog_5_method_10_code 38 = .ok (.istore 4, 2) := by decide +kernel
theorem d_K_shareOut_40 : decode prog_5_method_10_code 40 = .ok (.aload_n 0, 1) := by decide +kernel
theorem d_K_shareOut_41 : decode prog_5_method_10_code 41 = .ok (.getfield 18, 3) := by decide +kernel
theorem d_K_shareOut_44 : decode prog_5_method_10_code 44 = .ok (.iload_n 1, 1) := by decide +kernel
theorem d_K_shareOut_45 : decode prog_5_method_10_code 45 = .ok (.iconst 4, 1) := by decide +kernel
theorem d_K_shareOut_46 : decode prog_5_method_10_code 46 = .ok (.imul, 1) := by decide +kernel
theorem d_K_shareOut_47 : decode prog_5_method_10_code 47 = .ok (.iload 4, 2) := by decide +kernel
theorem d_K_shareOut_49 : decode prog_5_method_10_code 49 = .ok (.iadd, 1) := by decide +kernel
theorem d_K_shareOut_50 : decode prog_5_method_10_code 50 = .ok (.dup2, 1) := by decide +kernel
theorem d_K_shareOut_51 : decode prog_5_method_10_code 51 = .ok (.iaload, 1) := by decide +kernel
theorem d_K_shareOut_52 : decode prog_5_method_10_code 52 = .ok (.iconst 1, 1) := by decide +kernel
theorem d_K_shareOut_53 : decode prog_5_method_10_code 53 = .ok (.iload_n 2, 1) := by decide +kernel
theorem d_K_shareOut_54 : decode prog_5_method_10_code 54 = .ok (.ishl, 1) := by decide +kernel
theorem d_K_shareOut_55 : decode prog_5_method_10_code 55 = .ok (.ior, 1) := by decide +kernel
theorem d_K_shareOut_56 : decode prog_5_method_10_code 56 = .ok (.iastore, 1) := by decide +kernel
theorem d_K_shareOut_57 : decode prog_5_method_10_code 57 = .ok (.iinc 2 1, 3) := by decide +kernel
theorem d_K_shareOut_60 : decode prog_5_method_10_code 60 = .ok (.goto (-58), 3) := by decide +kernel
theorem d_K_ofLessRank_0 : decode prog_5_method_11_code 0 = .ok (.iconst 0, 1) := by decide +kernel
theorem d_K_ofLessRank_1 : decode prog_5_method_11_code 1 = .ok (.istore_n 3, 1) := by decide +kernel
theorem d_K_ofLessRank_2 : decode prog_5_method_11_code 2 = .ok (.iconst 0, 1) := by decide +kernel
theorem d_K_ofLessRank_3 : decode prog_5_method_11_code 3 = .ok (.istore 4, 2) := by decide +kernel
theorem d_K_ofLessRank_5 : decode prog_5_method_11_code 5 = .ok (.iload 4, 2) := by decide +kernel
theorem d_K_ofLessRank_7 : decode prog_5_method_11_code 7 = .ok (.aload_n 0, 1) := by decide +kernel
theorem d_K_ofLessRank_8 : decode prog_5_method_11_code 8 = .ok (.getfield 21, 3) := by decide +kernel
theorem d_K_ofLessRank_11 : decode prog_5_method_11_code 11 = .ok (.getfield 51, 3) := by decide +kernel
theorem d_K_ofLessRank_14 : decode prog_5_method_11_code 14 = .ok (.iload_n 1, 1) := by decide +kernel
theorem d_K_ofLessRank_15 : decode prog_5_method_11_code 15 = .ok (.iaload, 1) := by decide +kernel
theorem d_K_ofLessRank_16 : decode prog_5_method_11_code 16 = .ok (.if_icmp .ge 31, 3) := by decide +kernel
theorem d_K_ofLessRank_47 : decode prog_5_method_11_code 47 = .ok (.iload_n 3, 1) := by decide +kernel
theorem d_K_ofLessRank_48 : decode prog_5_method_11_code 48 = .ok (.ireturn, 1) := by decide +kernel
theorem d_K_ofLessRank_19 : decode prog_5_method_11_code 19 = .ok (.aload_n 0, 1) := by decide +kernel
theorem d_K_ofLessRank_20 : decode prog_5_method_11_code 20 = .ok (.getfield 9, 3) := by decide +kernel
theorem d_K_ofLessRank_23 : decode prog_5_method_11_code 23 = .ok (.iload_n 1, 1) := by decide +kernel
theorem d_K_ofLessRank_24 : decode prog_5_method_11_code 24 = .ok (.iconst 4, 1) := by decide +kernel
theorem d_K_ofLessRank_25 : decode prog_5_method_11_code 25 = .ok (.imul, 1) := by decide +kernel
theorem d_K_ofLessRank_26 : decode prog_5_method_11_code 26 = .ok (.iload 4, 2) := by decide +kernel
theorem d_K_ofLessRank_28 : decode prog_5_method_11_code 28 = .ok (.iadd, 1) := by decide +kernel
theorem d_K_ofLessRank_29 : decode prog_5_method_11_code 29 = .ok (.iaload, 1) := by decide +kernel
theorem d_K_ofLessRank_30 : decode prog_5_method_11_code 30 = .ok (.iload_n 2, 1) := by decide +kernel
theorem d_K_ofLessRank_41 : decode prog_5_method_11_code 41 = .ok (.iinc 4 1, 3) := by decide +kernel
theorem d_K_ofLessRank_44 : decode prog_5_method_11_code 44 = .ok (.goto (-39), 3) := by decide +kernel
theorem d_K_ofLessRank_31 : decode prog_5_method_11_code 31 = .ok (.if_icmp .ge 10, 3) := by decide +kernel
theorem d_K_ofLessRank_34 : decode prog_5_method_11_code 34 = .ok (.iload_n 3, 1) := by decide +kernel
theorem d_K_ofLessRank_35 : decode prog_5_method_11_code 35 = .ok (.iconst 1, 1) := by decide +kernel
theorem d_K_ofLessRank_36 : decode prog_5_method_11_code 36 = .ok (.iload 4, 2) := by decide +kernel
theorem d_K_ofLessRank_38 : decode prog_5_method_11_code 38 = .ok (.ishl, 1) := by decide +kernel
theorem d_K_ofLessRank_39 : decode prog_5_method_11_code 39 = .ok (.ior, 1) := by decide +kernel
theorem d_K_ofLessRank_40 : decode prog_5_method_11_code 40 = .ok (.istore_n 3, 1) := by decide +kernel
theorem d_K_addToLeads_0 : decode prog_5_method_3_code 0 = .ok (.iconst 0, 1) := by decide +kernel
theorem d_K_addToLeads_1 : decode prog_5_method_3_code 1 = .ok (.istore_n 1, 1) := by decide +kernel
theorem d_K_addToLeads_2 : decode prog_5_method_3_code 2 = .ok (.iload_n 1, 1) := by decide +kernel
theorem d_K_addToLeads_3 : decode prog_5_method_3_code 3 = .ok (.aload_n 0, 1) := by decide +kernel
theorem d_K_addToLeads_4 : decode prog_5_method_3_code 4 = .ok (.getfield 21, 3) := by decide +kernel
theorem d_K_addToLeads_7 : decode prog_5_method_3_code 7 = .ok (.getfield 35, 3) := by decide +kernel
theorem d_K_addToLeads_10 : decode prog_5_method_3_code 10 = .ok (.if_icmp .ge 61, 3) := by decide +kernel
theorem d_K_addToLeads_71 : decode prog_5_method_3_code 71 = .ok (.return_, 1) := by decide +kernel
theorem d_K_addToLeads_13 : decode prog_5_method_3_code 13 = .ok (.iload_n 1, 1) := by decide +kernel
theorem d_K_addToLeads_14 : decode prog_5_method_3_code 14 = .ok (.iconst 4, 1) := by decide +kernel
theorem d_K_addToLeads_15 : decode prog_5_method_3_code 15 = .ok (.imul, 1) := by decide +kernel
theorem d_K_addToLeads_16 : decode prog_5_method_3_code 16 = .ok (.istore_n 2, 1) := by decide +kernel
theorem d_K_addToLeads_17 : decode prog_5_method_3_code 17 = .ok (.iconst 0, 1) := by decide +kernel
theorem d_K_addToLeads_18 : decode prog_5_method_3_code 18 = .ok (.istore_n 3, 1) := by decide +kernel
theorem d_K_addToLeads_19 : decode prog_5_method_3_code 19 = .ok (.iload_n 3, 1) := by decide +kernel
theorem d_K_addToLeads_20 : decode prog_5_method_3_code 20 = .ok (.aload_n 0, 1) := by decide +kernel
theorem d_K_addToLeads_21 : decode prog_5_method_3_code 21 = .ok (.getfield 21, 3) := by decide +kernel
theorem d_K_addToLeads_24 : decode prog_5_method_3_code 24 = .ok (.getfield 51, 3) := by decide +kernel
theorem d_K_addToLeads_27 : decode prog_5_method_3_code 27 = .ok (.iload_n 1, 1) := by decide +kernel
theorem d_K_addToLeads_28 : decode prog_5_method_3_code 28 = .ok (.iaload, 1) := by decide +kernel
theorem d_K_addToLeads_29 : decode prog_5_method_3_code 29 = .ok (.if_icmp .ge 36, 3) := by decide +kernel
theorem d_K_addToLeads_65 : decode prog_5_method_3_code 65 = .ok (.iinc 1 1, 3) := by decide +kernel
theorem d_K_addToLeads_68 : decode prog_5_method_3_code 68 = .ok (.goto (-66), 3) := by decide +kernel
theorem d_K_addToLeads_32 : decode prog_5_method_3_code 32 = .ok (.aload_n 0, 1) := by decide +kernel
theorem d_K_addToLeads_33 : decode prog_5_method_3_code 33 = .ok (.getfield 25, 3) := by decide +kernel
theorem d_K_addToLeads_36 : decode prog_5_method_3_code 36 = .ok (.getfield 54, 3) := by decide +kernel
theorem d_K_addToLeads_39 : decode prog_5_method_3_code 39 = .ok (.iload_n 2, 1) := by decide +kernel
theorem d_K_addToLeads_40 : decode prog_5_method_3_code 40 = .ok (.iload_n 3, 1) := by decide +kernel
theorem d_K_addToLeads_41 : decode prog_5_method_3_code 41 = .ok (.iadd, 1) := by decide +kernel
theorem d_K_addToLeads_42 : decode prog_5_method_3_code 42 = .ok (.dup2, 1) := by decide +kernel
theorem d_K_addToLeads_43 : decode prog_5_method_3_code 43 = .ok (.iaload, 1) := by decide +kernel
theorem d_K_addToLeads_44 : decode prog_5_method_3_code 44 = .ok (.aload_n 0, 1) := by decide +kernel
theorem d_K_addToLeads_45 : decode prog_5_method_3_code 45 = .ok (.iload_n 1, 1) := by decide +kernel
theorem d_K_addToLeads_46 : decode prog_5_method_3_code 46 = .ok (.aload_n 0, 1) := by decide +kernel
theorem d_K_addToLeads_47 : decode prog_5_method_3_code 47 = .ok (.getfield 9, 3) := by decide +kernel
theorem d_K_addToLeads_50 : decode prog_5_method_3_code 50 = .ok (.iload_n 2, 1) := by decide +kernel
theorem d_K_addToLeads_51 : decode prog_5_method_3_code 51 = .ok (.iload_n 3, 1) := by decide +kernel
theorem d_K_addToLeads_52 : decode prog_5_method_3_code 52 = .ok (.iadd, 1) := by decide +kernel
theorem d_K_addToLeads_53 : decode prog_5_method_3_code 53 = .ok (.iaload, 1) := by decide +kernel
theorem d_K_addToLeads_54 : decode prog_5_method_3_code 54 = .ok (.invokevirtual 59, 3) := by decide +kernel
theorem d_K_addToLeads_57 : decode prog_5_method_3_code 57 = .ok (.ior, 1) := by decide +kernel
theorem d_K_addToLeads_58 : decode prog_5_method_3_code 58 = .ok (.iastore, 1) := by decide +kernel
theorem d_K_addToLeads_59 : decode prog_5_method_3_code 59 = .ok (.iinc 3 1, 3) := by decide +kernel
theorem d_K_addToLeads_62 : decode prog_5_method_3_code 62 = .ok (.goto (-43), 3) := by decide +kernel
theorem d_K_make_0 : decode prog_5_method_2_code 0 = .ok (.aload_n 0, 1) := by decide +kernel
theorem d_K_make_1 : decode prog_5_method_2_code 1 = .ok (.getfield 18, 3) := by decide +kernel
theorem d_K_make_4 : decode prog_5_method_2_code 4 = .ok (.iconst 0, 1) := by decide +kernel
theorem d_K_make_5 : decode prog_5_method_2_code 5 = .ok (.invokestatic 29, 3) := by decide +kernel
theorem d_K_make_8 : decode prog_5_method_2_code 8 = .ok (.iconst 0, 1) := by decide +kernel
theorem d_K_make_9 : decode prog_5_method_2_code 9 = .ok (.istore_n 1, 1) := by decide +kernel
theorem d_K_make_10 : decode prog_5_method_2_code 10 = .ok (.iload_n 1, 1) := by decide +kernel
theorem d_K_make_11 : decode prog_5_method_2_code 11 = .ok (.aload_n 0, 1) := by decide +kernel
theorem d_K_make_12 : decode prog_5_method_2_code 12 = .ok (.getfield 21, 3) := by decide +kernel
theorem d_K_make_15 : decode prog_5_method_2_code 15 = .ok (.getfield 35, 3) := by decide +kernel
theorem d_K_make_18 : decode prog_5_method_2_code 18 = .ok (.if_icmp .ge 24, 3) := by decide +kernel
theorem d_K_make_42 : decode prog_5_method_2_code 42 = .ok (.return_, 1) := by decide +kernel
theorem d_K_make_21 : decode prog_5_method_2_code 21 = .ok (.aload_n 0, 1) := by decide +kernel
theorem d_K_make_22 : decode prog_5_method_2_code 22 = .ok (.iload_n 1, 1) := by decide +kernel
theorem d_K_make_23 : decode prog_5_method_2_code 23 = .ok (.invokevirtual 41, 3) := by decide +kernel
theorem d_K_make_26 : decode prog_5_method_2_code 26 = .ok (.aload_n 0, 1) := by decide +kernel
theorem d_K_make_27 : decode prog_5_method_2_code 27 = .ok (.iload_n 1, 1) := by decide +kernel
theorem d_K_make_28 : decode prog_5_method_2_code 28 = .ok (.invokevirtual 45, 3) := by decide +kernel
theorem d_K_make_31 : decode prog_5_method_2_code 31 = .ok (.aload_n 0, 1) := by decide +kernel
theorem d_K_make_32 : decode prog_5_method_2_code 32 = .ok (.iload_n 1, 1) := by decide +kernel
theorem d_K_make_33 : decode prog_5_method_2_code 33 = .ok (.invokevirtual 48, 3) := by decide +kernel
theorem d_K_make_36 : decode prog_5_method_2_code 36 = .ok (.iinc 1 1, 3) := by decide +kernel
theorem d_K_make_39 : decode prog_5_method_2_code 39 = .ok (.goto (-29), 3) := by decide +kernel
theorem d_Q_at_0 : decode prog_6_method_2_code 0 = .ok (.iload_n 2, 1) := by decide +kernel
theorem d_Q_at_1 : decode prog_6_method_2_code 1 = .ok (.aload_n 0, 1) := by decide +kernel
theorem d_Q_at_2 : decode prog_6_method_2_code 2 = .ok (.getfield 15, 3) := by decide +kernel
theorem d_Q_at_5 : decode prog_6_method_2_code 5 = .ok (.iload_n 1, 1) := by decide +kernel
theorem d_Q_at_6 : decode prog_6_method_2_code 6 = .ok (.iaload, 1) := by decide +kernel
theorem d_Q_at_7 : decode prog_6_method_2_code 7 = .ok (.if_icmp .ge 17, 3) := by decide +kernel
theorem d_Q_at_24 : decode prog_6_method_2_code 24 = .ok (.iconst (-1), 1) := by decide +kernel
theorem d_Q_at_25 : decode prog_6_method_2_code 25 = .ok (.ireturn, 1) := by decide +kernel
theorem d_Q_at_10 : decode prog_6_method_2_code 10 = .ok (.aload_n 0, 1) := by decide +kernel
theorem d_Q_at_11 : decode prog_6_method_2_code 11 = .ok (.getfield 11, 3) := by decide +kernel
theorem d_Q_at_14 : decode prog_6_method_2_code 14 = .ok (.iload_n 1, 1) := by decide +kernel
theorem d_Q_at_15 : decode prog_6_method_2_code 15 = .ok (.bipush 32, 2) := by decide +kernel
theorem d_Q_at_17 : decode prog_6_method_2_code 17 = .ok (.imul, 1) := by decide +kernel
theorem d_Q_at_18 : decode prog_6_method_2_code 18 = .ok (.iload_n 2, 1) := by decide +kernel
theorem d_Q_at_19 : decode prog_6_method_2_code 19 = .ok (.iadd, 1) := by decide +kernel
theorem d_Q_at_20 : decode prog_6_method_2_code 20 = .ok (.iaload, 1) := by decide +kernel
theorem d_Q_at_21 : decode prog_6_method_2_code 21 = .ok (.goto 4, 3) := by decide +kernel
theorem d_Q_lengthOfAll_0 : decode prog_6_method_3_code 0 = .ok (.iconst 0, 1) := by decide +kernel
theorem d_Q_lengthOfAll_1 : decode prog_6_method_3_code 1 = .ok (.istore_n 1, 1) := by decide +kernel
theorem d_Q_lengthOfAll_2 : decode prog_6_method_3_code 2 = .ok (.iconst 0, 1) := by decide +kernel
theorem d_Q_lengthOfAll_3 : decode prog_6_method_3_code 3 = .ok (.istore_n 2, 1) := by decide +kernel
theorem d_Q_lengthOfAll_4 : decode prog_6_method_3_code 4 = .ok (.iload_n 2, 1) := by decide +kernel
theorem d_Q_lengthOfAll_5 : decode prog_6_method_3_code 5 = .ok (.aload_n 0, 1) := by decide +kernel
theorem d_Q_lengthOfAll_6 : decode prog_6_method_3_code 6 = .ok (.getfield 21, 3) := by decide +kernel
theorem d_Q_lengthOfAll_9 : decode prog_6_method_3_code 9 = .ok (.getfield 29, 3) := by decide +kernel
theorem d_Q_lengthOfAll_12 : decode prog_6_method_3_code 12 = .ok (.if_icmp .ge 18, 3) := by decide +kernel
theorem d_Q_lengthOfAll_30 : decode prog_6_method_3_code 30 = .ok (.iload_n 1, 1) := by decide +kernel
theorem d_Q_lengthOfAll_31 : decode prog_6_method_3_code 31 = .ok (.ireturn, 1) := by decide +kernel
theorem d_Q_lengthOfAll_15 : decode prog_6_method_3_code 15 = .ok (.iload_n 1, 1) := by decide +kernel
theorem d_Q_lengthOfAll_16 : decode prog_6_method_3_code 16 = .ok (.aload_n 0, 1) := by decide +kernel
theorem d_Q_lengthOfAll_17 : decode prog_6_method_3_code 17 = .ok (.getfield 15, 3) := by decide +kernel
theorem d_Q_lengthOfAll_20 : decode prog_6_method_3_code 20 = .ok (.iload_n 2, 1) := by decide +kernel
theorem d_Q_lengthOfAll_21 : decode prog_6_method_3_code 21 = .ok (.iaload, 1) := by decide +kernel
theorem d_Q_lengthOfAll_22 : decode prog_6_method_3_code 22 = .ok (.iadd, 1) := by decide +kernel
theorem d_Q_lengthOfAll_23 : decode prog_6_method_3_code 23 = .ok (.istore_n 1, 1) := by decide +kernel
theorem d_Q_lengthOfAll_24 : decode prog_6_method_3_code 24 = .ok (.iinc 2 1, 3) := by decide +kernel
theorem d_Q_lengthOfAll_27 : decode prog_6_method_3_code 27 = .ok (.goto (-23), 3) := by decide +kernel
theorem d_Q_visitsAt_0 : decode prog_6_method_7_code 0 = .ok (.aload_n 0, 1) := by decide +kernel
theorem d_Q_visitsAt_1 : decode prog_6_method_7_code 1 = .ok (.getfield 25, 3) := by decide +kernel
theorem d_Q_visitsAt_4 : decode prog_6_method_7_code 4 = .ok (.getfield 82, 3) := by decide +kernel
theorem d_Q_visitsAt_7 : decode prog_6_method_7_code 7 = .ok (.aload_n 0, 1) := by decide +kernel
theorem d_Q_visitsAt_8 : decode prog_6_method_7_code 8 = .ok (.getfield 21, 3) := by decide +kernel
theorem d_Q_visitsAt_11 : decode prog_6_method_7_code 11 = .ok (.iload_n 1, 1) := by decide +kernel
theorem d_Q_visitsAt_12 : decode prog_6_method_7_code 12 = .ok (.iload_n 2, 1) := by decide +kernel
theorem d_Q_visitsAt_13 : decode prog_6_method_7_code 13 = .ok (.invokevirtual 56, 3) := by decide +kernel
theorem d_Q_visitsAt_16 : decode prog_6_method_7_code 16 = .ok (.iaload, 1) := by decide +kernel
theorem d_Q_visitsAt_17 : decode prog_6_method_7_code 17 = .ok (.ireturn, 1) := by decide +kernel
theorem d_Q_readySet_0 : decode prog_6_method_9_code 0 = .ok (.aload_n 0, 1) := by decide +kernel
theorem d_Q_readySet_1 : decode prog_6_method_9_code 1 = .ok (.getfield 21, 3) := by decide +kernel
theorem d_Q_readySet_4 : decode prog_6_method_9_code 4 = .ok (.getfield 68, 3) := by decide +kernel
theorem d_Q_readySet_7 : decode prog_6_method_9_code 7 = .ok (.iload_n 1, 1) := by decide +kernel
theorem d_Q_readySet_8 : decode prog_6_method_9_code 8 = .ok (.iaload, 1) := by decide +kernel
theorem d_Q_readySet_9 : decode prog_6_method_9_code 9 = .ok (.aload_n 0, 1) := by decide +kernel
theorem d_Q_readySet_10 : decode prog_6_method_9_code 10 = .ok (.getfield 53, 3) := by decide +kernel
theorem d_Q_readySet_13 : decode prog_6_method_9_code 13 = .ok (.iconst (-1), 1) := by decide +kernel
theorem d_Q_readySet_14 : decode prog_6_method_9_code 14 = .ok (.ixor, 1) := by decide +kernel
theorem d_Q_readySet_15 : decode prog_6_method_9_code 15 = .ok (.iand, 1) := by decide +kernel
theorem d_Q_readySet_16 : decode prog_6_method_9_code 16 = .ok (.istore_n 2, 1) := by decide +kernel
theorem d_Q_readySet_17 : decode prog_6_method_9_code 17 = .ok (.iload_n 1, 1) := by decide +kernel
theorem d_Q_readySet_18 : decode prog_6_method_9_code 18 = .ok (.bipush 16, 2) := by decide +kernel
theorem d_Q_readySet_20 : decode prog_6_method_9_code 20 = .ok (.imul, 1) := by decide +kernel
theorem d_Q_readySet_21 : decode prog_6_method_9_code 21 = .ok (.istore_n 3, 1) := by decide +kernel
theorem d_Q_readySet_22 : decode prog_6_method_9_code 22 = .ok (.iconst 0, 1) := by decide +kernel
theorem d_Q_readySet_23 : decode prog_6_method_9_code 23 = .ok (.istore 4, 2) := by decide +kernel
theorem d_Q_readySet_25 : decode prog_6_method_9_code 25 = .ok (.iload 4, 2) := by decide +kernel
theorem d_Q_readySet_27 : decode prog_6_method_9_code 27 = .ok (.bipush 16, 2) := by decide +kernel
theorem d_Q_readySet_29 : decode prog_6_method_9_code 29 = .ok (.if_icmp .ge 43, 3) := by decide +kernel
theorem d_Q_readySet_72 : decode prog_6_method_9_code 72 = .ok (.iconst (-1), 1) := by decide +kernel
theorem d_Q_readySet_73 : decode prog_6_method_9_code 73 = .ok (.ireturn, 1) := by decide +kernel
theorem d_Q_readySet_32 : decode prog_6_method_9_code 32 = .ok (.iload_n 2, 1) := by decide +kernel
theorem d_Q_readySet_33 : decode prog_6_method_9_code 33 = .ok (.iload 4, 2) := by decide +kernel
theorem d_Q_readySet_35 : decode prog_6_method_9_code 35 = .ok (.invokestatic 104, 3) := by decide +kernel
theorem d_Q_readySet_66 : decode prog_6_method_9_code 66 = .ok (.iinc 4 1, 3) := by decide +kernel
theorem d_Q_readySet_69 : decode prog_6_method_9_code 69 = .ok (.goto (-44), 3) := by decide +kernel
theorem d_Q_readySet_38 : decode prog_6_method_9_code 38 = .ok (.ifCond .eq 28, 3) := by decide +kernel
theorem d_Q_readySet_41 : decode prog_6_method_9_code 41 = .ok (.aload_n 0, 1) := by decide +kernel
theorem d_Q_readySet_42 : decode prog_6_method_9_code 42 = .ok (.getfield 65, 3) := by decide +kernel
theorem d_Q_readySet_45 : decode prog_6_method_9_code 45 = .ok (.aload_n 0, 1) := by decide +kernel
theorem d_Q_readySet_46 : decode prog_6_method_9_code 46 = .ok (.getfield 21, 3) := by decide +kernel
theorem d_Q_readySet_49 : decode prog_6_method_9_code 49 = .ok (.getfield 108, 3) := by decide +kernel
theorem d_Q_readySet_52 : decode prog_6_method_9_code 52 = .ok (.iload_n 3, 1) := by decide +kernel
theorem d_Q_readySet_53 : decode prog_6_method_9_code 53 = .ok (.iload 4, 2) := by decide +kernel
theorem d_Q_readySet_55 : decode prog_6_method_9_code 55 = .ok (.iadd, 1) := by decide +kernel
theorem d_Q_readySet_56 : decode prog_6_method_9_code 56 = .ok (.iaload, 1) := by decide +kernel
theorem d_Q_readySet_57 : decode prog_6_method_9_code 57 = .ok (.invokestatic 111, 3) := by decide +kernel
theorem d_Q_readySet_60 : decode prog_6_method_9_code 60 = .ok (.ifCond .eq 6, 3) := by decide +kernel
theorem d_Q_readySet_63 : decode prog_6_method_9_code 63 = .ok (.iload 4, 2) := by decide +kernel
theorem d_Q_readySet_65 : decode prog_6_method_9_code 65 = .ok (.ireturn, 1) := by decide +kernel
theorem d_Q_readyVisit_0 : decode prog_6_method_10_code 0 = .ok (.iconst 1, 1) := by decide +kernel
theorem d_Q_readyVisit_1 : decode prog_6_method_10_code 1 = .ok (.istore_n 2, 1) := by decide +kernel
theorem d_Q_readyVisit_2 : decode prog_6_method_10_code 2 = .ok (.iload_n 2, 1) := by decide +kernel
theorem d_Q_readyVisit_3 : decode prog_6_method_10_code 3 = .ok (.aload_n 0, 1) := by decide +kernel
theorem d_Q_readyVisit_4 : decode prog_6_method_10_code 4 = .ok (.getfield 21, 3) := by decide +kernel
theorem d_Q_readyVisit_7 : decode prog_6_method_10_code 7 = .ok (.getfield 76, 3) := by decide +kernel
theorem d_Q_readyVisit_10 : decode prog_6_method_10_code 10 = .ok (.iload_n 1, 1) := by decide +kernel
theorem d_Q_readyVisit_11 : decode prog_6_method_10_code 11 = .ok (.iaload, 1) := by decide +kernel
theorem d_Q_readyVisit_12 : decode prog_6_method_10_code 12 = .ok (.if_icmp .gt 69, 3) := by decide +kernel
theorem d_Q_readyVisit_81 : decode prog_6_method_10_code 81 = .ok (.iconst (-1), 1) := by decide +kernel
theorem d_Q_readyVisit_82 : decode prog_6_method_10_code 82 = .ok (.ireturn, 1) := by decide +kernel
theorem d_Q_readyVisit_15 : decode prog_6_method_10_code 15 = .ok (.aload_n 0, 1) := by decide +kernel
theorem d_Q_readyVisit_16 : decode prog_6_method_10_code 16 = .ok (.getfield 18, 3) := by decide +kernel
theorem d_Q_readyVisit_19 : decode prog_6_method_10_code 19 = .ok (.iload_n 2, 1) := by decide +kernel
theorem d_Q_readyVisit_20 : decode prog_6_method_10_code 20 = .ok (.iaload, 1) := by decide +kernel
