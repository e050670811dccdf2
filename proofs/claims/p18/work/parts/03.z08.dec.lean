theorem d_M_mixes_86 : decode prog_10_method_23_code 86 = .ok (.iload_n 2, 1) := by decide +kernel
theorem d_M_mixes_87 : decode prog_10_method_23_code 87 = .ok (.iadd, 1) := by decide +kernel
theorem d_M_mixes_88 : decode prog_10_method_23_code 88 = .ok (.baload, 1) := by decide +kernel
theorem d_M_mixes_113 : decode prog_10_method_23_code 113 = .ok (.iconst 0, 1) := by decide +kernel
theorem d_M_mixes_89 : decode prog_10_method_23_code 89 = .ok (.ifCond .eq 24, 3) := by decide +kernel
theorem d_M_mixes_92 : decode prog_10_method_23_code 92 = .ok (.aload_n 0, 1) := by decide +kernel
theorem d_M_mixes_93 : decode prog_10_method_23_code 93 = .ok (.getfield 48, 3) := by decide +kernel
theorem d_M_mixes_96 : decode prog_10_method_23_code 96 = .ok (.bipush 16, 2) := by decide +kernel
theorem d_M_mixes_98 : decode prog_10_method_23_code 98 = .ok (.iload_n 2, 1) := by decide +kernel
theorem d_M_mixes_99 : decode prog_10_method_23_code 99 = .ok (.imul, 1) := by decide +kernel
theorem d_M_mixes_100 : decode prog_10_method_23_code 100 = .ok (.iload_n 3, 1) := by decide +kernel
theorem d_M_mixes_101 : decode prog_10_method_23_code 101 = .ok (.bipush 16, 2) := by decide +kernel
theorem d_M_mixes_103 : decode prog_10_method_23_code 103 = .ok (.irem, 1) := by decide +kernel
theorem d_M_mixes_104 : decode prog_10_method_23_code 104 = .ok (.iadd, 1) := by decide +kernel
theorem d_M_mixes_105 : decode prog_10_method_23_code 105 = .ok (.baload, 1) := by decide +kernel
theorem d_M_mixes_106 : decode prog_10_method_23_code 106 = .ok (.ifCond .eq 7, 3) := by decide +kernel
theorem d_M_mixes_19 : decode prog_10_method_23_code 19 = .ok (.aload_n 0, 1) := by decide +kernel
theorem d_M_mixes_20 : decode prog_10_method_23_code 20 = .ok (.getfield 48, 3) := by decide +kernel
theorem d_M_mixes_23 : decode prog_10_method_23_code 23 = .ok (.iload_n 2, 1) := by decide +kernel
theorem d_M_mixes_24 : decode prog_10_method_23_code 24 = .ok (.aload_n 0, 1) := by decide +kernel
theorem d_M_mixes_25 : decode prog_10_method_23_code 25 = .ok (.iload_n 1, 1) := by decide +kernel
theorem d_M_mixes_26 : decode prog_10_method_23_code 26 = .ok (.iload_n 2, 1) := by decide +kernel
theorem d_M_mixes_27 : decode prog_10_method_23_code 27 = .ok (.bipush 16, 2) := by decide +kernel
theorem d_M_mixes_29 : decode prog_10_method_23_code 29 = .ok (.idiv, 1) := by decide +kernel
theorem d_M_mixes_30 : decode prog_10_method_23_code 30 = .ok (.iload_n 2, 1) := by decide +kernel
theorem d_M_mixes_31 : decode prog_10_method_23_code 31 = .ok (.bipush 16, 2) := by decide +kernel
theorem d_M_mixes_33 : decode prog_10_method_23_code 33 = .ok (.irem, 1) := by decide +kernel
theorem d_M_mixes_34 : decode prog_10_method_23_code 34 = .ok (.invokevirtual 153, 3) := by decide +kernel
theorem d_M_mixes_37 : decode prog_10_method_23_code 37 = .ok (.bastore, 1) := by decide +kernel
theorem d_M_mixes_38 : decode prog_10_method_23_code 38 = .ok (.iinc 2 1, 3) := by decide +kernel
theorem d_M_mixes_41 : decode prog_10_method_23_code 41 = .ok (.goto (-29), 3) := by decide +kernel
theorem d_M_visitOf_0 : decode prog_10_method_24_code 0 = .ok (.aload_n 0, 1) := by decide +kernel
theorem d_M_visitOf_1 : decode prog_10_method_24_code 1 = .ok (.iload_n 1, 1) := by decide +kernel
theorem d_M_visitOf_2 : decode prog_10_method_24_code 2 = .ok (.iload_n 2, 1) := by decide +kernel
theorem d_M_visitOf_3 : decode prog_10_method_24_code 3 = .ok (.invokevirtual 126, 3) := by decide +kernel
theorem d_M_visitOf_6 : decode prog_10_method_24_code 6 = .ok (.istore_n 3, 1) := by decide +kernel
theorem d_M_visitOf_7 : decode prog_10_method_24_code 7 = .ok (.aload_n 0, 1) := by decide +kernel
theorem d_M_visitOf_8 : decode prog_10_method_24_code 8 = .ok (.getfield 54, 3) := by decide +kernel
theorem d_M_visitOf_11 : decode prog_10_method_24_code 11 = .ok (.iload_n 3, 1) := by decide +kernel
theorem d_M_visitOf_12 : decode prog_10_method_24_code 12 = .ok (.iconst 4, 1) := by decide +kernel
theorem d_M_visitOf_13 : decode prog_10_method_24_code 13 = .ok (.idiv, 1) := by decide +kernel
theorem d_M_visitOf_14 : decode prog_10_method_24_code 14 = .ok (.iaload, 1) := by decide +kernel
theorem d_M_visitOf_15 : decode prog_10_method_24_code 15 = .ok (.aload_n 0, 1) := by decide +kernel
theorem d_M_visitOf_16 : decode prog_10_method_24_code 16 = .ok (.getfield 51, 3) := by decide +kernel
theorem d_M_visitOf_19 : decode prog_10_method_24_code 19 = .ok (.iload_n 3, 1) := by decide +kernel
theorem d_M_visitOf_20 : decode prog_10_method_24_code 20 = .ok (.iaload, 1) := by decide +kernel
theorem d_M_visitOf_21 : decode prog_10_method_24_code 21 = .ok (.iconst 1, 1) := by decide +kernel
theorem d_M_visitOf_22 : decode prog_10_method_24_code 22 = .ok (.isub, 1) := by decide +kernel
theorem d_M_visitOf_23 : decode prog_10_method_24_code 23 = .ok (.iconst 2, 1) := by decide +kernel
theorem d_M_visitOf_24 : decode prog_10_method_24_code 24 = .ok (.idiv, 1) := by decide +kernel
theorem d_M_visitOf_25 : decode prog_10_method_24_code 25 = .ok (.isub, 1) := by decide +kernel
theorem d_M_visitOf_26 : decode prog_10_method_24_code 26 = .ok (.ireturn, 1) := by decide +kernel
theorem d_M_isKnown_0 : decode prog_10_method_25_code 0 = .ok (.aload_n 0, 1) := by decide +kernel
theorem d_M_isKnown_1 : decode prog_10_method_25_code 1 = .ok (.getfield 63, 3) := by decide +kernel
theorem d_M_isKnown_4 : decode prog_10_method_25_code 4 = .ok (.iload_n 2, 1) := by decide +kernel
theorem d_M_isKnown_5 : decode prog_10_method_25_code 5 = .ok (.baload, 1) := by decide +kernel
theorem d_M_isKnown_6 : decode prog_10_method_25_code 6 = .ok (.ifCond .eq 5, 3) := by decide +kernel
theorem d_M_isKnown_11 : decode prog_10_method_25_code 11 = .ok (.aload_n 0, 1) := by decide +kernel
theorem d_M_isKnown_12 : decode prog_10_method_25_code 12 = .ok (.iload_n 1, 1) := by decide +kernel
theorem d_M_isKnown_13 : decode prog_10_method_25_code 13 = .ok (.iload_n 2, 1) := by decide +kernel
theorem d_M_isKnown_14 : decode prog_10_method_25_code 14 = .ok (.invokevirtual 130, 3) := by decide +kernel
theorem d_M_isKnown_17 : decode prog_10_method_25_code 17 = .ok (.ifCond .eq 5, 3) := by decide +kernel
theorem d_M_isKnown_22 : decode prog_10_method_25_code 22 = .ok (.iload_n 2, 1) := by decide +kernel
theorem d_M_isKnown_23 : decode prog_10_method_25_code 23 = .ok (.iconst 4, 1) := by decide +kernel
theorem d_M_isKnown_24 : decode prog_10_method_25_code 24 = .ok (.if_icmp .ge 28, 3) := by decide +kernel
theorem d_M_isKnown_52 : decode prog_10_method_25_code 52 = .ok (.aload_n 0, 1) := by decide +kernel
theorem d_M_isKnown_53 : decode prog_10_method_25_code 53 = .ok (.iload_n 1, 1) := by decide +kernel
theorem d_M_isKnown_54 : decode prog_10_method_25_code 54 = .ok (.iload_n 2, 1) := by decide +kernel
theorem d_M_isKnown_55 : decode prog_10_method_25_code 55 = .ok (.invokevirtual 156, 3) := by decide +kernel
theorem d_M_isKnown_58 : decode prog_10_method_25_code 58 = .ok (.aload_n 0, 1) := by decide +kernel
theorem d_M_isKnown_59 : decode prog_10_method_25_code 59 = .ok (.getfield 66, 3) := by decide +kernel
theorem d_M_isKnown_62 : decode prog_10_method_25_code 62 = .ok (.iload_n 2, 1) := by decide +kernel
theorem d_M_isKnown_63 : decode prog_10_method_25_code 63 = .ok (.iconst 4, 1) := by decide +kernel
theorem d_M_isKnown_64 : decode prog_10_method_25_code 64 = .ok (.idiv, 1) := by decide +kernel
theorem d_M_isKnown_65 : decode prog_10_method_25_code 65 = .ok (.iaload, 1) := by decide +kernel
theorem d_M_isKnown_66 : decode prog_10_method_25_code 66 = .ok (.if_icmp .gt 7, 3) := by decide +kernel
theorem d_M_isKnown_73 : decode prog_10_method_25_code 73 = .ok (.iconst 0, 1) := by decide +kernel
theorem d_M_isKnown_74 : decode prog_10_method_25_code 74 = .ok (.ireturn, 1) := by decide +kernel
theorem d_M_isKnown_69 : decode prog_10_method_25_code 69 = .ok (.iconst 1, 1) := by decide +kernel
theorem d_M_isKnown_70 : decode prog_10_method_25_code 70 = .ok (.goto 4, 3) := by decide +kernel
theorem d_M_isKnown_27 : decode prog_10_method_25_code 27 = .ok (.aload_n 0, 1) := by decide +kernel
theorem d_M_isKnown_28 : decode prog_10_method_25_code 28 = .ok (.iload_n 1, 1) := by decide +kernel
theorem d_M_isKnown_29 : decode prog_10_method_25_code 29 = .ok (.iload_n 2, 1) := by decide +kernel
theorem d_M_isKnown_30 : decode prog_10_method_25_code 30 = .ok (.invokevirtual 156, 3) := by decide +kernel
theorem d_M_isKnown_33 : decode prog_10_method_25_code 33 = .ok (.aload_n 0, 1) := by decide +kernel
theorem d_M_isKnown_34 : decode prog_10_method_25_code 34 = .ok (.getfield 66, 3) := by decide +kernel
theorem d_M_isKnown_37 : decode prog_10_method_25_code 37 = .ok (.iconst 0, 1) := by decide +kernel
theorem d_M_isKnown_38 : decode prog_10_method_25_code 38 = .ok (.iaload, 1) := by decide +kernel
theorem d_M_isKnown_39 : decode prog_10_method_25_code 39 = .ok (.iconst 1, 1) := by decide +kernel
theorem d_M_isKnown_40 : decode prog_10_method_25_code 40 = .ok (.iadd, 1) := by decide +kernel
theorem d_M_isKnown_41 : decode prog_10_method_25_code 41 = .ok (.if_icmp .gt 7, 3) := by decide +kernel
theorem d_M_isKnown_48 : decode prog_10_method_25_code 48 = .ok (.iconst 0, 1) := by decide +kernel
theorem d_M_isKnown_49 : decode prog_10_method_25_code 49 = .ok (.goto 25, 3) := by decide +kernel
theorem d_M_isKnown_44 : decode prog_10_method_25_code 44 = .ok (.iconst 1, 1) := by decide +kernel
theorem d_M_isKnown_45 : decode prog_10_method_25_code 45 = .ok (.goto 29, 3) := by decide +kernel
theorem d_M_isKnown_20 : decode prog_10_method_25_code 20 = .ok (.iconst 0, 1) := by decide +kernel
theorem d_M_isKnown_21 : decode prog_10_method_25_code 21 = .ok (.ireturn, 1) := by decide +kernel
theorem d_M_isKnown_9 : decode prog_10_method_25_code 9 = .ok (.iconst 1, 1) := by decide +kernel
theorem d_M_isKnown_10 : decode prog_10_method_25_code 10 = .ok (.ireturn, 1) := by decide +kernel
theorem d_M_canSet_0 : decode prog_10_method_26_code 0 = .ok (.aload_n 0, 1) := by decide +kernel
theorem d_M_canSet_1 : decode prog_10_method_26_code 1 = .ok (.iload_n 1, 1) := by decide +kernel
theorem d_M_canSet_2 : decode prog_10_method_26_code 2 = .ok (.iload_n 2, 1) := by decide +kernel
theorem d_M_canSet_3 : decode prog_10_method_26_code 3 = .ok (.invokevirtual 130, 3) := by decide +kernel
theorem d_M_canSet_6 : decode prog_10_method_26_code 6 = .ok (.ifCond .eq 12, 3) := by decide +kernel
theorem d_M_canSet_18 : decode prog_10_method_26_code 18 = .ok (.iconst 0, 1) := by decide +kernel
theorem d_M_canSet_19 : decode prog_10_method_26_code 19 = .ok (.ireturn, 1) := by decide +kernel
theorem d_M_canSet_9 : decode prog_10_method_26_code 9 = .ok (.aload_n 0, 1) := by decide +kernel
theorem d_M_canSet_10 : decode prog_10_method_26_code 10 = .ok (.getfield 63, 3) := by decide +kernel
theorem d_M_canSet_13 : decode prog_10_method_26_code 13 = .ok (.iload_n 2, 1) := by decide +kernel
theorem d_M_canSet_14 : decode prog_10_method_26_code 14 = .ok (.baload, 1) := by decide +kernel
theorem d_M_canSet_15 : decode prog_10_method_26_code 15 = .ok (.ifCond .eq 5, 3) := by decide +kernel
theorem d_M_canSet_20 : decode prog_10_method_26_code 20 = .ok (.iconst 1, 1) := by decide +kernel
theorem d_M_canSet_21 : decode prog_10_method_26_code 21 = .ok (.istore_n 3, 1) := by decide +kernel
theorem d_M_canSet_22 : decode prog_10_method_26_code 22 = .ok (.iconst 0, 1) := by decide +kernel
theorem d_M_canSet_23 : decode prog_10_method_26_code 23 = .ok (.istore 4, 2) := by decide +kernel
theorem d_M_canSet_25 : decode prog_10_method_26_code 25 = .ok (.iload 4, 2) := by decide +kernel
theorem d_M_canSet_27 : decode prog_10_method_26_code 27 = .ok (.bipush 16, 2) := by decide +kernel
theorem d_M_canSet_29 : decode prog_10_method_26_code 29 = .ok (.if_icmp .ge 40, 3) := by decide +kernel
theorem d_M_canSet_69 : decode prog_10_method_26_code 69 = .ok (.iload_n 3, 1) := by decide +kernel
theorem d_M_canSet_70 : decode prog_10_method_26_code 70 = .ok (.ireturn, 1) := by decide +kernel
theorem d_M_canSet_32 : decode prog_10_method_26_code 32 = .ok (.iload_n 3, 1) := by decide +kernel
theorem d_M_canSet_62 : decode prog_10_method_26_code 62 = .ok (.istore_n 3, 1) := by decide +kernel
theorem d_M_canSet_63 : decode prog_10_method_26_code 63 = .ok (.iinc 4 1, 3) := by decide +kernel
theorem d_M_canSet_66 : decode prog_10_method_26_code 66 = .ok (.goto (-41), 3) := by decide +kernel
theorem d_M_canSet_61 : decode prog_10_method_26_code 61 = .ok (.iconst 0, 1) := by decide +kernel
theorem d_M_canSet_33 : decode prog_10_method_26_code 33 = .ok (.ifCond .eq 28, 3) := by decide +kernel
theorem d_M_canSet_36 : decode prog_10_method_26_code 36 = .ok (.aload_n 0, 1) := by decide +kernel
theorem d_M_canSet_37 : decode prog_10_method_26_code 37 = .ok (.iload_n 1, 1) := by decide +kernel
theorem d_M_canSet_38 : decode prog_10_method_26_code 38 = .ok (.iload 4, 2) := by decide +kernel
theorem d_M_canSet_40 : decode prog_10_method_26_code 40 = .ok (.iload_n 2, 1) := by decide +kernel
theorem d_M_canSet_41 : decode prog_10_method_26_code 41 = .ok (.invokevirtual 144, 3) := by decide +kernel
theorem d_M_canSet_57 : decode prog_10_method_26_code 57 = .ok (.iconst 1, 1) := by decide +kernel
theorem d_M_canSet_58 : decode prog_10_method_26_code 58 = .ok (.goto 4, 3) := by decide +kernel
theorem d_M_canSet_44 : decode prog_10_method_26_code 44 = .ok (.ifCond .eq 13, 3) := by decide +kernel
theorem d_M_canSet_47 : decode prog_10_method_26_code 47 = .ok (.aload_n 0, 1) := by decide +kernel
theorem d_M_canSet_48 : decode prog_10_method_26_code 48 = .ok (.iload_n 1, 1) := by decide +kernel
theorem d_M_canSet_49 : decode prog_10_method_26_code 49 = .ok (.iload 4, 2) := by decide +kernel
theorem d_M_canSet_51 : decode prog_10_method_26_code 51 = .ok (.invokevirtual 159, 3) := by decide +kernel
theorem d_M_canSet_54 : decode prog_10_method_26_code 54 = .ok (.ifCond .eq 7, 3) := by decide +kernel
theorem d_M_isPrepared_0 : decode prog_10_method_27_code 0 = .ok (.iconst 1, 1) := by decide +kernel
theorem d_M_isPrepared_1 : decode prog_10_method_27_code 1 = .ok (.istore 4, 2) := by decide +kernel
theorem d_M_isPrepared_3 : decode prog_10_method_27_code 3 = .ok (.iconst 4, 1) := by decide +kernel
theorem d_M_isPrepared_4 : decode prog_10_method_27_code 4 = .ok (.iload_n 2, 1) := by decide +kernel
theorem d_M_isPrepared_5 : decode prog_10_method_27_code 5 = .ok (.imul, 1) := by decide +kernel
theorem d_M_isPrepared_6 : decode prog_10_method_27_code 6 = .ok (.istore 5, 2) := by decide +kernel
theorem d_M_isPrepared_8 : decode prog_10_method_27_code 8 = .ok (.iload 5, 2) := by decide +kernel
theorem d_M_isPrepared_10 : decode prog_10_method_27_code 10 = .ok (.iconst 4, 1) := by decide +kernel
theorem d_M_isPrepared_11 : decode prog_10_method_27_code 11 = .ok (.iload_n 2, 1) := by decide +kernel
theorem d_M_isPrepared_12 : decode prog_10_method_27_code 12 = .ok (.imul, 1) := by decide +kernel
theorem d_M_isPrepared_13 : decode prog_10_method_27_code 13 = .ok (.iconst 4, 1) := by decide +kernel
theorem d_M_isPrepared_14 : decode prog_10_method_27_code 14 = .ok (.iadd, 1) := by decide +kernel
theorem d_M_isPrepared_15 : decode prog_10_method_27_code 15 = .ok (.if_icmp .ge 52, 3) := by decide +kernel
theorem d_M_isPrepared_67 : decode prog_10_method_27_code 67 = .ok (.iload 4, 2) := by decide +kernel
theorem d_M_isPrepared_69 : decode prog_10_method_27_code 69 = .ok (.ireturn, 1) := by decide +kernel
theorem d_M_isPrepared_18 : decode prog_10_method_27_code 18 = .ok (.iload 4, 2) := by decide +kernel
theorem d_M_isPrepared_59 : decode prog_10_method_27_code 59 = .ok (.istore 4, 2) := by decide +kernel
theorem d_M_isPrepared_61 : decode prog_10_method_27_code 61 = .ok (.iinc 5 1, 3) := by decide +kernel
theorem d_M_isPrepared_64 : decode prog_10_method_27_code 64 = .ok (.goto (-56), 3) := by decide +kernel
theorem d_M_isPrepared_58 : decode prog_10_method_27_code 58 = .ok (.iconst 0, 1) := by decide +kernel
theorem d_M_isPrepared_20 : decode prog_10_method_27_code 20 = .ok (.ifCond .eq 38, 3) := by decide +kernel
theorem d_M_isPrepared_23 : decode prog_10_method_27_code 23 = .ok (.aload_n 0, 1) := by decide +kernel
theorem d_M_isPrepared_24 : decode prog_10_method_27_code 24 = .ok (.iload_n 1, 1) := by decide +kernel
theorem d_M_isPrepared_25 : decode prog_10_method_27_code 25 = .ok (.iload 5, 2) := by decide +kernel
theorem d_M_isPrepared_27 : decode prog_10_method_27_code 27 = .ok (.invokevirtual 130, 3) := by decide +kernel
theorem d_M_isPrepared_54 : decode prog_10_method_27_code 54 = .ok (.iconst 1, 1) := by decide +kernel
theorem d_M_isPrepared_55 : decode prog_10_method_27_code 55 = .ok (.goto 4, 3) := by decide +kernel
theorem d_M_isPrepared_30 : decode prog_10_method_27_code 30 = .ok (.ifCond .eq 24, 3) := by decide +kernel
theorem d_M_isPrepared_33 : decode prog_10_method_27_code 33 = .ok (.aload_n 0, 1) := by decide +kernel
theorem d_M_isPrepared_34 : decode prog_10_method_27_code 34 = .ok (.getfield 63, 3) := by decide +kernel
theorem d_M_isPrepared_37 : decode prog_10_method_27_code 37 = .ok (.iload 5, 2) := by decide +kernel
theorem d_M_isPrepared_39 : decode prog_10_method_27_code 39 = .ok (.baload, 1) := by decide +kernel
theorem d_M_isPrepared_40 : decode prog_10_method_27_code 40 = .ok (.ifCond .ne 14, 3) := by decide +kernel
theorem d_M_isPrepared_43 : decode prog_10_method_27_code 43 = .ok (.aload_n 0, 1) := by decide +kernel
theorem d_M_isPrepared_44 : decode prog_10_method_27_code 44 = .ok (.iload_n 1, 1) := by decide +kernel
theorem d_M_isPrepared_45 : decode prog_10_method_27_code 45 = .ok (.iload 5, 2) := by decide +kernel
theorem d_M_isPrepared_47 : decode prog_10_method_27_code 47 = .ok (.invokevirtual 156, 3) := by decide +kernel
theorem d_M_isPrepared_50 : decode prog_10_method_27_code 50 = .ok (.iload_n 3, 1) := by decide +kernel
theorem d_M_isPrepared_51 : decode prog_10_method_27_code 51 = .ok (.if_icmp .eq 7, 3) := by decide +kernel
theorem d_M_canGo_0 : decode prog_10_method_28_code 0 = .ok (.aload_n 0, 1) := by decide +kernel
theorem d_M_canGo_1 : decode prog_10_method_28_code 1 = .ok (.getfield 66, 3) := by decide +kernel
theorem d_M_canGo_4 : decode prog_10_method_28_code 4 = .ok (.iload_n 2, 1) := by decide +kernel
theorem d_M_canGo_5 : decode prog_10_method_28_code 5 = .ok (.iaload, 1) := by decide +kernel
theorem d_M_canGo_6 : decode prog_10_method_28_code 6 = .ok (.iconst 1, 1) := by decide +kernel
theorem d_M_canGo_7 : decode prog_10_method_28_code 7 = .ok (.iadd, 1) := by decide +kernel
theorem d_M_canGo_8 : decode prog_10_method_28_code 8 = .ok (.istore_n 3, 1) := by decide +kernel
theorem d_M_canGo_9 : decode prog_10_method_28_code 9 = .ok (.iload_n 3, 1) := by decide +kernel
theorem d_M_canGo_10 : decode prog_10_method_28_code 10 = .ok (.aload_n 0, 1) := by decide +kernel
theorem d_M_canGo_11 : decode prog_10_method_28_code 11 = .ok (.getfield 54, 3) := by decide +kernel
theorem d_M_canGo_14 : decode prog_10_method_28_code 14 = .ok (.aload_n 0, 1) := by decide +kernel
theorem d_M_canGo_15 : decode prog_10_method_28_code 15 = .ok (.getfield 20, 3) := by decide +kernel
theorem d_M_canGo_18 : decode prog_10_method_28_code 18 = .ok (.iconst 4, 1) := by decide +kernel
theorem d_M_canGo_19 : decode prog_10_method_28_code 19 = .ok (.iload_n 1, 1) := by decide +kernel
theorem d_M_canGo_20 : decode prog_10_method_28_code 20 = .ok (.imul, 1) := by decide +kernel
theorem d_M_canGo_21 : decode prog_10_method_28_code 21 = .ok (.iload_n 2, 1) := by decide +kernel
theorem d_M_canGo_22 : decode prog_10_method_28_code 22 = .ok (.iadd, 1) := by decide +kernel
theorem d_M_canGo_23 : decode prog_10_method_28_code 23 = .ok (.iaload, 1) := by decide +kernel
theorem d_M_canGo_24 : decode prog_10_method_28_code 24 = .ok (.iaload, 1) := by decide +kernel
theorem d_M_canGo_25 : decode prog_10_method_28_code 25 = .ok (.if_icmp .gt 17, 3) := by decide +kernel
theorem d_M_canGo_42 : decode prog_10_method_28_code 42 = .ok (.iconst 0, 1) := by decide +kernel
theorem d_M_canGo_43 : decode prog_10_method_28_code 43 = .ok (.ireturn, 1) := by decide +kernel
theorem d_M_canGo_28 : decode prog_10_method_28_code 28 = .ok (.aload_n 0, 1) := by decide +kernel
theorem d_M_canGo_29 : decode prog_10_method_28_code 29 = .ok (.iload_n 1, 1) := by decide +kernel
theorem d_M_canGo_30 : decode prog_10_method_28_code 30 = .ok (.iload_n 2, 1) := by decide +kernel
theorem d_M_canGo_31 : decode prog_10_method_28_code 31 = .ok (.iload_n 3, 1) := by decide +kernel
theorem d_M_canGo_32 : decode prog_10_method_28_code 32 = .ok (.invokevirtual 162, 3) := by decide +kernel
theorem d_M_canGo_35 : decode prog_10_method_28_code 35 = .ok (.ifCond .eq 7, 3) := by decide +kernel
theorem d_M_canGo_38 : decode prog_10_method_28_code 38 = .ok (.iconst 1, 1) := by decide +kernel
theorem d_M_canGo_39 : decode prog_10_method_28_code 39 = .ok (.goto 4, 3) := by decide +kernel
theorem d_M_plan_0 : decode prog_10_method_29_code 0 = .ok (.iconst 0, 1) := by decide +kernel
theorem d_M_plan_1 : decode prog_10_method_29_code 1 = .ok (.istore_n 2, 1) := by decide +kernel
theorem d_M_plan_2 : decode prog_10_method_29_code 2 = .ok (.iload_n 2, 1) := by decide +kernel
theorem d_M_plan_3 : decode prog_10_method_29_code 3 = .ok (.bipush 16, 2) := by decide +kernel
theorem d_M_plan_5 : decode prog_10_method_29_code 5 = .ok (.if_icmp .ge 16, 3) := by decide +kernel
theorem d_M_plan_21 : decode prog_10_method_29_code 21 = .ok (.iconst 0, 1) := by decide +kernel
theorem d_M_plan_22 : decode prog_10_method_29_code 22 = .ok (.istore_n 2, 1) := by decide +kernel
theorem d_M_plan_23 : decode prog_10_method_29_code 23 = .ok (.iload_n 2, 1) := by decide +kernel
theorem d_M_plan_24 : decode prog_10_method_29_code 24 = .ok (.iconst 4, 1) := by decide +kernel
theorem d_M_plan_25 : decode prog_10_method_29_code 25 = .ok (.if_icmp .ge 16, 3) := by decide +kernel
theorem d_M_plan_41 : decode prog_10_method_29_code 41 = .ok (.aload_n 0, 1) := by decide +kernel
theorem d_M_plan_42 : decode prog_10_method_29_code 42 = .ok (.getfield 57, 3) := by decide +kernel
theorem d_M_plan_45 : decode prog_10_method_29_code 45 = .ok (.iload_n 1, 1) := by decide +kernel
theorem d_M_plan_46 : decode prog_10_method_29_code 46 = .ok (.iconst 0, 1) := by decide +kernel
theorem d_M_plan_47 : decode prog_10_method_29_code 47 = .ok (.iastore, 1) := by decide +kernel
theorem d_M_plan_48 : decode prog_10_method_29_code 48 = .ok (.iconst 0, 1) := by decide +kernel
theorem d_M_plan_49 : decode prog_10_method_29_code 49 = .ok (.istore_n 2, 1) := by decide +kernel
theorem d_M_plan_50 : decode prog_10_method_29_code 50 = .ok (.iload_n 2, 1) := by decide +kernel
theorem d_M_plan_51 : decode prog_10_method_29_code 51 = .ok (.iconst (-1), 1) := by decide +kernel
theorem d_M_plan_52 : decode prog_10_method_29_code 52 = .ok (.if_icmp .eq 188, 3) := by decide +kernel
theorem d_M_plan_240 : decode prog_10_method_29_code 240 = .ok (.return_, 1) := by decide +kernel
theorem d_M_plan_55 : decode prog_10_method_29_code 55 = .ok (.iconst (-1), 1) := by decide +kernel
theorem d_M_plan_56 : decode prog_10_method_29_code 56 = .ok (.istore_n 2, 1) := by decide +kernel
theorem d_M_plan_57 : decode prog_10_method_29_code 57 = .ok (.bipush 15, 2) := by decide +kernel
theorem d_M_plan_59 : decode prog_10_method_29_code 59 = .ok (.istore_n 3, 1) := by decide +kernel
theorem d_M_plan_60 : decode prog_10_method_29_code 60 = .ok (.iload_n 3, 1) := by decide +kernel
theorem d_M_plan_61 : decode prog_10_method_29_code 61 = .ok (.ifCond .lt 24, 3) := by decide +kernel
theorem d_M_plan_85 : decode prog_10_method_29_code 85 = .ok (.iconst 1, 1) := by decide +kernel
theorem d_M_plan_86 : decode prog_10_method_29_code 86 = .ok (.istore_n 3, 1) := by decide +kernel
theorem d_M_plan_87 : decode prog_10_method_29_code 87 = .ok (.iload_n 3, 1) := by decide +kernel
theorem d_M_plan_88 : decode prog_10_method_29_code 88 = .ok (.aload_n 0, 1) := by decide +kernel
theorem d_M_plan_89 : decode prog_10_method_29_code 89 = .ok (.getfield 17, 3) := by decide +kernel
theorem d_M_plan_92 : decode prog_10_method_29_code 92 = .ok (.iload_n 1, 1) := by decide +kernel
theorem d_M_plan_93 : decode prog_10_method_29_code 93 = .ok (.iaload, 1) := by decide +kernel
theorem d_M_plan_135 : decode prog_10_method_29_code 135 = .ok (.iload_n 2, 1) := by decide +kernel
theorem d_M_plan_136 : decode prog_10_method_29_code 136 = .ok (.iconst (-1), 1) := by decide +kernel
theorem d_M_plan_162 : decode prog_10_method_29_code 162 = .ok (.iload_n 2, 1) := by decide +kernel
theorem d_M_plan_163 : decode prog_10_method_29_code 163 = .ok (.iconst (-1), 1) := by decide +kernel
theorem d_M_plan_164 : decode prog_10_method_29_code 164 = .ok (.if_icmp .ne 6, 3) := by decide +kernel
theorem d_M_plan_170 : decode prog_10_method_29_code 170 = .ok (.iload_n 2, 1) := by decide +kernel
theorem d_M_plan_171 : decode prog_10_method_29_code 171 = .ok (.bipush 100, 2) := by decide +kernel
theorem d_M_plan_210 : decode prog_10_method_29_code 210 = .ok (.aload_n 0, 1) := by decide +kernel
theorem d_M_plan_211 : decode prog_10_method_29_code 211 = .ok (.getfield 60, 3) := by decide +kernel
theorem d_M_plan_214 : decode prog_10_method_29_code 214 = .ok (.bipush 48, 2) := by decide +kernel
theorem d_M_plan_216 : decode prog_10_method_29_code 216 = .ok (.iload_n 1, 1) := by decide +kernel
theorem d_M_plan_217 : decode prog_10_method_29_code 217 = .ok (.imul, 1) := by decide +kernel
theorem d_M_plan_218 : decode prog_10_method_29_code 218 = .ok (.aload_n 0, 1) := by decide +kernel
theorem d_M_plan_219 : decode prog_10_method_29_code 219 = .ok (.getfield 57, 3) := by decide +kernel
theorem d_M_plan_222 : decode prog_10_method_29_code 222 = .ok (.iload_n 1, 1) := by decide +kernel
theorem d_M_plan_223 : decode prog_10_method_29_code 223 = .ok (.iaload, 1) := by decide +kernel
theorem d_M_plan_224 : decode prog_10_method_29_code 224 = .ok (.iadd, 1) := by decide +kernel
theorem d_M_plan_225 : decode prog_10_method_29_code 225 = .ok (.iload_n 2, 1) := by decide +kernel
theorem d_M_plan_226 : decode prog_10_method_29_code 226 = .ok (.iastore, 1) := by decide +kernel
theorem d_M_plan_227 : decode prog_10_method_29_code 227 = .ok (.aload_n 0, 1) := by decide +kernel
theorem d_M_plan_228 : decode prog_10_method_29_code 228 = .ok (.getfield 57, 3) := by decide +kernel
theorem d_M_plan_231 : decode prog_10_method_29_code 231 = .ok (.iload_n 1, 1) := by decide +kernel
theorem d_M_plan_232 : decode prog_10_method_29_code 232 = .ok (.dup2, 1) := by decide +kernel
theorem d_M_plan_233 : decode prog_10_method_29_code 233 = .ok (.iaload, 1) := by decide +kernel
theorem d_M_plan_234 : decode prog_10_method_29_code 234 = .ok (.iconst 1, 1) := by decide +kernel
theorem d_M_plan_235 : decode prog_10_method_29_code 235 = .ok (.iadd, 1) := by decide +kernel
theorem d_M_plan_236 : decode prog_10_method_29_code 236 = .ok (.iastore, 1) := by decide +kernel
theorem d_M_plan_237 : decode prog_10_method_29_code 237 = .ok (.goto (-187), 3) := by decide +kernel
theorem d_M_plan_173 : decode prog_10_method_29_code 173 = .ok (.if_icmp .ge 13, 3) := by decide +kernel
theorem d_M_plan_186 : decode prog_10_method_29_code 186 = .ok (.aload_n 0, 1) := by decide +kernel
theorem d_M_plan_187 : decode prog_10_method_29_code 187 = .ok (.getfield 66, 3) := by decide +kernel
theorem d_M_plan_190 : decode prog_10_method_29_code 190 = .ok (.iload_n 2, 1) := by decide +kernel
theorem d_M_plan_191 : decode prog_10_method_29_code 191 = .ok (.sipush 1000, 3) := by decide +kernel
theorem d_M_plan_205 : decode prog_10_method_29_code 205 = .ok (.dup2, 1) := by decide +kernel
theorem d_M_plan_206 : decode prog_10_method_29_code 206 = .ok (.iaload, 1) := by decide +kernel
theorem d_M_plan_207 : decode prog_10_method_29_code 207 = .ok (.iconst 1, 1) := by decide +kernel
theorem d_M_plan_208 : decode prog_10_method_29_code 208 = .ok (.iadd, 1) := by decide +kernel
theorem d_M_plan_209 : decode prog_10_method_29_code 209 = .ok (.iastore, 1) := by decide +kernel
theorem d_M_plan_194 : decode prog_10_method_29_code 194 = .ok (.if_icmp .ge 10, 3) := by decide +kernel
theorem d_M_plan_204 : decode prog_10_method_29_code 204 = .ok (.iconst 0, 1) := by decide +kernel
theorem d_M_plan_197 : decode prog_10_method_29_code 197 = .ok (.iload_n 2, 1) := by decide +kernel
theorem d_M_plan_198 : decode prog_10_method_29_code 198 = .ok (.bipush 100, 2) := by decide +kernel
theorem d_M_plan_200 : decode prog_10_method_29_code 200 = .ok (.idiv, 1) := by decide +kernel
theorem d_M_plan_201 : decode prog_10_method_29_code 201 = .ok (.goto 4, 3) := by decide +kernel
theorem d_M_plan_176 : decode prog_10_method_29_code 176 = .ok (.aload_n 0, 1) := by decide +kernel
theorem d_M_plan_177 : decode prog_10_method_29_code 177 = .ok (.getfield 63, 3) := by decide +kernel
theorem d_M_plan_180 : decode prog_10_method_29_code 180 = .ok (.iload_n 2, 1) := by decide +kernel
theorem d_M_plan_181 : decode prog_10_method_29_code 181 = .ok (.iconst 1, 1) := by decide +kernel
theorem d_M_plan_182 : decode prog_10_method_29_code 182 = .ok (.bastore, 1) := by decide +kernel
theorem d_M_plan_183 : decode prog_10_method_29_code 183 = .ok (.goto 27, 3) := by decide +kernel
theorem d_M_plan_167 : decode prog_10_method_29_code 167 = .ok (.goto (-117), 3) := by decide +kernel
theorem d_M_plan_137 : decode prog_10_method_29_code 137 = .ok (.if_icmp .ne 25, 3) := by decide +kernel
theorem d_M_plan_140 : decode prog_10_method_29_code 140 = .ok (.aload_n 0, 1) := by decide +kernel
theorem d_M_plan_141 : decode prog_10_method_29_code 141 = .ok (.iload_n 1, 1) := by decide +kernel
theorem d_M_plan_142 : decode prog_10_method_29_code 142 = .ok (.iconst 0, 1) := by decide +kernel
theorem d_M_plan_143 : decode prog_10_method_29_code 143 = .ok (.invokevirtual 168, 3) := by decide +kernel
theorem d_M_plan_146 : decode prog_10_method_29_code 146 = .ok (.ifCond .eq 16, 3) := by decide +kernel
theorem d_M_plan_149 : decode prog_10_method_29_code 149 = .ok (.sipush 1000, 3) := by decide +kernel
theorem d_M_plan_152 : decode prog_10_method_29_code 152 = .ok (.aload_n 0, 1) := by decide +kernel
theorem d_M_plan_153 : decode prog_10_method_29_code 153 = .ok (.getfield 66, 3) := by decide +kernel
theorem d_M_plan_156 : decode prog_10_method_29_code 156 = .ok (.iconst 0, 1) := by decide +kernel
theorem d_M_plan_157 : decode prog_10_method_29_code 157 = .ok (.iaload, 1) := by decide +kernel
theorem d_M_plan_158 : decode prog_10_method_29_code 158 = .ok (.iadd, 1) := by decide +kernel
theorem d_M_plan_159 : decode prog_10_method_29_code 159 = .ok (.iconst 1, 1) := by decide +kernel
theorem d_M_plan_160 : decode prog_10_method_29_code 160 = .ok (.iadd, 1) := by decide +kernel
theorem d_M_plan_161 : decode prog_10_method_29_code 161 = .ok (.istore_n 2, 1) := by decide +kernel
theorem d_M_plan_94 : decode prog_10_method_29_code 94 = .ok (.if_icmp .ge 41, 3) := by decide +kernel
theorem d_M_plan_97 : decode prog_10_method_29_code 97 = .ok (.iload_n 2, 1) := by decide +kernel
theorem d_M_plan_98 : decode prog_10_method_29_code 98 = .ok (.iconst (-1), 1) := by decide +kernel
theorem d_M_plan_99 : decode prog_10_method_29_code 99 = .ok (.if_icmp .ne 36, 3) := by decide +kernel
theorem d_M_plan_102 : decode prog_10_method_29_code 102 = .ok (.aload_n 0, 1) := by decide +kernel
theorem d_M_plan_103 : decode prog_10_method_29_code 103 = .ok (.iload_n 1, 1) := by decide +kernel
theorem d_M_plan_104 : decode prog_10_method_29_code 104 = .ok (.iload_n 3, 1) := by decide +kernel
theorem d_M_plan_105 : decode prog_10_method_29_code 105 = .ok (.invokevirtual 168, 3) := by decide +kernel
theorem d_M_plan_128 : decode prog_10_method_29_code 128 = .ok (.istore_n 2, 1) := by decide +kernel
theorem d_M_plan_129 : decode prog_10_method_29_code 129 = .ok (.iinc 3 1, 3) := by decide +kernel
theorem d_M_plan_132 : decode prog_10_method_29_code 132 = .ok (.goto (-45), 3) := by decide +kernel
theorem d_M_plan_108 : decode prog_10_method_29_code 108 = .ok (.ifCond .eq 19, 3) := by decide +kernel
theorem d_M_plan_127 : decode prog_10_method_29_code 127 = .ok (.iload_n 2, 1) := by decide +kernel
theorem d_M_plan_111 : decode prog_10_method_29_code 111 = .ok (.bipush 100, 2) := by decide +kernel
theorem d_M_plan_113 : decode prog_10_method_29_code 113 = .ok (.iload_n 3, 1) := by decide +kernel
theorem d_M_plan_114 : decode prog_10_method_29_code 114 = .ok (.imul, 1) := by decide +kernel
theorem d_M_plan_115 : decode prog_10_method_29_code 115 = .ok (.aload_n 0, 1) := by decide +kernel
theorem d_M_plan_116 : decode prog_10_method_29_code 116 = .ok (.getfield 66, 3) := by decide +kernel
theorem d_M_plan_119 : decode prog_10_method_29_code 119 = .ok (.iload_n 3, 1) := by decide +kernel
theorem d_M_plan_120 : decode prog_10_method_29_code 120 = .ok (.iaload, 1) := by decide +kernel
theorem d_M_plan_121 : decode prog_10_method_29_code 121 = .ok (.iadd, 1) := by decide +kernel
theorem d_M_plan_122 : decode prog_10_method_29_code 122 = .ok (.iconst 1, 1) := by decide +kernel
theorem d_M_plan_123 : decode prog_10_method_29_code 123 = .ok (.iadd, 1) := by decide +kernel
theorem d_M_plan_124 : decode prog_10_method_29_code 124 = .ok (.goto 4, 3) := by decide +kernel
theorem d_M_plan_64 : decode prog_10_method_29_code 64 = .ok (.aload_n 0, 1) := by decide +kernel
theorem d_M_plan_65 : decode prog_10_method_29_code 65 = .ok (.iload_n 1, 1) := by decide +kernel
theorem d_M_plan_66 : decode prog_10_method_29_code 66 = .ok (.iload_n 3, 1) := by decide +kernel
theorem d_M_plan_67 : decode prog_10_method_29_code 67 = .ok (.invokevirtual 165, 3) := by decide +kernel
theorem d_M_plan_78 : decode prog_10_method_29_code 78 = .ok (.istore_n 2, 1) := by decide +kernel
theorem d_M_plan_79 : decode prog_10_method_29_code 79 = .ok (.iinc 3 (-1), 3) := by decide +kernel
theorem d_M_plan_82 : decode prog_10_method_29_code 82 = .ok (.goto (-22), 3) := by decide +kernel
theorem d_M_plan_70 : decode prog_10_method_29_code 70 = .ok (.ifCond .eq 7, 3) := by decide +kernel
theorem d_M_plan_77 : decode prog_10_method_29_code 77 = .ok (.iload_n 2, 1) := by decide +kernel
theorem d_M_plan_73 : decode prog_10_method_29_code 73 = .ok (.iload_n 3, 1) := by decide +kernel
theorem d_M_plan_74 : decode prog_10_method_29_code 74 = .ok (.goto 4, 3) := by decide +kernel
theorem d_M_plan_28 : decode prog_10_method_29_code 28 = .ok (.aload_n 0, 1) := by decide +kernel
theorem d_M_plan_29 : decode prog_10_method_29_code 29 = .ok (.getfield 66, 3) := by decide +kernel
theorem d_M_plan_32 : decode prog_10_method_29_code 32 = .ok (.iload_n 2, 1) := by decide +kernel
theorem d_M_plan_33 : decode prog_10_method_29_code 33 = .ok (.iconst 0, 1) := by decide +kernel
theorem d_M_plan_34 : decode prog_10_method_29_code 34 = .ok (.iastore, 1) := by decide +kernel
theorem d_M_plan_35 : decode prog_10_method_29_code 35 = .ok (.iinc 2 1, 3) := by decide +kernel
theorem d_M_plan_38 : decode prog_10_method_29_code 38 = .ok (.goto (-15), 3) := by decide +kernel
theorem d_M_plan_8 : decode prog_10_method_29_code 8 = .ok (.aload_n 0, 1) := by decide +kernel
theorem d_M_plan_9 : decode prog_10_method_29_code 9 = .ok (.getfield 63, 3) := by decide +kernel
theorem d_M_plan_12 : decode prog_10_method_29_code 12 = .ok (.iload_n 2, 1) := by decide +kernel
theorem d_M_plan_13 : decode prog_10_method_29_code 13 = .ok (.iconst 0, 1) := by decide +kernel
theorem d_M_plan_14 : decode prog_10_method_29_code 14 = .ok (.bastore, 1) := by decide +kernel
theorem d_M_plan_15 : decode prog_10_method_29_code 15 = .ok (.iinc 2 1, 3) := by decide +kernel
theorem d_M_plan_18 : decode prog_10_method_29_code 18 = .ok (.goto (-16), 3) := by decide +kernel
theorem d_M_analyse_0 : decode prog_10_method_30_code 0 = .ok (.aload_n 0, 1) := by decide +kernel
theorem d_M_analyse_1 : decode prog_10_method_30_code 1 = .ok (.iconst 0, 1) := by decide +kernel
theorem d_M_analyse_2 : decode prog_10_method_30_code 2 = .ok (.putfield 99, 3) := by decide +kernel
theorem d_M_analyse_5 : decode prog_10_method_30_code 5 = .ok (.aload_n 0, 1) := by decide +kernel
theorem d_M_analyse_6 : decode prog_10_method_30_code 6 = .ok (.invokevirtual 112, 3) := by decide +kernel
theorem d_M_analyse_9 : decode prog_10_method_30_code 9 = .ok (.aload_n 0, 1) := by decide +kernel
theorem d_M_analyse_10 : decode prog_10_method_30_code 10 = .ok (.iconst 0, 1) := by decide +kernel
theorem d_M_analyse_11 : decode prog_10_method_30_code 11 = .ok (.iconst (-1), 1) := by decide +kernel
theorem d_M_analyse_12 : decode prog_10_method_30_code 12 = .ok (.iconst (-1), 1) := by decide +kernel
theorem d_M_analyse_13 : decode prog_10_method_30_code 13 = .ok (.invokevirtual 137, 3) := by decide +kernel
theorem d_M_analyse_16 : decode prog_10_method_30_code 16 = .ok (.pop, 1) := by decide +kernel
theorem d_M_analyse_17 : decode prog_10_method_30_code 17 = .ok (.aload_n 0, 1) := by decide +kernel
theorem d_M_analyse_18 : decode prog_10_method_30_code 18 = .ok (.invokevirtual 171, 3) := by decide +kernel
theorem d_M_analyse_31 : decode prog_10_method_30_code 31 = .ok (.aload_n 0, 1) := by decide +kernel
theorem d_M_analyse_32 : decode prog_10_method_30_code 32 = .ok (.iconst 1, 1) := by decide +kernel
theorem d_M_analyse_33 : decode prog_10_method_30_code 33 = .ok (.invokevirtual 175, 3) := by decide +kernel
theorem d_M_analyse_36 : decode prog_10_method_30_code 36 = .ok (.ireturn, 1) := by decide +kernel
theorem d_M_analyse_21 : decode prog_10_method_30_code 21 = .ok (.ifCond .ne 10, 3) := by decide +kernel
theorem d_M_analyse_24 : decode prog_10_method_30_code 24 = .ok (.aload_n 0, 1) := by decide +kernel
theorem d_M_analyse_25 : decode prog_10_method_30_code 25 = .ok (.getfield 119, 3) := by decide +kernel
theorem d_M_analyse_28 : decode prog_10_method_30_code 28 = .ok (.ifCond .ne 9, 3) := by decide +kernel
theorem d_M_analyse_37 : decode prog_10_method_30_code 37 = .ok (.aload_n 0, 1) := by decide +kernel
theorem d_M_analyse_38 : decode prog_10_method_30_code 38 = .ok (.invokevirtual 178, 3) := by decide +kernel
theorem d_M_analyse_41 : decode prog_10_method_30_code 41 = .ok (.aload_n 0, 1) := by decide +kernel
theorem d_M_analyse_42 : decode prog_10_method_30_code 42 = .ok (.invokevirtual 181, 3) := by decide +kernel
theorem d_M_analyse_45 : decode prog_10_method_30_code 45 = .ok (.ifCond .eq 9, 3) := by decide +kernel
theorem d_M_analyse_54 : decode prog_10_method_30_code 54 = .ok (.iconst 0, 1) := by decide +kernel
theorem d_M_analyse_55 : decode prog_10_method_30_code 55 = .ok (.istore_n 1, 1) := by decide +kernel
theorem d_M_analyse_56 : decode prog_10_method_30_code 56 = .ok (.iload_n 1, 1) := by decide +kernel
theorem d_M_analyse_57 : decode prog_10_method_30_code 57 = .ok (.aload_n 0, 1) := by decide +kernel
theorem d_M_analyse_58 : decode prog_10_method_30_code 58 = .ok (.getfield 109, 3) := by decide +kernel
theorem d_M_analyse_61 : decode prog_10_method_30_code 61 = .ok (.if_icmp .ge 14, 3) := by decide +kernel
theorem d_M_analyse_75 : decode prog_10_method_30_code 75 = .ok (.aload_n 0, 1) := by decide +kernel
theorem d_M_analyse_76 : decode prog_10_method_30_code 76 = .ok (.invokevirtual 188, 3) := by decide +kernel
theorem d_M_analyse_79 : decode prog_10_method_30_code 79 = .ok (.ifCond .eq 9, 3) := by decide +kernel
theorem d_M_analyse_88 : decode prog_10_method_30_code 88 = .ok (.iconst 0, 1) := by decide +kernel
theorem d_M_analyse_89 : decode prog_10_method_30_code 89 = .ok (.istore_n 1, 1) := by decide +kernel
theorem d_M_analyse_90 : decode prog_10_method_30_code 90 = .ok (.iconst 0, 1) := by decide +kernel
theorem d_M_analyse_91 : decode prog_10_method_30_code 91 = .ok (.istore_n 2, 1) := by decide +kernel
theorem d_M_analyse_92 : decode prog_10_method_30_code 92 = .ok (.iload_n 2, 1) := by decide +kernel
theorem d_M_analyse_93 : decode prog_10_method_30_code 93 = .ok (.aload_n 0, 1) := by decide +kernel
theorem d_M_analyse_94 : decode prog_10_method_30_code 94 = .ok (.getfield 119, 3) := by decide +kernel
theorem d_M_analyse_97 : decode prog_10_method_30_code 97 = .ok (.if_icmp .ge 23, 3) := by decide +kernel
