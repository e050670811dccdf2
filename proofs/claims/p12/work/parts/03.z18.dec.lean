theorem d_M_analyse_120 : decode prog_10_method_30_code 120 = .ok (.aload_n 0, 1) := by decide +kernel
theorem d_M_analyse_121 : decode prog_10_method_30_code 121 = .ok (.iconst 1, 1) := by decide +kernel
theorem d_M_analyse_122 : decode prog_10_method_30_code 122 = .ok (.putfield 102, 3) := by decide +kernel
theorem d_M_analyse_125 : decode prog_10_method_30_code 125 = .ok (.iload_n 1, 1) := by decide +kernel
theorem d_M_analyse_126 : decode prog_10_method_30_code 126 = .ok (.ireturn, 1) := by decide +kernel
theorem d_M_analyse_100 : decode prog_10_method_30_code 100 = .ok (.aload_n 0, 1) := by decide +kernel
theorem d_M_analyse_101 : decode prog_10_method_30_code 101 = .ok (.iload_n 2, 1) := by decide +kernel
theorem d_M_analyse_102 : decode prog_10_method_30_code 102 = .ok (.invokevirtual 191, 3) := by decide +kernel
theorem d_M_analyse_105 : decode prog_10_method_30_code 105 = .ok (.iload_n 1, 1) := by decide +kernel
theorem d_M_analyse_106 : decode prog_10_method_30_code 106 = .ok (.aload_n 0, 1) := by decide +kernel
theorem d_M_analyse_107 : decode prog_10_method_30_code 107 = .ok (.getfield 57, 3) := by decide +kernel
theorem d_M_analyse_110 : decode prog_10_method_30_code 110 = .ok (.iload_n 2, 1) := by decide +kernel
theorem d_M_analyse_111 : decode prog_10_method_30_code 111 = .ok (.iaload, 1) := by decide +kernel
theorem d_M_analyse_112 : decode prog_10_method_30_code 112 = .ok (.iadd, 1) := by decide +kernel
theorem d_M_analyse_113 : decode prog_10_method_30_code 113 = .ok (.istore_n 1, 1) := by decide +kernel
theorem d_M_analyse_114 : decode prog_10_method_30_code 114 = .ok (.iinc 2 1, 3) := by decide +kernel
theorem d_M_analyse_117 : decode prog_10_method_30_code 117 = .ok (.goto (-25), 3) := by decide +kernel
theorem d_M_analyse_82 : decode prog_10_method_30_code 82 = .ok (.aload_n 0, 1) := by decide +kernel
theorem d_M_analyse_83 : decode prog_10_method_30_code 83 = .ok (.iconst 2, 1) := by decide +kernel
theorem d_M_analyse_84 : decode prog_10_method_30_code 84 = .ok (.invokevirtual 175, 3) := by decide +kernel
theorem d_M_analyse_87 : decode prog_10_method_30_code 87 = .ok (.ireturn, 1) := by decide +kernel
theorem d_M_analyse_64 : decode prog_10_method_30_code 64 = .ok (.aload_n 0, 1) := by decide +kernel
theorem d_M_analyse_65 : decode prog_10_method_30_code 65 = .ok (.iload_n 1, 1) := by decide +kernel
theorem d_M_analyse_66 : decode prog_10_method_30_code 66 = .ok (.invokevirtual 184, 3) := by decide +kernel
theorem d_M_analyse_69 : decode prog_10_method_30_code 69 = .ok (.iinc 1 1, 3) := by decide +kernel
theorem d_M_analyse_72 : decode prog_10_method_30_code 72 = .ok (.goto (-16), 3) := by decide +kernel
theorem d_M_analyse_48 : decode prog_10_method_30_code 48 = .ok (.aload_n 0, 1) := by decide +kernel
theorem d_M_analyse_49 : decode prog_10_method_30_code 49 = .ok (.iconst 2, 1) := by decide +kernel
theorem d_M_analyse_50 : decode prog_10_method_30_code 50 = .ok (.invokevirtual 175, 3) := by decide +kernel
theorem d_M_analyse_53 : decode prog_10_method_30_code 53 = .ok (.ireturn, 1) := by decide +kernel
theorem d_M_fault_0 : decode prog_10_method_31_code 0 = .ok (.aload_n 0, 1) := by decide +kernel
theorem d_M_fault_1 : decode prog_10_method_31_code 1 = .ok (.iconst 0, 1) := by decide +kernel
theorem d_M_fault_2 : decode prog_10_method_31_code 2 = .ok (.putfield 99, 3) := by decide +kernel
theorem d_M_fault_5 : decode prog_10_method_31_code 5 = .ok (.iload_n 1, 1) := by decide +kernel
theorem d_M_fault_6 : decode prog_10_method_31_code 6 = .ok (.ifCond .ne 10, 3) := by decide +kernel
theorem d_M_fault_16 : decode prog_10_method_31_code 16 = .ok (.iload_n 1, 1) := by decide +kernel
theorem d_M_fault_17 : decode prog_10_method_31_code 17 = .ok (.iconst 1, 1) := by decide +kernel
theorem d_M_fault_18 : decode prog_10_method_31_code 18 = .ok (.if_icmp .ne 10, 3) := by decide +kernel
theorem d_M_fault_28 : decode prog_10_method_31_code 28 = .ok (.iload_n 1, 1) := by decide +kernel
theorem d_M_fault_29 : decode prog_10_method_31_code 29 = .ok (.iconst 2, 1) := by decide +kernel
theorem d_M_fault_30 : decode prog_10_method_31_code 30 = .ok (.if_icmp .ne 10, 3) := by decide +kernel
theorem d_M_fault_40 : decode prog_10_method_31_code 40 = .ok (.iconst (-1), 1) := by decide +kernel
theorem d_M_fault_41 : decode prog_10_method_31_code 41 = .ok (.ireturn, 1) := by decide +kernel
theorem d_M_fault_33 : decode prog_10_method_31_code 33 = .ok (.aload_n 0, 1) := by decide +kernel
theorem d_M_fault_34 : decode prog_10_method_31_code 34 = .ok (.getfield 36, 3) := by decide +kernel
theorem d_M_fault_37 : decode prog_10_method_31_code 37 = .ok (.goto 4, 3) := by decide +kernel
theorem d_M_fault_21 : decode prog_10_method_31_code 21 = .ok (.aload_n 0, 1) := by decide +kernel
theorem d_M_fault_22 : decode prog_10_method_31_code 22 = .ok (.getfield 32, 3) := by decide +kernel
theorem d_M_fault_25 : decode prog_10_method_31_code 25 = .ok (.goto 16, 3) := by decide +kernel
theorem d_M_fault_9 : decode prog_10_method_31_code 9 = .ok (.aload_n 0, 1) := by decide +kernel
theorem d_M_fault_10 : decode prog_10_method_31_code 10 = .ok (.getfield 141, 3) := by decide +kernel
theorem d_M_fault_13 : decode prog_10_method_31_code 13 = .ok (.goto 28, 3) := by decide +kernel
theorem d_M_visits_0 : decode prog_10_method_32_code 0 = .ok (.aload_n 0, 1) := by decide +kernel
theorem d_M_visits_1 : decode prog_10_method_32_code 1 = .ok (.aload_n 0, 1) := by decide +kernel
theorem d_M_visits_2 : decode prog_10_method_32_code 2 = .ok (.getfield 102, 3) := by decide +kernel
theorem d_M_visits_25 : decode prog_10_method_32_code 25 = .ok (.putfield 99, 3) := by decide +kernel
theorem d_M_visits_28 : decode prog_10_method_32_code 28 = .ok (.aload_n 0, 1) := by decide +kernel
theorem d_M_visits_29 : decode prog_10_method_32_code 29 = .ok (.getfield 99, 3) := by decide +kernel
theorem d_M_visits_32 : decode prog_10_method_32_code 32 = .ok (.ifCond .le 7, 3) := by decide +kernel
theorem d_M_visits_39 : decode prog_10_method_32_code 39 = .ok (.aload_n 0, 1) := by decide +kernel
theorem d_M_visits_40 : decode prog_10_method_32_code 40 = .ok (.getfield 54, 3) := by decide +kernel
theorem d_M_visits_43 : decode prog_10_method_32_code 43 = .ok (.iload_n 1, 1) := by decide +kernel
theorem d_M_visits_44 : decode prog_10_method_32_code 44 = .ok (.iaload, 1) := by decide +kernel
theorem d_M_visits_45 : decode prog_10_method_32_code 45 = .ok (.ireturn, 1) := by decide +kernel
theorem d_M_visits_35 : decode prog_10_method_32_code 35 = .ok (.iconst 0, 1) := by decide +kernel
theorem d_M_visits_36 : decode prog_10_method_32_code 36 = .ok (.goto 9, 3) := by decide +kernel
theorem d_M_visits_5 : decode prog_10_method_32_code 5 = .ok (.ifCond .ne 7, 3) := by decide +kernel
theorem d_M_visits_12 : decode prog_10_method_32_code 12 = .ok (.aload_n 0, 1) := by decide +kernel
theorem d_M_visits_13 : decode prog_10_method_32_code 13 = .ok (.iload_n 1, 1) := by decide +kernel
theorem d_M_visits_14 : decode prog_10_method_32_code 14 = .ok (.invokevirtual 115, 3) := by decide +kernel
theorem d_M_visits_17 : decode prog_10_method_32_code 17 = .ok (.ifCond .eq 7, 3) := by decide +kernel
theorem d_M_visits_24 : decode prog_10_method_32_code 24 = .ok (.iconst 2, 1) := by decide +kernel
theorem d_M_visits_20 : decode prog_10_method_32_code 20 = .ok (.iconst 0, 1) := by decide +kernel
theorem d_M_visits_21 : decode prog_10_method_32_code 21 = .ok (.goto 4, 3) := by decide +kernel
theorem d_M_visits_8 : decode prog_10_method_32_code 8 = .ok (.iconst 1, 1) := by decide +kernel
theorem d_M_visits_9 : decode prog_10_method_32_code 9 = .ok (.goto 16, 3) := by decide +kernel
theorem d_M_rank_0 : decode prog_10_method_33_code 0 = .ok (.aload_n 0, 1) := by decide +kernel
theorem d_M_rank_1 : decode prog_10_method_33_code 1 = .ok (.aload_n 0, 1) := by decide +kernel
theorem d_M_rank_2 : decode prog_10_method_33_code 2 = .ok (.getfield 102, 3) := by decide +kernel
theorem d_M_rank_39 : decode prog_10_method_33_code 39 = .ok (.putfield 99, 3) := by decide +kernel
theorem d_M_rank_42 : decode prog_10_method_33_code 42 = .ok (.aload_n 0, 1) := by decide +kernel
theorem d_M_rank_43 : decode prog_10_method_33_code 43 = .ok (.getfield 99, 3) := by decide +kernel
theorem d_M_rank_46 : decode prog_10_method_33_code 46 = .ok (.ifCond .le 7, 3) := by decide +kernel
theorem d_M_rank_53 : decode prog_10_method_33_code 53 = .ok (.aload_n 0, 1) := by decide +kernel
theorem d_M_rank_54 : decode prog_10_method_33_code 54 = .ok (.getfield 51, 3) := by decide +kernel
theorem d_M_rank_57 : decode prog_10_method_33_code 57 = .ok (.iconst 4, 1) := by decide +kernel
theorem d_M_rank_58 : decode prog_10_method_33_code 58 = .ok (.iload_n 1, 1) := by decide +kernel
theorem d_M_rank_59 : decode prog_10_method_33_code 59 = .ok (.imul, 1) := by decide +kernel
theorem d_M_rank_60 : decode prog_10_method_33_code 60 = .ok (.iload_n 2, 1) := by decide +kernel
theorem d_M_rank_61 : decode prog_10_method_33_code 61 = .ok (.iadd, 1) := by decide +kernel
theorem d_M_rank_62 : decode prog_10_method_33_code 62 = .ok (.iaload, 1) := by decide +kernel
theorem d_M_rank_63 : decode prog_10_method_33_code 63 = .ok (.ireturn, 1) := by decide +kernel
theorem d_M_rank_49 : decode prog_10_method_33_code 49 = .ok (.iconst 0, 1) := by decide +kernel
theorem d_M_rank_50 : decode prog_10_method_33_code 50 = .ok (.goto 13, 3) := by decide +kernel
theorem d_M_rank_5 : decode prog_10_method_33_code 5 = .ok (.ifCond .ne 7, 3) := by decide +kernel
theorem d_M_rank_12 : decode prog_10_method_33_code 12 = .ok (.aload_n 0, 1) := by decide +kernel
theorem d_M_rank_13 : decode prog_10_method_33_code 13 = .ok (.iload_n 1, 1) := by decide +kernel
theorem d_M_rank_14 : decode prog_10_method_33_code 14 = .ok (.invokevirtual 115, 3) := by decide +kernel
theorem d_M_rank_38 : decode prog_10_method_33_code 38 = .ok (.iconst 2, 1) := by decide +kernel
theorem d_M_rank_17 : decode prog_10_method_33_code 17 = .ok (.ifCond .eq 21, 3) := by decide +kernel
theorem d_M_rank_20 : decode prog_10_method_33_code 20 = .ok (.iload_n 2, 1) := by decide +kernel
theorem d_M_rank_21 : decode prog_10_method_33_code 21 = .ok (.ifCond .lt 17, 3) := by decide +kernel
theorem d_M_rank_24 : decode prog_10_method_33_code 24 = .ok (.iload_n 2, 1) := by decide +kernel
theorem d_M_rank_25 : decode prog_10_method_33_code 25 = .ok (.aload_n 0, 1) := by decide +kernel
theorem d_M_rank_26 : decode prog_10_method_33_code 26 = .ok (.getfield 7, 3) := by decide +kernel
theorem d_M_rank_29 : decode prog_10_method_33_code 29 = .ok (.iload_n 1, 1) := by decide +kernel
theorem d_M_rank_30 : decode prog_10_method_33_code 30 = .ok (.iaload, 1) := by decide +kernel
theorem d_M_rank_31 : decode prog_10_method_33_code 31 = .ok (.if_icmp .ge 7, 3) := by decide +kernel
theorem d_M_rank_34 : decode prog_10_method_33_code 34 = .ok (.iconst 0, 1) := by decide +kernel
theorem d_M_rank_35 : decode prog_10_method_33_code 35 = .ok (.goto 4, 3) := by decide +kernel
theorem d_M_rank_8 : decode prog_10_method_33_code 8 = .ok (.iconst 1, 1) := by decide +kernel
theorem d_M_rank_9 : decode prog_10_method_33_code 9 = .ok (.goto 30, 3) := by decide +kernel
theorem d_M_instruction_0 : decode prog_10_method_34_code 0 = .ok (.aload_n 0, 1) := by decide +kernel
theorem d_M_instruction_1 : decode prog_10_method_34_code 1 = .ok (.aload_n 0, 1) := by decide +kernel
theorem d_M_instruction_2 : decode prog_10_method_34_code 2 = .ok (.getfield 102, 3) := by decide +kernel
theorem d_M_instruction_33 : decode prog_10_method_34_code 33 = .ok (.putfield 99, 3) := by decide +kernel
theorem d_M_instruction_36 : decode prog_10_method_34_code 36 = .ok (.aload_n 0, 1) := by decide +kernel
theorem d_M_instruction_37 : decode prog_10_method_34_code 37 = .ok (.getfield 99, 3) := by decide +kernel
theorem d_M_instruction_40 : decode prog_10_method_34_code 40 = .ok (.ifCond .le 5, 3) := by decide +kernel
theorem d_M_instruction_45 : decode prog_10_method_34_code 45 = .ok (.iload_n 2, 1) := by decide +kernel
theorem d_M_instruction_46 : decode prog_10_method_34_code 46 = .ok (.aload_n 0, 1) := by decide +kernel
theorem d_M_instruction_47 : decode prog_10_method_34_code 47 = .ok (.getfield 57, 3) := by decide +kernel
theorem d_M_instruction_50 : decode prog_10_method_34_code 50 = .ok (.iload_n 1, 1) := by decide +kernel
theorem d_M_instruction_51 : decode prog_10_method_34_code 51 = .ok (.iaload, 1) := by decide +kernel
theorem d_M_instruction_52 : decode prog_10_method_34_code 52 = .ok (.if_icmp .ge 17, 3) := by decide +kernel
theorem d_M_instruction_69 : decode prog_10_method_34_code 69 = .ok (.iconst (-1), 1) := by decide +kernel
theorem d_M_instruction_70 : decode prog_10_method_34_code 70 = .ok (.ireturn, 1) := by decide +kernel
theorem d_M_instruction_55 : decode prog_10_method_34_code 55 = .ok (.aload_n 0, 1) := by decide +kernel
theorem d_M_instruction_56 : decode prog_10_method_34_code 56 = .ok (.getfield 60, 3) := by decide +kernel
theorem d_M_instruction_59 : decode prog_10_method_34_code 59 = .ok (.bipush 48, 2) := by decide +kernel
theorem d_M_instruction_61 : decode prog_10_method_34_code 61 = .ok (.iload_n 1, 1) := by decide +kernel
theorem d_M_instruction_62 : decode prog_10_method_34_code 62 = .ok (.imul, 1) := by decide +kernel
theorem d_M_instruction_63 : decode prog_10_method_34_code 63 = .ok (.iload_n 2, 1) := by decide +kernel
theorem d_M_instruction_64 : decode prog_10_method_34_code 64 = .ok (.iadd, 1) := by decide +kernel
theorem d_M_instruction_65 : decode prog_10_method_34_code 65 = .ok (.iaload, 1) := by decide +kernel
theorem d_M_instruction_66 : decode prog_10_method_34_code 66 = .ok (.goto 4, 3) := by decide +kernel
theorem d_M_instruction_43 : decode prog_10_method_34_code 43 = .ok (.iconst 0, 1) := by decide +kernel
theorem d_M_instruction_44 : decode prog_10_method_34_code 44 = .ok (.ireturn, 1) := by decide +kernel
theorem d_M_instruction_5 : decode prog_10_method_34_code 5 = .ok (.ifCond .ne 7, 3) := by decide +kernel
theorem d_M_instruction_12 : decode prog_10_method_34_code 12 = .ok (.iload_n 1, 1) := by decide +kernel
theorem d_M_instruction_28 : decode prog_10_method_34_code 28 = .ok (.iconst 2, 1) := by decide +kernel
theorem d_M_instruction_29 : decode prog_10_method_34_code 29 = .ok (.goto 4, 3) := by decide +kernel
theorem d_M_instruction_13 : decode prog_10_method_34_code 13 = .ok (.ifCond .lt 15, 3) := by decide +kernel
theorem d_M_instruction_16 : decode prog_10_method_34_code 16 = .ok (.iload_n 1, 1) := by decide +kernel
theorem d_M_instruction_17 : decode prog_10_method_34_code 17 = .ok (.aload_n 0, 1) := by decide +kernel
theorem d_M_instruction_18 : decode prog_10_method_34_code 18 = .ok (.getfield 119, 3) := by decide +kernel
theorem d_M_instruction_21 : decode prog_10_method_34_code 21 = .ok (.if_icmp .ge 7, 3) := by decide +kernel
theorem d_M_instruction_24 : decode prog_10_method_34_code 24 = .ok (.iload_n 2, 1) := by decide +kernel
theorem d_M_instruction_25 : decode prog_10_method_34_code 25 = .ok (.ifCond .ge 7, 3) := by decide +kernel
theorem d_M_instruction_32 : decode prog_10_method_34_code 32 = .ok (.iconst 0, 1) := by decide +kernel
theorem d_M_instruction_8 : decode prog_10_method_34_code 8 = .ok (.iconst 1, 1) := by decide +kernel
theorem d_M_instruction_9 : decode prog_10_method_34_code 9 = .ok (.goto 24, 3) := by decide +kernel
theorem d_M_fits_0 : decode prog_10_method_35_code 0 = .ok (.iload_n 2, 1) := by decide +kernel
theorem d_M_fits_1 : decode prog_10_method_35_code 1 = .ok (.aload_n 0, 1) := by decide +kernel
theorem d_M_fits_2 : decode prog_10_method_35_code 2 = .ok (.getfield 17, 3) := by decide +kernel
theorem d_M_fits_5 : decode prog_10_method_35_code 5 = .ok (.iload_n 1, 1) := by decide +kernel
theorem d_M_fits_6 : decode prog_10_method_35_code 6 = .ok (.iaload, 1) := by decide +kernel
theorem d_M_fits_7 : decode prog_10_method_35_code 7 = .ok (.if_icmp .lt 14, 3) := by decide +kernel
theorem d_M_fits_21 : decode prog_10_method_35_code 21 = .ok (.iload_n 3, 1) := by decide +kernel
theorem d_M_fits_22 : decode prog_10_method_35_code 22 = .ok (.ifCond .lt 51, 3) := by decide +kernel
theorem d_M_fits_73 : decode prog_10_method_35_code 73 = .ok (.iconst 0, 1) := by decide +kernel
theorem d_M_fits_74 : decode prog_10_method_35_code 74 = .ok (.ireturn, 1) := by decide +kernel
theorem d_M_fits_25 : decode prog_10_method_35_code 25 = .ok (.iload_n 3, 1) := by decide +kernel
theorem d_M_fits_26 : decode prog_10_method_35_code 26 = .ok (.aload_n 0, 1) := by decide +kernel
theorem d_M_fits_27 : decode prog_10_method_35_code 27 = .ok (.getfield 194, 3) := by decide +kernel
theorem d_M_fits_30 : decode prog_10_method_35_code 30 = .ok (.if_icmp .ge 43, 3) := by decide +kernel
theorem d_M_fits_33 : decode prog_10_method_35_code 33 = .ok (.aload_n 0, 1) := by decide +kernel
theorem d_M_fits_34 : decode prog_10_method_35_code 34 = .ok (.getfield 78, 3) := by decide +kernel
theorem d_M_fits_37 : decode prog_10_method_35_code 37 = .ok (.iload_n 3, 1) := by decide +kernel
theorem d_M_fits_38 : decode prog_10_method_35_code 38 = .ok (.iaload, 1) := by decide +kernel
theorem d_M_fits_39 : decode prog_10_method_35_code 39 = .ok (.iconst (-1), 1) := by decide +kernel
theorem d_M_fits_40 : decode prog_10_method_35_code 40 = .ok (.if_icmp .ne 33, 3) := by decide +kernel
theorem d_M_fits_43 : decode prog_10_method_35_code 43 = .ok (.aload_n 0, 1) := by decide +kernel
theorem d_M_fits_44 : decode prog_10_method_35_code 44 = .ok (.getfield 20, 3) := by decide +kernel
theorem d_M_fits_47 : decode prog_10_method_35_code 47 = .ok (.iconst 4, 1) := by decide +kernel
theorem d_M_fits_48 : decode prog_10_method_35_code 48 = .ok (.aload_n 0, 1) := by decide +kernel
theorem d_M_fits_49 : decode prog_10_method_35_code 49 = .ok (.getfield 69, 3) := by decide +kernel
theorem d_M_fits_52 : decode prog_10_method_35_code 52 = .ok (.iload_n 3, 1) := by decide +kernel
theorem d_M_fits_53 : decode prog_10_method_35_code 53 = .ok (.iaload, 1) := by decide +kernel
theorem d_M_fits_54 : decode prog_10_method_35_code 54 = .ok (.imul, 1) := by decide +kernel
theorem d_M_fits_55 : decode prog_10_method_35_code 55 = .ok (.iaload, 1) := by decide +kernel
theorem d_M_fits_56 : decode prog_10_method_35_code 56 = .ok (.aload_n 0, 1) := by decide +kernel
theorem d_M_fits_57 : decode prog_10_method_35_code 57 = .ok (.getfield 20, 3) := by decide +kernel
theorem d_M_fits_60 : decode prog_10_method_35_code 60 = .ok (.iconst 4, 1) := by decide +kernel
theorem d_M_fits_61 : decode prog_10_method_35_code 61 = .ok (.iload_n 1, 1) := by decide +kernel
theorem d_M_fits_62 : decode prog_10_method_35_code 62 = .ok (.imul, 1) := by decide +kernel
theorem d_M_fits_63 : decode prog_10_method_35_code 63 = .ok (.iload_n 2, 1) := by decide +kernel
theorem d_M_fits_64 : decode prog_10_method_35_code 64 = .ok (.iadd, 1) := by decide +kernel
theorem d_M_fits_65 : decode prog_10_method_35_code 65 = .ok (.iaload, 1) := by decide +kernel
theorem d_M_fits_66 : decode prog_10_method_35_code 66 = .ok (.if_icmp .ne 7, 3) := by decide +kernel
theorem d_M_fits_69 : decode prog_10_method_35_code 69 = .ok (.iconst 1, 1) := by decide +kernel
theorem d_M_fits_70 : decode prog_10_method_35_code 70 = .ok (.goto 4, 3) := by decide +kernel
theorem d_M_fits_10 : decode prog_10_method_35_code 10 = .ok (.iload_n 3, 1) := by decide +kernel
theorem d_M_fits_11 : decode prog_10_method_35_code 11 = .ok (.iconst (-1), 1) := by decide +kernel
theorem d_M_fits_12 : decode prog_10_method_35_code 12 = .ok (.if_icmp .ne 7, 3) := by decide +kernel
theorem d_M_fits_19 : decode prog_10_method_35_code 19 = .ok (.iconst 0, 1) := by decide +kernel
theorem d_M_fits_20 : decode prog_10_method_35_code 20 = .ok (.ireturn, 1) := by decide +kernel
theorem d_M_fits_15 : decode prog_10_method_35_code 15 = .ok (.iconst 1, 1) := by decide +kernel
theorem d_M_fits_16 : decode prog_10_method_35_code 16 = .ok (.goto 4, 3) := by decide +kernel
theorem d_M_node_0 : decode prog_10_method_36_code 0 = .ok (.iload_n 1, 1) := by decide +kernel
