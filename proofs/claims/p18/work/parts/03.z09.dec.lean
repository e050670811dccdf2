theorem d_M_analyse_120 : decode prog_10_method_30_code 120 = .ok (.aload_n 0, 1) := by decide +kernel
theorem d_M_analyse_121 : decode prog_10_method_30_code 121 = .ok (.iconst 1, 1) := by decide +kernel
theorem d_M_analyse_122 : decode prog_10_method_30_code 122 = .ok (.putfield 102, 3) := by decide +kernel
theorem d_M_analyse_125 : decode prog_10_method_30_code 125 = .ok (.iload_n 1, 1) := by decide +kernel
theorem d_M_analyse_126 : decode prog_10_method_30_code 126 = .ok (.ireturn, 1) := by decide +kernel
theorem d_M_analyse_100 : decode prog_10_method_30_code 100 = .ok (.aload_n 0, 1) := by decide +kernel
theorem d_M_analyse_101 : decode prog_10_method_30_code 101 = .ok (.iload_n 2, 1) := by decide +kernel
theorem d_M_analyse_102 : decode prog_10_method_30_code 102 = .ok (.invokevirtual 191, 3) := by decide +kernel
theorem d_M_analyse_105 : decode prog_10_method_30_code 105 = .ok (.iload_n 1, 1) := by decide +kernel
theorem d_M_analyse_106 : decode prog_10_method_30_code 106 = .ok (.aload_n 0, 1) := by decide +kernel
theorem d_M_analyse_107 : decode prog_10_method_30_code 107 = .ok (.getfield 57, 3) := by decide +kernel
theorem d_M_analyse_110 : decode prog_10_method_30_code 110 = .ok (.iload_n 2, 1) := by decide +kernel
theorem d_M_analyse_111 : decode prog_10_method_30_code 111 = .ok (.iaload, 1) := by decide +kernel
theorem d_M_analyse_112 : decode prog_10_method_30_code 112 = .ok (.iadd, 1) := by decide +kernel
theorem d_M_analyse_113 : decode prog_10_method_30_code 113 = .ok (.istore_n 1, 1) := by decide +kernel
theorem d_M_analyse_114 : decode prog_10_method_30_code 114 = .ok (.iinc 2 1, 3) := by decide +kernel
theorem d_M_analyse_117 : decode prog_10_method_30_code 117 = .ok (.goto (-25), 3) := by decide +kernel
theorem d_M_analyse_82 : decode prog_10_method_30_code 82 = .ok (.aload_n 0, 1) := by decide +kernel
theorem d_M_analyse_83 : decode prog_10_method_30_code 83 = .ok (.iconst 2, 1) := by decide +kernel
theorem d_M_analyse_84 : decode prog_10_method_30_code 84 = .ok (.invokevirtual 175, 3) := by decide +kernel
theorem d_M_analyse_87 : decode prog_10_method_30_code 87 = .ok (.ireturn, 1) := by decide +kernel
theorem d_M_analyse_64 : decode prog_10_method_30_code 64 = .ok (.aload_n 0, 1) := by decide +kernel
theorem d_M_analyse_65 : decode prog_10_method_30_code 65 = .ok (.iload_n 1, 1) := by decide +kernel
theorem d_M_analyse_66 : decode prog_10_method_30_code 66 = .ok (.invokevirtual 184, 3) := by decide +kernel
theorem d_M_analyse_69 : decode prog_10_method_30_code 69 = .ok (.iinc 1 1, 3) := by decide +kernel
theorem d_M_analyse_72 : decode prog_10_method_30_code 72 = .ok (.goto (-16), 3) := by decide +kernel
theorem d_M_analyse_48 : decode prog_10_method_30_code 48 = .ok (.aload_n 0, 1) := by decide +kernel
theorem d_M_analyse_49 : decode prog_10_method_30_code 49 = .ok (.iconst 2, 1) := by decide +kernel
theorem d_M_analyse_50 : decode prog_10_method_30_code 50 = .ok (.invokevirtual 175, 3) := by decide +kernel
theorem d_M_analyse_53 : decode prog_10_method_30_code 53 = .ok (.ireturn, 1) := by decide +kernel
theorem d_M_fault_0 : decode prog_10_method_31_code 0 = .ok (.aload_n 0, 1) := by decide +kernel
theorem d_M_fault_1 : decode prog_10_method_31_code 1 = .ok (.iconst 0, 1) := by decide +kernel
theorem d_M_fault_2 : decode prog_10_method_31_code 2 = .ok (.putfield 99, 3) := by decide +kernel
theorem d_M_fault_5 : decode prog_10_method_31_code 5 = .ok (.iload_n 1, 1) := by decide +kernel
theorem d_M_fault_6 : decode prog_10_method_31_code 6 = .ok (.ifCond .ne 10, 3) := by decide +kernel
theorem d_M_fault_16 : decode prog_10_method_31_code 16 = .ok (.iload_n 1, 1) := by decide +kernel
theorem d_M_fault_17 : decode prog_10_method_31_code 17 = .ok (.iconst 1, 1) := by decide +kernel
theorem d_M_fault_18 : decode prog_10_method_31_code 18 = .ok (.if_icmp .ne 10, 3) := by decide +kernel
theorem d_M_fault_28 : decode prog_10_method_31_code 28 = .ok (.iload_n 1, 1) := by decide +kernel
theorem d_M_fault_29 : decode prog_10_method_31_code 29 = .ok (.iconst 2, 1) := by decide +kernel
theorem d_M_fault_30 : decode prog_10_method_31_code 30 = .ok (.if_icmp .ne 10, 3) := by decide +kernel
theorem d_M_fault_40 : decode prog_10_method_31_code 40 = .ok (.iconst (-1), 1) := by decide +kernel
theorem d_M_fault_41 : decode prog_10_method_31_code 41 = .ok (.ireturn, 1) := by decide +kernel
theorem d_M_fault_33 : decode prog_10_method_31_code 33 = .ok (.aload_n 0, 1) := by decide +kernel
theorem d_M_fault_34 : decode prog_10_method_31_code 34 = .ok (.getfield 36, 3) := by decide +kernel
theorem d_M_fault_37 : decode prog_10_method_31_code 37 = .ok (.goto 4, 3) := by decide +kernel
theorem d_M_fault_21 : decode prog_10_method_31_code 21 = .ok (.aload_n 0, 1) := by decide +kernel
theorem d_M_fault_22 : decode prog_10_method_31_code 22 = .ok (.getfield 32, 3) := by decide +kernel
theorem d_M_fault_25 : decode prog_10_method_31_code 25 = .ok (.goto 16, 3) := by decide +kernel
theorem d_M_fault_9 : decode prog_10_method_31_code 9 = .ok (.aload_n 0, 1) := by decide +kernel
theorem d_M_fault_10 : decode prog_10_method_31_code 10 = .ok (.getfield 141, 3) := by decide +kernel
theorem d_M_fault_13 : decode prog_10_method_31_code 13 = .ok (.goto 28, 3) := by decide +kernel
theorem d_M_visits_0 : decode prog_10_method_32_code 0 = .ok (.aload_n 0, 1) := by decide +kernel
theorem d_M_visits_1 : decode prog_10_method_32_code 1 = .ok (.aload_n 0, 1) := by decide +kernel
theorem d_M_visits_2 : decode prog_10_method_32_code 2 = .ok (.getfield 102, 3) := by decide +kernel
theorem d_M_visits_25 : decode prog_10_method_32_code 25 = .ok (.putfield 99, 3) := by decide +kernel
theorem d_M_visits_28 : decode prog_10_method_32_code 28 = .ok (.aload_n 0, 1) := by decide +kernel
theorem d_M_visits_29 : decode prog_10_method_32_code 29 = .ok (.getfield 99, 3) := by decide +kernel
theorem d_M_visits_32 : decode prog_10_method_32_code 32 = .ok (.ifCond .le 7, 3) := by decide +kernel
theorem d_M_visits_39 : decode prog_10_method_32_code 39 = .ok (.aload_n 0, 1) := by decide +kernel
theorem d_M_visits_40 : decode prog_10_method_32_code 40 = .ok (.getfield 54, 3) := by decide +kernel
theorem d_M_visits_43 : decode prog_10_method_32_code 43 = .ok (.iload_n 1, 1) := by decide +kernel
theorem d_M_visits_44 : decode prog_10_method_32_code 44 = .ok (.iaload, 1) := by decide +kernel
theorem d_M_visits_45 : decode prog_10_method_32_code 45 = .ok (.ireturn, 1) := by decide +kernel
theorem d_M_visits_35 : decode prog_10_method_32_code 35 = .ok (.iconst 0, 1) := by decide +kernel
theorem d_M_visits_36 : decode prog_10_method_32_code 36 = .ok (.goto 9, 3) := by decide +kernel
theorem d_M_visits_5 : decode prog_10_method_32_code 5 = .ok (.ifCond .ne 7, 3) := by decide +kernel
theorem d_M_visits_12 : decode prog_10_method_32_code 12 = .ok (.aload_n 0, 1) := by decide +kernel
theorem d_M_visits_13 : decode prog_10_method_32_code 13 = .ok (.iload_n 1, 1) := by decide +kernel
theorem d_M_visits_14 : decode prog_10_method_32_code 14 = .ok (.invokevirtual 115, 3) := by decide +kernel
theorem d_M_visits_17 : decode prog_10_method_32_code 17 = .ok (.ifCond .eq 7, 3) := by decide +kernel
theorem d_M_visits_24 : decode prog_10_method_32_code 24 = .ok (.iconst 2, 1) := by decide +kernel
theorem d_M_visits_20 : decode prog_10_method_32_code 20 = .ok (.iconst 0, 1) := by decide +kernel
theorem d_M_visits_21 : decode prog_10_method_32_code 21 = .ok (.goto 4, 3) := by decide +kernel
theorem d_M_visits_8 : decode prog_10_method_32_code 8 = .ok (.iconst 1, 1) := by decide +kernel
theorem d_M_visits_9 : decode prog_10_method_32_code 9 = .ok (.goto 16, 3) := by decide +kernel
theorem d_M_rank_0 : decode prog_10_method_33_code 0 = .ok (.aload_n 0, 1) := by decide +kernel
theorem d_M_rank_1 : decode prog_10_method_33_code 1 = .ok (.aload_n 0, 1) := by decide +kernel
theorem d_M_rank_2 : decode prog_10_method_33_code 2 = .ok (.getfield 102, 3) := by decide +kernel
theorem d_M_rank_39 : decode prog_10_method_33_code 39 = .ok (.putfield 99, 3) := by decide +kernel
theorem d_M_rank_42 : decode prog_10_method_33_code 42 = .ok (.aload_n 0, 1) := by decide +kernel
theorem d_M_rank_43 : decode prog_10_method_33_code 43 = .ok (.getfield 99, 3) := by decide +kernel
theorem d_M_rank_46 : decode prog_10_method_33_code 46 = .ok (.ifCond .le 7, 3) := by decide +kernel
theorem d_M_rank_53 : decode prog_10_method_33_code 53 = .ok (.aload_n 0, 1) := by decide +kernel
theorem d_M_rank_54 : decode prog_10_method_33_code 54 = .ok (.getfield 51, 3) := by decide +kernel
theorem d_M_rank_57 : decode prog_10_method_33_code 57 = .ok (.iconst 4, 1) := by decide +kernel
theorem d_M_rank_58 : decode prog_10_method_33_code 58 = .ok (.iload_n 1, 1) := by decide +kernel
theorem d_M_rank_59 : decode prog_10_method_33_code 59 = .ok (.imul, 1) := by decide +kernel
theorem d_M_rank_60 : decode prog_10_method_33_code 60 = .ok (.iload_n 2, 1) := by decide +kernel
theorem d_M_rank_61 : decode prog_10_method_33_code 61 = .ok (.iadd, 1) := by decide +kernel
theorem d_M_rank_62 : decode prog_10_method_33_code 62 = .ok (.iaload, 1) := by decide +kernel
theorem d_M_rank_63 : decode prog_10_method_33_code 63 = .ok (.ireturn, 1) := by decide +kernel
theorem d_M_rank_49 : decode prog_10_method_33_code 49 = .ok (.iconst 0, 1) := by decide +kernel
theorem d_M_rank_50 : decode prog_10_method_33_code 50 = .ok (.goto 13, 3) := by decide +kernel
theorem d_M_rank_5 : decode prog_10_method_33_code 5 = .ok (.ifCond .ne 7, 3) := by decide +kernel
theorem d_M_rank_12 : decode prog_10_method_33_code 12 = .ok (.aload_n 0, 1) := by decide +kernel
theorem d_M_rank_13 : decode prog_10_method_33_code 13 = .ok (.iload_n 1, 1) := by decide +kernel
theorem d_M_rank_14 : decode prog_10_method_33_code 14 = .ok (.invokevirtual 115, 3) := by decide +kernel
theorem d_M_rank_38 : decode prog_10_method_33_code 38 = .ok (.iconst 2, 1) := by decide +kernel
theorem d_M_rank_17 : decode prog_10_method_33_code 17 = .ok (.ifCond .eq 21, 3) := by decide +kernel
theorem d_M_rank_20 : decode prog_10_method_33_code 20 = .ok (.iload_n 2, 1) := by decide +kernel
theorem d_M_rank_21 : decode prog_10_method_33_code 21 = .ok (.ifCond .lt 17, 3) := by decide +kernel
theorem d_M_rank_24 : decode prog_10_method_33_code 24 = .ok (.iload_n 2, 1) := by decide +kernel
theorem d_M_rank_25 : decode prog_10_method_33_code 25 = .ok (.aload_n 0, 1) := by decide +kernel
theorem d_M_rank_26 : decode prog_10_method_33_code 26 = .ok (.getfield 7, 3) := by decide +kernel
theorem d_M_rank_29 : decode prog_10_method_33_code 29 = .ok (.iload_n 1, 1) := by decide +kernel
theorem d_M_rank_30 : decode prog_10_method_33_code 30 = .ok (.iaload, 1) := by decide +kernel
theorem d_M_rank_31 : decode prog_10_method_33_code 31 = .ok (.if_icmp .ge 7, 3) := by decide +kernel
theorem d_M_rank_34 : decode prog_10_method_33_code 34 = .ok (.iconst 0, 1) := by decide +kernel
theorem d_M_rank_35 : decode prog_10_method_33_code 35 = .ok (.goto 4, 3) := by decide +kernel
theorem d_M_rank_8 : decode prog_10_method_33_code 8 = .ok (.iconst 1, 1) := by decide +kernel
theorem d_M_rank_9 : decode prog_10_method_33_code 9 = .ok (.goto 30, 3) := by decide +kernel
theorem d_M_instruction_0 : decode prog_10_method_34_code 0 = .ok (.aload_n 0, 1) := by decide +kernel
theorem d_M_instruction_1 : decode prog_10_method_34_code 1 = .ok (.aload_n 0, 1) := by decide +kernel
theorem d_M_instruction_2 : decode prog_10_method_34_code 2 = .ok (.getfield 102, 3) := by decide +kernel
theorem d_M_instruction_33 : decode prog_10_method_34_code 33 = .ok (.putfield 99, 3) := by decide +kernel
theorem d_M_instruction_36 : decode prog_10_method_34_code 36 = .ok (.aload_n 0, 1) := by decide +kernel
theorem d_M_instruction_37 : decode prog_10_method_34_code 37 = .ok (.getfield 99, 3) := by decide +kernel
theorem d_M_instruction_40 : decode prog_10_method_34_code 40 = .ok (.ifCond .le 5, 3) := by decide +kernel
theorem d_M_instruction_45 : decode prog_10_method_34_code 45 = .ok (.iload_n 2, 1) := by decide +kernel
theorem d_M_instruction_46 : decode prog_10_method_34_code 46 = .ok (.aload_n 0, 1) := by decide +kernel
theorem d_M_instruction_47 : decode prog_10_method_34_code 47 = .ok (.getfield 57, 3) := by decide +kernel
theorem d_M_instruction_50 : decode prog_10_method_34_code 50 = .ok (.iload_n 1, 1) := by decide +kernel
theorem d_M_instruction_51 : decode prog_10_method_34_code 51 = .ok (.iaload, 1) := by decide +kernel
theorem d_M_instruction_52 : decode prog_10_method_34_code 52 = .ok (.if_icmp .ge 17, 3) := by decide +kernel
theorem d_M_instruction_69 : decode prog_10_method_34_code 69 = .ok (.iconst (-1), 1) := by decide +kernel
theorem d_M_instruction_70 : decode prog_10_method_34_code 70 = .ok (.ireturn, 1) := by decide +kernel
theorem d_M_instruction_55 : decode prog_10_method_34_code 55 = .ok (.aload_n 0, 1) := by decide +kernel
theorem d_M_instruction_56 : decode prog_10_method_34_code 56 = .ok (.getfield 60, 3) := by decide +kernel
theorem d_M_instruction_59 : decode prog_10_method_34_code 59 = .ok (.bipush 48, 2) := by decide +kernel
theorem d_M_instruction_61 : decode prog_10_method_34_code 61 = .ok (.iload_n 1, 1) := by decide +kernel
theorem d_M_instruction_62 : decode prog_10_method_34_code 62 = .ok (.imul, 1) := by decide +kernel
theorem d_M_instruction_63 : decode prog_10_method_34_code 63 = .ok (.iload_n 2, 1) := by decide +kernel
theorem d_M_instruction_64 : decode prog_10_method_34_code 64 = .ok (.iadd, 1) := by decide +kernel
theorem d_M_instruction_65 : decode prog_10_method_34_code 65 = .ok (.iaload, 1) := by decide +kernel
theorem d_M_instruction_66 : decode prog_10_method_34_code 66 = .ok (.goto 4, 3) := by decide +kernel
theorem d_M_instruction_43 : decode prog_10_method_34_code 43 = .ok (.iconst 0, 1) := by decide +kernel
theorem d_M_instruction_44 : decode prog_10_method_34_code 44 = .ok (.ireturn, 1) := by decide +kernel
theorem d_M_instruction_5 : decode prog_10_method_34_code 5 = .ok (.ifCond .ne 7, 3) := by decide +kernel
theorem d_M_instruction_12 : decode prog_10_method_34_code 12 = .ok (.iload_n 1, 1) := by decide +kernel
theorem d_M_instruction_28 : decode prog_10_method_34_code 28 = .ok (.iconst 2, 1) := by decide +kernel
theorem d_M_instruction_29 : decode prog_10_method_34_code 29 = .ok (.goto 4, 3) := by decide +kernel
theorem d_M_instruction_13 : decode prog_10_method_34_code 13 = .ok (.ifCond .lt 15, 3) := by decide +kernel
theorem d_M_instruction_16 : decode prog_10_method_34_code 16 = .ok (.iload_n 1, 1) := by decide +kernel
theorem d_M_instruction_17 : decode prog_10_method_34_code 17 = .ok (.aload_n 0, 1) := by decide +kernel
theorem d_M_instruction_18 : decode prog_10_method_34_code 18 = .ok (.getfield 119, 3) := by decide +kernel
theorem d_M_instruction_21 : decode prog_10_method_34_code 21 = .ok (.if_icmp .ge 7, 3) := by decide +kernel
theorem d_M_instruction_24 : decode prog_10_method_34_code 24 = .ok (.iload_n 2, 1) := by decide +kernel
theorem d_M_instruction_25 : decode prog_10_method_34_code 25 = .ok (.ifCond .ge 7, 3) := by decide +kernel
theorem d_M_instruction_32 : decode prog_10_method_34_code 32 = .ok (.iconst 0, 1) := by decide +kernel
theorem d_M_instruction_8 : decode prog_10_method_34_code 8 = .ok (.iconst 1, 1) := by decide +kernel
theorem d_M_instruction_9 : decode prog_10_method_34_code 9 = .ok (.goto 24, 3) := by decide +kernel
theorem d_M_fits_0 : decode prog_10_method_35_code 0 = .ok (.iload_n 2, 1) := by decide +kernel
theorem d_M_fits_1 : decode prog_10_method_35_code 1 = .ok (.aload_n 0, 1) := by decide +kernel
theorem d_M_fits_2 : decode prog_10_method_35_code 2 = .ok (.getfield 17, 3) := by decide +kernel
theorem d_M_fits_5 : decode prog_10_method_35_code 5 = .ok (.iload_n 1, 1) := by decide +kernel
theorem d_M_fits_6 : decode prog_10_method_35_code 6 = .ok (.iaload, 1) := by decide +kernel
theorem d_M_fits_7 : decode prog_10_method_35_code 7 = .ok (.if_icmp .lt 14, 3) := by decide +kernel
theorem d_M_fits_21 : decode prog_10_method_35_code 21 = .ok (.iload_n 3, 1) := by decide +kernel
theorem d_M_fits_22 : decode prog_10_method_35_code 22 = .ok (.ifCond .lt 51, 3) := by decide +kernel
theorem d_M_fits_73 : decode prog_10_method_35_code 73 = .ok (.iconst 0, 1) := by decide +kernel
theorem d_M_fits_74 : decode prog_10_method_35_code 74 = .ok (.ireturn, 1) := by decide +kernel
theorem d_M_fits_25 : decode prog_10_method_35_code 25 = .ok (.iload_n 3, 1) := by decide +kernel
theorem d_M_fits_26 : decode prog_10_method_35_code 26 = .ok (.aload_n 0, 1) := by decide +kernel
theorem d_M_fits_27 : decode prog_10_method_35_code 27 = .ok (.getfield 194, 3) := by decide +kernel
theorem d_M_fits_30 : decode prog_10_method_35_code 30 = .ok (.if_icmp .ge 43, 3) := by decide +kernel
theorem d_M_fits_33 : decode prog_10_method_35_code 33 = .ok (.aload_n 0, 1) := by decide +kernel
theorem d_M_fits_34 : decode prog_10_method_35_code 34 = .ok (.getfield 78, 3) := by decide +kernel
theorem d_M_fits_37 : decode prog_10_method_35_code 37 = .ok (.iload_n 3, 1) := by decide +kernel
theorem d_M_fits_38 : decode prog_10_method_35_code 38 = .ok (.iaload, 1) := by decide +kernel
theorem d_M_fits_39 : decode prog_10_method_35_code 39 = .ok (.iconst (-1), 1) := by decide +kernel
theorem d_M_fits_40 : decode prog_10_method_35_code 40 = .ok (.if_icmp .ne 33, 3) := by decide +kernel
theorem d_M_fits_43 : decode prog_10_method_35_code 43 = .ok (.aload_n 0, 1) := by decide +kernel
theorem d_M_fits_44 : decode prog_10_method_35_code 44 = .ok (.getfield 20, 3) := by decide +kernel
theorem d_M_fits_47 : decode prog_10_method_35_code 47 = .ok (.iconst 4, 1) := by decide +kernel
theorem d_M_fits_48 : decode prog_10_method_35_code 48 = .ok (.aload_n 0, 1) := by decide +kernel
theorem d_M_fits_49 : decode prog_10_method_35_code 49 = .ok (.getfield 69, 3) := by decide +kernel
theorem d_M_fits_52 : decode prog_10_method_35_code 52 = .ok (.iload_n 3, 1) := by decide +kernel
theorem d_M_fits_53 : decode prog_10_method_35_code 53 = .ok (.iaload, 1) := by decide +kernel
theorem d_M_fits_54 : decode prog_10_method_35_code 54 = .ok (.imul, 1) := by decide +kernel
theorem d_M_fits_55 : decode prog_10_method_35_code 55 = .ok (.iaload, 1) := by decide +kernel
theorem d_M_fits_56 : decode prog_10_method_35_code 56 = .ok (.aload_n 0, 1) := by decide +kernel
theorem d_M_fits_57 : decode prog_10_method_35_code 57 = .ok (.getfield 20, 3) := by decide +kernel
theorem d_M_fits_60 : decode prog_10_method_35_code 60 = .ok (.iconst 4, 1) := by decide +kernel
theorem d_M_fits_61 : decode prog_10_method_35_code 61 = .ok (.iload_n 1, 1) := by decide +kernel
theorem d_M_fits_62 : decode prog_10_method_35_code 62 = .ok (.imul, 1) := by decide +kernel
theorem d_M_fits_63 : decode prog_10_method_35_code 63 = .ok (.iload_n 2, 1) := by decide +kernel
theorem d_M_fits_64 : decode prog_10_method_35_code 64 = .ok (.iadd, 1) := by decide +kernel
theorem d_M_fits_65 : decode prog_10_method_35_code 65 = .ok (.iaload, 1) := by decide +kernel
theorem d_M_fits_66 : decode prog_10_method_35_code 66 = .ok (.if_icmp .ne 7, 3) := by decide +kernel
theorem d_M_fits_69 : decode prog_10_method_35_code 69 = .ok (.iconst 1, 1) := by decide +kernel
theorem d_M_fits_70 : decode prog_10_method_35_code 70 = .ok (.goto 4, 3) := by decide +kernel
theorem d_M_fits_10 : decode prog_10_method_35_code 10 = .ok (.iload_n 3, 1) := by decide +kernel
theorem d_M_fits_11 : decode prog_10_method_35_code 11 = .ok (.iconst (-1), 1) := by decide +kernel
theorem d_M_fits_12 : decode prog_10_method_35_code 12 = .ok (.if_icmp .ne 7, 3) := by decide +kernel
theorem d_M_fits_19 : decode prog_10_method_35_code 19 = .ok (.iconst 0, 1) := by decide +kernel
theorem d_M_fits_20 : decode prog_10_method_35_code 20 = .ok (.ireturn, 1) := by decide +kernel
theorem d_M_fits_15 : decode prog_10_method_35_code 15 = .ok (.iconst 1, 1) := by decide +kernel
theorem d_M_fits_16 : decode prog_10_method_35_code 16 = .ok (.goto 4, 3) := by decide +kernel
theorem d_M_node_0 : decode prog_10_method_36_code 0 = .ok (.iload_n 1, 1) := by decide +kernel
theorem d_M_node_49 : decode prog_10_method_36_code 49 = .ok (.istore 6, 2) := by decide +kernel
theorem d_M_node_51 : decode prog_10_method_36_code 51 = .ok (.iload 6, 2) := by decide +kernel
theorem d_M_node_91 : decode prog_10_method_36_code 91 = .ok (.istore 6, 2) := by decide +kernel
theorem d_M_node_93 : decode prog_10_method_36_code 93 = .ok (.aload_n 0, 1) := by decide +kernel
theorem d_M_node_94 : decode prog_10_method_36_code 94 = .ok (.iload 6, 2) := by decide +kernel
theorem d_M_node_117 : decode prog_10_method_36_code 117 = .ok (.putfield 99, 3) := by decide +kernel
theorem d_M_node_120 : decode prog_10_method_36_code 120 = .ok (.aload_n 0, 1) := by decide +kernel
theorem d_M_node_121 : decode prog_10_method_36_code 121 = .ok (.getfield 99, 3) := by decide +kernel
theorem d_M_node_124 : decode prog_10_method_36_code 124 = .ok (.ifCond .le 5, 3) := by decide +kernel
theorem d_M_node_129 : decode prog_10_method_36_code 129 = .ok (.aload_n 0, 1) := by decide +kernel
theorem d_M_node_130 : decode prog_10_method_36_code 130 = .ok (.getfield 194, 3) := by decide +kernel
theorem d_M_node_133 : decode prog_10_method_36_code 133 = .ok (.istore 7, 2) := by decide +kernel
theorem d_M_node_135 : decode prog_10_method_36_code 135 = .ok (.aload_n 0, 1) := by decide +kernel
theorem d_M_node_136 : decode prog_10_method_36_code 136 = .ok (.getfield 69, 3) := by decide +kernel
theorem d_M_node_139 : decode prog_10_method_36_code 139 = .ok (.iload 7, 2) := by decide +kernel
theorem d_M_node_141 : decode prog_10_method_36_code 141 = .ok (.iload_n 1, 1) := by decide +kernel
theorem d_M_node_142 : decode prog_10_method_36_code 142 = .ok (.iastore, 1) := by decide +kernel
theorem d_M_node_143 : decode prog_10_method_36_code 143 = .ok (.aload_n 0, 1) := by decide +kernel
theorem d_M_node_144 : decode prog_10_method_36_code 144 = .ok (.getfield 72, 3) := by decide +kernel
theorem d_M_node_147 : decode prog_10_method_36_code 147 = .ok (.iload 7, 2) := by decide +kernel
theorem d_M_node_149 : decode prog_10_method_36_code 149 = .ok (.iload_n 2, 1) := by decide +kernel
theorem d_M_node_150 : decode prog_10_method_36_code 150 = .ok (.iastore, 1) := by decide +kernel
theorem d_M_node_151 : decode prog_10_method_36_code 151 = .ok (.aload_n 0, 1) := by decide +kernel
theorem d_M_node_152 : decode prog_10_method_36_code 152 = .ok (.getfield 78, 3) := by decide +kernel
theorem d_M_node_155 : decode prog_10_method_36_code 155 = .ok (.iload 7, 2) := by decide +kernel
theorem d_M_node_157 : decode prog_10_method_36_code 157 = .ok (.iconst (-1), 1) := by decide +kernel
theorem d_M_node_158 : decode prog_10_method_36_code 158 = .ok (.iastore, 1) := by decide +kernel
theorem d_M_node_159 : decode prog_10_method_36_code 159 = .ok (.aload_n 0, 1) := by decide +kernel
theorem d_M_node_160 : decode prog_10_method_36_code 160 = .ok (.getfield 75, 3) := by decide +kernel
theorem d_M_node_163 : decode prog_10_method_36_code 163 = .ok (.iconst 3, 1) := by decide +kernel
theorem d_M_node_164 : decode prog_10_method_36_code 164 = .ok (.iload 7, 2) := by decide +kernel
theorem d_M_node_166 : decode prog_10_method_36_code 166 = .ok (.imul, 1) := by decide +kernel
theorem d_M_node_167 : decode prog_10_method_36_code 167 = .ok (.iload_n 3, 1) := by decide +kernel
theorem d_M_node_168 : decode prog_10_method_36_code 168 = .ok (.iastore, 1) := by decide +kernel
theorem d_M_node_169 : decode prog_10_method_36_code 169 = .ok (.aload_n 0, 1) := by decide +kernel
theorem d_M_node_170 : decode prog_10_method_36_code 170 = .ok (.getfield 75, 3) := by decide +kernel
theorem d_M_node_173 : decode prog_10_method_36_code 173 = .ok (.iconst 3, 1) := by decide +kernel
theorem d_M_node_174 : decode prog_10_method_36_code 174 = .ok (.iload 7, 2) := by decide +kernel
theorem d_M_node_176 : decode prog_10_method_36_code 176 = .ok (.imul, 1) := by decide +kernel
theorem d_M_node_177 : decode prog_10_method_36_code 177 = .ok (.iconst 1, 1) := by decide +kernel
theorem d_M_node_178 : decode prog_10_method_36_code 178 = .ok (.iadd, 1) := by decide +kernel
theorem d_M_node_179 : decode prog_10_method_36_code 179 = .ok (.iload 4, 2) := by decide +kernel
theorem d_M_node_181 : decode prog_10_method_36_code 181 = .ok (.iastore, 1) := by decide +kernel
theorem d_M_node_182 : decode prog_10_method_36_code 182 = .ok (.aload_n 0, 1) := by decide +kernel
theorem d_M_node_183 : decode prog_10_method_36_code 183 = .ok (.getfield 75, 3) := by decide +kernel
theorem d_M_node_186 : decode prog_10_method_36_code 186 = .ok (.iconst 3, 1) := by decide +kernel
theorem d_M_node_187 : decode prog_10_method_36_code 187 = .ok (.iload 7, 2) := by decide +kernel
theorem d_M_node_189 : decode prog_10_method_36_code 189 = .ok (.imul, 1) := by decide +kernel
theorem d_M_node_190 : decode prog_10_method_36_code 190 = .ok (.iconst 2, 1) := by decide +kernel
theorem d_M_node_191 : decode prog_10_method_36_code 191 = .ok (.iadd, 1) := by decide +kernel
theorem d_M_node_192 : decode prog_10_method_36_code 192 = .ok (.iload 5, 2) := by decide +kernel
theorem d_M_node_194 : decode prog_10_method_36_code 194 = .ok (.iastore, 1) := by decide +kernel
theorem d_M_node_195 : decode prog_10_method_36_code 195 = .ok (.iconst 0, 1) := by decide +kernel
theorem d_M_node_196 : decode prog_10_method_36_code 196 = .ok (.istore 8, 2) := by decide +kernel
theorem d_M_node_198 : decode prog_10_method_36_code 198 = .ok (.iload 8, 2) := by decide +kernel
theorem d_M_node_200 : decode prog_10_method_36_code 200 = .ok (.iconst 3, 1) := by decide +kernel
theorem d_M_node_201 : decode prog_10_method_36_code 201 = .ok (.if_icmp .ge 44, 3) := by decide +kernel
theorem d_M_node_245 : decode prog_10_method_36_code 245 = .ok (.iconst 0, 1) := by decide +kernel
theorem d_M_node_246 : decode prog_10_method_36_code 246 = .ok (.istore 8, 2) := by decide +kernel
theorem d_M_node_248 : decode prog_10_method_36_code 248 = .ok (.iload 8, 2) := by decide +kernel
theorem d_M_node_250 : decode prog_10_method_36_code 250 = .ok (.iconst 4, 1) := by decide +kernel
theorem d_M_node_251 : decode prog_10_method_36_code 251 = .ok (.if_icmp .ge 22, 3) := by decide +kernel
theorem d_M_node_273 : decode prog_10_method_36_code 273 = .ok (.aload_n 0, 1) := by decide +kernel
theorem d_M_node_274 : decode prog_10_method_36_code 274 = .ok (.dup, 1) := by decide +kernel
theorem d_M_node_275 : decode prog_10_method_36_code 275 = .ok (.getfield 194, 3) := by decide +kernel
theorem d_M_node_278 : decode prog_10_method_36_code 278 = .ok (.iconst 1, 1) := by decide +kernel
theorem d_M_node_279 : decode prog_10_method_36_code 279 = .ok (.iadd, 1) := by decide +kernel
theorem d_M_node_280 : decode prog_10_method_36_code 280 = .ok (.putfield 194, 3) := by decide +kernel
theorem d_M_node_283 : decode prog_10_method_36_code 283 = .ok (.iload 7, 2) := by decide +kernel
theorem d_M_node_285 : decode prog_10_method_36_code 285 = .ok (.ireturn, 1) := by decide +kernel
theorem d_M_node_254 : decode prog_10_method_36_code 254 = .ok (.aload_n 0, 1) := by decide +kernel
theorem d_M_node_255 : decode prog_10_method_36_code 255 = .ok (.getfield 84, 3) := by decide +kernel
theorem d_M_node_258 : decode prog_10_method_36_code 258 = .ok (.iconst 4, 1) := by decide +kernel
theorem d_M_node_259 : decode prog_10_method_36_code 259 = .ok (.iload 7, 2) := by decide +kernel
theorem d_M_node_261 : decode prog_10_method_36_code 261 = .ok (.imul, 1) := by decide +kernel
theorem d_M_node_262 : decode prog_10_method_36_code 262 = .ok (.iload 8, 2) := by decide +kernel
theorem d_M_node_264 : decode prog_10_method_36_code 264 = .ok (.iadd, 1) := by decide +kernel
theorem d_M_node_265 : decode prog_10_method_36_code 265 = .ok (.iconst 0, 1) := by decide +kernel
theorem d_M_node_266 : decode prog_10_method_36_code 266 = .ok (.bastore, 1) := by decide +kernel
theorem d_M_node_267 : decode prog_10_method_36_code 267 = .ok (.iinc 8 1, 3) := by decide +kernel
theorem d_M_node_270 : decode prog_10_method_36_code 270 = .ok (.goto (-22), 3) := by decide +kernel
theorem d_M_node_204 : decode prog_10_method_36_code 204 = .ok (.aload_n 0, 1) := by decide +kernel
theorem d_M_node_205 : decode prog_10_method_36_code 205 = .ok (.getfield 75, 3) := by decide +kernel
theorem d_M_node_208 : decode prog_10_method_36_code 208 = .ok (.iconst 3, 1) := by decide +kernel
theorem d_M_node_209 : decode prog_10_method_36_code 209 = .ok (.iload 7, 2) := by decide +kernel
theorem d_M_node_211 : decode prog_10_method_36_code 211 = .ok (.imul, 1) := by decide +kernel
theorem d_M_node_212 : decode prog_10_method_36_code 212 = .ok (.iload 8, 2) := by decide +kernel
theorem d_M_node_214 : decode prog_10_method_36_code 214 = .ok (.iadd, 1) := by decide +kernel
theorem d_M_node_215 : decode prog_10_method_36_code 215 = .ok (.iaload, 1) := by decide +kernel
theorem d_M_node_216 : decode prog_10_method_36_code 216 = .ok (.iconst (-1), 1) := by decide +kernel
theorem d_M_node_239 : decode prog_10_method_36_code 239 = .ok (.iinc 8 1, 3) := by decide +kernel
theorem d_M_node_242 : decode prog_10_method_36_code 242 = .ok (.goto (-44), 3) := by decide +kernel
theorem d_M_node_217 : decode prog_10_method_36_code 217 = .ok (.if_icmp .eq 22, 3) := by decide +kernel
theorem d_M_node_220 : decode prog_10_method_36_code 220 = .ok (.aload_n 0, 1) := by decide +kernel
theorem d_M_node_221 : decode prog_10_method_36_code 221 = .ok (.getfield 78, 3) := by decide +kernel
theorem d_M_node_224 : decode prog_10_method_36_code 224 = .ok (.aload_n 0, 1) := by decide +kernel
theorem d_M_node_225 : decode prog_10_method_36_code 225 = .ok (.getfield 75, 3) := by decide +kernel
theorem d_M_node_228 : decode prog_10_method_36_code 228 = .ok (.iconst 3, 1) := by decide +kernel
theorem d_M_node_229 : decode prog_10_method_36_code 229 = .ok (.iload 7, 2) := by decide +kernel
theorem d_M_node_231 : decode prog_10_method_36_code 231 = .ok (.imul, 1) := by decide +kernel
theorem d_M_node_232 : decode prog_10_method_36_code 232 = .ok (.iload 8, 2) := by decide +kernel
theorem d_M_node_234 : decode prog_10_method_36_code 234 = .ok (.iadd, 1) := by decide +kernel
theorem d_M_node_235 : decode prog_10_method_36_code 235 = .ok (.iaload, 1) := by decide +kernel
theorem d_M_node_236 : decode prog_10_method_36_code 236 = .ok (.iload 7, 2) := by decide +kernel
theorem d_M_node_238 : decode prog_10_method_36_code 238 = .ok (.iastore, 1) := by decide +kernel
theorem d_M_node_127 : decode prog_10_method_36_code 127 = .ok (.iconst 0, 1) := by decide +kernel
theorem d_M_node_128 : decode prog_10_method_36_code 128 = .ok (.ireturn, 1) := by decide +kernel
theorem d_M_node_96 : decode prog_10_method_36_code 96 = .ok (.ifCond .ne 7, 3) := by decide +kernel
theorem d_M_node_103 : decode prog_10_method_36_code 103 = .ok (.aload_n 0, 1) := by decide +kernel
theorem d_M_node_104 : decode prog_10_method_36_code 104 = .ok (.getfield 194, 3) := by decide +kernel
theorem d_M_node_107 : decode prog_10_method_36_code 107 = .ok (.bipush 40, 2) := by decide +kernel
theorem d_M_node_109 : decode prog_10_method_36_code 109 = .ok (.if_icmp .ne 7, 3) := by decide +kernel
theorem d_M_node_116 : decode prog_10_method_36_code 116 = .ok (.iconst 0, 1) := by decide +kernel
theorem d_M_node_112 : decode prog_10_method_36_code 112 = .ok (.iconst 2, 1) := by decide +kernel
theorem d_M_node_113 : decode prog_10_method_36_code 113 = .ok (.goto 4, 3) := by decide +kernel
theorem d_M_node_99 : decode prog_10_method_36_code 99 = .ok (.iconst 1, 1) := by decide +kernel
theorem d_M_node_100 : decode prog_10_method_36_code 100 = .ok (.goto 17, 3) := by decide +kernel
theorem d_M_node_90 : decode prog_10_method_36_code 90 = .ok (.iconst 0, 1) := by decide +kernel
theorem d_M_node_53 : decode prog_10_method_36_code 53 = .ok (.ifCond .eq 37, 3) := by decide +kernel
theorem d_M_node_56 : decode prog_10_method_36_code 56 = .ok (.iload_n 3, 1) := by decide +kernel
theorem d_M_node_57 : decode prog_10_method_36_code 57 = .ok (.iconst (-1), 1) := by decide +kernel
theorem d_M_node_73 : decode prog_10_method_36_code 73 = .ok (.iload 4, 2) := by decide +kernel
theorem d_M_node_75 : decode prog_10_method_36_code 75 = .ok (.iconst (-1), 1) := by decide +kernel
theorem d_M_node_86 : decode prog_10_method_36_code 86 = .ok (.iconst 1, 1) := by decide +kernel
theorem d_M_node_87 : decode prog_10_method_36_code 87 = .ok (.goto 4, 3) := by decide +kernel
theorem d_M_node_76 : decode prog_10_method_36_code 76 = .ok (.if_icmp .eq 10, 3) := by decide +kernel
theorem d_M_node_79 : decode prog_10_method_36_code 79 = .ok (.iload 4, 2) := by decide +kernel
theorem d_M_node_81 : decode prog_10_method_36_code 81 = .ok (.iload 5, 2) := by decide +kernel
theorem d_M_node_83 : decode prog_10_method_36_code 83 = .ok (.if_icmp .eq 7, 3) := by decide +kernel
theorem d_M_node_58 : decode prog_10_method_36_code 58 = .ok (.if_icmp .eq 15, 3) := by decide +kernel
theorem d_M_node_61 : decode prog_10_method_36_code 61 = .ok (.iload_n 3, 1) := by decide +kernel
theorem d_M_node_62 : decode prog_10_method_36_code 62 = .ok (.iload 4, 2) := by decide +kernel
theorem d_M_node_64 : decode prog_10_method_36_code 64 = .ok (.if_icmp .eq 26, 3) := by decide +kernel
theorem d_M_node_67 : decode prog_10_method_36_code 67 = .ok (.iload_n 3, 1) := by decide +kernel
theorem d_M_node_68 : decode prog_10_method_36_code 68 = .ok (.iload 5, 2) := by decide +kernel
theorem d_M_node_70 : decode prog_10_method_36_code 70 = .ok (.if_icmp .eq 20, 3) := by decide +kernel
theorem d_M_node_48 : decode prog_10_method_36_code 48 = .ok (.iconst 0, 1) := by decide +kernel
theorem d_M_node_1 : decode prog_10_method_36_code 1 = .ok (.ifCond .lt 47, 3) := by decide +kernel
theorem d_M_node_4 : decode prog_10_method_36_code 4 = .ok (.iload_n 1, 1) := by decide +kernel
theorem d_M_node_5 : decode prog_10_method_36_code 5 = .ok (.aload_n 0, 1) := by decide +kernel
theorem d_M_node_6 : decode prog_10_method_36_code 6 = .ok (.getfield 119, 3) := by decide +kernel
theorem d_M_node_9 : decode prog_10_method_36_code 9 = .ok (.if_icmp .ge 39, 3) := by decide +kernel
theorem d_M_node_12 : decode prog_10_method_36_code 12 = .ok (.aload_n 0, 1) := by decide +kernel
theorem d_M_node_13 : decode prog_10_method_36_code 13 = .ok (.iload_n 1, 1) := by decide +kernel
theorem d_M_node_14 : decode prog_10_method_36_code 14 = .ok (.iconst 1, 1) := by decide +kernel
theorem d_M_node_15 : decode prog_10_method_36_code 15 = .ok (.iload_n 3, 1) := by decide +kernel
theorem d_M_node_16 : decode prog_10_method_36_code 16 = .ok (.invokevirtual 197, 3) := by decide +kernel
theorem d_M_node_19 : decode prog_10_method_36_code 19 = .ok (.ifCond .eq 29, 3) := by decide +kernel
theorem d_M_node_22 : decode prog_10_method_36_code 22 = .ok (.aload_n 0, 1) := by decide +kernel
theorem d_M_node_23 : decode prog_10_method_36_code 23 = .ok (.iload_n 1, 1) := by decide +kernel
theorem d_M_node_24 : decode prog_10_method_36_code 24 = .ok (.iconst 2, 1) := by decide +kernel
theorem d_M_node_25 : decode prog_10_method_36_code 25 = .ok (.iload 4, 2) := by decide +kernel
theorem d_M_node_27 : decode prog_10_method_36_code 27 = .ok (.invokevirtual 197, 3) := by decide +kernel
theorem d_M_node_30 : decode prog_10_method_36_code 30 = .ok (.ifCond .eq 18, 3) := by decide +kernel
theorem d_M_node_33 : decode prog_10_method_36_code 33 = .ok (.aload_n 0, 1) := by decide +kernel
theorem d_M_node_34 : decode prog_10_method_36_code 34 = .ok (.iload_n 1, 1) := by decide +kernel
theorem d_M_node_35 : decode prog_10_method_36_code 35 = .ok (.iconst 3, 1) := by decide +kernel
theorem d_M_node_36 : decode prog_10_method_36_code 36 = .ok (.iload 5, 2) := by decide +kernel
theorem d_M_node_38 : decode prog_10_method_36_code 38 = .ok (.invokevirtual 197, 3) := by decide +kernel
theorem d_M_node_41 : decode prog_10_method_36_code 41 = .ok (.ifCond .eq 7, 3) := by decide +kernel
theorem d_M_node_44 : decode prog_10_method_36_code 44 = .ok (.iconst 1, 1) := by decide +kernel
theorem d_M_node_45 : decode prog_10_method_36_code 45 = .ok (.goto 4, 3) := by decide +kernel
theorem d_M_fell_0 : decode prog_10_method_37_code 0 = .ok (.aload_n 0, 1) := by decide +kernel
theorem d_M_fell_1 : decode prog_10_method_37_code 1 = .ok (.iconst 0, 1) := by decide +kernel
theorem d_M_fell_2 : decode prog_10_method_37_code 2 = .ok (.putfield 99, 3) := by decide +kernel
theorem d_M_fell_5 : decode prog_10_method_37_code 5 = .ok (.aload_n 0, 1) := by decide +kernel
theorem d_M_fell_6 : decode prog_10_method_37_code 6 = .ok (.invokevirtual 106, 3) := by decide +kernel
theorem d_M_fell_9 : decode prog_10_method_37_code 9 = .ok (.aload_n 0, 1) := by decide +kernel
theorem d_M_fell_10 : decode prog_10_method_37_code 10 = .ok (.iconst 0, 1) := by decide +kernel
theorem d_M_fell_11 : decode prog_10_method_37_code 11 = .ok (.putfield 194, 3) := by decide +kernel
theorem d_M_fell_14 : decode prog_10_method_37_code 14 = .ok (.return_, 1) := by decide +kernel
theorem d_M_give_0 : decode prog_10_method_38_code 0 = .ok (.aload_n 0, 1) := by decide +kernel
theorem d_M_give_1 : decode prog_10_method_38_code 1 = .ok (.iload_n 1, 1) := by decide +kernel
theorem d_M_give_15 : decode prog_10_method_38_code 15 = .ok (.putfield 99, 3) := by decide +kernel
theorem d_M_give_18 : decode prog_10_method_38_code 18 = .ok (.aload_n 0, 1) := by decide +kernel
theorem d_M_give_19 : decode prog_10_method_38_code 19 = .ok (.getfield 99, 3) := by decide +kernel
theorem d_M_give_22 : decode prog_10_method_38_code 22 = .ok (.ifCond .ne 10, 3) := by decide +kernel
theorem d_M_give_32 : decode prog_10_method_38_code 32 = .ok (.return_, 1) := by decide +kernel
theorem d_M_give_25 : decode prog_10_method_38_code 25 = .ok (.aload_n 0, 1) := by decide +kernel
theorem d_M_give_26 : decode prog_10_method_38_code 26 = .ok (.getfield 90, 3) := by decide +kernel
theorem d_M_give_29 : decode prog_10_method_38_code 29 = .ok (.iload_n 1, 1) := by decide +kernel
theorem d_M_give_30 : decode prog_10_method_38_code 30 = .ok (.iload_n 2, 1) := by decide +kernel
theorem d_M_give_31 : decode prog_10_method_38_code 31 = .ok (.iastore, 1) := by decide +kernel
theorem d_M_give_10 : decode prog_10_method_38_code 10 = .ok (.iconst 1, 1) := by decide +kernel
theorem d_M_give_11 : decode prog_10_method_38_code 11 = .ok (.goto 4, 3) := by decide +kernel
theorem d_M_give_2 : decode prog_10_method_38_code 2 = .ok (.ifCond .lt 8, 3) := by decide +kernel
theorem d_M_give_5 : decode prog_10_method_38_code 5 = .ok (.iload_n 1, 1) := by decide +kernel
theorem d_M_give_6 : decode prog_10_method_38_code 6 = .ok (.iconst 3, 1) := by decide +kernel
theorem d_M_give_7 : decode prog_10_method_38_code 7 = .ok (.if_icmp .le 7, 3) := by decide +kernel
theorem d_M_give_14 : decode prog_10_method_38_code 14 = .ok (.iconst 0, 1) := by decide +kernel
theorem d_M_isNode_0 : decode prog_10_method_39_code 0 = .ok (.iload_n 1, 1) := by decide +kernel
theorem d_M_isNode_1 : decode prog_10_method_39_code 1 = .ok (.ifCond .lt 15, 3) := by decide +kernel
theorem d_M_isNode_16 : decode prog_10_method_39_code 16 = .ok (.iconst 0, 1) := by decide +kernel
theorem d_M_isNode_17 : decode prog_10_method_39_code 17 = .ok (.ireturn, 1) := by decide +kernel
theorem d_M_isNode_4 : decode prog_10_method_39_code 4 = .ok (.iload_n 1, 1) := by decide +kernel
theorem d_M_isNode_5 : decode prog_10_method_39_code 5 = .ok (.aload_n 0, 1) := by decide +kernel
theorem d_M_isNode_6 : decode prog_10_method_39_code 6 = .ok (.getfield 194, 3) := by decide +kernel
theorem d_M_isNode_9 : decode prog_10_method_39_code 9 = .ok (.if_icmp .ge 7, 3) := by decide +kernel
theorem d_M_isNode_12 : decode prog_10_method_39_code 12 = .ok (.iconst 1, 1) := by decide +kernel
theorem d_M_isNode_13 : decode prog_10_method_39_code 13 = .ok (.goto 4, 3) := by decide +kernel
