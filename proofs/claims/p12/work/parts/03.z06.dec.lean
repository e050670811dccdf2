theorem d_Q_readyVisit_21 : decode prog_6_method_10_code 21 = .ok (.iconst 1, 1) := by decide +kernel
theorem d_Q_readyVisit_22 : decode prog_6_method_10_code 22 = .ok (.iadd, 1) := by decide +kernel
theorem d_Q_readyVisit_23 : decode prog_6_method_10_code 23 = .ok (.istore_n 3, 1) := by decide +kernel
theorem d_Q_readyVisit_24 : decode prog_6_method_10_code 24 = .ok (.iload_n 3, 1) := by decide +kernel
theorem d_Q_readyVisit_25 : decode prog_6_method_10_code 25 = .ok (.aload_n 0, 1) := by decide +kernel
theorem d_Q_readyVisit_26 : decode prog_6_method_10_code 26 = .ok (.iload_n 1, 1) := by decide +kernel
theorem d_Q_readyVisit_27 : decode prog_6_method_10_code 27 = .ok (.iload_n 2, 1) := by decide +kernel
theorem d_Q_readyVisit_28 : decode prog_6_method_10_code 28 = .ok (.invokevirtual 79, 3) := by decide +kernel
theorem d_Q_readyVisit_75 : decode prog_6_method_10_code 75 = .ok (.iinc 2 1, 3) := by decide +kernel
theorem d_Q_readyVisit_78 : decode prog_6_method_10_code 78 = .ok (.goto (-76), 3) := by decide +kernel
theorem d_Q_readyVisit_31 : decode prog_6_method_10_code 31 = .ok (.if_icmp .gt 44, 3) := by decide +kernel
theorem d_Q_readyVisit_34 : decode prog_6_method_10_code 34 = .ok (.aload_n 0, 1) := by decide +kernel
theorem d_Q_readyVisit_35 : decode prog_6_method_10_code 35 = .ok (.getfield 21, 3) := by decide +kernel
theorem d_Q_readyVisit_38 : decode prog_6_method_10_code 38 = .ok (.iload_n 1, 1) := by decide +kernel
theorem d_Q_readyVisit_39 : decode prog_6_method_10_code 39 = .ok (.iload_n 2, 1) := by decide +kernel
theorem d_Q_readyVisit_40 : decode prog_6_method_10_code 40 = .ok (.invokevirtual 56, 3) := by decide +kernel
theorem d_Q_readyVisit_43 : decode prog_6_method_10_code 43 = .ok (.istore 4, 2) := by decide +kernel
theorem d_Q_readyVisit_45 : decode prog_6_method_10_code 45 = .ok (.aload_n 0, 1) := by decide +kernel
theorem d_Q_readyVisit_46 : decode prog_6_method_10_code 46 = .ok (.getfield 25, 3) := by decide +kernel
theorem d_Q_readyVisit_49 : decode prog_6_method_10_code 49 = .ok (.iload 4, 2) := by decide +kernel
theorem d_Q_readyVisit_51 : decode prog_6_method_10_code 51 = .ok (.iload_n 3, 1) := by decide +kernel
theorem d_Q_readyVisit_52 : decode prog_6_method_10_code 52 = .ok (.invokevirtual 60, 3) := by decide +kernel
theorem d_Q_readyVisit_55 : decode prog_6_method_10_code 55 = .ok (.istore 5, 2) := by decide +kernel
theorem d_Q_readyVisit_57 : decode prog_6_method_10_code 57 = .ok (.aload_n 0, 1) := by decide +kernel
theorem d_Q_readyVisit_58 : decode prog_6_method_10_code 58 = .ok (.getfield 53, 3) := by decide +kernel
theorem d_Q_readyVisit_61 : decode prog_6_method_10_code 61 = .ok (.iload 5, 2) := by decide +kernel
theorem d_Q_readyVisit_63 : decode prog_6_method_10_code 63 = .ok (.iload_n 2, 1) := by decide +kernel
theorem d_Q_readyVisit_64 : decode prog_6_method_10_code 64 = .ok (.iconst 4, 1) := by decide +kernel
theorem d_Q_readyVisit_65 : decode prog_6_method_10_code 65 = .ok (.imul, 1) := by decide +kernel
theorem d_Q_readyVisit_66 : decode prog_6_method_10_code 66 = .ok (.ishl, 1) := by decide +kernel
theorem d_Q_readyVisit_67 : decode prog_6_method_10_code 67 = .ok (.invokestatic 111, 3) := by decide +kernel
theorem d_Q_readyVisit_70 : decode prog_6_method_10_code 70 = .ok (.ifCond .eq 5, 3) := by decide +kernel
theorem d_Q_readyVisit_73 : decode prog_6_method_10_code 73 = .ok (.iload_n 2, 1) := by decide +kernel
theorem d_Q_readyVisit_74 : decode prog_6_method_10_code 74 = .ok (.ireturn, 1) := by decide +kernel
theorem d_Q_isLeaveReady_0 : decode prog_6_method_11_code 0 = .ok (.aload_n 0, 1) := by decide +kernel
theorem d_Q_isLeaveReady_1 : decode prog_6_method_11_code 1 = .ok (.getfield 18, 3) := by decide +kernel
theorem d_Q_isLeaveReady_4 : decode prog_6_method_11_code 4 = .ok (.iconst 0, 1) := by decide +kernel
theorem d_Q_isLeaveReady_5 : decode prog_6_method_11_code 5 = .ok (.iaload, 1) := by decide +kernel
theorem d_Q_isLeaveReady_6 : decode prog_6_method_11_code 6 = .ok (.iconst 1, 1) := by decide +kernel
theorem d_Q_isLeaveReady_7 : decode prog_6_method_11_code 7 = .ok (.iadd, 1) := by decide +kernel
theorem d_Q_isLeaveReady_8 : decode prog_6_method_11_code 8 = .ok (.istore_n 3, 1) := by decide +kernel
theorem d_Q_isLeaveReady_9 : decode prog_6_method_11_code 9 = .ok (.aload_n 0, 1) := by decide +kernel
theorem d_Q_isLeaveReady_10 : decode prog_6_method_11_code 10 = .ok (.iload_n 1, 1) := by decide +kernel
theorem d_Q_isLeaveReady_11 : decode prog_6_method_11_code 11 = .ok (.iconst 0, 1) := by decide +kernel
theorem d_Q_isLeaveReady_12 : decode prog_6_method_11_code 12 = .ok (.invokevirtual 79, 3) := by decide +kernel
theorem d_Q_isLeaveReady_15 : decode prog_6_method_11_code 15 = .ok (.istore 4, 2) := by decide +kernel
theorem d_Q_isLeaveReady_17 : decode prog_6_method_11_code 17 = .ok (.iload_n 3, 1) := by decide +kernel
theorem d_Q_isLeaveReady_18 : decode prog_6_method_11_code 18 = .ok (.iload 4, 2) := by decide +kernel
theorem d_Q_isLeaveReady_20 : decode prog_6_method_11_code 20 = .ok (.if_icmp .gt 44, 3) := by decide +kernel
theorem d_Q_isLeaveReady_64 : decode prog_6_method_11_code 64 = .ok (.iconst 0, 1) := by decide +kernel
theorem d_Q_isLeaveReady_65 : decode prog_6_method_11_code 65 = .ok (.ireturn, 1) := by decide +kernel
theorem d_Q_isLeaveReady_23 : decode prog_6_method_11_code 23 = .ok (.iload_n 3, 1) := by decide +kernel
theorem d_Q_isLeaveReady_24 : decode prog_6_method_11_code 24 = .ok (.iload 4, 2) := by decide +kernel
theorem d_Q_isLeaveReady_33 : decode prog_6_method_11_code 33 = .ok (.aload_n 0, 1) := by decide +kernel
theorem d_Q_isLeaveReady_34 : decode prog_6_method_11_code 34 = .ok (.getfield 53, 3) := by decide +kernel
theorem d_Q_isLeaveReady_37 : decode prog_6_method_11_code 37 = .ok (.aload_n 0, 1) := by decide +kernel
theorem d_Q_isLeaveReady_38 : decode prog_6_method_11_code 38 = .ok (.getfield 25, 3) := by decide +kernel
theorem d_Q_isLeaveReady_41 : decode prog_6_method_11_code 41 = .ok (.aload_n 0, 1) := by decide +kernel
theorem d_Q_isLeaveReady_42 : decode prog_6_method_11_code 42 = .ok (.getfield 21, 3) := by decide +kernel
theorem d_Q_isLeaveReady_45 : decode prog_6_method_11_code 45 = .ok (.iload_n 1, 1) := by decide +kernel
theorem d_Q_isLeaveReady_46 : decode prog_6_method_11_code 46 = .ok (.iconst 0, 1) := by decide +kernel
theorem d_Q_isLeaveReady_47 : decode prog_6_method_11_code 47 = .ok (.invokevirtual 56, 3) := by decide +kernel
theorem d_Q_isLeaveReady_50 : decode prog_6_method_11_code 50 = .ok (.iload_n 3, 1) := by decide +kernel
theorem d_Q_isLeaveReady_51 : decode prog_6_method_11_code 51 = .ok (.invokevirtual 114, 3) := by decide +kernel
theorem d_Q_isLeaveReady_54 : decode prog_6_method_11_code 54 = .ok (.invokestatic 111, 3) := by decide +kernel
theorem d_Q_isLeaveReady_57 : decode prog_6_method_11_code 57 = .ok (.ifCond .eq 7, 3) := by decide +kernel
theorem d_Q_isLeaveReady_60 : decode prog_6_method_11_code 60 = .ok (.iconst 1, 1) := by decide +kernel
theorem d_Q_isLeaveReady_61 : decode prog_6_method_11_code 61 = .ok (.goto 4, 3) := by decide +kernel
theorem d_Q_isLeaveReady_26 : decode prog_6_method_11_code 26 = .ok (.if_icmp .lt 7, 3) := by decide +kernel
theorem d_Q_isLeaveReady_29 : decode prog_6_method_11_code 29 = .ok (.iload_n 2, 1) := by decide +kernel
theorem d_Q_isLeaveReady_30 : decode prog_6_method_11_code 30 = .ok (.ifCond .eq 34, 3) := by decide +kernel
theorem d_Q_writeSet_0 : decode prog_6_method_12_code 0 = .ok (.aload_n 0, 1) := by decide +kernel
theorem d_Q_writeSet_1 : decode prog_6_method_12_code 1 = .ok (.dup, 1) := by decide +kernel
theorem d_Q_writeSet_2 : decode prog_6_method_12_code 2 = .ok (.getfield 53, 3) := by decide +kernel
theorem d_Q_writeSet_5 : decode prog_6_method_12_code 5 = .ok (.iconst 1, 1) := by decide +kernel
theorem d_Q_writeSet_6 : decode prog_6_method_12_code 6 = .ok (.iload_n 1, 1) := by decide +kernel
theorem d_Q_writeSet_7 : decode prog_6_method_12_code 7 = .ok (.ishl, 1) := by decide +kernel
theorem d_Q_writeSet_8 : decode prog_6_method_12_code 8 = .ok (.ior, 1) := by decide +kernel
theorem d_Q_writeSet_9 : decode prog_6_method_12_code 9 = .ok (.putfield 53, 3) := by decide +kernel
theorem d_Q_writeSet_12 : decode prog_6_method_12_code 12 = .ok (.aload_n 0, 1) := by decide +kernel
theorem d_Q_writeSet_13 : decode prog_6_method_12_code 13 = .ok (.dup, 1) := by decide +kernel
theorem d_Q_writeSet_14 : decode prog_6_method_12_code 14 = .ok (.getfield 65, 3) := by decide +kernel
theorem d_Q_writeSet_17 : decode prog_6_method_12_code 17 = .ok (.iconst 1, 1) := by decide +kernel
theorem d_Q_writeSet_18 : decode prog_6_method_12_code 18 = .ok (.iload_n 1, 1) := by decide +kernel
theorem d_Q_writeSet_19 : decode prog_6_method_12_code 19 = .ok (.ishl, 1) := by decide +kernel
theorem d_Q_writeSet_20 : decode prog_6_method_12_code 20 = .ok (.ior, 1) := by decide +kernel
theorem d_Q_writeSet_21 : decode prog_6_method_12_code 21 = .ok (.putfield 65, 3) := by decide +kernel
theorem d_Q_writeSet_24 : decode prog_6_method_12_code 24 = .ok (.iload_n 1, 1) := by decide +kernel
theorem d_Q_writeSet_25 : decode prog_6_method_12_code 25 = .ok (.ireturn, 1) := by decide +kernel
theorem d_Q_writeVisit_0 : decode prog_6_method_13_code 0 = .ok (.aload_n 0, 1) := by decide +kernel
theorem d_Q_writeVisit_1 : decode prog_6_method_13_code 1 = .ok (.getfield 18, 3) := by decide +kernel
theorem d_Q_writeVisit_4 : decode prog_6_method_13_code 4 = .ok (.iload_n 2, 1) := by decide +kernel
theorem d_Q_writeVisit_5 : decode prog_6_method_13_code 5 = .ok (.dup2, 1) := by decide +kernel
theorem d_Q_writeVisit_6 : decode prog_6_method_13_code 6 = .ok (.iaload, 1) := by decide +kernel
theorem d_Q_writeVisit_7 : decode prog_6_method_13_code 7 = .ok (.iconst 1, 1) := by decide +kernel
theorem d_Q_writeVisit_8 : decode prog_6_method_13_code 8 = .ok (.iadd, 1) := by decide +kernel
theorem d_Q_writeVisit_9 : decode prog_6_method_13_code 9 = .ok (.dup_x2, 1) := by decide +kernel
theorem d_Q_writeVisit_10 : decode prog_6_method_13_code 10 = .ok (.iastore, 1) := by decide +kernel
theorem d_Q_writeVisit_11 : decode prog_6_method_13_code 11 = .ok (.istore_n 3, 1) := by decide +kernel
theorem d_Q_writeVisit_12 : decode prog_6_method_13_code 12 = .ok (.aload_n 0, 1) := by decide +kernel
theorem d_Q_writeVisit_13 : decode prog_6_method_13_code 13 = .ok (.getfield 25, 3) := by decide +kernel
theorem d_Q_writeVisit_16 : decode prog_6_method_13_code 16 = .ok (.aload_n 0, 1) := by decide +kernel
theorem d_Q_writeVisit_17 : decode prog_6_method_13_code 17 = .ok (.getfield 21, 3) := by decide +kernel
theorem d_Q_writeVisit_20 : decode prog_6_method_13_code 20 = .ok (.iload_n 1, 1) := by decide +kernel
theorem d_Q_writeVisit_21 : decode prog_6_method_13_code 21 = .ok (.iload_n 2, 1) := by decide +kernel
theorem d_Q_writeVisit_22 : decode prog_6_method_13_code 22 = .ok (.invokevirtual 56, 3) := by decide +kernel
theorem d_Q_writeVisit_25 : decode prog_6_method_13_code 25 = .ok (.iload_n 3, 1) := by decide +kernel
theorem d_Q_writeVisit_26 : decode prog_6_method_13_code 26 = .ok (.invokevirtual 114, 3) := by decide +kernel
theorem d_Q_writeVisit_29 : decode prog_6_method_13_code 29 = .ok (.istore 4, 2) := by decide +kernel
theorem d_Q_writeVisit_31 : decode prog_6_method_13_code 31 = .ok (.aload_n 0, 1) := by decide +kernel
theorem d_Q_writeVisit_32 : decode prog_6_method_13_code 32 = .ok (.dup, 1) := by decide +kernel
theorem d_Q_writeVisit_33 : decode prog_6_method_13_code 33 = .ok (.getfield 65, 3) := by decide +kernel
theorem d_Q_writeVisit_36 : decode prog_6_method_13_code 36 = .ok (.iload 4, 2) := by decide +kernel
theorem d_Q_writeVisit_38 : decode prog_6_method_13_code 38 = .ok (.iload_n 2, 1) := by decide +kernel
theorem d_Q_writeVisit_39 : decode prog_6_method_13_code 39 = .ok (.iconst 4, 1) := by decide +kernel
theorem d_Q_writeVisit_40 : decode prog_6_method_13_code 40 = .ok (.imul, 1) := by decide +kernel
theorem d_Q_writeVisit_41 : decode prog_6_method_13_code 41 = .ok (.ishl, 1) := by decide +kernel
theorem d_Q_writeVisit_42 : decode prog_6_method_13_code 42 = .ok (.ior, 1) := by decide +kernel
theorem d_Q_writeVisit_43 : decode prog_6_method_13_code 43 = .ok (.putfield 65, 3) := by decide +kernel
theorem d_Q_writeVisit_46 : decode prog_6_method_13_code 46 = .ok (.bipush 100, 2) := by decide +kernel
theorem d_Q_writeVisit_48 : decode prog_6_method_13_code 48 = .ok (.iload_n 2, 1) := by decide +kernel
theorem d_Q_writeVisit_49 : decode prog_6_method_13_code 49 = .ok (.imul, 1) := by decide +kernel
theorem d_Q_writeVisit_50 : decode prog_6_method_13_code 50 = .ok (.iload_n 3, 1) := by decide +kernel
theorem d_Q_writeVisit_51 : decode prog_6_method_13_code 51 = .ok (.iadd, 1) := by decide +kernel
theorem d_Q_writeVisit_52 : decode prog_6_method_13_code 52 = .ok (.ireturn, 1) := by decide +kernel
theorem d_Q_writeLeave_0 : decode prog_6_method_14_code 0 = .ok (.aload_n 0, 1) := by decide +kernel
theorem d_Q_writeLeave_1 : decode prog_6_method_14_code 1 = .ok (.getfield 18, 3) := by decide +kernel
theorem d_Q_writeLeave_4 : decode prog_6_method_14_code 4 = .ok (.iconst 0, 1) := by decide +kernel
theorem d_Q_writeLeave_5 : decode prog_6_method_14_code 5 = .ok (.dup2, 1) := by decide +kernel
theorem d_Q_writeLeave_6 : decode prog_6_method_14_code 6 = .ok (.iaload, 1) := by decide +kernel
theorem d_Q_writeLeave_7 : decode prog_6_method_14_code 7 = .ok (.iconst 1, 1) := by decide +kernel
theorem d_Q_writeLeave_8 : decode prog_6_method_14_code 8 = .ok (.iadd, 1) := by decide +kernel
theorem d_Q_writeLeave_9 : decode prog_6_method_14_code 9 = .ok (.dup_x2, 1) := by decide +kernel
theorem d_Q_writeLeave_10 : decode prog_6_method_14_code 10 = .ok (.iastore, 1) := by decide +kernel
theorem d_Q_writeLeave_11 : decode prog_6_method_14_code 11 = .ok (.istore_n 2, 1) := by decide +kernel
theorem d_Q_writeLeave_12 : decode prog_6_method_14_code 12 = .ok (.iload_n 2, 1) := by decide +kernel
theorem d_Q_writeLeave_13 : decode prog_6_method_14_code 13 = .ok (.aload_n 0, 1) := by decide +kernel
theorem d_Q_writeLeave_14 : decode prog_6_method_14_code 14 = .ok (.iload_n 1, 1) := by decide +kernel
theorem d_Q_writeLeave_15 : decode prog_6_method_14_code 15 = .ok (.iconst 0, 1) := by decide +kernel
theorem d_Q_writeLeave_16 : decode prog_6_method_14_code 16 = .ok (.invokevirtual 79, 3) := by decide +kernel
theorem d_Q_writeLeave_50 : decode prog_6_method_14_code 50 = .ok (.sipush 1000, 3) := by decide +kernel
theorem d_Q_writeLeave_53 : decode prog_6_method_14_code 53 = .ok (.iload_n 2, 1) := by decide +kernel
theorem d_Q_writeLeave_54 : decode prog_6_method_14_code 54 = .ok (.iadd, 1) := by decide +kernel
theorem d_Q_writeLeave_55 : decode prog_6_method_14_code 55 = .ok (.ireturn, 1) := by decide +kernel
theorem d_Q_writeLeave_19 : decode prog_6_method_14_code 19 = .ok (.if_icmp .ge 31, 3) := by decide +kernel
theorem d_Q_writeLeave_22 : decode prog_6_method_14_code 22 = .ok (.aload_n 0, 1) := by decide +kernel
theorem d_Q_writeLeave_23 : decode prog_6_method_14_code 23 = .ok (.dup, 1) := by decide +kernel
theorem d_Q_writeLeave_24 : decode prog_6_method_14_code 24 = .ok (.getfield 65, 3) := by decide +kernel
theorem d_Q_writeLeave_27 : decode prog_6_method_14_code 27 = .ok (.aload_n 0, 1) := by decide +kernel
theorem d_Q_writeLeave_28 : decode prog_6_method_14_code 28 = .ok (.getfield 25, 3) := by decide +kernel
theorem d_Q_writeLeave_31 : decode prog_6_method_14_code 31 = .ok (.aload_n 0, 1) := by decide +kernel
theorem d_Q_writeLeave_32 : decode prog_6_method_14_code 32 = .ok (.getfield 21, 3) := by decide +kernel
theorem d_Q_writeLeave_35 : decode prog_6_method_14_code 35 = .ok (.iload_n 1, 1) := by decide +kernel
theorem d_Q_writeLeave_36 : decode prog_6_method_14_code 36 = .ok (.iconst 0, 1) := by decide +kernel
theorem d_Q_writeLeave_37 : decode prog_6_method_14_code 37 = .ok (.invokevirtual 56, 3) := by decide +kernel
theorem d_Q_writeLeave_40 : decode prog_6_method_14_code 40 = .ok (.iload_n 2, 1) := by decide +kernel
theorem d_Q_writeLeave_41 : decode prog_6_method_14_code 41 = .ok (.iconst 1, 1) := by decide +kernel
theorem d_Q_writeLeave_42 : decode prog_6_method_14_code 42 = .ok (.iadd, 1) := by decide +kernel
theorem d_Q_writeLeave_43 : decode prog_6_method_14_code 43 = .ok (.invokevirtual 60, 3) := by decide +kernel
theorem d_Q_writeLeave_46 : decode prog_6_method_14_code 46 = .ok (.ior, 1) := by decide +kernel
theorem d_Q_writeLeave_47 : decode prog_6_method_14_code 47 = .ok (.putfield 65, 3) := by decide +kernel
theorem d_Q_writeNext_0 : decode prog_6_method_8_code 0 = .ok (.aload_n 0, 1) := by decide +kernel
theorem d_Q_writeNext_1 : decode prog_6_method_8_code 1 = .ok (.iload_n 1, 1) := by decide +kernel
theorem d_Q_writeNext_2 : decode prog_6_method_8_code 2 = .ok (.invokevirtual 85, 3) := by decide +kernel
theorem d_Q_writeNext_5 : decode prog_6_method_8_code 5 = .ok (.istore_n 3, 1) := by decide +kernel
theorem d_Q_writeNext_6 : decode prog_6_method_8_code 6 = .ok (.iload_n 3, 1) := by decide +kernel
theorem d_Q_writeNext_7 : decode prog_6_method_8_code 7 = .ok (.iconst (-1), 1) := by decide +kernel
theorem d_Q_writeNext_8 : decode prog_6_method_8_code 8 = .ok (.if_icmp .eq 9, 3) := by decide +kernel
theorem d_Q_writeNext_17 : decode prog_6_method_8_code 17 = .ok (.aload_n 0, 1) := by decide +kernel
theorem d_Q_writeNext_18 : decode prog_6_method_8_code 18 = .ok (.iload_n 1, 1) := by decide +kernel
theorem d_Q_writeNext_19 : decode prog_6_method_8_code 19 = .ok (.invokevirtual 91, 3) := by decide +kernel
theorem d_Q_writeNext_22 : decode prog_6_method_8_code 22 = .ok (.istore 4, 2) := by decide +kernel
theorem d_Q_writeNext_24 : decode prog_6_method_8_code 24 = .ok (.iload 4, 2) := by decide +kernel
theorem d_Q_writeNext_26 : decode prog_6_method_8_code 26 = .ok (.iconst (-1), 1) := by decide +kernel
theorem d_Q_writeNext_27 : decode prog_6_method_8_code 27 = .ok (.if_icmp .eq 11, 3) := by decide +kernel
theorem d_Q_writeNext_38 : decode prog_6_method_8_code 38 = .ok (.aload_n 0, 1) := by decide +kernel
theorem d_Q_writeNext_39 : decode prog_6_method_8_code 39 = .ok (.iload_n 1, 1) := by decide +kernel
theorem d_Q_writeNext_40 : decode prog_6_method_8_code 40 = .ok (.iload_n 2, 1) := by decide +kernel
theorem d_Q_writeNext_41 : decode prog_6_method_8_code 41 = .ok (.invokevirtual 97, 3) := by decide +kernel
theorem d_Q_writeNext_44 : decode prog_6_method_8_code 44 = .ok (.ifCond .eq 11, 3) := by decide +kernel
theorem d_Q_writeNext_55 : decode prog_6_method_8_code 55 = .ok (.iconst (-1), 1) := by decide +kernel
theorem d_Q_writeNext_56 : decode prog_6_method_8_code 56 = .ok (.ireturn, 1) := by decide +kernel
theorem d_Q_writeNext_47 : decode prog_6_method_8_code 47 = .ok (.aload_n 0, 1) := by decide +kernel
theorem d_Q_writeNext_48 : decode prog_6_method_8_code 48 = .ok (.iload_n 1, 1) := by decide +kernel
theorem d_Q_writeNext_49 : decode prog_6_method_8_code 49 = .ok (.invokevirtual 101, 3) := by decide +kernel
theorem d_Q_writeNext_52 : decode prog_6_method_8_code 52 = .ok (.goto 4, 3) := by decide +kernel
theorem d_Q_writeNext_30 : decode prog_6_method_8_code 30 = .ok (.aload_n 0, 1) := by decide +kernel
theorem d_Q_writeNext_31 : decode prog_6_method_8_code 31 = .ok (.iload_n 1, 1) := by decide +kernel
theorem d_Q_writeNext_32 : decode prog_6_method_8_code 32 = .ok (.iload 4, 2) := by decide +kernel
theorem d_Q_writeNext_34 : decode prog_6_method_8_code 34 = .ok (.invokevirtual 94, 3) := by decide +kernel
theorem d_Q_writeNext_37 : decode prog_6_method_8_code 37 = .ok (.ireturn, 1) := by decide +kernel
theorem d_Q_writeNext_11 : decode prog_6_method_8_code 11 = .ok (.aload_n 0, 1) := by decide +kernel
theorem d_Q_writeNext_12 : decode prog_6_method_8_code 12 = .ok (.iload_n 3, 1) := by decide +kernel
theorem d_Q_writeNext_13 : decode prog_6_method_8_code 13 = .ok (.invokevirtual 88, 3) := by decide +kernel
theorem d_Q_writeNext_16 : decode prog_6_method_8_code 16 = .ok (.ireturn, 1) := by decide +kernel
theorem d_Q_beginWriting_0 : decode prog_6_method_5_code 0 = .ok (.aload_n 0, 1) := by decide +kernel
theorem d_Q_beginWriting_1 : decode prog_6_method_5_code 1 = .ok (.getfield 18, 3) := by decide +kernel
theorem d_Q_beginWriting_4 : decode prog_6_method_5_code 4 = .ok (.iconst 0, 1) := by decide +kernel
theorem d_Q_beginWriting_5 : decode prog_6_method_5_code 5 = .ok (.invokestatic 47, 3) := by decide +kernel
theorem d_Q_beginWriting_8 : decode prog_6_method_5_code 8 = .ok (.aload_n 0, 1) := by decide +kernel
