theorem d_Q_readyVisit_21 : decode prog_6_method_10_code 21 = .ok (.iconst 1, 1) := by decide +kernel
theorem d_Q_readyVisit_22 : decode prog_6_method_10_code 22 = .ok (.iadd, 1) := by decide +kernel
theorem d_Q_readyVisit_23 : decode prog_6_method_10_code 23 = .ok (.istore_n 3, 1) := by decide +kernel
theorem d_Q_readyVisit_24 : decode prog_6_method_10_code 24 = .ok (.iload_n 3, 1) := by decide +kernel
theorem d_Q_readyVisit_25 : decode prog_6_method_10_code 25 = .ok (.aload_n 0, 1) := by decide +kernel
theorem d_Q_readyVisit_26 : decode prog_6_method_10_code 26 = .ok (.iload_n 1, 1) := by decide +kernel
theorem d_Q_readyVisit_27 : decode prog_6_method_10_code 27 = .ok (.iload_n 2, 1) := by decide +kernel
theorem d_Q_readyVisit_28 : decode prog_6_method_10_code 28 = .ok (.invokevirtual 79, 3) := by decide +kernel
theorem d_Q_readyVisit_75 : decode prog_6_method_10_code 75 = .ok (.iinc 2 1, 3) := by decide +kernel
theorem d_Q_readyVisit_78 : decode prog_6_method_10_code 78 = .ok (.goto (-76), 3) := by decide +kernel
theorem d_Q_readyVisit_31 : decode prog_6_method_10_code 31 = .ok (.if_icmp .gt 44, 3) := by decide +kernel
theorem d_Q_readyVisit_34 : decode prog_6_method_10_code 34 = .ok (.aload_n 0, 1) := by decide +kernel
theorem d_Q_readyVisit_35 : decode prog_6_method_10_code 35 = .ok (.getfield 21, 3) := by decide +kernel
theorem d_Q_readyVisit_38 : decode prog_6_method_10_code 38 = .ok (.iload_n 1, 1) := by decide +kernel
theorem d_Q_readyVisit_39 : decode prog_6_method_10_code 39 = .ok (.iload_n 2, 1) := by decide +kernel
theorem d_Q_readyVisit_40 : decode prog_6_method_10_code 40 = .ok (.invokevirtual 56, 3) := by decide +kernel
theorem d_Q_readyVisit_43 : decode prog_6_method_10_code 43 = .ok (.istore 4, 2) := by decide +kernel
theorem d_Q_readyVisit_45 : decode prog_6_method_10_code 45 = .ok (.aload_n 0, 1) := by decide +kernel
theorem d_Q_readyVisit_46 : decode prog_6_method_10_code 46 = .ok (.getfield 25, 3) := by decide +kernel
theorem d_Q_readyVisit_49 : decode prog_6_method_10_code 49 = .ok (.iload 4, 2) := by decide +kernel
theorem d_Q_readyVisit_51 : decode prog_6_method_10_code 51 = .ok (.iload_n 3, 1) := by decide +kernel
theorem d_Q_readyVisit_52 : decode prog_6_method_10_code 52 = .ok (.invokevirtual 60, 3) := by decide +kernel
theorem d_Q_readyVisit_55 : decode prog_6_method_10_code 55 = .ok (.istore 5, 2) := by decide +kernel
theorem d_Q_readyVisit_57 : decode prog_6_method_10_code 57 = .ok (.aload_n 0, 1) := by decide +kernel
theorem d_Q_readyVisit_58 : decode prog_6_method_10_code 58 = .ok (.getfield 53, 3) := by decide +kernel
theorem d_Q_readyVisit_61 : decode prog_6_method_10_code 61 = .ok (.iload 5, 2) := by decide +kernel
theorem d_Q_readyVisit_63 : decode prog_6_method_10_code 63 = .ok (.iload_n 2, 1) := by decide +kernel
theorem d_Q_readyVisit_64 : decode prog_6_method_10_code 64 = .ok (.iconst 4, 1) := by decide +kernel
theorem d_Q_readyVisit_65 : decode prog_6_method_10_code 65 = .ok (.imul, 1) := by decide +kernel
theorem d_Q_readyVisit_66 : decode prog_6_method_10_code 66 = .ok (.ishl, 1) := by decide +kernel
theorem d_Q_readyVisit_67 : decode prog_6_method_10_code 67 = .ok (.invokestatic 111, 3) := by decide +kernel
theorem d_Q_readyVisit_70 : decode prog_6_method_10_code 70 = .ok (.ifCond .eq 5, 3) := by decide +kernel
theorem d_Q_readyVisit_73 : decode prog_6_method_10_code 73 = .ok (.iload_n 2, 1) := by decide +kernel
theorem d_Q_readyVisit_74 : decode prog_6_method_10_code 74 = .ok (.ireturn, 1) := by decide +kernel
theorem d_Q_isLeaveReady_0 : decode prog_6_method_11_code 0 = .ok (.aload_n 0, 1) := by decide +kernel
theorem d_Q_isLeaveReady_1 : decode prog_6_method_11_code 1 = .ok (.getfield 18, 3) := by decide +kernel
theorem d_Q_isLeaveReady_4 : decode prog_6_method_11_code 4 = .ok (.iconst 0, 1) := by decide +kernel
theorem d_Q_isLeaveReady_5 : decode prog_6_method_11_code 5 = .ok (.iaload, 1) := by decide +kernel
theorem d_Q_isLeaveReady_6 : decode prog_6_method_11_code 6 = .ok (.iconst 1, 1) := by decide +kernel
theorem d_Q_isLeaveReady_7 : decode prog_6_method_11_code 7 = .ok (.iadd, 1) := by decide +kernel
theorem d_Q_isLeaveReady_8 : decode prog_6_method_11_code 8 = .ok (.istore_n 3, 1) := by decide +kernel
theorem d_Q_isLeaveReady_9 : decode prog_6_method_11_code 9 = .ok (.aload_n 0, 1) := by decide +kernel
theorem d_Q_isLeaveReady_10 : decode prog_6_method_11_code 10 = .ok (.iload_n 1, 1) := by decide +kernel
theorem d_Q_isLeaveReady_11 : decode prog_6_method_11_code 11 = .ok (.iconst 0, 1) := by decide +kernel
theorem d_Q_isLeaveReady_12 : decode prog_6_method_11_code 12 = .ok (.invokevirtual 79, 3) := by decide +kernel
theorem d_Q_isLeaveReady_15 : decode prog_6_method_11_code 15 = .ok (.istore 4, 2) := by decide +kernel
theorem d_Q_isLeaveReady_17 : decode prog_6_method_11_code 17 = .ok (.iload_n 3, 1) := by decide +kernel
theorem d_Q_isLeaveReady_18 : decode prog_6_method_11_code 18 = .ok (.iload 4, 2) := by decide +kernel
theorem d_Q_isLeaveReady_20 : decode prog_6_method_11_code 20 = .ok (.if_icmp .gt 44, 3) := by decide +kernel
theorem d_Q_isLeaveReady_64 : decode prog_6_method_11_code 64 = .ok (.iconst 0, 1) := by decide +kernel
theorem d_Q_isLeaveReady_65 : decode prog_6_method_11_code 65 = .ok (.ireturn, 1) := by decide +kernel
theorem d_Q_isLeaveReady_23 : decode prog_6_method_11_code 23 = .ok (.iload_n 3, 1) := by decide +kernel
theorem d_Q_isLeaveReady_24 : decode prog_6_method_11_code 24 = .ok (.iload 4, 2) := by decide +kernel
theorem d_Q_isLeaveReady_33 : decode prog_6_method_11_code 33 = .ok (.aload_n 0, 1) := by decide +kernel
theorem d_Q_isLeaveReady_34 : decode prog_6_method_11_code 34 = .ok (.getfield 53, 3) := by decide +kernel
theorem d_Q_isLeaveReady_37 : decode prog_6_method_11_code 37 = .ok (.aload_n 0, 1) := by decide +kernel
theorem d_Q_isLeaveReady_38 : decode prog_6_method_11_code 38 = .ok (.getfield 25, 3) := by decide +kernel
theorem d_Q_isLeaveReady_41 : decode prog_6_method_11_code 41 = .ok (.aload_n 0, 1) := by decide +kernel
theorem d_Q_isLeaveReady_42 : decode prog_6_method_11_code 42 = .ok (.getfield 21, 3) := by decide +kernel
theorem d_Q_isLeaveReady_45 : decode prog_6_method_11_code 45 = .ok (.iload_n 1, 1) := by decide +kernel
theorem d_Q_isLeaveReady_46 : decode prog_6_method_11_code 46 = .ok (.iconst 0, 1) := by decide +kernel
theorem d_Q_isLeaveReady_47 : decode prog_6_method_11_code 47 = .ok (.invokevirtual 56, 3) := by decide +kernel
theorem d_Q_isLeaveReady_50 : decode prog_6_method_11_code 50 = .ok (.iload_n 3, 1) := by decide +kernel
theorem d_Q_isLeaveReady_51 : decode prog_6_method_11_code 51 = .ok (.invokevirtual 114, 3) := by decide +kernel
theorem d_Q_isLeaveReady_54 : decode prog_6_method_11_code 54 = .ok (.invokestatic 111, 3) := by decide +kernel
theorem d_Q_isLeaveReady_57 : decode prog_6_method_11_code 57 = .ok (.ifCond .eq 7, 3) := by decide +kernel
theorem d_Q_isLeaveReady_60 : decode prog_6_method_11_code 60 = .ok (.iconst 1, 1) := by decide +kernel
theorem d_Q_isLeaveReady_61 : decode prog_6_method_11_code 61 = .ok (.goto 4, 3) := by decide +kernel
theorem d_Q_isLeaveReady_26 : decode prog_6_method_11_code 26 = .ok (.if_icmp .lt 7, 3) := by decide +kernel
theorem d_Q_isLeaveReady_29 : decode prog_6_method_11_code 29 = .ok (.iload_n 2, 1) := by decide +kernel
theorem d_Q_isLeaveReady_30 : decode prog_6_method_11_code 30 = .ok (.ifCond .eq 34, 3) := by decide +kernel
theorem d_Q_writeSet_0 : decode prog_6_method_12_code 0 = .ok (.aload_n 0, 1) := by decide +kernel
theorem d_Q_writeSet_1 : decode prog_6_method_12_code 1 = .ok (.dup, 1) := by decide +kernel
theorem d_Q_writeSet_2 : decode prog_6_method_12_code 2 = .ok (.getfield 53, 3) := by decide +kernel
theorem d_Q_writeSet_5 : decode prog_6_method_12_code 5 = .ok (.iconst 1, 1) := by decide +kernel
theorem d_Q_writeSet_6 : decode prog_6_method_12_code 6 = .ok (.iload_n 1, 1) := by decide +kernel
theorem d_Q_writeSet_7 : decode prog_6_method_12_code 7 = .ok (.ishl, 1) := by decide +kernel
theorem d_Q_writeSet_8 : decode prog_6_method_12_code 8 = .ok (.ior, 1) := by decide +kernel
theorem d_Q_writeSet_9 : decode prog_6_method_12_code 9 = .ok (.putfield 53, 3) := by decide +kernel
theorem d_Q_writeSet_12 : decode prog_6_method_12_code 12 = .ok (.aload_n 0, 1) := by decide +kernel
theorem d_Q_writeSet_13 : decode prog_6_method_12_code 13 = .ok (.dup, 1) := by decide +kernel
theorem d_Q_writeSet_14 : decode prog_6_method_12_code 14 = .ok (.getfield 65, 3) := by decide +kernel
theorem d_Q_writeSet_17 : decode prog_6_method_12_code 17 = .ok (.iconst 1, 1) := by decide +kernel
theorem d_Q_writeSet_18 : decode prog_6_method_12_code 18 = .ok (.iload_n 1, 1) := by decide +kernel
theorem d_Q_writeSet_19 : decode prog_6_method_12_code 19 = .ok (.ishl, 1) := by decide +kernel
theorem d_Q_writeSet_20 : decode prog_6_method_12_code 20 = .ok (.ior, 1) := by decide +kernel
theorem d_Q_writeSet_21 : decode prog_6_method_12_code 21 = .ok (.putfield 65, 3) := by decide +kernel
theorem d_Q_writeSet_24 : decode prog_6_method_12_code 24 = .ok (.iload_n 1, 1) := by decide +kernel
theorem d_Q_writeSet_25 : decode prog_6_method_12_code 25 = .ok (.ireturn, 1) := by decide +kernel
theorem d_Q_writeVisit_0 : decode prog_6_method_13_code 0 = .ok (.aload_n 0, 1) := by decide +kernel
theorem d_Q_writeVisit_1 : decode prog_6_method_13_code 1 = .ok (.getfield 18, 3) := by decide +kernel
theorem d_Q_writeVisit_4 : decode prog_6_method_13_code 4 = .ok (.iload_n 2, 1) := by decide +kernel
theorem d_Q_writeVisit_5 : decode prog_6_method_13_code 5 = .ok (.dup2, 1) := by decide +kernel
theorem d_Q_writeVisit_6 : decode prog_6_method_13_code 6 = .ok (.iaload, 1) := by decide +kernel
theorem d_Q_writeVisit_7 : decode prog_6_method_13_code 7 = .ok (.iconst 1, 1) := by decide +kernel
theorem d_Q_writeVisit_8 : decode prog_6_method_13_code 8 = .ok (.iadd, 1) := by decide +kernel
theorem d_Q_writeVisit_9 : decode prog_6_method_13_code 9 = .ok (.dup_x2, 1) := by decide +kernel
theorem d_Q_writeVisit_10 : decode prog_6_method_13_code 10 = .ok (.iastore, 1) := by decide +kernel
theorem d_Q_writeVisit_11 : decode prog_6_method_13_code 11 = .ok (.istore_n 3, 1) := by decide +kernel
theorem d_Q_writeVisit_12 : decode prog_6_method_13_code 12 = .ok (.aload_n 0, 1) := by decide +kernel
theorem d_Q_writeVisit_13 : decode prog_6_method_13_code 13 = .ok (.getfield 25, 3) := by decide +kernel
theorem d_Q_writeVisit_16 : decode prog_6_method_13_code 16 = .ok (.aload_n 0, 1) := by decide +kernel
theorem d_Q_writeVisit_17 : decode prog_6_method_13_code 17 = .ok (.getfield 21, 3) := by decide +kernel
theorem d_Q_writeVisit_20 : decode prog_6_method_13_code 20 = .ok (.iload_n 1, 1) := by decide +kernel
theorem d_Q_writeVisit_21 : decode prog_6_method_13_code 21 = .ok (.iload_n 2, 1) := by decide +kernel
theorem d_Q_writeVisit_22 : decode prog_6_method_13_code 22 = .ok (.invokevirtual 56, 3) := by decide +kernel
theorem d_Q_writeVisit_25 : decode prog_6_method_13_code 25 = .ok (.iload_n 3, 1) := by decide +kernel
theorem d_Q_writeVisit_26 : decode prog_6_method_13_code 26 = .ok (.invokevirtual 114, 3) := by decide +kernel
theorem d_Q_writeVisit_29 : decode prog_6_method_13_code 29 = .ok (.istore 4, 2) := by decide +kernel
theorem d_Q_writeVisit_31 : decode prog_6_method_13_code 31 = .ok (.aload_n 0, 1) := by decide +kernel
theorem d_Q_writeVisit_32 : decode prog_6_method_13_code 32 = .ok (.dup, 1) := by decide +kernel
theorem d_Q_writeVisit_33 : decode prog_6_method_13_code 33 = .ok (.getfield 65, 3) := by decide +kernel
theorem d_Q_writeVisit_36 : decode prog_6_method_13_code 36 = .ok (.iload 4, 2) := by decide +kernel
theorem d_Q_writeVisit_38 : decode prog_6_method_13_code 38 = .ok (.iload_n 2, 1) := by decide +kernel
theorem d_Q_writeVisit_39 : decode prog_6_method_13_code 39 = .ok (.iconst 4, 1) := by decide +kernel
theorem d_Q_writeVisit_40 : decode prog_6_method_13_code 40 = .ok (.imul, 1) := by decide +kernel
theorem d_Q_writeVisit_41 : decode prog_6_method_13_code 41 = .ok (.ishl, 1) := by decide +kernel
theorem d_Q_writeVisit_42 : decode prog_6_method_13_code 42 = .ok (.ior, 1) := by decide +kernel
theorem d_Q_writeVisit_43 : decode prog_6_method_13_code 43 = .ok (.putfield 65, 3) := by decide +kernel
theorem d_Q_writeVisit_46 : decode prog_6_method_13_code 46 = .ok (.bipush 100, 2) := by decide +kernel
theorem d_Q_writeVisit_48 : decode prog_6_method_13_code 48 = .ok (.iload_n 2, 1) := by decide +kernel
theorem d_Q_writeVisit_49 : decode prog_6_method_13_code 49 = .ok (.imul, 1) := by decide +kernel
theorem d_Q_writeVisit_50 : decode prog_6_method_13_code 50 = .ok (.iload_n 3, 1) := by decide +kernel
theorem d_Q_writeVisit_51 : decode prog_6_method_13_code 51 = .ok (.iadd, 1) := by decide +kernel
theorem d_Q_writeVisit_52 : decode prog_6_method_13_code 52 = .ok (.ireturn, 1) := by decide +kernel
theorem d_Q_writeLeave_0 : decode prog_6_method_14_code 0 = .ok (.aload_n 0, 1) := by decide +kernel
theorem d_Q_writeLeave_1 : decode prog_6_method_14_code 1 = .ok (.getfield 18, 3) := by decide +kernel
theorem d_Q_writeLeave_4 : decode prog_6_method_14_code 4 = .ok (.iconst 0, 1) := by decide +kernel
theorem d_Q_writeLeave_5 : decode prog_6_method_14_code 5 = .ok (.dup2, 1) := by decide +kernel
theorem d_Q_writeLeave_6 : decode prog_6_method_14_code 6 = .ok (.iaload, 1) := by decide +kernel
theorem d_Q_writeLeave_7 : decode prog_6_method_14_code 7 = .ok (.iconst 1, 1) := by decide +kernel
theorem d_Q_writeLeave_8 : decode prog_6_method_14_code 8 = .ok (.iadd, 1) := by decide +kernel
theorem d_Q_writeLeave_9 : decode prog_6_method_14_code 9 = .ok (.dup_x2, 1) := by decide +kernel
theorem d_Q_writeLeave_10 : decode prog_6_method_14_code 10 = .ok (.iastore, 1) := by decide +kernel
theorem d_Q_writeLeave_11 : decode prog_6_method_14_code 11 = .ok (.istore_n 2, 1) := by decide +kernel
theorem d_Q_writeLeave_12 : decode prog_6_method_14_code 12 = .ok (.iload_n 2, 1) := by decide +kernel
theorem d_Q_writeLeave_13 : decode prog_6_method_14_code 13 = .ok (.aload_n 0, 1) := by decide +kernel
theorem d_Q_writeLeave_14 : decode prog_6_method_14_code 14 = .ok (.iload_n 1, 1) := by decide +kernel
theorem d_Q_writeLeave_15 : decode prog_6_method_14_code 15 = .ok (.iconst 0, 1) := by decide +kernel
theorem d_Q_writeLeave_16 : decode prog_6_method_14_code 16 = .ok (.invokevirtual 79, 3) := by decide +kernel
theorem d_Q_writeLeave_50 : decode prog_6_method_14_code 50 = .ok (.sipush 1000, 3) := by decide +kernel
theorem d_Q_writeLeave_53 : decode prog_6_method_14_code 53 = .ok (.iload_n 2, 1) := by decide +kernel
theorem d_Q_writeLeave_54 : decode prog_6_method_14_code 54 = .ok (.iadd, 1) := by decide +kernel
theorem d_Q_writeLeave_55 : decode prog_6_method_14_code 55 = .ok (.ireturn, 1) := by decide +kernel
theorem d_Q_writeLeave_19 : decode prog_6_method_14_code 19 = .ok (.if_icmp .ge 31, 3) := by decide +kernel
theorem d_Q_writeLeave_22 : decode prog_6_method_14_code 22 = .ok (.aload_n 0, 1) := by decide +kernel
theorem d_Q_writeLeave_23 : decode prog_6_method_14_code 23 = .ok (.dup, 1) := by decide +kernel
theorem d_Q_writeLeave_24 : decode prog_6_method_14_code 24 = .ok (.getfield 65, 3) := by decide +kernel
theorem d_Q_writeLeave_27 : decode prog_6_method_14_code 27 = .ok (.aload_n 0, 1) := by decide +kernel
theorem d_Q_writeLeave_28 : decode prog_6_method_14_code 28 = .ok (.getfield 25, 3) := by decide +kernel
theorem d_Q_writeLeave_31 : decode prog_6_method_14_code 31 = .ok (.aload_n 0, 1) := by decide +kernel
theorem d_Q_writeLeave_32 : decode prog_6_method_14_code 32 = .ok (.getfield 21, 3) := by decide +kernel
theorem d_Q_writeLeave_35 : decode prog_6_method_14_code 35 = .ok (.iload_n 1, 1) := by decide +kernel
theorem d_Q_writeLeave_36 : decode prog_6_method_14_code 36 = .ok (.iconst 0, 1) := by decide +kernel
theorem d_Q_writeLeave_37 : decode prog_6_method_14_code 37 = .ok (.invokevirtual 56, 3) := by decide +kernel
theorem d_Q_writeLeave_40 : decode prog_6_method_14_code 40 = .ok (.iload_n 2, 1) := by decide +kernel
theorem d_Q_writeLeave_41 : decode prog_6_method_14_code 41 = .ok (.iconst 1, 1) := by decide +kernel
theorem d_Q_writeLeave_42 : decode prog_6_method_14_code 42 = .ok (.iadd, 1) := by decide +kernel
theorem d_Q_writeLeave_43 : decode prog_6_method_14_code 43 = .ok (.invokevirtual 60, 3) := by decide +kernel
theorem d_Q_writeLeave_46 : decode prog_6_method_14_code 46 = .ok (.ior, 1) := by decide +kernel
theorem d_Q_writeLeave_47 : decode prog_6_method_14_code 47 = .ok (.putfield 65, 3) := by decide +kernel
theorem d_Q_writeNext_0 : decode prog_6_method_8_code 0 = .ok (.aload_n 0, 1) := by decide +kernel
theorem d_Q_writeNext_1 : decode prog_6_method_8_code 1 = .ok (.iload_n 1, 1) := by decide +kernel
theorem d_Q_writeNext_2 : decode prog_6_method_8_code 2 = .ok (.invokevirtual 85, 3) := by decide +kernel
theorem d_Q_writeNext_5 : decode prog_6_method_8_code 5 = .ok (.istore_n 3, 1) := by decide +kernel
theorem d_Q_writeNext_6 : decode prog_6_method_8_code 6 = .ok (.iload_n 3, 1) := by decide +kernel
theorem d_Q_writeNext_7 : decode prog_6_method_8_code 7 = .ok (.iconst (-1), 1) := by decide +kernel
theorem d_Q_writeNext_8 : decode prog_6_method_8_code 8 = .ok (.if_icmp .eq 9, 3) := by decide +kernel
theorem d_Q_writeNext_17 : decode prog_6_method_8_code 17 = .ok (.aload_n 0, 1) := by decide +kernel
theorem d_Q_writeNext_18 : decode prog_6_method_8_code 18 = .ok (.iload_n 1, 1) := by decide +kernel
theorem d_Q_writeNext_19 : decode prog_6_method_8_code 19 = .ok (.invokevirtual 91, 3) := by decide +kernel
theorem d_Q_writeNext_22 : decode prog_6_method_8_code 22 = .ok (.istore 4, 2) := by decide +kernel
theorem d_Q_writeNext_24 : decode prog_6_method_8_code 24 = .ok (.iload 4, 2) := by decide +kernel
theorem d_Q_writeNext_26 : decode prog_6_method_8_code 26 = .ok (.iconst (-1), 1) := by decide +kernel
theorem d_Q_writeNext_27 : decode prog_6_method_8_code 27 = .ok (.if_icmp .eq 11, 3) := by decide +kernel
theorem d_Q_writeNext_38 : decode prog_6_method_8_code 38 = .ok (.aload_n 0, 1) := by decide +kernel
theorem d_Q_writeNext_39 : decode prog_6_method_8_code 39 = .ok (.iload_n 1, 1) := by decide +kernel
theorem d_Q_writeNext_40 : decode prog_6_method_8_code 40 = .ok (.iload_n 2, 1) := by decide +kernel
theorem d_Q_writeNext_41 : decode prog_6_method_8_code 41 = .ok (.invokevirtual 97, 3) := by decide +kernel
theorem d_Q_writeNext_44 : decode prog_6_method_8_code 44 = .ok (.ifCond .eq 11, 3) := by decide +kernel
theorem d_Q_writeNext_55 : decode prog_6_method_8_code 55 = .ok (.iconst (-1), 1) := by decide +kernel
theorem d_Q_writeNext_56 : decode prog_6_method_8_code 56 = .ok (.ireturn, 1) := by decide +kernel
theorem d_Q_writeNext_47 : decode prog_6_method_8_code 47 = .ok (.aload_n 0, 1) := by decide +kernel
theorem d_Q_writeNext_48 : decode prog_6_method_8_code 48 = .ok (.iload_n 1, 1) := by decide +kernel
theorem d_Q_writeNext_49 : decode prog_6_method_8_code 49 = .ok (.invokevirtual 101, 3) := by decide +kernel
theorem d_Q_writeNext_52 : decode prog_6_method_8_code 52 = .ok (.goto 4, 3) := by decide +kernel
theorem d_Q_writeNext_30 : decode prog_6_method_8_code 30 = .ok (.aload_n 0, 1) := by decide +kernel
theorem d_Q_writeNext_31 : decode prog_6_method_8_code 31 = .ok (.iload_n 1, 1) := by decide +kernel
theorem d_Q_writeNext_32 : decode prog_6_method_8_code 32 = .ok (.iload 4, 2) := by decide +kernel
theorem d_Q_writeNext_34 : decode prog_6_method_8_code 34 = .ok (.invokevirtual 94, 3) := by decide +kernel
theorem d_Q_writeNext_37 : decode prog_6_method_8_code 37 = .ok (.ireturn, 1) := by decide +kernel
theorem d_Q_writeNext_11 : decode prog_6_method_8_code 11 = .ok (.aload_n 0, 1) := by decide +kernel
theorem d_Q_writeNext_12 : decode prog_6_method_8_code 12 = .ok (.iload_n 3, 1) := by decide +kernel
theorem d_Q_writeNext_13 : decode prog_6_method_8_code 13 = .ok (.invokevirtual 88, 3) := by decide +kernel
theorem d_Q_writeNext_16 : decode prog_6_method_8_code 16 = .ok (.ireturn, 1) := by decide +kernel
theorem d_Q_beginWriting_0 : decode prog_6_method_5_code 0 = .ok (.aload_n 0, 1) := by decide +kernel
theorem d_Q_beginWriting_1 : decode prog_6_method_5_code 1 = .ok (.getfield 18, 3) := by decide +kernel
theorem d_Q_beginWriting_4 : decode prog_6_method_5_code 4 = .ok (.iconst 0, 1) := by decide +kernel
theorem d_Q_beginWriting_5 : decode prog_6_method_5_code 5 = .ok (.invokestatic 47, 3) := by decide +kernel
theorem d_Q_beginWriting_8 : decode prog_6_method_5_code 8 = .ok (.aload_n 0, 1) := by decide +kernel
theorem d_Q_beginWriting_9 : decode prog_6_method_5_code 9 = .ok (.iconst 0, 1) := by decide +kernel
theorem d_Q_beginWriting_10 : decode prog_6_method_5_code 10 = .ok (.putfield 53, 3) := by decide +kernel
theorem d_Q_beginWriting_13 : decode prog_6_method_5_code 13 = .ok (.aload_n 0, 1) := by decide +kernel
theorem d_Q_beginWriting_14 : decode prog_6_method_5_code 14 = .ok (.aload_n 0, 1) := by decide +kernel
theorem d_Q_beginWriting_15 : decode prog_6_method_5_code 15 = .ok (.getfield 25, 3) := by decide +kernel
theorem d_Q_beginWriting_18 : decode prog_6_method_5_code 18 = .ok (.aload_n 0, 1) := by decide +kernel
theorem d_Q_beginWriting_19 : decode prog_6_method_5_code 19 = .ok (.getfield 21, 3) := by decide +kernel
theorem d_Q_beginWriting_22 : decode prog_6_method_5_code 22 = .ok (.iload_n 1, 1) := by decide +kernel
theorem d_Q_beginWriting_23 : decode prog_6_method_5_code 23 = .ok (.iconst 0, 1) := by decide +kernel
theorem d_Q_beginWriting_24 : decode prog_6_method_5_code 24 = .ok (.invokevirtual 56, 3) := by decide +kernel
theorem d_Q_beginWriting_27 : decode prog_6_method_5_code 27 = .ok (.iconst 1, 1) := by decide +kernel
theorem d_Q_beginWriting_28 : decode prog_6_method_5_code 28 = .ok (.invokevirtual 60, 3) := by decide +kernel
theorem d_Q_beginWriting_31 : decode prog_6_method_5_code 31 = .ok (.putfield 65, 3) := by decide +kernel
theorem d_Q_beginWriting_34 : decode prog_6_method_5_code 34 = .ok (.return_, 1) := by decide +kernel
theorem d_Q_fullLength_0 : decode prog_6_method_6_code 0 = .ok (.aload_n 0, 1) := by decide +kernel
theorem d_Q_fullLength_1 : decode prog_6_method_6_code 1 = .ok (.getfield 21, 3) := by decide +kernel
theorem d_Q_fullLength_4 : decode prog_6_method_6_code 4 = .ok (.getfield 68, 3) := by decide +kernel
theorem d_Q_fullLength_7 : decode prog_6_method_6_code 7 = .ok (.iload_n 1, 1) := by decide +kernel
theorem d_Q_fullLength_8 : decode prog_6_method_6_code 8 = .ok (.iaload, 1) := by decide +kernel
theorem d_Q_fullLength_9 : decode prog_6_method_6_code 9 = .ok (.invokestatic 71, 3) := by decide +kernel
theorem d_Q_fullLength_12 : decode prog_6_method_6_code 12 = .ok (.istore_n 2, 1) := by decide +kernel
theorem d_Q_fullLength_13 : decode prog_6_method_6_code 13 = .ok (.iconst 0, 1) := by decide +kernel
theorem d_Q_fullLength_14 : decode prog_6_method_6_code 14 = .ok (.istore_n 3, 1) := by decide +kernel
theorem d_Q_fullLength_15 : decode prog_6_method_6_code 15 = .ok (.iload_n 3, 1) := by decide +kernel
theorem d_Q_fullLength_16 : decode prog_6_method_6_code 16 = .ok (.aload_n 0, 1) := by decide +kernel
theorem d_Q_fullLength_17 : decode prog_6_method_6_code 17 = .ok (.getfield 21, 3) := by decide +kernel
theorem d_Q_fullLength_20 : decode prog_6_method_6_code 20 = .ok (.getfield 76, 3) := by decide +kernel
theorem d_Q_fullLength_23 : decode prog_6_method_6_code 23 = .ok (.iload_n 1, 1) := by decide +kernel
theorem d_Q_fullLength_24 : decode prog_6_method_6_code 24 = .ok (.iaload, 1) := by decide +kernel
theorem d_Q_fullLength_25 : decode prog_6_method_6_code 25 = .ok (.if_icmp .gt 18, 3) := by decide +kernel
theorem d_Q_fullLength_43 : decode prog_6_method_6_code 43 = .ok (.iload_n 2, 1) := by decide +kernel
theorem d_Q_fullLength_44 : decode prog_6_method_6_code 44 = .ok (.ireturn, 1) := by decide +kernel
theorem d_Q_fullLength_28 : decode prog_6_method_6_code 28 = .ok (.iload_n 2, 1) := by decide +kernel
theorem d_Q_fullLength_29 : decode prog_6_method_6_code 29 = .ok (.aload_n 0, 1) := by decide +kernel
theorem d_Q_fullLength_30 : decode prog_6_method_6_code 30 = .ok (.iload_n 1, 1) := by decide +kernel
theorem d_Q_fullLength_31 : decode prog_6_method_6_code 31 = .ok (.iload_n 3, 1) := by decide +kernel
theorem d_Q_fullLength_32 : decode prog_6_method_6_code 32 = .ok (.invokevirtual 79, 3) := by decide +kernel
theorem d_Q_fullLength_35 : decode prog_6_method_6_code 35 = .ok (.iadd, 1) := by decide +kernel
theorem d_Q_fullLength_36 : decode prog_6_method_6_code 36 = .ok (.istore_n 2, 1) := by decide +kernel
theorem d_Q_fullLength_37 : decode prog_6_method_6_code 37 = .ok (.iinc 3 1, 3) := by decide +kernel
theorem d_Q_fullLength_40 : decode prog_6_method_6_code 40 = .ok (.goto (-25), 3) := by decide +kernel
theorem d_Q_write_0 : decode prog_6_method_4_code 0 = .ok (.iconst 0, 1) := by decide +kernel
theorem d_Q_write_1 : decode prog_6_method_4_code 1 = .ok (.istore_n 1, 1) := by decide +kernel
theorem d_Q_write_2 : decode prog_6_method_4_code 2 = .ok (.iload_n 1, 1) := by decide +kernel
theorem d_Q_write_3 : decode prog_6_method_4_code 3 = .ok (.aload_n 0, 1) := by decide +kernel
theorem d_Q_write_4 : decode prog_6_method_4_code 4 = .ok (.getfield 21, 3) := by decide +kernel
theorem d_Q_write_7 : decode prog_6_method_4_code 7 = .ok (.getfield 29, 3) := by decide +kernel
theorem d_Q_write_10 : decode prog_6_method_4_code 10 = .ok (.if_icmp .ge 68, 3) := by decide +kernel
theorem d_Q_write_78 : decode prog_6_method_4_code 78 = .ok (.return_, 1) := by decide +kernel
theorem d_Q_write_13 : decode prog_6_method_4_code 13 = .ok (.aload_n 0, 1) := by decide +kernel
theorem d_Q_write_14 : decode prog_6_method_4_code 14 = .ok (.iload_n 1, 1) := by decide +kernel
theorem d_Q_write_15 : decode prog_6_method_4_code 15 = .ok (.invokevirtual 35, 3) := by decide +kernel
theorem d_Q_write_18 : decode prog_6_method_4_code 18 = .ok (.aload_n 0, 1) := by decide +kernel
theorem d_Q_write_19 : decode prog_6_method_4_code 19 = .ok (.iload_n 1, 1) := by decide +kernel
theorem d_Q_write_20 : decode prog_6_method_4_code 20 = .ok (.invokevirtual 39, 3) := by decide +kernel
theorem d_Q_write_23 : decode prog_6_method_4_code 23 = .ok (.istore_n 2, 1) := by decide +kernel
theorem d_Q_write_24 : decode prog_6_method_4_code 24 = .ok (.iconst 0, 1) := by decide +kernel
theorem d_Q_write_25 : decode prog_6_method_4_code 25 = .ok (.istore_n 3, 1) := by decide +kernel
theorem d_Q_write_26 : decode prog_6_method_4_code 26 = .ok (.iload_n 3, 1) := by decide +kernel
theorem d_Q_write_27 : decode prog_6_method_4_code 27 = .ok (.iload_n 2, 1) := by decide +kernel
theorem d_Q_write_28 : decode prog_6_method_4_code 28 = .ok (.if_icmp .ge 37, 3) := by decide +kernel
theorem d_Q_write_65 : decode prog_6_method_4_code 65 = .ok (.aload_n 0, 1) := by decide +kernel
theorem d_Q_write_66 : decode prog_6_method_4_code 66 = .ok (.getfield 15, 3) := by decide +kernel
theorem d_Q_write_69 : decode prog_6_method_4_code 69 = .ok (.iload_n 1, 1) := by decide +kernel
theorem d_Q_write_70 : decode prog_6_method_4_code 70 = .ok (.iload_n 2, 1) := by decide +kernel
theorem d_Q_write_71 : decode prog_6_method_4_code 71 = .ok (.iastore, 1) := by decide +kernel
theorem d_Q_write_72 : decode prog_6_method_4_code 72 = .ok (.iinc 1 1, 3) := by decide +kernel
theorem d_Q_write_75 : decode prog_6_method_4_code 75 = .ok (.goto (-73), 3) := by decide +kernel
theorem d_Q_write_31 : decode prog_6_method_4_code 31 = .ok (.aload_n 0, 1) := by decide +kernel
theorem d_Q_write_32 : decode prog_6_method_4_code 32 = .ok (.getfield 11, 3) := by decide +kernel
theorem d_Q_write_35 : decode prog_6_method_4_code 35 = .ok (.iload_n 1, 1) := by decide +kernel
theorem d_Q_write_36 : decode prog_6_method_4_code 36 = .ok (.bipush 32, 2) := by decide +kernel
theorem d_Q_write_38 : decode prog_6_method_4_code 38 = .ok (.imul, 1) := by decide +kernel
theorem d_Q_write_39 : decode prog_6_method_4_code 39 = .ok (.iload_n 3, 1) := by decide +kernel
theorem d_Q_write_40 : decode prog_6_method_4_code 40 = .ok (.iadd, 1) := by decide +kernel
theorem d_Q_write_41 : decode prog_6_method_4_code 41 = .ok (.aload_n 0, 1) := by decide +kernel
theorem d_Q_write_42 : decode prog_6_method_4_code 42 = .ok (.iload_n 1, 1) := by decide +kernel
theorem d_Q_write_43 : decode prog_6_method_4_code 43 = .ok (.iload_n 3, 1) := by decide +kernel
theorem d_Q_write_44 : decode prog_6_method_4_code 44 = .ok (.iload_n 2, 1) := by decide +kernel
theorem d_Q_write_45 : decode prog_6_method_4_code 45 = .ok (.iconst 1, 1) := by decide +kernel
theorem d_Q_write_46 : decode prog_6_method_4_code 46 = .ok (.isub, 1) := by decide +kernel
theorem d_Q_write_55 : decode prog_6_method_4_code 55 = .ok (.invokevirtual 43, 3) := by decide +kernel
theorem d_Q_write_58 : decode prog_6_method_4_code 58 = .ok (.iastore, 1) := by decide +kernel
theorem d_Q_write_59 : decode prog_6_method_4_code 59 = .ok (.iinc 3 1, 3) := by decide +kernel
theorem d_Q_write_62 : decode prog_6_method_4_code 62 = .ok (.goto (-36), 3) := by decide +kernel
theorem d_Q_write_47 : decode prog_6_method_4_code 47 = .ok (.if_icmp .ne 7, 3) := by decide +kernel
theorem d_Q_write_54 : decode prog_6_method_4_code 54 = .ok (.iconst 0, 1) := by decide +kernel
theorem d_Q_write_50 : decode prog_6_method_4_code 50 = .ok (.iconst 1, 1) := by decide +kernel
theorem d_Q_write_51 : decode prog_6_method_4_code 51 = .ok (.goto 4, 3) := by decide +kernel
theorem d_Z_hasNode_0 : decode prog_7_method_2_code 0 = .ok (.iload_n 1, 1) := by decide +kernel
theorem d_Z_hasNode_1 : decode prog_7_method_2_code 1 = .ok (.ifCond .lt 15, 3) := by decide +kernel
theorem d_Z_hasNode_16 : decode prog_7_method_2_code 16 = .ok (.iconst 0, 1) := by decide +kernel
theorem d_Z_hasNode_17 : decode prog_7_method_2_code 17 = .ok (.ireturn, 1) := by decide +kernel
theorem d_Z_hasNode_4 : decode prog_7_method_2_code 4 = .ok (.iload_n 1, 1) := by decide +kernel
theorem d_Z_hasNode_5 : decode prog_7_method_2_code 5 = .ok (.aload_n 0, 1) := by decide +kernel
theorem d_Z_hasNode_6 : decode prog_7_method_2_code 6 = .ok (.getfield 28, 3) := by decide +kernel
theorem d_Z_hasNode_9 : decode prog_7_method_2_code 9 = .ok (.if_icmp .ge 7, 3) := by decide +kernel
theorem d_Z_hasNode_12 : decode prog_7_method_2_code 12 = .ok (.iconst 1, 1) := by decide +kernel
theorem d_Z_hasNode_13 : decode prog_7_method_2_code 13 = .ok (.goto 4, 3) := by decide +kernel
theorem d_Z_symbolOf_0 : decode prog_7_method_3_code 0 = .ok (.aload_n 0, 1) := by decide +kernel
theorem d_Z_symbolOf_1 : decode prog_7_method_3_code 1 = .ok (.getfield 24, 3) := by decide +kernel
theorem d_Z_symbolOf_4 : decode prog_7_method_3_code 4 = .ok (.aload_n 0, 1) := by decide +kernel
theorem d_Z_symbolOf_5 : decode prog_7_method_3_code 5 = .ok (.getfield 9, 3) := by decide +kernel
theorem d_Z_symbolOf_8 : decode prog_7_method_3_code 8 = .ok (.iload_n 1, 1) := by decide +kernel
theorem d_Z_symbolOf_9 : decode prog_7_method_3_code 9 = .ok (.iaload, 1) := by decide +kernel
theorem d_Z_symbolOf_10 : decode prog_7_method_3_code 10 = .ok (.iconst 0, 1) := by decide +kernel
theorem d_Z_symbolOf_11 : decode prog_7_method_3_code 11 = .ok (.invokevirtual 32, 3) := by decide +kernel
theorem d_Z_symbolOf_14 : decode prog_7_method_3_code 14 = .ok (.ireturn, 1) := by decide +kernel
theorem d_Z_nodeAt_0 : decode prog_7_method_4_code 0 = .ok (.aload_n 0, 1) := by decide +kernel
theorem d_Z_nodeAt_1 : decode prog_7_method_4_code 1 = .ok (.getfield 21, 3) := by decide +kernel
theorem d_Z_nodeAt_4 : decode prog_7_method_4_code 4 = .ok (.iload_n 1, 1) := by decide +kernel
theorem d_Z_nodeAt_5 : decode prog_7_method_4_code 5 = .ok (.iconst 4, 1) := by decide +kernel
theorem d_Z_nodeAt_6 : decode prog_7_method_4_code 6 = .ok (.imul, 1) := by decide +kernel
theorem d_Z_nodeAt_7 : decode prog_7_method_4_code 7 = .ok (.iload_n 2, 1) := by decide +kernel
theorem d_Z_nodeAt_8 : decode prog_7_method_4_code 8 = .ok (.iadd, 1) := by decide +kernel
theorem d_Z_nodeAt_9 : decode prog_7_method_4_code 9 = .ok (.iaload, 1) := by decide +kernel
theorem d_Z_nodeAt_10 : decode prog_7_method_4_code 10 = .ok (.ireturn, 1) := by decide +kernel
theorem d_Z_canBeChild_0 : decode prog_7_method_6_code 0 = .ok (.iload_n 2, 1) := by decide +kernel
theorem d_Z_canBeChild_1 : decode prog_7_method_6_code 1 = .ok (.aload_n 0, 1) := by decide +kernel
theorem d_Z_canBeChild_2 : decode prog_7_method_6_code 2 = .ok (.getfield 24, 3) := by decide +kernel
theorem d_Z_canBeChild_5 : decode prog_7_method_6_code 5 = .ok (.getfield 42, 3) := by decide +kernel
theorem d_Z_canBeChild_8 : decode prog_7_method_6_code 8 = .ok (.iload_n 1, 1) := by decide +kernel
theorem d_Z_canBeChild_9 : decode prog_7_method_6_code 9 = .ok (.iaload, 1) := by decide +kernel
theorem d_Z_canBeChild_10 : decode prog_7_method_6_code 10 = .ok (.if_icmp .le 14, 3) := by decide +kernel
theorem d_Z_canBeChild_24 : decode prog_7_method_6_code 24 = .ok (.aload_n 0, 1) := by decide +kernel
theorem d_Z_canBeChild_25 : decode prog_7_method_6_code 25 = .ok (.iload_n 3, 1) := by decide +kernel
theorem d_Z_canBeChild_26 : decode prog_7_method_6_code 26 = .ok (.invokevirtual 45, 3) := by decide +kernel
theorem d_Z_canBeChild_29 : decode prog_7_method_6_code 29 = .ok (.ifCond .eq 34, 3) := by decide +kernel
theorem d_Z_canBeChild_63 : decode prog_7_method_6_code 63 = .ok (.iconst 0, 1) := by decide +kernel
theorem d_Z_canBeChild_64 : decode prog_7_method_6_code 64 = .ok (.ireturn, 1) := by decide +kernel
theorem d_Z_canBeChild_32 : decode prog_7_method_6_code 32 = .ok (.aload_n 0, 1) := by decide +kernel
theorem d_Z_canBeChild_33 : decode prog_7_method_6_code 33 = .ok (.getfield 18, 3) := by decide +kernel
theorem d_Z_canBeChild_36 : decode prog_7_method_6_code 36 = .ok (.iload_n 3, 1) := by decide +kernel
theorem d_Z_canBeChild_37 : decode prog_7_method_6_code 37 = .ok (.iaload, 1) := by decide +kernel
theorem d_Z_canBeChild_38 : decode prog_7_method_6_code 38 = .ok (.iconst (-1), 1) := by decide +kernel
theorem d_Z_canBeChild_39 : decode prog_7_method_6_code 39 = .ok (.if_icmp .ne 24, 3) := by decide +kernel
theorem d_Z_canBeChild_42 : decode prog_7_method_6_code 42 = .ok (.aload_n 0, 1) := by decide +kernel
theorem d_Z_canBeChild_43 : decode prog_7_method_6_code 43 = .ok (.iload_n 3, 1) := by decide +kernel
theorem d_Z_canBeChild_44 : decode prog_7_method_6_code 44 = .ok (.invokevirtual 49, 3) := by decide +kernel
theorem d_Z_canBeChild_47 : decode prog_7_method_6_code 47 = .ok (.aload_n 0, 1) := by decide +kernel
theorem d_Z_canBeChild_48 : decode prog_7_method_6_code 48 = .ok (.getfield 24, 3) := by decide +kernel
theorem d_Z_canBeChild_51 : decode prog_7_method_6_code 51 = .ok (.iload_n 1, 1) := by decide +kernel
theorem d_Z_canBeChild_52 : decode prog_7_method_6_code 52 = .ok (.iload_n 2, 1) := by decide +kernel
theorem d_Z_canBeChild_53 : decode prog_7_method_6_code 53 = .ok (.invokevirtual 32, 3) := by decide +kernel
theorem d_Z_canBeChild_56 : decode prog_7_method_6_code 56 = .ok (.if_icmp .ne 7, 3) := by decide +kernel
theorem d_Z_canBeChild_59 : decode prog_7_method_6_code 59 = .ok (.iconst 1, 1) := by decide +kernel
theorem d_Z_canBeChild_60 : decode prog_7_method_6_code 60 = .ok (.goto 4, 3) := by decide +kernel
theorem d_Z_canBeChild_13 : decode prog_7_method_6_code 13 = .ok (.iload_n 3, 1) := by decide +kernel
theorem d_Z_canBeChild_14 : decode prog_7_method_6_code 14 = .ok (.iconst (-1), 1) := by decide +kernel
theorem d_Z_canBeChild_15 : decode prog_7_method_6_code 15 = .ok (.if_icmp .ne 7, 3) := by decide +kernel
theorem d_Z_canBeChild_22 : decode prog_7_method_6_code 22 = .ok (.iconst 0, 1) := by decide +kernel
theorem d_Z_canBeChild_23 : decode prog_7_method_6_code 23 = .ok (.ireturn, 1) := by decide +kernel
theorem d_Z_canBeChild_18 : decode prog_7_method_6_code 18 = .ok (.iconst 1, 1) := by decide +kernel
theorem d_Z_canBeChild_19 : decode prog_7_method_6_code 19 = .ok (.goto 4, 3) := by decide +kernel
theorem d_Z_canBeChildren_0 : decode prog_7_method_5_code 0 = .ok (.aload_n 0, 1) := by decide +kernel
theorem d_Z_canBeChildren_1 : decode prog_7_method_5_code 1 = .ok (.iload_n 1, 1) := by decide +kernel
theorem d_Z_canBeChildren_2 : decode prog_7_method_5_code 2 = .ok (.iconst 1, 1) := by decide +kernel
theorem d_Z_canBeChildren_3 : decode prog_7_method_5_code 3 = .ok (.iload_n 2, 1) := by decide +kernel
theorem d_Z_canBeChildren_4 : decode prog_7_method_5_code 4 = .ok (.invokevirtual 38, 3) := by decide +kernel
theorem d_Z_canBeChildren_7 : decode prog_7_method_5_code 7 = .ok (.ifCond .eq 55, 3) := by decide +kernel
theorem d_Z_canBeChildren_62 : decode prog_7_method_5_code 62 = .ok (.iconst 0, 1) := by decide +kernel
theorem d_Z_canBeChildren_63 : decode prog_7_method_5_code 63 = .ok (.ireturn, 1) := by decide +kernel
theorem d_Z_canBeChildren_10 : decode prog_7_method_5_code 10 = .ok (.aload_n 0, 1) := by decide +kernel
theorem d_Z_canBeChildren_11 : decode prog_7_method_5_code 11 = .ok (.iload_n 1, 1) := by decide +kernel
theorem d_Z_canBeChildren_12 : decode prog_7_method_5_code 12 = .ok (.iconst 2, 1) := by decide +kernel
theorem d_Z_canBeChildren_13 : decode prog_7_method_5_code 13 = .ok (.iload_n 3, 1) := by decide +kernel
theorem d_Z_canBeChildren_14 : decode prog_7_method_5_code 14 = .ok (.invokevirtual 38, 3) := by decide +kernel
theorem d_Z_canBeChildren_17 : decode prog_7_method_5_code 17 = .ok (.ifCond .eq 45, 3) := by decide +kernel
theorem d_Z_canBeChildren_20 : decode prog_7_method_5_code 20 = .ok (.aload_n 0, 1) := by decide +kernel
theorem d_Z_canBeChildren_21 : decode prog_7_method_5_code 21 = .ok (.iload_n 1, 1) := by decide +kernel
theorem d_Z_canBeChildren_22 : decode prog_7_method_5_code 22 = .ok (.iconst 3, 1) := by decide +kernel
theorem d_Z_canBeChildren_23 : decode prog_7_method_5_code 23 = .ok (.iload 4, 2) := by decide +kernel
theorem d_Z_canBeChildren_25 : decode prog_7_method_5_code 25 = .ok (.invokevirtual 38, 3) := by decide +kernel
theorem d_Z_canBeChildren_28 : decode prog_7_method_5_code 28 = .ok (.ifCond .eq 34, 3) := by decide +kernel
theorem d_Z_canBeChildren_31 : decode prog_7_method_5_code 31 = .ok (.iload_n 2, 1) := by decide +kernel
theorem d_Z_canBeChildren_32 : decode prog_7_method_5_code 32 = .ok (.iconst (-1), 1) := by decide +kernel
theorem d_Z_canBeChildren_47 : decode prog_7_method_5_code 47 = .ok (.iload_n 3, 1) := by decide +kernel
theorem d_Z_canBeChildren_48 : decode prog_7_method_5_code 48 = .ok (.iconst (-1), 1) := by decide +kernel
theorem d_Z_canBeChildren_58 : decode prog_7_method_5_code 58 = .ok (.iconst 1, 1) := by decide +kernel
theorem d_Z_canBeChildren_59 : decode prog_7_method_5_code 59 = .ok (.goto 4, 3) := by decide +kernel
theorem d_Z_canBeChildren_49 : decode prog_7_method_5_code 49 = .ok (.if_icmp .eq 9, 3) := by decide +kernel
theorem d_Z_canBeChildren_52 : decode prog_7_method_5_code 52 = .ok (.iload_n 3, 1) := by decide +kernel
theorem d_Z_canBeChildren_53 : decode prog_7_method_5_code 53 = .ok (.iload 4, 2) := by decide +kernel
theorem d_Z_canBeChildren_55 : decode prog_7_method_5_code 55 = .ok (.if_icmp .eq 7, 3) := by decide +kernel
theorem d_Z_canBeChildren_33 : decode prog_7_method_5_code 33 = .ok (.if_icmp .eq 14, 3) := by decide +kernel
theorem d_Z_canBeChildren_36 : decode prog_7_method_5_code 36 = .ok (.iload_n 2, 1) := by decide +kernel
theorem d_Z_canBeChildren_37 : decode prog_7_method_5_code 37 = .ok (.iload_n 3, 1) := by decide +kernel
theorem d_Z_canBeChildren_38 : decode prog_7_method_5_code 38 = .ok (.if_icmp .eq 24, 3) := by decide +kernel
theorem d_Z_canBeChildren_41 : decode prog_7_method_5_code 41 = .ok (.iload_n 2, 1) := by decide +kernel
theorem d_Z_canBeChildren_42 : decode prog_7_method_5_code 42 = .ok (.iload 4, 2) := by decide +kernel
theorem d_Z_canBeChildren_44 : decode prog_7_method_5_code 44 = .ok (.if_icmp .eq 18, 3) := by decide +kernel
theorem d_Z_adopt_0 : decode prog_7_method_8_code 0 = .ok (.aload_n 0, 1) := by decide +kernel
theorem d_Z_adopt_1 : decode prog_7_method_8_code 1 = .ok (.getfield 21, 3) := by decide +kernel
theorem d_Z_adopt_4 : decode prog_7_method_8_code 4 = .ok (.iload_n 1, 1) := by decide +kernel
theorem d_Z_adopt_5 : decode prog_7_method_8_code 5 = .ok (.iconst 4, 1) := by decide +kernel
theorem d_Z_adopt_6 : decode prog_7_method_8_code 6 = .ok (.imul, 1) := by decide +kernel
theorem d_Z_adopt_7 : decode prog_7_method_8_code 7 = .ok (.iload_n 2, 1) := by decide +kernel
theorem d_Z_adopt_8 : decode prog_7_method_8_code 8 = .ok (.iadd, 1) := by decide +kernel
theorem d_Z_adopt_9 : decode prog_7_method_8_code 9 = .ok (.iload_n 3, 1) := by decide +kernel
theorem d_Z_adopt_10 : decode prog_7_method_8_code 10 = .ok (.iastore, 1) := by decide +kernel
