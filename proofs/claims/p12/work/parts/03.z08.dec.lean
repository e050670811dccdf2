theorem d_Z_adopt_11 : decode prog_7_method_8_code 11 = .ok (.iload_n 3, 1) := by decide +kernel
theorem d_Z_adopt_12 : decode prog_7_method_8_code 12 = .ok (.iconst (-1), 1) := by decide +kernel
theorem d_Z_adopt_13 : decode prog_7_method_8_code 13 = .ok (.if_icmp .eq 10, 3) := by decide +kernel
theorem d_Z_adopt_23 : decode prog_7_method_8_code 23 = .ok (.return_, 1) := by decide +kernel
theorem d_Z_adopt_16 : decode prog_7_method_8_code 16 = .ok (.aload_n 0, 1) := by decide +kernel
theorem d_Z_adopt_17 : decode prog_7_method_8_code 17 = .ok (.getfield 18, 3) := by decide +kernel
theorem d_Z_adopt_20 : decode prog_7_method_8_code 20 = .ok (.iload_n 3, 1) := by decide +kernel
theorem d_Z_adopt_21 : decode prog_7_method_8_code 21 = .ok (.iload_n 1, 1) := by decide +kernel
theorem d_Z_adopt_22 : decode prog_7_method_8_code 22 = .ok (.iastore, 1) := by decide +kernel
theorem d_Z_grow_0 : decode prog_7_method_7_code 0 = .ok (.aload_n 0, 1) := by decide +kernel
theorem d_Z_grow_1 : decode prog_7_method_7_code 1 = .ok (.getfield 28, 3) := by decide +kernel
theorem d_Z_grow_4 : decode prog_7_method_7_code 4 = .ok (.istore 6, 2) := by decide +kernel
theorem d_Z_grow_6 : decode prog_7_method_7_code 6 = .ok (.aload_n 0, 1) := by decide +kernel
theorem d_Z_grow_7 : decode prog_7_method_7_code 7 = .ok (.dup, 1) := by decide +kernel
theorem d_Z_grow_8 : decode prog_7_method_7_code 8 = .ok (.getfield 28, 3) := by decide +kernel
theorem d_Z_grow_11 : decode prog_7_method_7_code 11 = .ok (.iconst 1, 1) := by decide +kernel
theorem d_Z_grow_12 : decode prog_7_method_7_code 12 = .ok (.iadd, 1) := by decide +kernel
theorem d_Z_grow_13 : decode prog_7_method_7_code 13 = .ok (.putfield 28, 3) := by decide +kernel
theorem d_Z_grow_16 : decode prog_7_method_7_code 16 = .ok (.aload_n 0, 1) := by decide +kernel
theorem d_Z_grow_17 : decode prog_7_method_7_code 17 = .ok (.getfield 9, 3) := by decide +kernel
theorem d_Z_grow_20 : decode prog_7_method_7_code 20 = .ok (.iload 6, 2) := by decide +kernel
theorem d_Z_grow_22 : decode prog_7_method_7_code 22 = .ok (.iload_n 1, 1) := by decide +kernel
theorem d_Z_grow_23 : decode prog_7_method_7_code 23 = .ok (.iastore, 1) := by decide +kernel
theorem d_Z_grow_24 : decode prog_7_method_7_code 24 = .ok (.aload_n 0, 1) := by decide +kernel
theorem d_Z_grow_25 : decode prog_7_method_7_code 25 = .ok (.getfield 15, 3) := by decide +kernel
theorem d_Z_grow_28 : decode prog_7_method_7_code 28 = .ok (.iload 6, 2) := by decide +kernel
theorem d_Z_grow_30 : decode prog_7_method_7_code 30 = .ok (.iload_n 2, 1) := by decide +kernel
theorem d_Z_grow_31 : decode prog_7_method_7_code 31 = .ok (.iastore, 1) := by decide +kernel
theorem d_Z_grow_32 : decode prog_7_method_7_code 32 = .ok (.aload_n 0, 1) := by decide +kernel
theorem d_Z_grow_33 : decode prog_7_method_7_code 33 = .ok (.getfield 18, 3) := by decide +kernel
theorem d_Z_grow_36 : decode prog_7_method_7_code 36 = .ok (.iload 6, 2) := by decide +kernel
theorem d_Z_grow_38 : decode prog_7_method_7_code 38 = .ok (.iconst (-1), 1) := by decide +kernel
theorem d_Z_grow_39 : decode prog_7_method_7_code 39 = .ok (.iastore, 1) := by decide +kernel
theorem d_Z_grow_40 : decode prog_7_method_7_code 40 = .ok (.aload_n 0, 1) := by decide +kernel
theorem d_Z_grow_41 : decode prog_7_method_7_code 41 = .ok (.getfield 21, 3) := by decide +kernel
theorem d_Z_grow_44 : decode prog_7_method_7_code 44 = .ok (.iload 6, 2) := by decide +kernel
theorem d_Z_grow_46 : decode prog_7_method_7_code 46 = .ok (.iconst 4, 1) := by decide +kernel
theorem d_Z_grow_47 : decode prog_7_method_7_code 47 = .ok (.imul, 1) := by decide +kernel
theorem d_Z_grow_48 : decode prog_7_method_7_code 48 = .ok (.iload 6, 2) := by decide +kernel
theorem d_Z_grow_50 : decode prog_7_method_7_code 50 = .ok (.iastore, 1) := by decide +kernel
theorem d_Z_grow_51 : decode prog_7_method_7_code 51 = .ok (.aload_n 0, 1) := by decide +kernel
theorem d_Z_grow_52 : decode prog_7_method_7_code 52 = .ok (.iload 6, 2) := by decide +kernel
theorem d_Z_grow_54 : decode prog_7_method_7_code 54 = .ok (.iconst 1, 1) := by decide +kernel
theorem d_Z_grow_55 : decode prog_7_method_7_code 55 = .ok (.iload_n 3, 1) := by decide +kernel
theorem d_Z_grow_56 : decode prog_7_method_7_code 56 = .ok (.invokevirtual 53, 3) := by decide +kernel
theorem d_Z_grow_59 : decode prog_7_method_7_code 59 = .ok (.aload_n 0, 1) := by decide +kernel
theorem d_Z_grow_60 : decode prog_7_method_7_code 60 = .ok (.iload 6, 2) := by decide +kernel
theorem d_Z_grow_62 : decode prog_7_method_7_code 62 = .ok (.iconst 2, 1) := by decide +kernel
theorem d_Z_grow_63 : decode prog_7_method_7_code 63 = .ok (.iload 4, 2) := by decide +kernel
theorem d_Z_grow_65 : decode prog_7_method_7_code 65 = .ok (.invokevirtual 53, 3) := by decide +kernel
theorem d_Z_grow_68 : decode prog_7_method_7_code 68 = .ok (.aload_n 0, 1) := by decide +kernel
theorem d_Z_grow_69 : decode prog_7_method_7_code 69 = .ok (.iload 6, 2) := by decide +kernel
theorem d_Z_grow_71 : decode prog_7_method_7_code 71 = .ok (.iconst 3, 1) := by decide +kernel
theorem d_Z_grow_72 : decode prog_7_method_7_code 72 = .ok (.iload 5, 2) := by decide +kernel
theorem d_Z_grow_74 : decode prog_7_method_7_code 74 = .ok (.invokevirtual 53, 3) := by decide +kernel
theorem d_Z_grow_77 : decode prog_7_method_7_code 77 = .ok (.iload 6, 2) := by decide +kernel
theorem d_Z_grow_79 : decode prog_7_method_7_code 79 = .ok (.ireturn, 1) := by decide +kernel
theorem d_Z_clear_0 : decode prog_7_method_9_code 0 = .ok (.aload_n 0, 1) := by decide +kernel
theorem d_Z_clear_1 : decode prog_7_method_9_code 1 = .ok (.iconst 0, 1) := by decide +kernel
theorem d_Z_clear_2 : decode prog_7_method_9_code 2 = .ok (.putfield 28, 3) := by decide +kernel
theorem d_Z_clear_5 : decode prog_7_method_9_code 5 = .ok (.return_, 1) := by decide +kernel
theorem d_U_begin_0 : decode prog_8_method_2_code 0 = .ok (.aload_n 0, 1) := by decide +kernel
theorem d_U_begin_1 : decode prog_8_method_2_code 1 = .ok (.getfield 18, 3) := by decide +kernel
theorem d_U_begin_4 : decode prog_8_method_2_code 4 = .ok (.iconst 0, 1) := by decide +kernel
theorem d_U_begin_5 : decode prog_8_method_2_code 5 = .ok (.invokestatic 36, 3) := by decide +kernel
theorem d_U_begin_8 : decode prog_8_method_2_code 8 = .ok (.aload_n 0, 1) := by decide +kernel
theorem d_U_begin_9 : decode prog_8_method_2_code 9 = .ok (.getfield 21, 3) := by decide +kernel
theorem d_U_begin_12 : decode prog_8_method_2_code 12 = .ok (.iconst 0, 1) := by decide +kernel
theorem d_U_begin_13 : decode prog_8_method_2_code 13 = .ok (.invokestatic 36, 3) := by decide +kernel
theorem d_U_begin_16 : decode prog_8_method_2_code 16 = .ok (.aload_n 0, 1) := by decide +kernel
theorem d_U_begin_17 : decode prog_8_method_2_code 17 = .ok (.getfield 9, 3) := by decide +kernel
theorem d_U_begin_20 : decode prog_8_method_2_code 20 = .ok (.iconst 0, 1) := by decide +kernel
theorem d_U_begin_21 : decode prog_8_method_2_code 21 = .ok (.aload_n 0, 1) := by decide +kernel
theorem d_U_begin_22 : decode prog_8_method_2_code 22 = .ok (.getfield 15, 3) := by decide +kernel
theorem d_U_begin_25 : decode prog_8_method_2_code 25 = .ok (.iload_n 1, 1) := by decide +kernel
theorem d_U_begin_26 : decode prog_8_method_2_code 26 = .ok (.iconst 4, 1) := by decide +kernel
theorem d_U_begin_27 : decode prog_8_method_2_code 27 = .ok (.imul, 1) := by decide +kernel
theorem d_U_begin_28 : decode prog_8_method_2_code 28 = .ok (.iconst 4, 1) := by decide +kernel
theorem d_U_begin_29 : decode prog_8_method_2_code 29 = .ok (.invokestatic 42, 3) := by decide +kernel
theorem d_U_begin_32 : decode prog_8_method_2_code 32 = .ok (.aload_n 0, 1) := by decide +kernel
theorem d_U_begin_33 : decode prog_8_method_2_code 33 = .ok (.getfield 18, 3) := by decide +kernel
theorem d_U_begin_36 : decode prog_8_method_2_code 36 = .ok (.iload_n 1, 1) := by decide +kernel
theorem d_U_begin_37 : decode prog_8_method_2_code 37 = .ok (.aload_n 0, 1) := by decide +kernel
theorem d_U_begin_38 : decode prog_8_method_2_code 38 = .ok (.getfield 24, 3) := by decide +kernel
theorem d_U_begin_41 : decode prog_8_method_2_code 41 = .ok (.getfield 48, 3) := by decide +kernel
theorem d_U_begin_44 : decode prog_8_method_2_code 44 = .ok (.aload_n 0, 1) := by decide +kernel
theorem d_U_begin_45 : decode prog_8_method_2_code 45 = .ok (.getfield 32, 3) := by decide +kernel
theorem d_U_begin_48 : decode prog_8_method_2_code 48 = .ok (.iload_n 1, 1) := by decide +kernel
theorem d_U_begin_49 : decode prog_8_method_2_code 49 = .ok (.invokevirtual 53, 3) := by decide +kernel
theorem d_U_begin_52 : decode prog_8_method_2_code 52 = .ok (.iaload, 1) := by decide +kernel
theorem d_U_begin_53 : decode prog_8_method_2_code 53 = .ok (.iastore, 1) := by decide +kernel
theorem d_U_begin_54 : decode prog_8_method_2_code 54 = .ok (.aload_n 0, 1) := by decide +kernel
theorem d_U_begin_55 : decode prog_8_method_2_code 55 = .ok (.iload_n 1, 1) := by decide +kernel
theorem d_U_begin_56 : decode prog_8_method_2_code 56 = .ok (.putfield 59, 3) := by decide +kernel
theorem d_U_begin_59 : decode prog_8_method_2_code 59 = .ok (.aload_n 0, 1) := by decide +kernel
theorem d_U_begin_60 : decode prog_8_method_2_code 60 = .ok (.iload_n 1, 1) := by decide +kernel
theorem d_U_begin_61 : decode prog_8_method_2_code 61 = .ok (.putfield 63, 3) := by decide +kernel
theorem d_U_begin_64 : decode prog_8_method_2_code 64 = .ok (.aload_n 0, 1) := by decide +kernel
theorem d_U_begin_65 : decode prog_8_method_2_code 65 = .ok (.iconst 1, 1) := by decide +kernel
theorem d_U_begin_66 : decode prog_8_method_2_code 66 = .ok (.putfield 66, 3) := by decide +kernel
theorem d_U_begin_69 : decode prog_8_method_2_code 69 = .ok (.return_, 1) := by decide +kernel
theorem d_U_end_0 : decode prog_8_method_3_code 0 = .ok (.aload_n 0, 1) := by decide +kernel
theorem d_U_end_1 : decode prog_8_method_3_code 1 = .ok (.iconst 0, 1) := by decide +kernel
theorem d_U_end_2 : decode prog_8_method_3_code 2 = .ok (.putfield 66, 3) := by decide +kernel
theorem d_U_end_5 : decode prog_8_method_3_code 5 = .ok (.return_, 1) := by decide +kernel
theorem d_U_isKnown_0 : decode prog_8_method_4_code 0 = .ok (.aload_n 0, 1) := by decide +kernel
theorem d_U_isKnown_1 : decode prog_8_method_4_code 1 = .ok (.getfield 66, 3) := by decide +kernel
theorem d_U_isKnown_4 : decode prog_8_method_4_code 4 = .ok (.ifCond .eq 20, 3) := by decide +kernel
theorem d_U_isKnown_24 : decode prog_8_method_4_code 24 = .ok (.iconst 0, 1) := by decide +kernel
theorem d_U_isKnown_25 : decode prog_8_method_4_code 25 = .ok (.ireturn, 1) := by decide +kernel
theorem d_U_isKnown_7 : decode prog_8_method_4_code 7 = .ok (.aload_n 0, 1) := by decide +kernel
theorem d_U_isKnown_8 : decode prog_8_method_4_code 8 = .ok (.getfield 18, 3) := by decide +kernel
theorem d_U_isKnown_11 : decode prog_8_method_4_code 11 = .ok (.iload_n 1, 1) := by decide +kernel
theorem d_U_isKnown_12 : decode prog_8_method_4_code 12 = .ok (.iaload, 1) := by decide +kernel
theorem d_U_isKnown_13 : decode prog_8_method_4_code 13 = .ok (.iload_n 2, 1) := by decide +kernel
theorem d_U_isKnown_14 : decode prog_8_method_4_code 14 = .ok (.invokestatic 69, 3) := by decide +kernel
theorem d_U_isKnown_17 : decode prog_8_method_4_code 17 = .ok (.ifCond .eq 7, 3) := by decide +kernel
theorem d_U_isKnown_20 : decode prog_8_method_4_code 20 = .ok (.iconst 1, 1) := by decide +kernel
theorem d_U_isKnown_21 : decode prog_8_method_4_code 21 = .ok (.goto 4, 3) := by decide +kernel
theorem d_U_leaveNode_0 : decode prog_8_method_7_code 0 = .ok (.aload_n 0, 1) := by decide +kernel
theorem d_U_leaveNode_1 : decode prog_8_method_7_code 1 = .ok (.getfield 63, 3) := by decide +kernel
theorem d_U_leaveNode_4 : decode prog_8_method_7_code 4 = .ok (.aload_n 0, 1) := by decide +kernel
theorem d_U_leaveNode_5 : decode prog_8_method_7_code 5 = .ok (.getfield 59, 3) := by decide +kernel
theorem d_U_leaveNode_8 : decode prog_8_method_7_code 8 = .ok (.if_icmp .eq 22, 3) := by decide +kernel
theorem d_U_leaveNode_30 : decode prog_8_method_7_code 30 = .ok (.aload_n 0, 1) := by decide +kernel
theorem d_U_leaveNode_31 : decode prog_8_method_7_code 31 = .ok (.getfield 21, 3) := by decide +kernel
theorem d_U_leaveNode_34 : decode prog_8_method_7_code 34 = .ok (.aload_n 0, 1) := by decide +kernel
theorem d_U_leaveNode_35 : decode prog_8_method_7_code 35 = .ok (.getfield 59, 3) := by decide +kernel
theorem d_U_leaveNode_38 : decode prog_8_method_7_code 38 = .ok (.iaload, 1) := by decide +kernel
theorem d_U_leaveNode_39 : decode prog_8_method_7_code 39 = .ok (.aload_n 0, 1) := by decide +kernel
theorem d_U_leaveNode_40 : decode prog_8_method_7_code 40 = .ok (.getfield 28, 3) := by decide +kernel
theorem d_U_leaveNode_43 : decode prog_8_method_7_code 43 = .ok (.getfield 102, 3) := by decide +kernel
theorem d_U_leaveNode_46 : decode prog_8_method_7_code 46 = .ok (.iload_n 1, 1) := by decide +kernel
theorem d_U_leaveNode_47 : decode prog_8_method_7_code 47 = .ok (.iaload, 1) := by decide +kernel
theorem d_U_leaveNode_48 : decode prog_8_method_7_code 48 = .ok (.if_icmp .ne 8, 3) := by decide +kernel
theorem d_U_leaveNode_56 : decode prog_8_method_7_code 56 = .ok (.return_, 1) := by decide +kernel
theorem d_U_leaveNode_51 : decode prog_8_method_7_code 51 = .ok (.aload_n 0, 1) := by decide +kernel
theorem d_U_leaveNode_52 : decode prog_8_method_7_code 52 = .ok (.iconst 2, 1) := by decide +kernel
theorem d_U_leaveNode_53 : decode prog_8_method_7_code 53 = .ok (.putfield 66, 3) := by decide +kernel
theorem d_U_leaveNode_11 : decode prog_8_method_7_code 11 = .ok (.aload_n 0, 1) := by decide +kernel
theorem d_U_leaveNode_12 : decode prog_8_method_7_code 12 = .ok (.aload_n 0, 1) := by decide +kernel
theorem d_U_leaveNode_13 : decode prog_8_method_7_code 13 = .ok (.getfield 32, 3) := by decide +kernel
theorem d_U_leaveNode_16 : decode prog_8_method_7_code 16 = .ok (.getfield 99, 3) := by decide +kernel
theorem d_U_leaveNode_19 : decode prog_8_method_7_code 19 = .ok (.aload_n 0, 1) := by decide +kernel
theorem d_U_leaveNode_20 : decode prog_8_method_7_code 20 = .ok (.getfield 63, 3) := by decide +kernel
theorem d_U_leaveNode_23 : decode prog_8_method_7_code 23 = .ok (.iaload, 1) := by decide +kernel
theorem d_U_leaveNode_24 : decode prog_8_method_7_code 24 = .ok (.putfield 63, 3) := by decide +kernel
theorem d_U_leaveNode_27 : decode prog_8_method_7_code 27 = .ok (.goto 29, 3) := by decide +kernel
theorem d_U_setOccurrence_0 : decode prog_8_method_8_code 0 = .ok (.aload_n 0, 1) := by decide +kernel
theorem d_U_setOccurrence_1 : decode prog_8_method_8_code 1 = .ok (.getfield 32, 3) := by decide +kernel
theorem d_U_setOccurrence_4 : decode prog_8_method_8_code 4 = .ok (.aload_n 0, 1) := by decide +kernel
theorem d_U_setOccurrence_5 : decode prog_8_method_8_code 5 = .ok (.getfield 63, 3) := by decide +kernel
theorem d_U_setOccurrence_8 : decode prog_8_method_8_code 8 = .ok (.iload_n 1, 1) := by decide +kernel
theorem d_U_setOccurrence_9 : decode prog_8_method_8_code 9 = .ok (.iconst 4, 1) := by decide +kernel
theorem d_U_setOccurrence_10 : decode prog_8_method_8_code 10 = .ok (.idiv, 1) := by decide +kernel
theorem d_U_setOccurrence_11 : decode prog_8_method_8_code 11 = .ok (.invokevirtual 89, 3) := by decide +kernel
theorem d_U_setOccurrence_14 : decode prog_8_method_8_code 14 = .ok (.istore_n 3, 1) := by decide +kernel
theorem d_U_setOccurrence_15 : decode prog_8_method_8_code 15 = .ok (.iload_n 1, 1) := by decide +kernel
theorem d_U_setOccurrence_16 : decode prog_8_method_8_code 16 = .ok (.iconst 4, 1) := by decide +kernel
theorem d_U_setOccurrence_17 : decode prog_8_method_8_code 17 = .ok (.irem, 1) := by decide +kernel
theorem d_U_setOccurrence_18 : decode prog_8_method_8_code 18 = .ok (.istore 4, 2) := by decide +kernel
theorem d_U_setOccurrence_20 : decode prog_8_method_8_code 20 = .ok (.aload_n 0, 1) := by decide +kernel
theorem d_U_setOccurrence_21 : decode prog_8_method_8_code 21 = .ok (.getfield 15, 3) := by decide +kernel
theorem d_U_setOccurrence_24 : decode prog_8_method_8_code 24 = .ok (.iload_n 3, 1) := by decide +kernel
theorem d_U_setOccurrence_25 : decode prog_8_method_8_code 25 = .ok (.iconst 4, 1) := by decide +kernel
theorem d_U_setOccurrence_26 : decode prog_8_method_8_code 26 = .ok (.imul, 1) := by decide +kernel
theorem d_U_setOccurrence_27 : decode prog_8_method_8_code 27 = .ok (.iload 4, 2) := by decide +kernel
theorem d_U_setOccurrence_29 : decode prog_8_method_8_code 29 = .ok (.iadd, 1) := by decide +kernel
theorem d_U_setOccurrence_30 : decode prog_8_method_8_code 30 = .ok (.iload_n 2, 1) := by decide +kernel
theorem d_U_setOccurrence_31 : decode prog_8_method_8_code 31 = .ok (.iastore, 1) := by decide +kernel
theorem d_U_setOccurrence_32 : decode prog_8_method_8_code 32 = .ok (.aload_n 0, 1) := by decide +kernel
theorem d_U_setOccurrence_33 : decode prog_8_method_8_code 33 = .ok (.getfield 18, 3) := by decide +kernel
theorem d_U_setOccurrence_36 : decode prog_8_method_8_code 36 = .ok (.iload_n 3, 1) := by decide +kernel
theorem d_U_setOccurrence_37 : decode prog_8_method_8_code 37 = .ok (.dup2, 1) := by decide +kernel
theorem d_U_setOccurrence_38 : decode prog_8_method_8_code 38 = .ok (.iaload, 1) := by decide +kernel
theorem d_U_setOccurrence_39 : decode prog_8_method_8_code 39 = .ok (.iconst 1, 1) := by decide +kernel
theorem d_U_setOccurrence_40 : decode prog_8_method_8_code 40 = .ok (.iload 4, 2) := by decide +kernel
theorem d_U_setOccurrence_42 : decode prog_8_method_8_code 42 = .ok (.ishl, 1) := by decide +kernel
theorem d_U_setOccurrence_43 : decode prog_8_method_8_code 43 = .ok (.ior, 1) := by decide +kernel
theorem d_U_setOccurrence_44 : decode prog_8_method_8_code 44 = .ok (.iastore, 1) := by decide +kernel
theorem d_U_setOccurrence_45 : decode prog_8_method_8_code 45 = .ok (.return_, 1) := by decide +kernel
theorem d_U_valueOf_0 : decode prog_8_method_10_code 0 = .ok (.aload_n 0, 1) := by decide +kernel
theorem d_U_valueOf_1 : decode prog_8_method_10_code 1 = .ok (.getfield 32, 3) := by decide +kernel
theorem d_U_valueOf_4 : decode prog_8_method_10_code 4 = .ok (.aload_n 0, 1) := by decide +kernel
theorem d_U_valueOf_5 : decode prog_8_method_10_code 5 = .ok (.getfield 63, 3) := by decide +kernel
theorem d_U_valueOf_8 : decode prog_8_method_10_code 8 = .ok (.iload_n 1, 1) := by decide +kernel
theorem d_U_valueOf_9 : decode prog_8_method_10_code 9 = .ok (.iconst 4, 1) := by decide +kernel
theorem d_U_valueOf_10 : decode prog_8_method_10_code 10 = .ok (.idiv, 1) := by decide +kernel
theorem d_U_valueOf_11 : decode prog_8_method_10_code 11 = .ok (.invokevirtual 89, 3) := by decide +kernel
theorem d_U_valueOf_14 : decode prog_8_method_10_code 14 = .ok (.istore_n 2, 1) := by decide +kernel
theorem d_U_valueOf_15 : decode prog_8_method_10_code 15 = .ok (.aload_n 0, 1) := by decide +kernel
theorem d_U_valueOf_16 : decode prog_8_method_10_code 16 = .ok (.getfield 15, 3) := by decide +kernel
theorem d_U_valueOf_19 : decode prog_8_method_10_code 19 = .ok (.iload_n 2, 1) := by decide +kernel
theorem d_U_valueOf_20 : decode prog_8_method_10_code 20 = .ok (.iconst 4, 1) := by decide +kernel
theorem d_U_valueOf_21 : decode prog_8_method_10_code 21 = .ok (.imul, 1) := by decide +kernel
theorem d_U_valueOf_22 : decode prog_8_method_10_code 22 = .ok (.iload_n 1, 1) := by decide +kernel
theorem d_U_valueOf_23 : decode prog_8_method_10_code 23 = .ok (.iconst 4, 1) := by decide +kernel
theorem d_U_valueOf_24 : decode prog_8_method_10_code 24 = .ok (.irem, 1) := by decide +kernel
theorem d_U_valueOf_25 : decode prog_8_method_10_code 25 = .ok (.iadd, 1) := by decide +kernel
theorem d_U_valueOf_26 : decode prog_8_method_10_code 26 = .ok (.iaload, 1) := by decide +kernel
