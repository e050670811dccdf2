theorem d_Z_adopt_11 : decode prog_7_method_8_code 11 = .ok (.iload_n 3, 1) := by decide +kernel
theorem d_Z_adopt_12 : decode prog_7_method_8_code 12 = .ok (.iconst (-1), 1) := by decide +kernel
theorem d_Z_adopt_13 : decode prog_7_method_8_code 13 = .ok (.if_icmp .eq 10, 3) := by decide +kernel
theorem d_Z_adopt_23 : decode prog_7_method_8_code 23 = .ok (.return_, 1) := by decide +kernel
theorem d_Z_adopt_16 : decode prog_7_method_8_code 16 = .ok (.aload_n 0, 1) := by decide +kernel
theorem d_Z_adopt_17 : decode prog_7_method_8_code 17 = .ok (.getfield 18, 3) := by decide +kernel
theorem d_Z_adopt_20 : decode prog_7_method_8_code 20 = .ok (.iload_n 3, 1) := by decide +kernel
theorem d_Z_adopt_21 : decode prog_7_method_8_code 21 = .ok (.iload_n 1, 1) := by decide +kernel
theorem d_Z_adopt_22 : decode prog_7_method_8_code 22 = .ok (.iastore, 1) := by decide +kernel
theorem d_Z_grow_0 : decode prog_7_method_7_code 0 = .ok (.aload_n 0, 1) := by decide +kernel
theorem d_Z_grow_1 : decode prog_7_method_7_code 1 = .ok (.getfield 28, 3) := by decide +kernel
theorem d_Z_grow_4 : decode prog_7_method_7_code 4 = .ok (.istore 6, 2) := by decide +kernel
theorem d_Z_grow_6 : decode prog_7_method_7_code 6 = .ok (.aload_n 0, 1) := by decide +kernel
theorem d_Z_grow_7 : decode prog_7_method_7_code 7 = .ok (.dup, 1) := by decide +kernel
theorem d_Z_grow_8 : decode prog_7_method_7_code 8 = .ok (.getfield 28, 3) := by decide +kernel
theorem d_Z_grow_11 : decode prog_7_method_7_code 11 = .ok (.iconst 1, 1) := by decide +kernel
theorem d_Z_grow_12 : decode prog_7_method_7_code 12 = .ok (.iadd, 1) := by decide +kernel
theorem d_Z_grow_13 : decode prog_7_method_7_code 13 = .ok (.putfield 28, 3) := by decide +kernel
theorem d_Z_grow_16 : decode prog_7_method_7_code 16 = .ok (.aload_n 0, 1) := by decide +kernel
theorem d_Z_grow_17 : decode prog_7_method_7_code 17 = .ok (.getfield 9, 3) := by decide +kernel
theorem d_Z_grow_20 : decode prog_7_method_7_code 20 = .ok (.iload 6, 2) := by decide +kernel
theorem d_Z_grow_22 : decode prog_7_method_7_code 22 = .ok (.iload_n 1, 1) := by decide +kernel
theorem d_Z_grow_23 : decode prog_7_method_7_code 23 = .ok (.iastore, 1) := by decide +kernel
theorem d_Z_grow_24 : decode prog_7_method_7_code 24 = .ok (.aload_n 0, 1) := by decide +kernel
theorem d_Z_grow_25 : decode prog_7_method_7_code 25 = .ok (.getfield 15, 3) := by decide +kernel
theorem d_Z_grow_28 : decode prog_7_method_7_code 28 = .ok (.iload 6, 2) := by decide +kernel
theorem d_Z_grow_30 : decode prog_7_method_7_code 30 = .ok (.iload_n 2, 1) := by decide +kernel
theorem d_Z_grow_31 : decode prog_7_method_7_code 31 = .ok (.iastore, 1) := by decide +kernel
theorem d_Z_grow_32 : decode prog_7_method_7_code 32 = .ok (.aload_n 0, 1) := by decide +kernel
theorem d_Z_grow_33 : decode prog_7_method_7_code 33 = .ok (.getfield 18, 3) := by decide +kernel
theorem d_Z_grow_36 : decode prog_7_method_7_code 36 = .ok (.iload 6, 2) := by decide +kernel
theorem d_Z_grow_38 : decode prog_7_method_7_code 38 = .ok (.iconst (-1), 1) := by decide +kernel
theorem d_Z_grow_39 : decode prog_7_method_7_code 39 = .ok (.iastore, 1) := by decide +kernel
theorem d_Z_grow_40 : decode prog_7_method_7_code 40 = .ok (.aload_n 0, 1) := by decide +kernel
theorem d_Z_grow_41 : decode prog_7_method_7_code 41 = .ok (.getfield 21, 3) := by decide +kernel
theorem d_Z_grow_44 : decode prog_7_method_7_code 44 = .ok (.iload 6, 2) := by decide +kernel
theorem d_Z_grow_46 : decode prog_7_method_7_code 46 = .ok (.iconst 4, 1) := by decide +kernel
theorem d_Z_grow_47 : decode prog_7_method_7_code 47 = .ok (.imul, 1) := by decide +kernel
theorem d_Z_grow_48 : decode prog_7_method_7_code 48 = .ok (.iload 6, 2) := by decide +kernel
theorem d_Z_grow_50 : decode prog_7_method_7_code 50 = .ok (.iastore, 1) := by decide +kernel
theorem d_Z_grow_51 : decode prog_7_method_7_code 51 = .ok (.aload_n 0, 1) := by decide +kernel
theorem d_Z_grow_52 : decode prog_7_method_7_code 52 = .ok (.iload 6, 2) := by decide +kernel
theorem d_Z_grow_54 : decode prog_7_method_7_code 54 = .ok (.iconst 1, 1) := by decide +kernel
theorem d_Z_grow_55 : decode prog_7_method_7_code 55 = .ok (.iload_n 3, 1) := by decide +kernel
theorem d_Z_grow_56 : decode prog_7_method_7_code 56 = .ok (.invokevirtual 53, 3) := by decide +kernel
theorem d_Z_grow_59 : decode prog_7_method_7_code 59 = .ok (.aload_n 0, 1) := by decide +kernel
theorem d_Z_grow_60 : decode prog_7_method_7_code 60 = .ok (.iload 6, 2) := by decide +kernel
theorem d_Z_grow_62 : decode prog_7_method_7_code 62 = .ok (.iconst 2, 1) := by decide +kernel
theorem d_Z_grow_63 : decode prog_7_method_7_code 63 = .ok (.iload 4, 2) := by decide +kernel
theorem d_Z_grow_65 : decode prog_7_method_7_code 65 = .ok (.invokevirtual 53, 3) := by decide +kernel
theorem d_Z_grow_68 : decode prog_7_method_7_code 68 = .ok (.aload_n 0, 1) := by decide +kernel
theorem d_Z_grow_69 : decode prog_7_method_7_code 69 = .ok (.iload 6, 2) := by decide +kernel
theorem d_Z_grow_71 : decode prog_7_method_7_code 71 = .ok (.iconst 3, 1) := by decide +kernel
theorem d_Z_grow_72 : decode prog_7_method_7_code 72 = .ok (.iload 5, 2) := by decide +kernel
theorem d_Z_grow_74 : decode prog_7_method_7_code 74 = .ok (.invokevirtual 53, 3) := by decide +kernel
theorem d_Z_grow_77 : decode prog_7_method_7_code 77 = .ok (.iload 6, 2) := by decide +kernel
theorem d_Z_grow_79 : decode prog_7_method_7_code 79 = .ok (.ireturn, 1) := by decide +kernel
theorem d_Z_clear_0 : decode prog_7_method_9_code 0 = .ok (.aload_n 0, 1) := by decide +kernel
theorem d_Z_clear_1 : decode prog_7_method_9_code 1 = .ok (.iconst 0, 1) := by decide +kernel
theorem d_Z_clear_2 : decode prog_7_method_9_code 2 = .ok (.putfield 28, 3) := by decide +kernel
theorem d_Z_clear_5 : decode prog_7_method_9_code 5 = .ok (.return_, 1) := by decide +kernel
theorem d_U_begin_0 : decode prog_8_method_2_code 0 = .ok (.aload_n 0, 1) := by decide +kernel
theorem d_U_begin_1 : decode prog_8_method_2_code 1 = .ok (.getfield 18, 3) := by decide +kernel
theorem d_U_begin_4 : decode prog_8_method_2_code 4 = .ok (.iconst 0, 1) := by decide +kernel
theorem d_U_begin_5 : decode prog_8_method_2_code 5 = .ok (.invokestatic 36, 3) := by decide +kernel
theorem d_U_begin_8 : decode prog_8_method_2_code 8 = .ok (.aload_n 0, 1) := by decide +kernel
theorem d_U_begin_9 : decode prog_8_method_2_code 9 = .ok (.getfield 21, 3) := by decide +kernel
theorem d_U_begin_12 : decode prog_8_method_2_code 12 = .ok (.iconst 0, 1) := by decide +kernel
theorem d_U_begin_13 : decode prog_8_method_2_code 13 = .ok (.invokestatic 36, 3) := by decide +kernel
theorem d_U_begin_16 : decode prog_8_method_2_code 16 = .ok (.aload_n 0, 1) := by decide +kernel
theorem d_U_begin_17 : decode prog_8_method_2_code 17 = .ok (.getfield 9, 3) := by decide +kernel
theorem d_U_begin_20 : decode prog_8_method_2_code 20 = .ok (.iconst 0, 1) := by decide +kernel
theorem d_U_begin_21 : decode prog_8_method_2_code 21 = .ok (.aload_n 0, 1) := by decide +kernel
theorem d_U_begin_22 : decode prog_8_method_2_code 22 = .ok (.getfield 15, 3) := by decide +kernel
theorem d_U_begin_25 : decode prog_8_method_2_code 25 = .ok (.iload_n 1, 1) := by decide +kernel
theorem d_U_begin_26 : decode prog_8_method_2_code 26 = .ok (.iconst 4, 1) := by decide +kernel
theorem d_U_begin_27 : decode prog_8_method_2_code 27 = .ok (.imul, 1) := by decide +kernel
theorem d_U_begin_28 : decode prog_8_method_2_code 28 = .ok (.iconst 4, 1) := by decide +kernel
theorem d_U_begin_29 : decode prog_8_method_2_code 29 = .ok (.invokestatic 42, 3) := by decide +kernel
theorem d_U_begin_32 : decode prog_8_method_2_code 32 = .ok (.aload_n 0, 1) := by decide +kernel
theorem d_U_begin_33 : decode prog_8_method_2_code 33 = .ok (.getfield 18, 3) := by decide +kernel
theorem d_U_begin_36 : decode prog_8_method_2_code 36 = .ok (.iload_n 1, 1) := by decide +kernel
theorem d_U_begin_37 : decode prog_8_method_2_code 37 = .ok (.aload_n 0, 1) := by decide +kernel
theorem d_U_begin_38 : decode prog_8_method_2_code 38 = .ok (.getfield 24, 3) := by decide +kernel
theorem d_U_begin_41 : decode prog_8_method_2_code 41 = .ok (.getfield 48, 3) := by decide +kernel
theorem d_U_begin_44 : decode prog_8_method_2_code 44 = .ok (.aload_n 0, 1) := by decide +kernel
theorem d_U_begin_45 : decode prog_8_method_2_code 45 = .ok (.getfield 32, 3) := by decide +kernel
theorem d_U_begin_48 : decode prog_8_method_2_code 48 = .ok (.iload_n 1, 1) := by decide +kernel
theorem d_U_begin_49 : decode prog_8_method_2_code 49 = .ok (.invokevirtual 53, 3) := by decide +kernel
theorem d_U_begin_52 : decode prog_8_method_2_code 52 = .ok (.iaload, 1) := by decide +kernel
theorem d_U_begin_53 : decode prog_8_method_2_code 53 = .ok (.iastore, 1) := by decide +kernel
theorem d_U_begin_54 : decode prog_8_method_2_code 54 = .ok (.aload_n 0, 1) := by decide +kernel
theorem d_U_begin_55 : decode prog_8_method_2_code 55 = .ok (.iload_n 1, 1) := by decide +kernel
theorem d_U_begin_56 : decode prog_8_method_2_code 56 = .ok (.putfield 59, 3) := by decide +kernel
theorem d_U_begin_59 : decode prog_8_method_2_code 59 = .ok (.aload_n 0, 1) := by decide +kernel
theorem d_U_begin_60 : decode prog_8_method_2_code 60 = .ok (.iload_n 1, 1) := by decide +kernel
theorem d_U_begin_61 : decode prog_8_method_2_code 61 = .ok (.putfield 63, 3) := by decide +kernel
theorem d_U_begin_64 : decode prog_8_method_2_code 64 = .ok (.aload_n 0, 1) := by decide +kernel
theorem d_U_begin_65 : decode prog_8_method_2_code 65 = .ok (.iconst 1, 1) := by decide +kernel
theorem d_U_begin_66 : decode prog_8_method_2_code 66 = .ok (.putfield 66, 3) := by decide +kernel
theorem d_U_begin_69 : decode prog_8_method_2_code 69 = .ok (.return_, 1) := by decide +kernel
theorem d_U_end_0 : decode prog_8_method_3_code 0 = .ok (.aload_n 0, 1) := by decide +kernel
theorem d_U_end_1 : decode prog_8_method_3_code 1 = .ok (.iconst 0, 1) := by decide +kernel
theorem d_U_end_2 : decode prog_8_method_3_code 2 = .ok (.putfield 66, 3) := by decide +kernel
theorem d_U_end_5 : decode prog_8_method_3_code 5 = .ok (.return_, 1) := by decide +kernel
theorem d_U_isKnown_0 : decode prog_8_method_4_code 0 = .ok (.aload_n 0, 1) := by decide +kernel
theorem d_U_isKnown_1 : decode prog_8_method_4_code 1 = .ok (.getfield 66, 3) := by decide +kernel
theorem d_U_isKnown_4 : decode prog_8_method_4_code 4 = .ok (.ifCond .eq 20, 3) := by decide +kernel
theorem d_U_isKnown_24 : decode prog_8_method_4_code 24 = .ok (.iconst 0, 1) := by decide +kernel
theorem d_U_isKnown_25 : decode prog_8_method_4_code 25 = .ok (.ireturn, 1) := by decide +kernel
theorem d_U_isKnown_7 : decode prog_8_method_4_code 7 = .ok (.aload_n 0, 1) := by decide +kernel
theorem d_U_isKnown_8 : decode prog_8_method_4_code 8 = .ok (.getfield 18, 3) := by decide +kernel
theorem d_U_isKnown_11 : decode prog_8_method_4_code 11 = .ok (.iload_n 1, 1) := by decide +kernel
theorem d_U_isKnown_12 : decode prog_8_method_4_code 12 = .ok (.iaload, 1) := by decide +kernel
theorem d_U_isKnown_13 : decode prog_8_method_4_code 13 = .ok (.iload_n 2, 1) := by decide +kernel
theorem d_U_isKnown_14 : decode prog_8_method_4_code 14 = .ok (.invokestatic 69, 3) := by decide +kernel
theorem d_U_isKnown_17 : decode prog_8_method_4_code 17 = .ok (.ifCond .eq 7, 3) := by decide +kernel
theorem d_U_isKnown_20 : decode prog_8_method_4_code 20 = .ok (.iconst 1, 1) := by decide +kernel
theorem d_U_isKnown_21 : decode prog_8_method_4_code 21 = .ok (.goto 4, 3) := by decide +kernel
theorem d_U_leaveNode_0 : decode prog_8_method_7_code 0 = .ok (.aload_n 0, 1) := by decide +kernel
theorem d_U_leaveNode_1 : decode prog_8_method_7_code 1 = .ok (.getfield 63, 3) := by decide +kernel
theorem d_U_leaveNode_4 : decode prog_8_method_7_code 4 = .ok (.aload_n 0, 1) := by decide +kernel
theorem d_U_leaveNode_5 : decode prog_8_method_7_code 5 = .ok (.getfield 59, 3) := by decide +kernel
theorem d_U_leaveNode_8 : decode prog_8_method_7_code 8 = .ok (.if_icmp .eq 22, 3) := by decide +kernel
theorem d_U_leaveNode_30 : decode prog_8_method_7_code 30 = .ok (.aload_n 0, 1) := by decide +kernel
theorem d_U_leaveNode_31 : decode prog_8_method_7_code 31 = .ok (.getfield 21, 3) := by decide +kernel
theorem d_U_leaveNode_34 : decode prog_8_method_7_code 34 = .ok (.aload_n 0, 1) := by decide +kernel
theorem d_U_leaveNode_35 : decode prog_8_method_7_code 35 = .ok (.getfield 59, 3) := by decide +kernel
theorem d_U_leaveNode_38 : decode prog_8_method_7_code 38 = .ok (.iaload, 1) := by decide +kernel
theorem d_U_leaveNode_39 : decode prog_8_method_7_code 39 = .ok (.aload_n 0, 1) := by decide +kernel
theorem d_U_leaveNode_40 : decode prog_8_method_7_code 40 = .ok (.getfield 28, 3) := by decide +kernel
theorem d_U_leaveNode_43 : decode prog_8_method_7_code 43 = .ok (.getfield 102, 3) := by decide +kernel
theorem d_U_leaveNode_46 : decode prog_8_method_7_code 46 = .ok (.iload_n 1, 1) := by decide +kernel
theorem d_U_leaveNode_47 : decode prog_8_method_7_code 47 = .ok (.iaload, 1) := by decide +kernel
theorem d_U_leaveNode_48 : decode prog_8_method_7_code 48 = .ok (.if_icmp .ne 8, 3) := by decide +kernel
theorem d_U_leaveNode_56 : decode prog_8_method_7_code 56 = .ok (.return_, 1) := by decide +kernel
theorem d_U_leaveNode_51 : decode prog_8_method_7_code 51 = .ok (.aload_n 0, 1) := by decide +kernel
theorem d_U_leaveNode_52 : decode prog_8_method_7_code 52 = .ok (.iconst 2, 1) := by decide +kernel
theorem d_U_leaveNode_53 : decode prog_8_method_7_code 53 = .ok (.putfield 66, 3) := by decide +kernel
theorem d_U_leaveNode_11 : decode prog_8_method_7_code 11 = .ok (.aload_n 0, 1) := by decide +kernel
theorem d_U_leaveNode_12 : decode prog_8_method_7_code 12 = .ok (.aload_n 0, 1) := by decide +kernel
theorem d_U_leaveNode_13 : decode prog_8_method_7_code 13 = .ok (.getfield 32, 3) := by decide +kernel
theorem d_U_leaveNode_16 : decode prog_8_method_7_code 16 = .ok (.getfield 99, 3) := by decide +kernel
theorem d_U_leaveNode_19 : decode prog_8_method_7_code 19 = .ok (.aload_n 0, 1) := by decide +kernel
theorem d_U_leaveNode_20 : decode prog_8_method_7_code 20 = .ok (.getfield 63, 3) := by decide +kernel
theorem d_U_leaveNode_23 : decode prog_8_method_7_code 23 = .ok (.iaload, 1) := by decide +kernel
theorem d_U_leaveNode_24 : decode prog_8_method_7_code 24 = .ok (.putfield 63, 3) := by decide +kernel
theorem d_U_leaveNode_27 : decode prog_8_method_7_code 27 = .ok (.goto 29, 3) := by decide +kernel
theorem d_U_setOccurrence_0 : decode prog_8_method_8_code 0 = .ok (.aload_n 0, 1) := by decide +kernel
theorem d_U_setOccurrence_1 : decode prog_8_method_8_code 1 = .ok (.getfield 32, 3) := by decide +kernel
theorem d_U_setOccurrence_4 : decode prog_8_method_8_code 4 = .ok (.aload_n 0, 1) := by decide +kernel
theorem d_U_setOccurrence_5 : decode prog_8_method_8_code 5 = .ok (.getfield 63, 3) := by decide +kernel
theorem d_U_setOccurrence_8 : decode prog_8_method_8_code 8 = .ok (.iload_n 1, 1) := by decide +kernel
theorem d_U_setOccurrence_9 : decode prog_8_method_8_code 9 = .ok (.iconst 4, 1) := by decide +kernel
theorem d_U_setOccurrence_10 : decode prog_8_method_8_code 10 = .ok (.idiv, 1) := by decide +kernel
theorem d_U_setOccurrence_11 : decode prog_8_method_8_code 11 = .ok (.invokevirtual 89, 3) := by decide +kernel
theorem d_U_setOccurrence_14 : decode prog_8_method_8_code 14 = .ok (.istore_n 3, 1) := by decide +kernel
theorem d_U_setOccurrence_15 : decode prog_8_method_8_code 15 = .ok (.iload_n 1, 1) := by decide +kernel
theorem d_U_setOccurrence_16 : decode prog_8_method_8_code 16 = .ok (.iconst 4, 1) := by decide +kernel
theorem d_U_setOccurrence_17 : decode prog_8_method_8_code 17 = .ok (.irem, 1) := by decide +kernel
theorem d_U_setOccurrence_18 : decode prog_8_method_8_code 18 = .ok (.istore 4, 2) := by decide +kernel
theorem d_U_setOccurrence_20 : decode prog_8_method_8_code 20 = .ok (.aload_n 0, 1) := by decide +kernel
theorem d_U_setOccurrence_21 : decode prog_8_method_8_code 21 = .ok (.getfield 15, 3) := by decide +kernel
theorem d_U_setOccurrence_24 : decode prog_8_method_8_code 24 = .ok (.iload_n 3, 1) := by decide +kernel
theorem d_U_setOccurrence_25 : decode prog_8_method_8_code 25 = .ok (.iconst 4, 1) := by decide +kernel
theorem d_U_setOccurrence_26 : decode prog_8_method_8_code 26 = .ok (.imul, 1) := by decide +kernel
theorem d_U_setOccurrence_27 : decode prog_8_method_8_code 27 = .ok (.iload 4, 2) := by decide +kernel
theorem d_U_setOccurrence_29 : decode prog_8_method_8_code 29 = .ok (.iadd, 1) := by decide +kernel
theorem d_U_setOccurrence_30 : decode prog_8_method_8_code 30 = .ok (.iload_n 2, 1) := by decide +kernel
theorem d_U_setOccurrence_31 : decode prog_8_method_8_code 31 = .ok (.iastore, 1) := by decide +kernel
theorem d_U_setOccurrence_32 : decode prog_8_method_8_code 32 = .ok (.aload_n 0, 1) := by decide +kernel
theorem d_U_setOccurrence_33 : decode prog_8_method_8_code 33 = .ok (.getfield 18, 3) := by decide +kernel
theorem d_U_setOccurrence_36 : decode prog_8_method_8_code 36 = .ok (.iload_n 3, 1) := by decide +kernel
theorem d_U_setOccurrence_37 : decode prog_8_method_8_code 37 = .ok (.dup2, 1) := by decide +kernel
theorem d_U_setOccurrence_38 : decode prog_8_method_8_code 38 = .ok (.iaload, 1) := by decide +kernel
theorem d_U_setOccurrence_39 : decode prog_8_method_8_code 39 = .ok (.iconst 1, 1) := by decide +kernel
theorem d_U_setOccurrence_40 : decode prog_8_method_8_code 40 = .ok (.iload 4, 2) := by decide +kernel
theorem d_U_setOccurrence_42 : decode prog_8_method_8_code 42 = .ok (.ishl, 1) := by decide +kernel
theorem d_U_setOccurrence_43 : decode prog_8_method_8_code 43 = .ok (.ior, 1) := by decide +kernel
theorem d_U_setOccurrence_44 : decode prog_8_method_8_code 44 = .ok (.iastore, 1) := by decide +kernel
theorem d_U_setOccurrence_45 : decode prog_8_method_8_code 45 = .ok (.return_, 1) := by decide +kernel
theorem d_U_valueOf_0 : decode prog_8_method_10_code 0 = .ok (.aload_n 0, 1) := by decide +kernel
theorem d_U_valueOf_1 : decode prog_8_method_10_code 1 = .ok (.getfield 32, 3) := by decide +kernel
theorem d_U_valueOf_4 : decode prog_8_method_10_code 4 = .ok (.aload_n 0, 1) := by decide +kernel
theorem d_U_valueOf_5 : decode prog_8_method_10_code 5 = .ok (.getfield 63, 3) := by decide +kernel
theorem d_U_valueOf_8 : decode prog_8_method_10_code 8 = .ok (.iload_n 1, 1) := by decide +kernel
theorem d_U_valueOf_9 : decode prog_8_method_10_code 9 = .ok (.iconst 4, 1) := by decide +kernel
theorem d_U_valueOf_10 : decode prog_8_method_10_code 10 = .ok (.idiv, 1) := by decide +kernel
theorem d_U_valueOf_11 : decode prog_8_method_10_code 11 = .ok (.invokevirtual 89, 3) := by decide +kernel
theorem d_U_valueOf_14 : decode prog_8_method_10_code 14 = .ok (.istore_n 2, 1) := by decide +kernel
theorem d_U_valueOf_15 : decode prog_8_method_10_code 15 = .ok (.aload_n 0, 1) := by decide +kernel
theorem d_U_valueOf_16 : decode prog_8_method_10_code 16 = .ok (.getfield 15, 3) := by decide +kernel
theorem d_U_valueOf_19 : decode prog_8_method_10_code 19 = .ok (.iload_n 2, 1) := by decide +kernel
theorem d_U_valueOf_20 : decode prog_8_method_10_code 20 = .ok (.iconst 4, 1) := by decide +kernel
theorem d_U_valueOf_21 : decode prog_8_method_10_code 21 = .ok (.imul, 1) := by decide +kernel
theorem d_U_valueOf_22 : decode prog_8_method_10_code 22 = .ok (.iload_n 1, 1) := by decide +kernel
theorem d_U_valueOf_23 : decode prog_8_method_10_code 23 = .ok (.iconst 4, 1) := by decide +kernel
theorem d_U_valueOf_24 : decode prog_8_method_10_code 24 = .ok (.irem, 1) := by decide +kernel
theorem d_U_valueOf_25 : decode prog_8_method_10_code 25 = .ok (.iadd, 1) := by decide +kernel
theorem d_U_valueOf_26 : decode prog_8_method_10_code 26 = .ok (.iaload, 1) := by decide +kernel
theorem d_U_valueOf_27 : decode prog_8_method_10_code 27 = .ok (.ireturn, 1) := by decide +kernel
theorem d_U_result_0 : decode prog_8_method_9_code 0 = .ok (.aload_n 0, 1) := by decide +kernel
theorem d_U_result_1 : decode prog_8_method_9_code 1 = .ok (.getfield 24, 3) := by decide +kernel
theorem d_U_result_4 : decode prog_8_method_9_code 4 = .ok (.getfield 105, 3) := by decide +kernel
theorem d_U_result_7 : decode prog_8_method_9_code 7 = .ok (.iload_n 1, 1) := by decide +kernel
theorem d_U_result_8 : decode prog_8_method_9_code 8 = .ok (.iaload, 1) := by decide +kernel
theorem d_U_result_9 : decode prog_8_method_9_code 9 = .ok (.istore_n 2, 1) := by decide +kernel
theorem d_U_result_10 : decode prog_8_method_9_code 10 = .ok (.aload_n 0, 1) := by decide +kernel
theorem d_U_result_11 : decode prog_8_method_9_code 11 = .ok (.getfield 24, 3) := by decide +kernel
theorem d_U_result_14 : decode prog_8_method_9_code 14 = .ok (.getfield 108, 3) := by decide +kernel
theorem d_U_result_17 : decode prog_8_method_9_code 17 = .ok (.iload_n 1, 1) := by decide +kernel
theorem d_U_result_18 : decode prog_8_method_9_code 18 = .ok (.iaload, 1) := by decide +kernel
theorem d_U_result_19 : decode prog_8_method_9_code 19 = .ok (.istore_n 3, 1) := by decide +kernel
theorem d_U_result_20 : decode prog_8_method_9_code 20 = .ok (.aload_n 0, 1) := by decide +kernel
theorem d_U_result_21 : decode prog_8_method_9_code 21 = .ok (.getfield 24, 3) := by decide +kernel
theorem d_U_result_24 : decode prog_8_method_9_code 24 = .ok (.getfield 111, 3) := by decide +kernel
theorem d_U_result_27 : decode prog_8_method_9_code 27 = .ok (.iload_n 1, 1) := by decide +kernel
theorem d_U_result_28 : decode prog_8_method_9_code 28 = .ok (.iaload, 1) := by decide +kernel
theorem d_U_result_29 : decode prog_8_method_9_code 29 = .ok (.tableswitch 114 0 6 #[43, 45, 58, 64, 76, 88, 100], 43) := by decide +kernel
theorem d_U_result_72 : decode prog_8_method_9_code 72 = .ok (.iload_n 2, 1) := by decide +kernel
theorem d_U_result_73 : decode prog_8_method_9_code 73 = .ok (.ireturn, 1) := by decide +kernel
theorem d_U_result_74 : decode prog_8_method_9_code 74 = .ok (.aload_n 0, 1) := by decide +kernel
theorem d_U_result_75 : decode prog_8_method_9_code 75 = .ok (.getfield 32, 3) := by decide +kernel
theorem d_U_result_78 : decode prog_8_method_9_code 78 = .ok (.getfield 114, 3) := by decide +kernel
theorem d_U_result_81 : decode prog_8_method_9_code 81 = .ok (.aload_n 0, 1) := by decide +kernel
theorem d_U_result_82 : decode prog_8_method_9_code 82 = .ok (.getfield 63, 3) := by decide +kernel
theorem d_U_result_85 : decode prog_8_method_9_code 85 = .ok (.iaload, 1) := by decide +kernel
theorem d_U_result_86 : decode prog_8_method_9_code 86 = .ok (.ireturn, 1) := by decide +kernel
theorem d_U_result_87 : decode prog_8_method_9_code 87 = .ok (.aload_n 0, 1) := by decide +kernel
theorem d_U_result_88 : decode prog_8_method_9_code 88 = .ok (.iload_n 2, 1) := by decide +kernel
theorem d_U_result_89 : decode prog_8_method_9_code 89 = .ok (.invokevirtual 117, 3) := by decide +kernel
theorem d_U_result_92 : decode prog_8_method_9_code 92 = .ok (.ireturn, 1) := by decide +kernel
theorem d_U_result_93 : decode prog_8_method_9_code 93 = .ok (.aload_n 0, 1) := by decide +kernel
theorem d_U_result_94 : decode prog_8_method_9_code 94 = .ok (.iload_n 2, 1) := by decide +kernel
theorem d_U_result_95 : decode prog_8_method_9_code 95 = .ok (.invokevirtual 117, 3) := by decide +kernel
theorem d_U_result_98 : decode prog_8_method_9_code 98 = .ok (.aload_n 0, 1) := by decide +kernel
theorem d_U_result_99 : decode prog_8_method_9_code 99 = .ok (.iload_n 3, 1) := by decide +kernel
theorem d_U_result_100 : decode prog_8_method_9_code 100 = .ok (.invokevirtual 117, 3) := by decide +kernel
theorem d_U_result_103 : decode prog_8_method_9_code 103 = .ok (.iadd, 1) := by decide +kernel
theorem d_U_result_104 : decode prog_8_method_9_code 104 = .ok (.ireturn, 1) := by decide +kernel
theorem d_U_result_105 : decode prog_8_method_9_code 105 = .ok (.aload_n 0, 1) := by decide +kernel
theorem d_U_result_106 : decode prog_8_method_9_code 106 = .ok (.iload_n 2, 1) := by decide +kernel
theorem d_U_result_107 : decode prog_8_method_9_code 107 = .ok (.invokevirtual 117, 3) := by decide +kernel
theorem d_U_result_110 : decode prog_8_method_9_code 110 = .ok (.aload_n 0, 1) := by decide +kernel
theorem d_U_result_111 : decode prog_8_method_9_code 111 = .ok (.iload_n 3, 1) := by decide +kernel
theorem d_U_result_112 : decode prog_8_method_9_code 112 = .ok (.invokevirtual 117, 3) := by decide +kernel
theorem d_U_result_115 : decode prog_8_method_9_code 115 = .ok (.isub, 1) := by decide +kernel
theorem d_U_result_116 : decode prog_8_method_9_code 116 = .ok (.ireturn, 1) := by decide +kernel
theorem d_U_result_117 : decode prog_8_method_9_code 117 = .ok (.aload_n 0, 1) := by decide +kernel
theorem d_U_result_118 : decode prog_8_method_9_code 118 = .ok (.iload_n 2, 1) := by decide +kernel
theorem d_U_result_119 : decode prog_8_method_9_code 119 = .ok (.invokevirtual 117, 3) := by decide +kernel
theorem d_U_result_122 : decode prog_8_method_9_code 122 = .ok (.aload_n 0, 1) := by decide +kernel
theorem d_U_result_123 : decode prog_8_method_9_code 123 = .ok (.iload_n 3, 1) := by decide +kernel
theorem d_U_result_124 : decode prog_8_method_9_code 124 = .ok (.invokevirtual 117, 3) := by decide +kernel
theorem d_U_result_127 : decode prog_8_method_9_code 127 = .ok (.imul, 1) := by decide +kernel
theorem d_U_result_128 : decode prog_8_method_9_code 128 = .ok (.ireturn, 1) := by decide +kernel
theorem d_U_result_129 : decode prog_8_method_9_code 129 = .ok (.aload_n 0, 1) := by decide +kernel
theorem d_U_result_130 : decode prog_8_method_9_code 130 = .ok (.iload_n 2, 1) := by decide +kernel
theorem d_U_result_131 : decode prog_8_method_9_code 131 = .ok (.invokevirtual 117, 3) := by decide +kernel
theorem d_U_result_134 : decode prog_8_method_9_code 134 = .ok (.aload_n 0, 1) := by decide +kernel
theorem d_U_result_135 : decode prog_8_method_9_code 135 = .ok (.iload_n 3, 1) := by decide +kernel
theorem d_U_result_136 : decode prog_8_method_9_code 136 = .ok (.invokevirtual 117, 3) := by decide +kernel
theorem d_U_result_139 : decode prog_8_method_9_code 139 = .ok (.invokestatic 120, 3) := by decide +kernel
theorem d_U_result_142 : decode prog_8_method_9_code 142 = .ok (.ireturn, 1) := by decide +kernel
theorem d_U_result_143 : decode prog_8_method_9_code 143 = .ok (.aload_n 0, 1) := by decide +kernel
theorem d_U_result_144 : decode prog_8_method_9_code 144 = .ok (.getfield 32, 3) := by decide +kernel
theorem d_U_result_147 : decode prog_8_method_9_code 147 = .ok (.getfield 114, 3) := by decide +kernel
theorem d_U_result_150 : decode prog_8_method_9_code 150 = .ok (.aload_n 0, 1) := by decide +kernel
theorem d_U_result_151 : decode prog_8_method_9_code 151 = .ok (.getfield 63, 3) := by decide +kernel
theorem d_U_result_154 : decode prog_8_method_9_code 154 = .ok (.iaload, 1) := by decide +kernel
theorem d_U_result_155 : decode prog_8_method_9_code 155 = .ok (.aload_n 0, 1) := by decide +kernel
theorem d_U_result_156 : decode prog_8_method_9_code 156 = .ok (.iload_n 2, 1) := by decide +kernel
theorem d_U_result_157 : decode prog_8_method_9_code 157 = .ok (.invokevirtual 117, 3) := by decide +kernel
theorem d_U_result_160 : decode prog_8_method_9_code 160 = .ok (.iadd, 1) := by decide +kernel
theorem d_U_result_161 : decode prog_8_method_9_code 161 = .ok (.ireturn, 1) := by decide +kernel
theorem d_U_step_0 : decode prog_8_method_6_code 0 = .ok (.aload_n 0, 1) := by decide +kernel
theorem d_U_step_1 : decode prog_8_method_6_code 1 = .ok (.getfield 32, 3) := by decide +kernel
theorem d_U_step_4 : decode prog_8_method_6_code 4 = .ok (.getfield 76, 3) := by decide +kernel
theorem d_U_step_7 : decode prog_8_method_6_code 7 = .ok (.aload_n 0, 1) := by decide +kernel
theorem d_U_step_8 : decode prog_8_method_6_code 8 = .ok (.getfield 63, 3) := by decide +kernel
theorem d_U_step_11 : decode prog_8_method_6_code 11 = .ok (.iaload, 1) := by decide +kernel
theorem d_U_step_12 : decode prog_8_method_6_code 12 = .ok (.istore_n 1, 1) := by decide +kernel
theorem d_U_step_13 : decode prog_8_method_6_code 13 = .ok (.aload_n 0, 1) := by decide +kernel
theorem d_U_step_14 : decode prog_8_method_6_code 14 = .ok (.getfield 28, 3) := by decide +kernel
theorem d_U_step_17 : decode prog_8_method_6_code 17 = .ok (.iload_n 1, 1) := by decide +kernel
theorem d_U_step_18 : decode prog_8_method_6_code 18 = .ok (.aload_n 0, 1) := by decide +kernel
theorem d_U_step_19 : decode prog_8_method_6_code 19 = .ok (.getfield 21, 3) := by decide +kernel
theorem d_U_step_22 : decode prog_8_method_6_code 22 = .ok (.aload_n 0, 1) := by decide +kernel
theorem d_U_step_23 : decode prog_8_method_6_code 23 = .ok (.getfield 63, 3) := by decide +kernel
theorem d_U_step_26 : decode prog_8_method_6_code 26 = .ok (.iaload, 1) := by decide +kernel
theorem d_U_step_27 : decode prog_8_method_6_code 27 = .ok (.invokevirtual 79, 3) := by decide +kernel
theorem d_U_step_30 : decode prog_8_method_6_code 30 = .ok (.istore_n 2, 1) := by decide +kernel
theorem d_U_step_31 : decode prog_8_method_6_code 31 = .ok (.aload_n 0, 1) := by decide +kernel
theorem d_U_step_32 : decode prog_8_method_6_code 32 = .ok (.getfield 21, 3) := by decide +kernel
theorem d_U_step_35 : decode prog_8_method_6_code 35 = .ok (.aload_n 0, 1) := by decide +kernel
theorem d_U_step_36 : decode prog_8_method_6_code 36 = .ok (.getfield 63, 3) := by decide +kernel
theorem d_U_step_39 : decode prog_8_method_6_code 39 = .ok (.dup2, 1) := by decide +kernel
theorem d_U_step_40 : decode prog_8_method_6_code 40 = .ok (.iaload, 1) := by decide +kernel
theorem d_U_step_41 : decode prog_8_method_6_code 41 = .ok (.iconst 1, 1) := by decide +kernel
theorem d_U_step_42 : decode prog_8_method_6_code 42 = .ok (.iadd, 1) := by decide +kernel
theorem d_U_step_43 : decode prog_8_method_6_code 43 = .ok (.iastore, 1) := by decide +kernel
theorem d_U_step_44 : decode prog_8_method_6_code 44 = .ok (.iload_n 2, 1) := by decide +kernel
theorem d_U_step_45 : decode prog_8_method_6_code 45 = .ok (.sipush 1000, 3) := by decide +kernel
theorem d_U_step_48 : decode prog_8_method_6_code 48 = .ok (.if_icmp .lt 11, 3) := by decide +kernel
theorem d_U_step_59 : decode prog_8_method_6_code 59 = .ok (.iload_n 2, 1) := by decide +kernel
theorem d_U_step_60 : decode prog_8_method_6_code 60 = .ok (.bipush 100, 2) := by decide +kernel
theorem d_U_step_62 : decode prog_8_method_6_code 62 = .ok (.if_icmp .lt 25, 3) := by decide +kernel
theorem d_U_step_87 : decode prog_8_method_6_code 87 = .ok (.iload_n 2, 1) := by decide +kernel
theorem d_U_step_88 : decode prog_8_method_6_code 88 = .ok (.ifCond .lt 18, 3) := by decide +kernel
theorem d_U_step_106 : decode prog_8_method_6_code 106 = .ok (.return_, 1) := by decide +kernel
theorem d_U_step_91 : decode prog_8_method_6_code 91 = .ok (.aload_n 0, 1) := by decide +kernel
theorem d_U_step_92 : decode prog_8_method_6_code 92 = .ok (.iload_n 2, 1) := by decide +kernel
theorem d_U_step_93 : decode prog_8_method_6_code 93 = .ok (.aload_n 0, 1) := by decide +kernel
theorem d_U_step_94 : decode prog_8_method_6_code 94 = .ok (.iload_n 1, 1) := by decide +kernel
theorem d_U_step_95 : decode prog_8_method_6_code 95 = .ok (.bipush 16, 2) := by decide +kernel
theorem d_U_step_97 : decode prog_8_method_6_code 97 = .ok (.imul, 1) := by decide +kernel
theorem d_U_step_98 : decode prog_8_method_6_code 98 = .ok (.iload_n 2, 1) := by decide +kernel
theorem d_U_step_99 : decode prog_8_method_6_code 99 = .ok (.iadd, 1) := by decide +kernel
theorem d_U_step_100 : decode prog_8_method_6_code 100 = .ok (.invokevirtual 92, 3) := by decide +kernel
theorem d_U_step_103 : decode prog_8_method_6_code 103 = .ok (.invokevirtual 95, 3) := by decide +kernel
theorem d_U_step_65 : decode prog_8_method_6_code 65 = .ok (.aload_n 0, 1) := by decide +kernel
theorem d_U_step_66 : decode prog_8_method_6_code 66 = .ok (.aload_n 0, 1) := by decide +kernel
theorem d_U_step_67 : decode prog_8_method_6_code 67 = .ok (.getfield 32, 3) := by decide +kernel
theorem d_U_step_70 : decode prog_8_method_6_code 70 = .ok (.aload_n 0, 1) := by decide +kernel
theorem d_U_step_71 : decode prog_8_method_6_code 71 = .ok (.getfield 63, 3) := by decide +kernel
theorem d_U_step_74 : decode prog_8_method_6_code 74 = .ok (.iload_n 2, 1) := by decide +kernel
theorem d_U_step_75 : decode prog_8_method_6_code 75 = .ok (.bipush 100, 2) := by decide +kernel
theorem d_U_step_77 : decode prog_8_method_6_code 77 = .ok (.idiv, 1) := by decide +kernel
theorem d_U_step_78 : decode prog_8_method_6_code 78 = .ok (.invokevirtual 89, 3) := by decide +kernel
theorem d_U_step_81 : decode prog_8_method_6_code 81 = .ok (.putfield 63, 3) := by decide +kernel
theorem d_U_step_84 : decode prog_8_method_6_code 84 = .ok (.goto 22, 3) := by decide +kernel
theorem d_U_step_51 : decode prog_8_method_6_code 51 = .ok (.aload_n 0, 1) := by decide +kernel
theorem d_U_step_52 : decode prog_8_method_6_code 52 = .ok (.iload_n 1, 1) := by decide +kernel
theorem d_U_step_53 : decode prog_8_method_6_code 53 = .ok (.invokevirtual 85, 3) := by decide +kernel
theorem d_U_step_56 : decode prog_8_method_6_code 56 = .ok (.goto 50, 3) := by decide +kernel
theorem d_U_advance_0 : decode prog_8_method_5_code 0 = .ok (.iconst 0, 1) := by decide +kernel
theorem d_U_advance_1 : decode prog_8_method_5_code 1 = .ok (.istore_n 2, 1) := by decide +kernel
theorem d_U_advance_2 : decode prog_8_method_5_code 2 = .ok (.iload_n 2, 1) := by decide +kernel
theorem d_U_advance_3 : decode prog_8_method_5_code 3 = .ok (.iload_n 1, 1) := by decide +kernel
theorem d_U_advance_4 : decode prog_8_method_5_code 4 = .ok (.if_icmp .ge 21, 3) := by decide +kernel
theorem d_U_advance_25 : decode prog_8_method_5_code 25 = .ok (.iload_n 2, 1) := by decide +kernel
theorem d_U_advance_26 : decode prog_8_method_5_code 26 = .ok (.ireturn, 1) := by decide +kernel
theorem d_U_advance_7 : decode prog_8_method_5_code 7 = .ok (.aload_n 0, 1) := by decide +kernel
theorem d_U_advance_8 : decode prog_8_method_5_code 8 = .ok (.getfield 66, 3) := by decide +kernel
theorem d_U_advance_11 : decode prog_8_method_5_code 11 = .ok (.iconst 1, 1) := by decide +kernel
theorem d_U_advance_12 : decode prog_8_method_5_code 12 = .ok (.if_icmp .ne 13, 3) := by decide +kernel
theorem d_U_advance_15 : decode prog_8_method_5_code 15 = .ok (.aload_n 0, 1) := by decide +kernel
theorem d_U_advance_16 : decode prog_8_method_5_code 16 = .ok (.invokevirtual 73, 3) := by decide +kernel
theorem d_U_advance_19 : decode prog_8_method_5_code 19 = .ok (.iinc 2 1, 3) := by decide +kernel
theorem d_U_advance_22 : decode prog_8_method_5_code 22 = .ok (.goto (-20), 3) := by decide +kernel
theorem d_A_forgetFault_0 : decode prog_2_method_3_code 0 = .ok (.aload_n 0, 1) := by decide +kernel
theorem d_A_forgetFault_1 : decode prog_2_method_3_code 1 = .ok (.iconst 0, 1) := by decide +kernel
theorem d_A_forgetFault_2 : decode prog_2_method_3_code 2 = .ok (.putfield 74, 3) := by decide +kernel
theorem d_A_forgetFault_5 : decode prog_2_method_3_code 5 = .ok (.aload_n 0, 1) := by decide +kernel
theorem d_A_forgetFault_6 : decode prog_2_method_3_code 6 = .ok (.iconst (-1), 1) := by decide +kernel
theorem d_A_forgetFault_7 : decode prog_2_method_3_code 7 = .ok (.putfield 9, 3) := by decide +kernel
theorem d_A_forgetFault_10 : decode prog_2_method_3_code 10 = .ok (.aload_n 0, 1) := by decide +kernel
theorem d_A_forgetFault_11 : decode prog_2_method_3_code 11 = .ok (.iconst (-1), 1) := by decide +kernel
theorem d_A_forgetFault_12 : decode prog_2_method_3_code 12 = .ok (.putfield 15, 3) := by decide +kernel
theorem d_A_forgetFault_15 : decode prog_2_method_3_code 15 = .ok (.return_, 1) := by decide +kernel
theorem d_A_noteFault_0 : decode prog_2_method_8_code 0 = .ok (.aload_n 0, 1) := by decide +kernel
theorem d_A_noteFault_1 : decode prog_2_method_8_code 1 = .ok (.iload_n 1, 1) := by decide +kernel
theorem d_A_noteFault_2 : decode prog_2_method_8_code 2 = .ok (.putfield 74, 3) := by decide +kernel
theorem d_A_noteFault_5 : decode prog_2_method_8_code 5 = .ok (.aload_n 0, 1) := by decide +kernel
theorem d_A_noteFault_6 : decode prog_2_method_8_code 6 = .ok (.iload_n 2, 1) := by decide +kernel
theorem d_A_noteFault_7 : decode prog_2_method_8_code 7 = .ok (.putfield 9, 3) := by decide +kernel
theorem d_A_noteFault_10 : decode prog_2_method_8_code 10 = .ok (.aload_n 0, 1) := by decide +kernel
theorem d_A_noteFault_11 : decode prog_2_method_8_code 11 = .ok (.iload_n 3, 1) := by decide +kernel
theorem d_A_noteFault_12 : decode prog_2_method_8_code 12 = .ok (.putfield 15, 3) := by decide +kernel
theorem d_A_noteFault_15 : decode prog_2_method_8_code 15 = .ok (.return_, 1) := by decide +kernel
theorem d_A_isComplete_0 : decode prog_2_method_4_code 0 = .ok (.iconst 0, 1) := by decide +kernel
theorem d_A_isComplete_1 : decode prog_2_method_4_code 1 = .ok (.istore_n 1, 1) := by decide +kernel
theorem d_A_isComplete_2 : decode prog_2_method_4_code 2 = .ok (.iload_n 1, 1) := by decide +kernel
theorem d_A_isComplete_3 : decode prog_2_method_4_code 3 = .ok (.aload_n 0, 1) := by decide +kernel
theorem d_A_isComplete_4 : decode prog_2_method_4_code 4 = .ok (.getfield 18, 3) := by decide +kernel
theorem d_A_isComplete_7 : decode prog_2_method_4_code 7 = .ok (.getfield 52, 3) := by decide +kernel
theorem d_A_isComplete_10 : decode prog_2_method_4_code 10 = .ok (.if_icmp .ge 32, 3) := by decide +kernel
theorem d_A_isComplete_42 : decode prog_2_method_4_code 42 = .ok (.iconst 1, 1) := by decide +kernel
theorem d_A_isComplete_43 : decode prog_2_method_4_code 43 = .ok (.ireturn, 1) := by decide +kernel
theorem d_A_isComplete_13 : decode prog_2_method_4_code 13 = .ok (.aload_n 0, 1) := by decide +kernel
theorem d_A_isComplete_14 : decode prog_2_method_4_code 14 = .ok (.getfield 18, 3) := by decide +kernel
theorem d_A_isComplete_17 : decode prog_2_method_4_code 17 = .ok (.iload_n 1, 1) := by decide +kernel
theorem d_A_isComplete_18 : decode prog_2_method_4_code 18 = .ok (.invokevirtual 77, 3) := by decide +kernel
theorem d_A_isComplete_21 : decode prog_2_method_4_code 21 = .ok (.istore_n 2, 1) := by decide +kernel
theorem d_A_isComplete_22 : decode prog_2_method_4_code 22 = .ok (.iload_n 2, 1) := by decide +kernel
theorem d_A_isComplete_23 : decode prog_2_method_4_code 23 = .ok (.iconst (-1), 1) := by decide +kernel
theorem d_A_isComplete_24 : decode prog_2_method_4_code 24 = .ok (.if_icmp .eq 12, 3) := by decide +kernel
theorem d_A_isComplete_36 : decode prog_2_method_4_code 36 = .ok (.iinc 1 1, 3) := by decide +kernel
theorem d_A_isComplete_39 : decode prog_2_method_4_code 39 = .ok (.goto (-37), 3) := by decide +kernel
theorem d_A_isComplete_27 : decode prog_2_method_4_code 27 = .ok (.aload_n 0, 1) := by decide +kernel
theorem d_A_isComplete_28 : decode prog_2_method_4_code 28 = .ok (.iconst 1, 1) := by decide +kernel
theorem d_A_isComplete_29 : decode prog_2_method_4_code 29 = .ok (.iload_n 1, 1) := by decide +kernel
theorem d_A_isComplete_30 : decode prog_2_method_4_code 30 = .ok (.iload_n 2, 1) := by decide +kernel
theorem d_A_isComplete_31 : decode prog_2_method_4_code 31 = .ok (.invokevirtual 81, 3) := by decide +kernel
theorem d_A_isComplete_34 : decode prog_2_method_4_code 34 = .ok (.iconst 0, 1) := by decide +kernel
theorem d_A_isComplete_35 : decode prog_2_method_4_code 35 = .ok (.ireturn, 1) := by decide +kernel
theorem d_A_noneLeadsToItself_0 : decode prog_2_method_7_code 0 = .ok (.iconst 0, 1) := by decide +kernel
theorem d_A_noneLeadsToItself_1 : decode prog_2_method_7_code 1 = .ok (.istore_n 2, 1) := by decide +kernel
theorem d_A_noneLeadsToItself_2 : decode prog_2_method_7_code 2 = .ok (.iload_n 2, 1) := by decide +kernel
theorem d_A_noneLeadsToItself_3 : decode prog_2_method_7_code 3 = .ok (.aload_n 0, 1) := by decide +kernel
