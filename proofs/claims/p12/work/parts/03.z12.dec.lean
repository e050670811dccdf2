theorem d_M_rule_102 : decode prog_10_method_13_code 102 = .ok (.putfield 99, 3) := by decide +kernel
theorem d_M_rule_105 : decode prog_10_method_13_code 105 = .ok (.aload_n 0, 1) := by decide +kernel
theorem d_M_rule_106 : decode prog_10_method_13_code 106 = .ok (.getfield 99, 3) := by decide +kernel
theorem d_M_rule_109 : decode prog_10_method_13_code 109 = .ok (.ifCond .le 4, 3) := by decide +kernel
theorem d_M_rule_113 : decode prog_10_method_13_code 113 = .ok (.aload_n 0, 1) := by decide +kernel
theorem d_M_rule_114 : decode prog_10_method_13_code 114 = .ok (.getfield 23, 3) := by decide +kernel
theorem d_M_rule_117 : decode prog_10_method_13_code 117 = .ok (.bipush 16, 2) := by decide +kernel
theorem d_M_rule_119 : decode prog_10_method_13_code 119 = .ok (.iload_n 1, 1) := by decide +kernel
theorem d_M_rule_120 : decode prog_10_method_13_code 120 = .ok (.imul, 1) := by decide +kernel
theorem d_M_rule_121 : decode prog_10_method_13_code 121 = .ok (.iload_n 2, 1) := by decide +kernel
theorem d_M_rule_122 : decode prog_10_method_13_code 122 = .ok (.iadd, 1) := by decide +kernel
theorem d_M_rule_123 : decode prog_10_method_13_code 123 = .ok (.iload_n 3, 1) := by decide +kernel
theorem d_M_rule_124 : decode prog_10_method_13_code 124 = .ok (.iastore, 1) := by decide +kernel
theorem d_M_rule_125 : decode prog_10_method_13_code 125 = .ok (.aload_n 0, 1) := by decide +kernel
theorem d_M_rule_126 : decode prog_10_method_13_code 126 = .ok (.getfield 26, 3) := by decide +kernel
theorem d_M_rule_129 : decode prog_10_method_13_code 129 = .ok (.bipush 16, 2) := by decide +kernel
theorem d_M_rule_131 : decode prog_10_method_13_code 131 = .ok (.iload_n 1, 1) := by decide +kernel
theorem d_M_rule_132 : decode prog_10_method_13_code 132 = .ok (.imul, 1) := by decide +kernel
theorem d_M_rule_133 : decode prog_10_method_13_code 133 = .ok (.iload_n 2, 1) := by decide +kernel
theorem d_M_rule_134 : decode prog_10_method_13_code 134 = .ok (.iadd, 1) := by decide +kernel
theorem d_M_rule_135 : decode prog_10_method_13_code 135 = .ok (.iload 4, 2) := by decide +kernel
theorem d_M_rule_137 : decode prog_10_method_13_code 137 = .ok (.iastore, 1) := by decide +kernel
theorem d_M_rule_138 : decode prog_10_method_13_code 138 = .ok (.aload_n 0, 1) := by decide +kernel
theorem d_M_rule_139 : decode prog_10_method_13_code 139 = .ok (.getfield 29, 3) := by decide +kernel
theorem d_M_rule_142 : decode prog_10_method_13_code 142 = .ok (.bipush 16, 2) := by decide +kernel
theorem d_M_rule_144 : decode prog_10_method_13_code 144 = .ok (.iload_n 1, 1) := by decide +kernel
theorem d_M_rule_145 : decode prog_10_method_13_code 145 = .ok (.imul, 1) := by decide +kernel
theorem d_M_rule_146 : decode prog_10_method_13_code 146 = .ok (.iload_n 2, 1) := by decide +kernel
theorem d_M_rule_147 : decode prog_10_method_13_code 147 = .ok (.iadd, 1) := by decide +kernel
theorem d_M_rule_148 : decode prog_10_method_13_code 148 = .ok (.iload 5, 2) := by decide +kernel
theorem d_M_rule_150 : decode prog_10_method_13_code 150 = .ok (.iastore, 1) := by decide +kernel
theorem d_M_rule_151 : decode prog_10_method_13_code 151 = .ok (.aload_n 0, 1) := by decide +kernel
theorem d_M_rule_152 : decode prog_10_method_13_code 152 = .ok (.invokevirtual 112, 3) := by decide +kernel
theorem d_M_rule_155 : decode prog_10_method_13_code 155 = .ok (.return_, 1) := by decide +kernel
theorem d_M_rule_112 : decode prog_10_method_13_code 112 = .ok (.return_, 1) := by decide +kernel
theorem d_M_rule_94 : decode prog_10_method_13_code 94 = .ok (.ifCond .eq 7, 3) := by decide +kernel
theorem d_M_rule_101 : decode prog_10_method_13_code 101 = .ok (.iconst 2, 1) := by decide +kernel
theorem d_M_rule_97 : decode prog_10_method_13_code 97 = .ok (.iconst 0, 1) := by decide +kernel
theorem d_M_rule_98 : decode prog_10_method_13_code 98 = .ok (.goto 4, 3) := by decide +kernel
theorem d_M_rule_88 : decode prog_10_method_13_code 88 = .ok (.iconst 0, 1) := by decide +kernel
theorem d_M_rule_35 : decode prog_10_method_13_code 35 = .ok (.ifCond .eq 53, 3) := by decide +kernel
theorem d_M_rule_38 : decode prog_10_method_13_code 38 = .ok (.iload_n 3, 1) := by decide +kernel
theorem d_M_rule_39 : decode prog_10_method_13_code 39 = .ok (.ifCond .lt 49, 3) := by decide +kernel
theorem d_M_rule_42 : decode prog_10_method_13_code 42 = .ok (.iload_n 3, 1) := by decide +kernel
theorem d_M_rule_43 : decode prog_10_method_13_code 43 = .ok (.bipush 8, 2) := by decide +kernel
theorem d_M_rule_45 : decode prog_10_method_13_code 45 = .ok (.if_icmp .ge 43, 3) := by decide +kernel
theorem d_M_rule_48 : decode prog_10_method_13_code 48 = .ok (.iload_n 3, 1) := by decide +kernel
theorem d_M_rule_49 : decode prog_10_method_13_code 49 = .ok (.invokestatic 133, 3) := by decide +kernel
theorem d_M_rule_52 : decode prog_10_method_13_code 52 = .ok (.iconst 1, 1) := by decide +kernel
theorem d_M_rule_66 : decode prog_10_method_13_code 66 = .ok (.iload_n 3, 1) := by decide +kernel
theorem d_M_rule_67 : decode prog_10_method_13_code 67 = .ok (.invokestatic 133, 3) := by decide +kernel
theorem d_M_rule_70 : decode prog_10_method_13_code 70 = .ok (.iconst 2, 1) := by decide +kernel
theorem d_M_rule_84 : decode prog_10_method_13_code 84 = .ok (.iconst 1, 1) := by decide +kernel
theorem d_M_rule_85 : decode prog_10_method_13_code 85 = .ok (.goto 4, 3) := by decide +kernel
theorem d_M_rule_71 : decode prog_10_method_13_code 71 = .ok (.if_icmp .lt 13, 3) := by decide +kernel
theorem d_M_rule_74 : decode prog_10_method_13_code 74 = .ok (.aload_n 0, 1) := by decide +kernel
theorem d_M_rule_75 : decode prog_10_method_13_code 75 = .ok (.iload_n 1, 1) := by decide +kernel
theorem d_M_rule_76 : decode prog_10_method_13_code 76 = .ok (.iload 5, 2) := by decide +kernel
theorem d_M_rule_78 : decode prog_10_method_13_code 78 = .ok (.invokevirtual 122, 3) := by decide +kernel
theorem d_M_rule_81 : decode prog_10_method_13_code 81 = .ok (.ifCond .eq 7, 3) := by decide +kernel
theorem d_M_rule_53 : decode prog_10_method_13_code 53 = .ok (.if_icmp .lt 13, 3) := by decide +kernel
theorem d_M_rule_56 : decode prog_10_method_13_code 56 = .ok (.aload_n 0, 1) := by decide +kernel
theorem d_M_rule_57 : decode prog_10_method_13_code 57 = .ok (.iload_n 1, 1) := by decide +kernel
theorem d_M_rule_58 : decode prog_10_method_13_code 58 = .ok (.iload 4, 2) := by decide +kernel
theorem d_M_rule_60 : decode prog_10_method_13_code 60 = .ok (.invokevirtual 122, 3) := by decide +kernel
theorem d_M_rule_63 : decode prog_10_method_13_code 63 = .ok (.ifCond .eq 25, 3) := by decide +kernel
theorem d_M_rule_28 : decode prog_10_method_13_code 28 = .ok (.return_, 1) := by decide +kernel
theorem d_M_rule_13 : decode prog_10_method_13_code 13 = .ok (.iconst 1, 1) := by decide +kernel
theorem d_M_rule_14 : decode prog_10_method_13_code 14 = .ok (.goto 4, 3) := by decide +kernel
theorem d_M_rule_2 : decode prog_10_method_13_code 2 = .ok (.ifCond .lt 11, 3) := by decide +kernel
theorem d_M_rule_5 : decode prog_10_method_13_code 5 = .ok (.iload_n 1, 1) := by decide +kernel
theorem d_M_rule_6 : decode prog_10_method_13_code 6 = .ok (.aload_n 0, 1) := by decide +kernel
theorem d_M_rule_7 : decode prog_10_method_13_code 7 = .ok (.getfield 119, 3) := by decide +kernel
theorem d_M_rule_10 : decode prog_10_method_13_code 10 = .ok (.if_icmp .lt 7, 3) := by decide +kernel
theorem d_M_rule_17 : decode prog_10_method_13_code 17 = .ok (.iconst 0, 1) := by decide +kernel
theorem d_M_isUsed_0 : decode prog_10_method_14_code 0 = .ok (.bipush 16, 2) := by decide +kernel
theorem d_M_isUsed_2 : decode prog_10_method_14_code 2 = .ok (.iload_n 1, 1) := by decide +kernel
theorem d_M_isUsed_3 : decode prog_10_method_14_code 3 = .ok (.imul, 1) := by decide +kernel
theorem d_M_isUsed_4 : decode prog_10_method_14_code 4 = .ok (.iload_n 3, 1) := by decide +kernel
theorem d_M_isUsed_5 : decode prog_10_method_14_code 5 = .ok (.iadd, 1) := by decide +kernel
theorem d_M_isUsed_6 : decode prog_10_method_14_code 6 = .ok (.istore 4, 2) := by decide +kernel
theorem d_M_isUsed_8 : decode prog_10_method_14_code 8 = .ok (.aload_n 0, 1) := by decide +kernel
theorem d_M_isUsed_9 : decode prog_10_method_14_code 9 = .ok (.getfield 23, 3) := by decide +kernel
theorem d_M_isUsed_12 : decode prog_10_method_14_code 12 = .ok (.iload 4, 2) := by decide +kernel
theorem d_M_isUsed_14 : decode prog_10_method_14_code 14 = .ok (.iaload, 1) := by decide +kernel
theorem d_M_isUsed_15 : decode prog_10_method_14_code 15 = .ok (.invokestatic 133, 3) := by decide +kernel
theorem d_M_isUsed_57 : decode prog_10_method_14_code 57 = .ok (.iconst 1, 1) := by decide +kernel
theorem d_M_isUsed_58 : decode prog_10_method_14_code 58 = .ok (.goto 4, 3) := by decide +kernel
theorem d_M_isUsed_62 : decode prog_10_method_14_code 62 = .ok (.ireturn, 1) := by decide +kernel
theorem d_M_isUsed_32 : decode prog_10_method_14_code 32 = .ok (.aload_n 0, 1) := by decide +kernel
theorem d_M_isUsed_33 : decode prog_10_method_14_code 33 = .ok (.getfield 23, 3) := by decide +kernel
theorem d_M_isUsed_36 : decode prog_10_method_14_code 36 = .ok (.iload 4, 2) := by decide +kernel
theorem d_M_isUsed_38 : decode prog_10_method_14_code 38 = .ok (.iaload, 1) := by decide +kernel
theorem d_M_isUsed_39 : decode prog_10_method_14_code 39 = .ok (.invokestatic 133, 3) := by decide +kernel
theorem d_M_isUsed_42 : decode prog_10_method_14_code 42 = .ok (.iconst 1, 1) := by decide +kernel
theorem d_M_isUsed_43 : decode prog_10_method_14_code 43 = .ok (.if_icmp .le 18, 3) := by decide +kernel
theorem d_M_isUsed_61 : decode prog_10_method_14_code 61 = .ok (.iconst 0, 1) := by decide +kernel
theorem d_M_isUsed_46 : decode prog_10_method_14_code 46 = .ok (.aload_n 0, 1) := by decide +kernel
theorem d_M_isUsed_47 : decode prog_10_method_14_code 47 = .ok (.getfield 29, 3) := by decide +kernel
theorem d_M_isUsed_50 : decode prog_10_method_14_code 50 = .ok (.iload 4, 2) := by decide +kernel
theorem d_M_isUsed_52 : decode prog_10_method_14_code 52 = .ok (.iaload, 1) := by decide +kernel
theorem d_M_isUsed_53 : decode prog_10_method_14_code 53 = .ok (.iload_n 2, 1) := by decide +kernel
theorem d_M_isUsed_54 : decode prog_10_method_14_code 54 = .ok (.if_icmp .ne 7, 3) := by decide +kernel
theorem d_M_isUsed_18 : decode prog_10_method_14_code 18 = .ok (.ifCond .le 14, 3) := by decide +kernel
theorem d_M_isUsed_21 : decode prog_10_method_14_code 21 = .ok (.aload_n 0, 1) := by decide +kernel
theorem d_M_isUsed_22 : decode prog_10_method_14_code 22 = .ok (.getfield 26, 3) := by decide +kernel
theorem d_M_isUsed_25 : decode prog_10_method_14_code 25 = .ok (.iload 4, 2) := by decide +kernel
theorem d_M_isUsed_27 : decode prog_10_method_14_code 27 = .ok (.iaload, 1) := by decide +kernel
theorem d_M_isUsed_28 : decode prog_10_method_14_code 28 = .ok (.iload_n 2, 1) := by decide +kernel
theorem d_M_isUsed_29 : decode prog_10_method_14_code 29 = .ok (.if_icmp .eq 28, 3) := by decide +kernel
theorem d_M_blame_0 : decode prog_10_method_16_code 0 = .ok (.aload_n 0, 1) := by decide +kernel
theorem d_M_blame_1 : decode prog_10_method_16_code 1 = .ok (.iload_n 1, 1) := by decide +kernel
theorem d_M_blame_2 : decode prog_10_method_16_code 2 = .ok (.putfield 141, 3) := by decide +kernel
theorem d_M_blame_5 : decode prog_10_method_16_code 5 = .ok (.aload_n 0, 1) := by decide +kernel
theorem d_M_blame_6 : decode prog_10_method_16_code 6 = .ok (.iload_n 2, 1) := by decide +kernel
theorem d_M_blame_7 : decode prog_10_method_16_code 7 = .ok (.putfield 32, 3) := by decide +kernel
theorem d_M_blame_10 : decode prog_10_method_16_code 10 = .ok (.aload_n 0, 1) := by decide +kernel
theorem d_M_blame_11 : decode prog_10_method_16_code 11 = .ok (.iload_n 3, 1) := by decide +kernel
theorem d_M_blame_12 : decode prog_10_method_16_code 12 = .ok (.putfield 36, 3) := by decide +kernel
theorem d_M_blame_15 : decode prog_10_method_16_code 15 = .ok (.iconst 1, 1) := by decide +kernel
theorem d_M_blame_16 : decode prog_10_method_16_code 16 = .ok (.ireturn, 1) := by decide +kernel
theorem d_M_lacks_0 : decode prog_10_method_15_code 0 = .ok (.iconst 0, 1) := by decide +kernel
theorem d_M_lacks_1 : decode prog_10_method_15_code 1 = .ok (.istore_n 1, 1) := by decide +kernel
theorem d_M_lacks_2 : decode prog_10_method_15_code 2 = .ok (.iload_n 1, 1) := by decide +kernel
theorem d_M_lacks_3 : decode prog_10_method_15_code 3 = .ok (.aload_n 0, 1) := by decide +kernel
theorem d_M_lacks_4 : decode prog_10_method_15_code 4 = .ok (.getfield 119, 3) := by decide +kernel
theorem d_M_lacks_7 : decode prog_10_method_15_code 7 = .ok (.if_icmp .ge 55, 3) := by decide +kernel
theorem d_M_lacks_62 : decode prog_10_method_15_code 62 = .ok (.iconst 0, 1) := by decide +kernel
theorem d_M_lacks_63 : decode prog_10_method_15_code 63 = .ok (.ireturn, 1) := by decide +kernel
theorem d_M_lacks_10 : decode prog_10_method_15_code 10 = .ok (.iconst 0, 1) := by decide +kernel
theorem d_M_lacks_11 : decode prog_10_method_15_code 11 = .ok (.istore_n 2, 1) := by decide +kernel
theorem d_M_lacks_12 : decode prog_10_method_15_code 12 = .ok (.iload_n 2, 1) := by decide +kernel
theorem d_M_lacks_13 : decode prog_10_method_15_code 13 = .ok (.bipush 16, 2) := by decide +kernel
theorem d_M_lacks_15 : decode prog_10_method_15_code 15 = .ok (.if_icmp .ge 41, 3) := by decide +kernel
theorem d_M_lacks_56 : decode prog_10_method_15_code 56 = .ok (.iinc 1 1, 3) := by decide +kernel
theorem d_M_lacks_59 : decode prog_10_method_15_code 59 = .ok (.goto (-57), 3) := by decide +kernel
theorem d_M_lacks_18 : decode prog_10_method_15_code 18 = .ok (.aload_n 0, 1) := by decide +kernel
theorem d_M_lacks_19 : decode prog_10_method_15_code 19 = .ok (.iload_n 1, 1) := by decide +kernel
theorem d_M_lacks_20 : decode prog_10_method_15_code 20 = .ok (.iload_n 2, 1) := by decide +kernel
theorem d_M_lacks_21 : decode prog_10_method_15_code 21 = .ok (.invokevirtual 130, 3) := by decide +kernel
theorem d_M_lacks_50 : decode prog_10_method_15_code 50 = .ok (.iinc 2 1, 3) := by decide +kernel
theorem d_M_lacks_53 : decode prog_10_method_15_code 53 = .ok (.goto (-41), 3) := by decide +kernel
theorem d_M_lacks_24 : decode prog_10_method_15_code 24 = .ok (.ifCond .eq 26, 3) := by decide +kernel
theorem d_M_lacks_27 : decode prog_10_method_15_code 27 = .ok (.aload_n 0, 1) := by decide +kernel
theorem d_M_lacks_28 : decode prog_10_method_15_code 28 = .ok (.getfield 23, 3) := by decide +kernel
theorem d_M_lacks_31 : decode prog_10_method_15_code 31 = .ok (.bipush 16, 2) := by decide +kernel
theorem d_M_lacks_33 : decode prog_10_method_15_code 33 = .ok (.iload_n 1, 1) := by decide +kernel
theorem d_M_lacks_34 : decode prog_10_method_15_code 34 = .ok (.imul, 1) := by decide +kernel
theorem d_M_lacks_35 : decode prog_10_method_15_code 35 = .ok (.iload_n 2, 1) := by decide +kernel
theorem d_M_lacks_36 : decode prog_10_method_15_code 36 = .ok (.iadd, 1) := by decide +kernel
theorem d_M_lacks_37 : decode prog_10_method_15_code 37 = .ok (.iaload, 1) := by decide +kernel
theorem d_M_lacks_38 : decode prog_10_method_15_code 38 = .ok (.iconst (-1), 1) := by decide +kernel
theorem d_M_lacks_39 : decode prog_10_method_15_code 39 = .ok (.if_icmp .ne 11, 3) := by decide +kernel
theorem d_M_lacks_42 : decode prog_10_method_15_code 42 = .ok (.aload_n 0, 1) := by decide +kernel
theorem d_M_lacks_43 : decode prog_10_method_15_code 43 = .ok (.iconst 1, 1) := by decide +kernel
theorem d_M_lacks_44 : decode prog_10_method_15_code 44 = .ok (.iload_n 1, 1) := by decide +kernel
theorem d_M_lacks_45 : decode prog_10_method_15_code 45 = .ok (.iload_n 2, 1) := by decide +kernel
theorem d_M_lacks_46 : decode prog_10_method_15_code 46 = .ok (.invokevirtual 137, 3) := by decide +kernel
theorem d_M_lacks_49 : decode prog_10_method_15_code 49 = .ok (.ireturn, 1) := by decide +kernel
theorem d_M_begin_0 : decode prog_10_method_17_code 0 = .ok (.iconst 0, 1) := by decide +kernel
theorem d_M_begin_1 : decode prog_10_method_17_code 1 = .ok (.istore_n 1, 1) := by decide +kernel
theorem d_M_begin_2 : decode prog_10_method_17_code 2 = .ok (.iload_n 1, 1) := by decide +kernel
theorem d_M_begin_3 : decode prog_10_method_17_code 3 = .ok (.bipush 96, 2) := by decide +kernel
theorem d_M_begin_5 : decode prog_10_method_17_code 5 = .ok (.if_icmp .ge 16, 3) := by decide +kernel
theorem d_M_begin_21 : decode prog_10_method_17_code 21 = .ok (.iconst 0, 1) := by decide +kernel
theorem d_M_begin_22 : decode prog_10_method_17_code 22 = .ok (.istore_n 1, 1) := by decide +kernel
theorem d_M_begin_23 : decode prog_10_method_17_code 23 = .ok (.iload_n 1, 1) := by decide +kernel
theorem d_M_begin_24 : decode prog_10_method_17_code 24 = .ok (.sipush 256, 3) := by decide +kernel
theorem d_M_begin_27 : decode prog_10_method_17_code 27 = .ok (.aload_n 0, 1) := by decide +kernel
theorem d_M_begin_28 : decode prog_10_method_17_code 28 = .ok (.getfield 119, 3) := by decide +kernel
theorem d_M_begin_31 : decode prog_10_method_17_code 31 = .ok (.imul, 1) := by decide +kernel
theorem d_M_begin_32 : decode prog_10_method_17_code 32 = .ok (.if_icmp .ge 73, 3) := by decide +kernel
theorem d_M_begin_105 : decode prog_10_method_17_code 105 = .ok (.return_, 1) := by decide +kernel
theorem d_M_begin_35 : decode prog_10_method_17_code 35 = .ok (.iload_n 1, 1) := by decide +kernel
theorem d_M_begin_36 : decode prog_10_method_17_code 36 = .ok (.sipush 256, 3) := by decide +kernel
theorem d_M_begin_39 : decode prog_10_method_17_code 39 = .ok (.idiv, 1) := by decide +kernel
theorem d_M_begin_40 : decode prog_10_method_17_code 40 = .ok (.istore_n 2, 1) := by decide +kernel
theorem d_M_begin_41 : decode prog_10_method_17_code 41 = .ok (.iload_n 1, 1) := by decide +kernel
theorem d_M_begin_42 : decode prog_10_method_17_code 42 = .ok (.bipush 16, 2) := by decide +kernel
theorem d_M_begin_44 : decode prog_10_method_17_code 44 = .ok (.idiv, 1) := by decide +kernel
theorem d_M_begin_45 : decode prog_10_method_17_code 45 = .ok (.bipush 16, 2) := by decide +kernel
theorem d_M_begin_47 : decode prog_10_method_17_code 47 = .ok (.irem, 1) := by decide +kernel
theorem d_M_begin_48 : decode prog_10_method_17_code 48 = .ok (.istore_n 3, 1) := by decide +kernel
theorem d_M_begin_49 : decode prog_10_method_17_code 49 = .ok (.iload_n 1, 1) := by decide +kernel
theorem d_M_begin_50 : decode prog_10_method_17_code 50 = .ok (.bipush 16, 2) := by decide +kernel
theorem d_M_begin_52 : decode prog_10_method_17_code 52 = .ok (.irem, 1) := by decide +kernel
theorem d_M_begin_53 : decode prog_10_method_17_code 53 = .ok (.istore 4, 2) := by decide +kernel
theorem d_M_begin_55 : decode prog_10_method_17_code 55 = .ok (.aload_n 0, 1) := by decide +kernel
theorem d_M_begin_56 : decode prog_10_method_17_code 56 = .ok (.getfield 39, 3) := by decide +kernel
theorem d_M_begin_59 : decode prog_10_method_17_code 59 = .ok (.iload_n 1, 1) := by decide +kernel
theorem d_M_begin_60 : decode prog_10_method_17_code 60 = .ok (.aload_n 0, 1) := by decide +kernel
theorem d_M_begin_61 : decode prog_10_method_17_code 61 = .ok (.iload_n 2, 1) := by decide +kernel
theorem d_M_begin_62 : decode prog_10_method_17_code 62 = .ok (.iload 4, 2) := by decide +kernel
theorem d_M_begin_64 : decode prog_10_method_17_code 64 = .ok (.invokevirtual 130, 3) := by decide +kernel
theorem d_M_begin_86 : decode prog_10_method_17_code 86 = .ok (.bastore, 1) := by decide +kernel
theorem d_M_begin_87 : decode prog_10_method_17_code 87 = .ok (.aload_n 0, 1) := by decide +kernel
theorem d_M_begin_88 : decode prog_10_method_17_code 88 = .ok (.getfield 42, 3) := by decide +kernel
theorem d_M_begin_91 : decode prog_10_method_17_code 91 = .ok (.iload_n 1, 1) := by decide +kernel
theorem d_M_begin_92 : decode prog_10_method_17_code 92 = .ok (.aload_n 0, 1) := by decide +kernel
theorem d_M_begin_93 : decode prog_10_method_17_code 93 = .ok (.getfield 39, 3) := by decide +kernel
