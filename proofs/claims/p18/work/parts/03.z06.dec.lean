theorem d_M_rule_102 : decode prog_10_method_13_code 102 = .ok (.putfield 99, 3) := by decide +kernel
theorem d_M_rule_105 : decode prog_10_method_13_code 105 = .ok (.aload_n 0, 1) := by decide +kernel
theorem d_M_rule_106 : decode prog_10_method_13_code 106 = .ok (.getfield 99, 3) := by decide +kernel
theorem d_M_rule_109 : decode prog_10_method_13_code 109 = .ok (.ifCond .le 4, 3) := by decide +kernel
theorem d_M_rule_113 : decode prog_10_method_13_code 113 = .ok (.aload_n 0, 1) := by decide +kernel
theorem d_M_rule_114 : decode prog_10_method_13_code 114 = .ok (.getfield 23, 3) := by decide +kernel
theorem d_M_rule_117 : decode prog_10_method_13_code 117 = .ok (.bipush 16, 2) := by decide +kernel
theorem d_M_rule_119 : decode prog_10_method_13_code 119 = .ok (.iload_n 1, 1) := by decide +kernel
theorem d_M_rule_120 : decode prog_10_method_13_code 120 = .ok (.imul, 1) := by decide +kernel
theorem d_M_rule_121 : decode prog_10_method_13_code 121 = .ok (.iload_n 2, 1) := by decide +kernel
theorem d_M_rule_122 : decode prog_10_method_13_code 122 = .ok (.iadd, 1) := by decide +kernel
theorem d_M_rule_123 : decode prog_10_method_13_code 123 = .ok (.iload_n 3, 1) := by decide +kernel
theorem d_M_rule_124 : decode prog_10_method_13_code 124 = .ok (.iastore, 1) := by decide +kernel
theorem d_M_rule_125 : decode prog_10_method_13_code 125 = .ok (.aload_n 0, 1) := by decide +kernel
theorem d_M_rule_126 : decode prog_10_method_13_code 126 = .ok (.getfield 26, 3) := by decide +kernel
theorem d_M_rule_129 : decode prog_10_method_13_code 129 = .ok (.bipush 16, 2) := by decide +kernel
theorem d_M_rule_131 : decode prog_10_method_13_code 131 = .ok (.iload_n 1, 1) := by decide +kernel
theorem d_M_rule_132 : decode prog_10_method_13_code 132 = .ok (.imul, 1) := by decide +kernel
theorem d_M_rule_133 : decode prog_10_method_13_code 133 = .ok (.iload_n 2, 1) := by decide +kernel
theorem d_M_rule_134 : decode prog_10_method_13_code 134 = .ok (.iadd, 1) := by decide +kernel
theorem d_M_rule_135 : decode prog_10_method_13_code 135 = .ok (.iload 4, 2) := by decide +kernel
theorem d_M_rule_137 : decode prog_10_method_13_code 137 = .ok (.iastore, 1) := by decide +kernel
theorem d_M_rule_138 : decode prog_10_method_13_code 138 = .ok (.aload_n 0, 1) := by decide +kernel
theorem d_M_rule_139 : decode prog_10_method_13_code 139 = .ok (.getfield 29, 3) := by decide +kernel
theorem d_M_rule_142 : decode prog_10_method_13_code 142 = .ok (.bipush 16, 2) := by decide +kernel
theorem d_M_rule_144 : decode prog_10_method_13_code 144 = .ok (.iload_n 1, 1) := by decide +kernel
theorem d_M_rule_145 : decode prog_10_method_13_code 145 = .ok (.imul, 1) := by decide +kernel
theorem d_M_rule_146 : decode prog_10_method_13_code 146 = .ok (.iload_n 2, 1) := by decide +kernel
theorem d_M_rule_147 : decode prog_10_method_13_code 147 = .ok (.iadd, 1) := by decide +kernel
theorem d_M_rule_148 : decode prog_10_method_13_code 148 = .ok (.iload 5, 2) := by decide +kernel
theorem d_M_rule_150 : decode prog_10_method_13_code 150 = .ok (.iastore, 1) := by decide +kernel
theorem d_M_rule_151 : decode prog_10_method_13_code 151 = .ok (.aload_n 0, 1) := by decide +kernel
theorem d_M_rule_152 : decode prog_10_method_13_code 152 = .ok (.invokevirtual 112, 3) := by decide +kernel
theorem d_M_rule_155 : decode prog_10_method_13_code 155 = .ok (.return_, 1) := by decide +kernel
theorem d_M_rule_112 : decode prog_10_method_13_code 112 = .ok (.return_, 1) := by decide +kernel
theorem d_M_rule_94 : decode prog_10_method_13_code 94 = .ok (.ifCond .eq 7, 3) := by decide +kernel
theorem d_M_rule_101 : decode prog_10_method_13_code 101 = .ok (.iconst 2, 1) := by decide +kernel
theorem d_M_rule_97 : decode prog_10_method_13_code 97 = .ok (.iconst 0, 1) := by decide +kernel
theorem d_M_rule_98 : decode prog_10_method_13_code 98 = .ok (.goto 4, 3) := by decide +kernel
theorem d_M_rule_88 : decode prog_10_method_13_code 88 = .ok (.iconst 0, 1) := by decide +kernel
theorem d_M_rule_35 : decode prog_10_method_13_code 35 = .ok (.ifCond .eq 53, 3) := by decide +kernel
theorem d_M_rule_38 : decode prog_10_method_13_code 38 = .ok (.iload_n 3, 1) := by decide +kernel
theorem d_M_rule_39 : decode prog_10_method_13_code 39 = .ok (.ifCond .lt 49, 3) := by decide +kernel
theorem d_M_rule_42 : decode prog_10_method_13_code 42 = .ok (.iload_n 3, 1) := by decide +kernel
theorem d_M_rule_43 : decode prog_10_method_13_code 43 = .ok (.bipush 8, 2) := by decide +kernel
theorem d_M_rule_45 : decode prog_10_method_13_code 45 = .ok (.if_icmp .ge 43, 3) := by decide +kernel
theorem d_M_rule_48 : decode prog_10_method_13_code 48 = .ok (.iload_n 3, 1) := by decide +kernel
theorem d_M_rule_49 : decode prog_10_method_13_code 49 = .ok (.invokestatic 133, 3) := by decide +kernel
theorem d_M_rule_52 : decode prog_10_method_13_code 52 = .ok (.iconst 1, 1) := by decide +kernel
theorem d_M_rule_66 : decode prog_10_method_13_code 66 = .ok (.iload_n 3, 1) := by decide +kernel
theorem d_M_rule_67 : decode prog_10_method_13_code 67 = .ok (.invokestatic 133, 3) := by decide +kernel
theorem d_M_rule_70 : decode prog_10_method_13_code 70 = .ok (.iconst 2, 1) := by decide +kernel
theorem d_M_rule_84 : decode prog_10_method_13_code 84 = .ok (.iconst 1, 1) := by decide +kernel
theorem d_M_rule_85 : decode prog_10_method_13_code 85 = .ok (.goto 4, 3) := by decide +kernel
theorem d_M_rule_71 : decode prog_10_method_13_code 71 = .ok (.if_icmp .lt 13, 3) := by decide +kernel
theorem d_M_rule_74 : decode prog_10_method_13_code 74 = .ok (.aload_n 0, 1) := by decide +kernel
theorem d_M_rule_75 : decode prog_10_method_13_code 75 = .ok (.iload_n 1, 1) := by decide +kernel
theorem d_M_rule_76 : decode prog_10_method_13_code 76 = .ok (.iload 5, 2) := by decide +kernel
theorem d_M_rule_78 : decode prog_10_method_13_code 78 = .ok (.invokevirtual 122, 3) := by decide +kernel
theorem d_M_rule_81 : decode prog_10_method_13_code 81 = .ok (.ifCond .eq 7, 3) := by decide +kernel
theorem d_M_rule_53 : decode prog_10_method_13_code 53 = .ok (.if_icmp .lt 13, 3) := by decide +kernel
theorem d_M_rule_56 : decode prog_10_method_13_code 56 = .ok (.aload_n 0, 1) := by decide +kernel
theorem d_M_rule_57 : decode prog_10_method_13_code 57 = .ok (.iload_n 1, 1) := by decide +kernel
theorem d_M_rule_58 : decode prog_10_method_13_code 58 = .ok (.iload 4, 2) := by decide +kernel
theorem d_M_rule_60 : decode prog_10_method_13_code 60 = .ok (.invokevirtual 122, 3) := by decide +kernel
theorem d_M_rule_63 : decode prog_10_method_13_code 63 = .ok (.ifCond .eq 25, 3) := by decide +kernel
theorem d_M_rule_28 : decode prog_10_method_13_code 28 = .ok (.return_, 1) := by decide +kernel
theorem d_M_rule_13 : decode prog_10_method_13_code 13 = .ok (.iconst 1, 1) := by decide +kernel
theorem d_M_rule_14 : decode prog_10_method_13_code 14 = .ok (.goto 4, 3) := by decide +kernel
theorem d_M_rule_2 : decode prog_10_method_13_code 2 = .ok (.ifCond .lt 11, 3) := by decide +kernel
theorem d_M_rule_5 : decode prog_10_method_13_code 5 = .ok (.iload_n 1, 1) := by decide +kernel
theorem d_M_rule_6 : decode prog_10_method_13_code 6 = .ok (.aload_n 0, 1) := by decide +kernel
theorem d_M_rule_7 : decode prog_10_method_13_code 7 = .ok (.getfield 119, 3) := by decide +kernel
theorem d_M_rule_10 : decode prog_10_method_13_code 10 = .ok (.if_icmp .lt 7, 3) := by decide +kernel
theorem d_M_rule_17 : decode prog_10_method_13_code 17 = .ok (.iconst 0, 1) := by decide +kernel
theorem d_M_isUsed_0 : decode prog_10_method_14_code 0 = .ok (.bipush 16, 2) := by decide +kernel
theorem d_M_isUsed_2 : decode prog_10_method_14_code 2 = .ok (.iload_n 1, 1) := by decide +kernel
theorem d_M_isUsed_3 : decode prog_10_method_14_code 3 = .ok (.imul, 1) := by decide +kernel
theorem d_M_isUsed_4 : decode prog_10_method_14_code 4 = .ok (.iload_n 3, 1) := by decide +kernel
theorem d_M_isUsed_5 : decode prog_10_method_14_code 5 = .ok (.iadd, 1) := by decide +kernel
theorem d_M_isUsed_6 : decode prog_10_method_14_code 6 = .ok (.istore 4, 2) := by decide +kernel
theorem d_M_isUsed_8 : decode prog_10_method_14_code 8 = .ok (.aload_n 0, 1) := by decide +kernel
theorem d_M_isUsed_9 : decode prog_10_method_14_code 9 = .ok (.getfield 23, 3) := by decide +kernel
theorem d_M_isUsed_12 : decode prog_10_method_14_code 12 = .ok (.iload 4, 2) := by decide +kernel
theorem d_M_isUsed_14 : decode prog_10_method_14_code 14 = .ok (.iaload, 1) := by decide +kernel
theorem d_M_isUsed_15 : decode prog_10_method_14_code 15 = .ok (.invokestatic 133, 3) := by decide +kernel
theorem d_M_isUsed_57 : decode prog_10_method_14_code 57 = .ok (.iconst 1, 1) := by decide +kernel
theorem d_M_isUsed_58 : decode prog_10_method_14_code 58 = .ok (.goto 4, 3) := by decide +kernel
theorem d_M_isUsed_62 : decode prog_10_method_14_code 62 = .ok (.ireturn, 1) := by decide +kernel
theorem d_M_isUsed_32 : decode prog_10_method_14_code 32 = .ok (.aload_n 0, 1) := by decide +kernel
theorem d_M_isUsed_33 : decode prog_10_method_14_code 33 = .ok (.getfield 23, 3) := by decide +kernel
theorem d_M_isUsed_36 : decode prog_10_method_14_code 36 = .ok (.iload 4, 2) := by decide +kernel
theorem d_M_isUsed_38 : decode prog_10_method_14_code 38 = .ok (.iaload, 1) := by decide +kernel
theorem d_M_isUsed_39 : decode prog_10_method_14_code 39 = .ok (.invokestatic 133, 3) := by decide +kernel
theorem d_M_isUsed_42 : decode prog_10_method_14_code 42 = .ok (.iconst 1, 1) := by decide +kernel
theorem d_M_isUsed_43 : decode prog_10_method_14_code 43 = .ok (.if_icmp .le 18, 3) := by decide +kernel
theorem d_M_isUsed_61 : decode prog_10_method_14_code 61 = .ok (.iconst 0, 1) := by decide +kernel
theorem d_M_isUsed_46 : decode prog_10_method_14_code 46 = .ok (.aload_n 0, 1) := by decide +kernel
theorem d_M_isUsed_47 : decode prog_10_method_14_code 47 = .ok (.getfield 29, 3) := by decide +kernel
theorem d_M_isUsed_50 : decode prog_10_method_14_code 50 = .ok (.iload 4, 2) := by decide +kernel
theorem d_M_isUsed_52 : decode prog_10_method_14_code 52 = .ok (.iaload, 1) := by decide +kernel
theorem d_M_isUsed_53 : decode prog_10_method_14_code 53 = .ok (.iload_n 2, 1) := by decide +kernel
theorem d_M_isUsed_54 : decode prog_10_method_14_code 54 = .ok (.if_icmp .ne 7, 3) := by decide +kernel
theorem d_M_isUsed_18 : decode prog_10_method_14_code 18 = .ok (.ifCond .le 14, 3) := by decide +kernel
theorem d_M_isUsed_21 : decode prog_10_method_14_code 21 = .ok (.aload_n 0, 1) := by decide +kernel
theorem d_M_isUsed_22 : decode prog_10_method_14_code 22 = .ok (.getfield 26, 3) := by decide +kernel
theorem d_M_isUsed_25 : decode prog_10_method_14_code 25 = .ok (.iload 4, 2) := by decide +kernel
theorem d_M_isUsed_27 : decode prog_10_method_14_code 27 = .ok (.iaload, 1) := by decide +kernel
theorem d_M_isUsed_28 : decode prog_10_method_14_code 28 = .ok (.iload_n 2, 1) := by decide +kernel
theorem d_M_isUsed_29 : decode prog_10_method_14_code 29 = .ok (.if_icmp .eq 28, 3) := by decide +kernel
theorem d_M_blame_0 : decode prog_10_method_16_code 0 = .ok (.aload_n 0, 1) := by decide +kernel
theorem d_M_blame_1 : decode prog_10_method_16_code 1 = .ok (.iload_n 1, 1) := by decide +kernel
theorem d_M_blame_2 : decode prog_10_method_16_code 2 = .ok (.putfield 141, 3) := by decide +kernel
theorem d_M_blame_5 : decode prog_10_method_16_code 5 = .ok (.aload_n 0, 1) := by decide +kernel
theorem d_M_blame_6 : decode prog_10_method_16_code 6 = .ok (.iload_n 2, 1) := by decide +kernel
theorem d_M_blame_7 : decode prog_10_method_16_code 7 = .ok (.putfield 32, 3) := by decide +kernel
theorem d_M_blame_10 : decode prog_10_method_16_code 10 = .ok (.aload_n 0, 1) := by decide +kernel
theorem d_M_blame_11 : decode prog_10_method_16_code 11 = .ok (.iload_n 3, 1) := by decide +kernel
theorem d_M_blame_12 : decode prog_10_method_16_code 12 = .ok (.putfield 36, 3) := by decide +kernel
theorem d_M_blame_15 : decode prog_10_method_16_code 15 = .ok (.iconst 1, 1) := by decide +kernel
theorem d_M_blame_16 : decode prog_10_method_16_code 16 = .ok (.ireturn, 1) := by decide +kernel
theorem d_M_lacks_0 : decode prog_10_method_15_code 0 = .ok (.iconst 0, 1) := by decide +kernel
theorem d_M_lacks_1 : decode prog_10_method_15_code 1 = .ok (.istore_n 1, 1) := by decide +kernel
theorem d_M_lacks_2 : decode prog_10_method_15_code 2 = .ok (.iload_n 1, 1) := by decide +kernel
theorem d_M_lacks_3 : decode prog_10_method_15_code 3 = .ok (.aload_n 0, 1) := by decide +kernel
theorem d_M_lacks_4 : decode prog_10_method_15_code 4 = .ok (.getfield 119, 3) := by decide +kernel
theorem d_M_lacks_7 : decode prog_10_method_15_code 7 = .ok (.if_icmp .ge 55, 3) := by decide +kernel
theorem d_M_lacks_62 : decode prog_10_method_15_code 62 = .ok (.iconst 0, 1) := by decide +kernel
theorem d_M_lacks_63 : decode prog_10_method_15_code 63 = .ok (.ireturn, 1) := by decide +kernel
theorem d_M_lacks_10 : decode prog_10_method_15_code 10 = .ok (.iconst 0, 1) := by decide +kernel
theorem d_M_lacks_11 : decode prog_10_method_15_code 11 = .ok (.istore_n 2, 1) := by decide +kernel
theorem d_M_lacks_12 : decode prog_10_method_15_code 12 = .ok (.iload_n 2, 1) := by decide +kernel
theorem d_M_lacks_13 : decode prog_10_method_15_code 13 = .ok (.bipush 16, 2) := by decide +kernel
theorem d_M_lacks_15 : decode prog_10_method_15_code 15 = .ok (.if_icmp .ge 41, 3) := by decide +kernel
theorem d_M_lacks_56 : decode prog_10_method_15_code 56 = .ok (.iinc 1 1, 3) := by decide +kernel
theorem d_M_lacks_59 : decode prog_10_method_15_code 59 = .ok (.goto (-57), 3) := by decide +kernel
theorem d_M_lacks_18 : decode prog_10_method_15_code 18 = .ok (.aload_n 0, 1) := by decide +kernel
theorem d_M_lacks_19 : decode prog_10_method_15_code 19 = .ok (.iload_n 1, 1) := by decide +kernel
theorem d_M_lacks_20 : decode prog_10_method_15_code 20 = .ok (.iload_n 2, 1) := by decide +kernel
theorem d_M_lacks_21 : decode prog_10_method_15_code 21 = .ok (.invokevirtual 130, 3) := by decide +kernel
theorem d_M_lacks_50 : decode prog_10_method_15_code 50 = .ok (.iinc 2 1, 3) := by decide +kernel
theorem d_M_lacks_53 : decode prog_10_method_15_code 53 = .ok (.goto (-41), 3) := by decide +kernel
theorem d_M_lacks_24 : decode prog_10_method_15_code 24 = .ok (.ifCond .eq 26, 3) := by decide +kernel
theorem d_M_lacks_27 : decode prog_10_method_15_code 27 = .ok (.aload_n 0, 1) := by decide +kernel
theorem d_M_lacks_28 : decode prog_10_method_15_code 28 = .ok (.getfield 23, 3) := by decide +kernel
theorem d_M_lacks_31 : decode prog_10_method_15_code 31 = .ok (.bipush 16, 2) := by decide +kernel
theorem d_M_lacks_33 : decode prog_10_method_15_code 33 = .ok (.iload_n 1, 1) := by decide +kernel
theorem d_M_lacks_34 : decode prog_10_method_15_code 34 = .ok (.imul, 1) := by decide +kernel
theorem d_M_lacks_35 : decode prog_10_method_15_code 35 = .ok (.iload_n 2, 1) := by decide +kernel
theorem d_M_lacks_36 : decode prog_10_method_15_code 36 = .ok (.iadd, 1) := by decide +kernel
theorem d_M_lacks_37 : decode prog_10_method_15_code 37 = .ok (.iaload, 1) := by decide +kernel
theorem d_M_lacks_38 : decode prog_10_method_15_code 38 = .ok (.iconst (-1), 1) := by decide +kernel
theorem d_M_lacks_39 : decode prog_10_method_15_code 39 = .ok (.if_icmp .ne 11, 3) := by decide +kernel
theorem d_M_lacks_42 : decode prog_10_method_15_code 42 = .ok (.aload_n 0, 1) := by decide +kernel
theorem d_M_lacks_43 : decode prog_10_method_15_code 43 = .ok (.iconst 1, 1) := by decide +kernel
theorem d_M_lacks_44 : decode prog_10_method_15_code 44 = .ok (.iload_n 1, 1) := by decide +kernel
theorem d_M_lacks_45 : decode prog_10_method_15_code 45 = .ok (.iload_n 2, 1) := by decide +kernel
theorem d_M_lacks_46 : decode prog_10_method_15_code 46 = .ok (.invokevirtual 137, 3) := by decide +kernel
theorem d_M_lacks_49 : decode prog_10_method_15_code 49 = .ok (.ireturn, 1) := by decide +kernel
theorem d_M_begin_0 : decode prog_10_method_17_code 0 = .ok (.iconst 0, 1) := by decide +kernel
theorem d_M_begin_1 : decode prog_10_method_17_code 1 = .ok (.istore_n 1, 1) := by decide +kernel
theorem d_M_begin_2 : decode prog_10_method_17_code 2 = .ok (.iload_n 1, 1) := by decide +kernel
theorem d_M_begin_3 : decode prog_10_method_17_code 3 = .ok (.bipush 96, 2) := by decide +kernel
theorem d_M_begin_5 : decode prog_10_method_17_code 5 = .ok (.if_icmp .ge 16, 3) := by decide +kernel
theorem d_M_begin_21 : decode prog_10_method_17_code 21 = .ok (.iconst 0, 1) := by decide +kernel
theorem d_M_begin_22 : decode prog_10_method_17_code 22 = .ok (.istore_n 1, 1) := by decide +kernel
theorem d_M_begin_23 : decode prog_10_method_17_code 23 = .ok (.iload_n 1, 1) := by decide +kernel
theorem d_M_begin_24 : decode prog_10_method_17_code 24 = .ok (.sipush 256, 3) := by decide +kernel
theorem d_M_begin_27 : decode prog_10_method_17_code 27 = .ok (.aload_n 0, 1) := by decide +kernel
theorem d_M_begin_28 : decode prog_10_method_17_code 28 = .ok (.getfield 119, 3) := by decide +kernel
theorem d_M_begin_31 : decode prog_10_method_17_code 31 = .ok (.imul, 1) := by decide +kernel
theorem d_M_begin_32 : decode prog_10_method_17_code 32 = .ok (.if_icmp .ge 73, 3) := by decide +kernel
theorem d_M_begin_105 : decode prog_10_method_17_code 105 = .ok (.return_, 1) := by decide +kernel
theorem d_M_begin_35 : decode prog_10_method_17_code 35 = .ok (.iload_n 1, 1) := by decide +kernel
theorem d_M_begin_36 : decode prog_10_method_17_code 36 = .ok (.sipush 256, 3) := by decide +kernel
theorem d_M_begin_39 : decode prog_10_method_17_code 39 = .ok (.idiv, 1) := by decide +kernel
theorem d_M_begin_40 : decode prog_10_method_17_code 40 = .ok (.istore_n 2, 1) := by decide +kernel
theorem d_M_begin_41 : decode prog_10_method_17_code 41 = .ok (.iload_n 1, 1) := by decide +kernel
theorem d_M_begin_42 : decode prog_10_method_17_code 42 = .ok (.bipush 16, 2) := by decide +kernel
theorem d_M_begin_44 : decode prog_10_method_17_code 44 = .ok (.idiv, 1) := by decide +kernel
theorem d_M_begin_45 : decode prog_10_method_17_code 45 = .ok (.bipush 16, 2) := by decide +kernel
theorem d_M_begin_47 : decode prog_10_method_17_code 47 = .ok (.irem, 1) := by decide +kernel
theorem d_M_begin_48 : decode prog_10_method_17_code 48 = .ok (.istore_n 3, 1) := by decide +kernel
theorem d_M_begin_49 : decode prog_10_method_17_code 49 = .ok (.iload_n 1, 1) := by decide +kernel
theorem d_M_begin_50 : decode prog_10_method_17_code 50 = .ok (.bipush 16, 2) := by decide +kernel
theorem d_M_begin_52 : decode prog_10_method_17_code 52 = .ok (.irem, 1) := by decide +kernel
theorem d_M_begin_53 : decode prog_10_method_17_code 53 = .ok (.istore 4, 2) := by decide +kernel
theorem d_M_begin_55 : decode prog_10_method_17_code 55 = .ok (.aload_n 0, 1) := by decide +kernel
theorem d_M_begin_56 : decode prog_10_method_17_code 56 = .ok (.getfield 39, 3) := by decide +kernel
theorem d_M_begin_59 : decode prog_10_method_17_code 59 = .ok (.iload_n 1, 1) := by decide +kernel
theorem d_M_begin_60 : decode prog_10_method_17_code 60 = .ok (.aload_n 0, 1) := by decide +kernel
theorem d_M_begin_61 : decode prog_10_method_17_code 61 = .ok (.iload_n 2, 1) := by decide +kernel
theorem d_M_begin_62 : decode prog_10_method_17_code 62 = .ok (.iload 4, 2) := by decide +kernel
theorem d_M_begin_64 : decode prog_10_method_17_code 64 = .ok (.invokevirtual 130, 3) := by decide +kernel
theorem d_M_begin_86 : decode prog_10_method_17_code 86 = .ok (.bastore, 1) := by decide +kernel
theorem d_M_begin_87 : decode prog_10_method_17_code 87 = .ok (.aload_n 0, 1) := by decide +kernel
theorem d_M_begin_88 : decode prog_10_method_17_code 88 = .ok (.getfield 42, 3) := by decide +kernel
theorem d_M_begin_91 : decode prog_10_method_17_code 91 = .ok (.iload_n 1, 1) := by decide +kernel
theorem d_M_begin_92 : decode prog_10_method_17_code 92 = .ok (.aload_n 0, 1) := by decide +kernel
theorem d_M_begin_93 : decode prog_10_method_17_code 93 = .ok (.getfield 39, 3) := by decide +kernel
theorem d_M_begin_96 : decode prog_10_method_17_code 96 = .ok (.iload_n 1, 1) := by decide +kernel
theorem d_M_begin_97 : decode prog_10_method_17_code 97 = .ok (.baload, 1) := by decide +kernel
theorem d_M_begin_98 : decode prog_10_method_17_code 98 = .ok (.bastore, 1) := by decide +kernel
theorem d_M_begin_99 : decode prog_10_method_17_code 99 = .ok (.iinc 1 1, 3) := by decide +kernel
theorem d_M_begin_102 : decode prog_10_method_17_code 102 = .ok (.goto (-79), 3) := by decide +kernel
theorem d_M_begin_85 : decode prog_10_method_17_code 85 = .ok (.iconst 0, 1) := by decide +kernel
theorem d_M_begin_67 : decode prog_10_method_17_code 67 = .ok (.ifCond .eq 18, 3) := by decide +kernel
theorem d_M_begin_70 : decode prog_10_method_17_code 70 = .ok (.aload_n 0, 1) := by decide +kernel
theorem d_M_begin_71 : decode prog_10_method_17_code 71 = .ok (.iload_n 2, 1) := by decide +kernel
theorem d_M_begin_72 : decode prog_10_method_17_code 72 = .ok (.iload_n 3, 1) := by decide +kernel
theorem d_M_begin_73 : decode prog_10_method_17_code 73 = .ok (.iload 4, 2) := by decide +kernel
theorem d_M_begin_75 : decode prog_10_method_17_code 75 = .ok (.invokevirtual 144, 3) := by decide +kernel
theorem d_M_begin_78 : decode prog_10_method_17_code 78 = .ok (.ifCond .eq 7, 3) := by decide +kernel
theorem d_M_begin_81 : decode prog_10_method_17_code 81 = .ok (.iconst 1, 1) := by decide +kernel
theorem d_M_begin_82 : decode prog_10_method_17_code 82 = .ok (.goto 4, 3) := by decide +kernel
theorem d_M_begin_8 : decode prog_10_method_17_code 8 = .ok (.aload_n 0, 1) := by decide +kernel
theorem d_M_begin_9 : decode prog_10_method_17_code 9 = .ok (.getfield 45, 3) := by decide +kernel
theorem d_M_begin_12 : decode prog_10_method_17_code 12 = .ok (.iload_n 1, 1) := by decide +kernel
theorem d_M_begin_13 : decode prog_10_method_17_code 13 = .ok (.iconst 0, 1) := by decide +kernel
theorem d_M_begin_14 : decode prog_10_method_17_code 14 = .ok (.bastore, 1) := by decide +kernel
theorem d_M_begin_15 : decode prog_10_method_17_code 15 = .ok (.iinc 1 1, 3) := by decide +kernel
theorem d_M_begin_18 : decode prog_10_method_17_code 18 = .ok (.goto (-16), 3) := by decide +kernel
theorem d_M_learn_0 : decode prog_10_method_18_code 0 = .ok (.sipush 256, 3) := by decide +kernel
theorem d_M_learn_3 : decode prog_10_method_18_code 3 = .ok (.iload_n 1, 1) := by decide +kernel
theorem d_M_learn_4 : decode prog_10_method_18_code 4 = .ok (.imul, 1) := by decide +kernel
theorem d_M_learn_5 : decode prog_10_method_18_code 5 = .ok (.istore_n 2, 1) := by decide +kernel
theorem d_M_learn_6 : decode prog_10_method_18_code 6 = .ok (.iconst 0, 1) := by decide +kernel
theorem d_M_learn_7 : decode prog_10_method_18_code 7 = .ok (.istore_n 3, 1) := by decide +kernel
theorem d_M_learn_8 : decode prog_10_method_18_code 8 = .ok (.iload_n 3, 1) := by decide +kernel
theorem d_M_learn_9 : decode prog_10_method_18_code 9 = .ok (.aload_n 0, 1) := by decide +kernel
theorem d_M_learn_10 : decode prog_10_method_18_code 10 = .ok (.getfield 17, 3) := by decide +kernel
theorem d_M_learn_13 : decode prog_10_method_18_code 13 = .ok (.iload_n 1, 1) := by decide +kernel
theorem d_M_learn_14 : decode prog_10_method_18_code 14 = .ok (.iaload, 1) := by decide +kernel
theorem d_M_learn_15 : decode prog_10_method_18_code 15 = .ok (.if_icmp .ge 95, 3) := by decide +kernel
theorem d_M_learn_110 : decode prog_10_method_18_code 110 = .ok (.iconst 0, 1) := by decide +kernel
theorem d_M_learn_111 : decode prog_10_method_18_code 111 = .ok (.istore_n 3, 1) := by decide +kernel
theorem d_M_learn_112 : decode prog_10_method_18_code 112 = .ok (.iload_n 3, 1) := by decide +kernel
theorem d_M_learn_113 : decode prog_10_method_18_code 113 = .ok (.bipush 16, 2) := by decide +kernel
theorem d_M_learn_115 : decode prog_10_method_18_code 115 = .ok (.if_icmp .ge 92, 3) := by decide +kernel
theorem d_M_learn_207 : decode prog_10_method_18_code 207 = .ok (.iconst 0, 1) := by decide +kernel
theorem d_M_learn_208 : decode prog_10_method_18_code 208 = .ok (.istore_n 3, 1) := by decide +kernel
theorem d_M_learn_209 : decode prog_10_method_18_code 209 = .ok (.iconst 0, 1) := by decide +kernel
theorem d_M_learn_210 : decode prog_10_method_18_code 210 = .ok (.istore 4, 2) := by decide +kernel
theorem d_M_learn_212 : decode prog_10_method_18_code 212 = .ok (.iload 4, 2) := by decide +kernel
theorem d_M_learn_214 : decode prog_10_method_18_code 214 = .ok (.aload_n 0, 1) := by decide +kernel
theorem d_M_learn_215 : decode prog_10_method_18_code 215 = .ok (.getfield 17, 3) := by decide +kernel
theorem d_M_learn_218 : decode prog_10_method_18_code 218 = .ok (.iload_n 1, 1) := by decide +kernel
theorem d_M_learn_219 : decode prog_10_method_18_code 219 = .ok (.iaload, 1) := by decide +kernel
theorem d_M_learn_220 : decode prog_10_method_18_code 220 = .ok (.if_icmp .ge 127, 3) := by decide +kernel
theorem d_M_learn_347 : decode prog_10_method_18_code 347 = .ok (.iload_n 3, 1) := by decide +kernel
theorem d_M_learn_348 : decode prog_10_method_18_code 348 = .ok (.ireturn, 1) := by decide +kernel
theorem d_M_learn_223 : decode prog_10_method_18_code 223 = .ok (.iconst 0, 1) := by decide +kernel
theorem d_M_learn_224 : decode prog_10_method_18_code 224 = .ok (.istore 5, 2) := by decide +kernel
theorem d_M_learn_226 : decode prog_10_method_18_code 226 = .ok (.iload 5, 2) := by decide +kernel
theorem d_M_learn_228 : decode prog_10_method_18_code 228 = .ok (.bipush 16, 2) := by decide +kernel
theorem d_M_learn_230 : decode prog_10_method_18_code 230 = .ok (.if_icmp .ge 111, 3) := by decide +kernel
theorem d_M_learn_341 : decode prog_10_method_18_code 341 = .ok (.iinc 4 1, 3) := by decide +kernel
theorem d_M_learn_344 : decode prog_10_method_18_code 344 = .ok (.goto (-132), 3) := by decide +kernel
theorem d_M_learn_233 : decode prog_10_method_18_code 233 = .ok (.bipush 16, 2) := by decide +kernel
theorem d_M_learn_235 : decode prog_10_method_18_code 235 = .ok (.aload_n 0, 1) := by decide +kernel
theorem d_M_learn_236 : decode prog_10_method_18_code 236 = .ok (.getfield 20, 3) := by decide +kernel
theorem d_M_learn_239 : decode prog_10_method_18_code 239 = .ok (.iconst 4, 1) := by decide +kernel
theorem d_M_learn_240 : decode prog_10_method_18_code 240 = .ok (.iload_n 1, 1) := by decide +kernel
theorem d_M_learn_241 : decode prog_10_method_18_code 241 = .ok (.imul, 1) := by decide +kernel
theorem d_M_learn_242 : decode prog_10_method_18_code 242 = .ok (.iload 4, 2) := by decide +kernel
theorem d_M_learn_244 : decode prog_10_method_18_code 244 = .ok (.iadd, 1) := by decide +kernel
theorem d_M_learn_245 : decode prog_10_method_18_code 245 = .ok (.iaload, 1) := by decide +kernel
theorem d_M_learn_246 : decode prog_10_method_18_code 246 = .ok (.imul, 1) := by decide +kernel
theorem d_M_learn_247 : decode prog_10_method_18_code 247 = .ok (.iload 5, 2) := by decide +kernel
theorem d_M_learn_249 : decode prog_10_method_18_code 249 = .ok (.iadd, 1) := by decide +kernel
theorem d_M_learn_250 : decode prog_10_method_18_code 250 = .ok (.istore 6, 2) := by decide +kernel
theorem d_M_learn_252 : decode prog_10_method_18_code 252 = .ok (.aload_n 0, 1) := by decide +kernel
theorem d_M_learn_253 : decode prog_10_method_18_code 253 = .ok (.getfield 42, 3) := by decide +kernel
theorem d_M_learn_256 : decode prog_10_method_18_code 256 = .ok (.iload_n 2, 1) := by decide +kernel
theorem d_M_learn_257 : decode prog_10_method_18_code 257 = .ok (.bipush 16, 2) := by decide +kernel
theorem d_M_learn_259 : decode prog_10_method_18_code 259 = .ok (.iconst 4, 1) := by decide +kernel
theorem d_M_learn_260 : decode prog_10_method_18_code 260 = .ok (.iload 4, 2) := by decide +kernel
theorem d_M_learn_262 : decode prog_10_method_18_code 262 = .ok (.imul, 1) := by decide +kernel
theorem d_M_learn_263 : decode prog_10_method_18_code 263 = .ok (.iload 5, 2) := by decide +kernel
theorem d_M_learn_265 : decode prog_10_method_18_code 265 = .ok (.iconst 4, 1) := by decide +kernel
theorem d_M_learn_266 : decode prog_10_method_18_code 266 = .ok (.idiv, 1) := by decide +kernel
theorem d_M_learn_267 : decode prog_10_method_18_code 267 = .ok (.iadd, 1) := by decide +kernel
theorem d_M_learn_268 : decode prog_10_method_18_code 268 = .ok (.imul, 1) := by decide +kernel
theorem d_M_learn_269 : decode prog_10_method_18_code 269 = .ok (.iadd, 1) := by decide +kernel
theorem d_M_learn_270 : decode prog_10_method_18_code 270 = .ok (.iconst 4, 1) := by decide +kernel
theorem d_M_learn_271 : decode prog_10_method_18_code 271 = .ok (.iload 4, 2) := by decide +kernel
theorem d_M_learn_273 : decode prog_10_method_18_code 273 = .ok (.imul, 1) := by decide +kernel
theorem d_M_learn_274 : decode prog_10_method_18_code 274 = .ok (.iadd, 1) := by decide +kernel
theorem d_M_learn_275 : decode prog_10_method_18_code 275 = .ok (.iload 5, 2) := by decide +kernel
theorem d_M_learn_277 : decode prog_10_method_18_code 277 = .ok (.iconst 4, 1) := by decide +kernel
theorem d_M_learn_278 : decode prog_10_method_18_code 278 = .ok (.irem, 1) := by decide +kernel
theorem d_M_learn_279 : decode prog_10_method_18_code 279 = .ok (.iadd, 1) := by decide +kernel
theorem d_M_learn_280 : decode prog_10_method_18_code 280 = .ok (.baload, 1) := by decide +kernel
theorem d_M_learn_281 : decode prog_10_method_18_code 281 = .ok (.istore 7, 2) := by decide +kernel
theorem d_M_learn_283 : decode prog_10_method_18_code 283 = .ok (.iload_n 3, 1) := by decide +kernel
theorem d_M_learn_307 : decode prog_10_method_18_code 307 = .ok (.istore_n 3, 1) := by decide +kernel
theorem d_M_learn_308 : decode prog_10_method_18_code 308 = .ok (.aload_n 0, 1) := by decide +kernel
theorem d_M_learn_309 : decode prog_10_method_18_code 309 = .ok (.getfield 45, 3) := by decide +kernel
theorem d_M_learn_312 : decode prog_10_method_18_code 312 = .ok (.iload 6, 2) := by decide +kernel
theorem d_M_learn_314 : decode prog_10_method_18_code 314 = .ok (.aload_n 0, 1) := by decide +kernel
theorem d_M_learn_315 : decode prog_10_method_18_code 315 = .ok (.getfield 45, 3) := by decide +kernel
theorem d_M_learn_318 : decode prog_10_method_18_code 318 = .ok (.iload 6, 2) := by decide +kernel
theorem d_M_learn_320 : decode prog_10_method_18_code 320 = .ok (.baload, 1) := by decide +kernel
theorem d_M_learn_334 : decode prog_10_method_18_code 334 = .ok (.bastore, 1) := by decide +kernel
theorem d_M_learn_335 : decode prog_10_method_18_code 335 = .ok (.iinc 5 1, 3) := by decide +kernel
theorem d_M_learn_338 : decode prog_10_method_18_code 338 = .ok (.goto (-112), 3) := by decide +kernel
theorem d_M_learn_329 : decode prog_10_method_18_code 329 = .ok (.iconst 1, 1) := by decide +kernel
theorem d_M_learn_330 : decode prog_10_method_18_code 330 = .ok (.goto 4, 3) := by decide +kernel
theorem d_M_learn_321 : decode prog_10_method_18_code 321 = .ok (.ifCond .ne 8, 3) := by decide +kernel
theorem d_M_learn_324 : decode prog_10_method_18_code 324 = .ok (.iload 7, 2) := by decide +kernel
theorem d_M_learn_326 : decode prog_10_method_18_code 326 = .ok (.ifCond .eq 7, 3) := by decide +kernel
theorem d_M_learn_333 : decode prog_10_method_18_code 333 = .ok (.iconst 0, 1) := by decide +kernel
theorem d_M_learn_302 : decode prog_10_method_18_code 302 = .ok (.iconst 1, 1) := by decide +kernel
theorem d_M_learn_303 : decode prog_10_method_18_code 303 = .ok (.goto 4, 3) := by decide +kernel
theorem d_M_learn_284 : decode prog_10_method_18_code 284 = .ok (.ifCond .ne 18, 3) := by decide +kernel
theorem d_M_learn_287 : decode prog_10_method_18_code 287 = .ok (.iload 7, 2) := by decide +kernel
theorem d_M_learn_306 : decode prog_10_method_18_code 306 = .ok (.iconst 0, 1) := by decide +kernel
theorem d_M_learn_289 : decode prog_10_method_18_code 289 = .ok (.ifCond .eq 17, 3) := by decide +kernel
theorem d_M_learn_292 : decode prog_10_method_18_code 292 = .ok (.aload_n 0, 1) := by decide +kernel
theorem d_M_learn_293 : decode prog_10_method_18_code 293 = .ok (.getfield 45, 3) := by decide +kernel
theorem d_M_learn_296 : decode prog_10_method_18_code 296 = .ok (.iload 6, 2) := by decide +kernel
theorem d_M_learn_298 : decode prog_10_method_18_code 298 = .ok (.baload, 1) := by decide +kernel
theorem d_M_learn_299 : decode prog_10_method_18_code 299 = .ok (.ifCond .ne 7, 3) := by decide +kernel
theorem d_M_learn_118 : decode prog_10_method_18_code 118 = .ok (.iconst 0, 1) := by decide +kernel
theorem d_M_learn_119 : decode prog_10_method_18_code 119 = .ok (.istore 4, 2) := by decide +kernel
theorem d_M_learn_121 : decode prog_10_method_18_code 121 = .ok (.iload 4, 2) := by decide +kernel
theorem d_M_learn_123 : decode prog_10_method_18_code 123 = .ok (.sipush 256, 3) := by decide +kernel
theorem d_M_learn_126 : decode prog_10_method_18_code 126 = .ok (.if_icmp .ge 75, 3) := by decide +kernel
theorem d_M_learn_201 : decode prog_10_method_18_code 201 = .ok (.iinc 3 1, 3) := by decide +kernel
theorem d_M_learn_204 : decode prog_10_method_18_code 204 = .ok (.goto (-92), 3) := by decide +kernel
theorem d_M_learn_129 : decode prog_10_method_18_code 129 = .ok (.aload_n 0, 1) := by decide +kernel
theorem d_M_learn_130 : decode prog_10_method_18_code 130 = .ok (.getfield 42, 3) := by decide +kernel
theorem d_M_learn_133 : decode prog_10_method_18_code 133 = .ok (.iload_n 2, 1) := by decide +kernel
theorem d_M_learn_134 : decode prog_10_method_18_code 134 = .ok (.iload 4, 2) := by decide +kernel
theorem d_M_learn_136 : decode prog_10_method_18_code 136 = .ok (.iadd, 1) := by decide +kernel
theorem d_M_learn_137 : decode prog_10_method_18_code 137 = .ok (.aload_n 0, 1) := by decide +kernel
theorem d_M_learn_138 : decode prog_10_method_18_code 138 = .ok (.getfield 42, 3) := by decide +kernel
theorem d_M_learn_141 : decode prog_10_method_18_code 141 = .ok (.iload_n 2, 1) := by decide +kernel
theorem d_M_learn_142 : decode prog_10_method_18_code 142 = .ok (.iload 4, 2) := by decide +kernel
theorem d_M_learn_144 : decode prog_10_method_18_code 144 = .ok (.iadd, 1) := by decide +kernel
theorem d_M_learn_145 : decode prog_10_method_18_code 145 = .ok (.baload, 1) := by decide +kernel
theorem d_M_learn_194 : decode prog_10_method_18_code 194 = .ok (.bastore, 1) := by decide +kernel
theorem d_M_learn_195 : decode prog_10_method_18_code 195 = .ok (.iinc 4 1, 3) := by decide +kernel
theorem d_M_learn_198 : decode prog_10_method_18_code 198 = .ok (.goto (-77), 3) := by decide +kernel
theorem d_M_learn_189 : decode prog_10_method_18_code 189 = .ok (.iconst 1, 1) := by decide +kernel
theorem d_M_learn_190 : decode prog_10_method_18_code 190 = .ok (.goto 4, 3) := by decide +kernel
theorem d_M_learn_146 : decode prog_10_method_18_code 146 = .ok (.ifCond .ne 43, 3) := by decide +kernel
theorem d_M_learn_149 : decode prog_10_method_18_code 149 = .ok (.aload_n 0, 1) := by decide +kernel
theorem d_M_learn_150 : decode prog_10_method_18_code 150 = .ok (.getfield 42, 3) := by decide +kernel
theorem d_M_learn_153 : decode prog_10_method_18_code 153 = .ok (.iload_n 2, 1) := by decide +kernel
theorem d_M_learn_154 : decode prog_10_method_18_code 154 = .ok (.iload 4, 2) := by decide +kernel
theorem d_M_learn_156 : decode prog_10_method_18_code 156 = .ok (.bipush 16, 2) := by decide +kernel
theorem d_M_learn_158 : decode prog_10_method_18_code 158 = .ok (.idiv, 1) := by decide +kernel
theorem d_M_learn_159 : decode prog_10_method_18_code 159 = .ok (.bipush 16, 2) := by decide +kernel
theorem d_M_learn_161 : decode prog_10_method_18_code 161 = .ok (.imul, 1) := by decide +kernel
theorem d_M_learn_162 : decode prog_10_method_18_code 162 = .ok (.iadd, 1) := by decide +kernel
theorem d_M_learn_163 : decode prog_10_method_18_code 163 = .ok (.iload_n 3, 1) := by decide +kernel
theorem d_M_learn_164 : decode prog_10_method_18_code 164 = .ok (.iadd, 1) := by decide +kernel
theorem d_M_learn_165 : decode prog_10_method_18_code 165 = .ok (.baload, 1) := by decide +kernel
theorem d_M_learn_193 : decode prog_10_method_18_code 193 = .ok (.iconst 0, 1) := by decide +kernel
theorem d_M_learn_166 : decode prog_10_method_18_code 166 = .ok (.ifCond .eq 27, 3) := by decide +kernel
theorem d_M_learn_169 : decode prog_10_method_18_code 169 = .ok (.aload_n 0, 1) := by decide +kernel
theorem d_M_learn_170 : decode prog_10_method_18_code 170 = .ok (.getfield 42, 3) := by decide +kernel
theorem d_M_learn_173 : decode prog_10_method_18_code 173 = .ok (.iload_n 2, 1) := by decide +kernel
theorem d_M_learn_174 : decode prog_10_method_18_code 174 = .ok (.bipush 16, 2) := by decide +kernel
theorem d_M_learn_176 : decode prog_10_method_18_code 176 = .ok (.iload_n 3, 1) := by decide +kernel
theorem d_M_learn_177 : decode prog_10_method_18_code 177 = .ok (.imul, 1) := by decide +kernel
theorem d_M_learn_178 : decode prog_10_method_18_code 178 = .ok (.iadd, 1) := by decide +kernel
theorem d_M_learn_179 : decode prog_10_method_18_code 179 = .ok (.iload 4, 2) := by decide +kernel
theorem d_M_learn_181 : decode prog_10_method_18_code 181 = .ok (.bipush 16, 2) := by decide +kernel
theorem d_M_learn_183 : decode prog_10_method_18_code 183 = .ok (.irem, 1) := by decide +kernel
theorem d_M_learn_184 : decode prog_10_method_18_code 184 = .ok (.iadd, 1) := by decide +kernel
theorem d_M_learn_185 : decode prog_10_method_18_code 185 = .ok (.baload, 1) := by decide +kernel
theorem d_M_learn_186 : decode prog_10_method_18_code 186 = .ok (.ifCond .eq 7, 3) := by decide +kernel
theorem d_M_learn_18 : decode prog_10_method_18_code 18 = .ok (.iconst 0, 1) := by decide +kernel
theorem d_M_learn_19 : decode prog_10_method_18_code 19 = .ok (.istore 4, 2) := by decide +kernel
theorem d_M_learn_21 : decode prog_10_method_18_code 21 = .ok (.iload 4, 2) := by decide +kernel
theorem d_M_learn_23 : decode prog_10_method_18_code 23 = .ok (.bipush 16, 2) := by decide +kernel
theorem d_M_learn_25 : decode prog_10_method_18_code 25 = .ok (.if_icmp .ge 79, 3) := by decide +kernel
theorem d_M_learn_104 : decode prog_10_method_18_code 104 = .ok (.iinc 3 1, 3) := by decide +kernel
theorem d_M_learn_107 : decode prog_10_method_18_code 107 = .ok (.goto (-99), 3) := by decide +kernel
theorem d_M_learn_28 : decode prog_10_method_18_code 28 = .ok (.iload_n 2, 1) := by decide +kernel
theorem d_M_learn_29 : decode prog_10_method_18_code 29 = .ok (.bipush 16, 2) := by decide +kernel
theorem d_M_learn_31 : decode prog_10_method_18_code 31 = .ok (.iconst 4, 1) := by decide +kernel
theorem d_M_learn_32 : decode prog_10_method_18_code 32 = .ok (.iload_n 3, 1) := by decide +kernel
theorem d_M_learn_33 : decode prog_10_method_18_code 33 = .ok (.imul, 1) := by decide +kernel
theorem d_M_learn_34 : decode prog_10_method_18_code 34 = .ok (.iload 4, 2) := by decide +kernel
theorem d_M_learn_36 : decode prog_10_method_18_code 36 = .ok (.iconst 4, 1) := by decide +kernel
theorem d_M_learn_37 : decode prog_10_method_18_code 37 = .ok (.idiv, 1) := by decide +kernel
theorem d_M_learn_38 : decode prog_10_method_18_code 38 = .ok (.iadd, 1) := by decide +kernel
theorem d_M_learn_39 : decode prog_10_method_18_code 39 = .ok (.imul, 1) := by decide +kernel
theorem d_M_learn_40 : decode prog_10_method_18_code 40 = .ok (.iadd, 1) := by decide +kernel
theorem d_M_learn_41 : decode prog_10_method_18_code 41 = .ok (.iconst 4, 1) := by decide +kernel
theorem d_M_learn_42 : decode prog_10_method_18_code 42 = .ok (.iload_n 3, 1) := by decide +kernel
theorem d_M_learn_43 : decode prog_10_method_18_code 43 = .ok (.imul, 1) := by decide +kernel
theorem d_M_learn_44 : decode prog_10_method_18_code 44 = .ok (.iadd, 1) := by decide +kernel
theorem d_M_learn_45 : decode prog_10_method_18_code 45 = .ok (.iload 4, 2) := by decide +kernel
theorem d_M_learn_47 : decode prog_10_method_18_code 47 = .ok (.iconst 4, 1) := by decide +kernel
theorem d_M_learn_48 : decode prog_10_method_18_code 48 = .ok (.irem, 1) := by decide +kernel
theorem d_M_learn_49 : decode prog_10_method_18_code 49 = .ok (.iadd, 1) := by decide +kernel
