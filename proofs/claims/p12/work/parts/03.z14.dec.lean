theorem d_M_learn_50 : decode prog_10_method_18_code 50 = .ok (.istore 5, 2) := by decide +kernel
theorem d_M_learn_52 : decode prog_10_method_18_code 52 = .ok (.aload_n 0, 1) := by decide +kernel
theorem d_M_learn_53 : decode prog_10_method_18_code 53 = .ok (.getfield 42, 3) := by decide +kernel
theorem d_M_learn_56 : decode prog_10_method_18_code 56 = .ok (.iload 5, 2) := by decide +kernel
theorem d_M_learn_58 : decode prog_10_method_18_code 58 = .ok (.aload_n 0, 1) := by decide +kernel
theorem d_M_learn_59 : decode prog_10_method_18_code 59 = .ok (.getfield 42, 3) := by decide +kernel
theorem d_M_learn_62 : decode prog_10_method_18_code 62 = .ok (.iload 5, 2) := by decide +kernel
theorem d_M_learn_64 : decode prog_10_method_18_code 64 = .ok (.baload, 1) := by decide +kernel
theorem d_M_learn_97 : decode prog_10_method_18_code 97 = .ok (.bastore, 1) := by decide +kernel
theorem d_M_learn_98 : decode prog_10_method_18_code 98 = .ok (.iinc 4 1, 3) := by decide +kernel
theorem d_M_learn_101 : decode prog_10_method_18_code 101 = .ok (.goto (-80), 3) := by decide +kernel
theorem d_M_learn_92 : decode prog_10_method_18_code 92 = .ok (.iconst 1, 1) := by decide +kernel
theorem d_M_learn_93 : decode prog_10_method_18_code 93 = .ok (.goto 4, 3) := by decide +kernel
theorem d_M_learn_65 : decode prog_10_method_18_code 65 = .ok (.ifCond .ne 27, 3) := by decide +kernel
theorem d_M_learn_68 : decode prog_10_method_18_code 68 = .ok (.aload_n 0, 1) := by decide +kernel
theorem d_M_learn_69 : decode prog_10_method_18_code 69 = .ok (.getfield 45, 3) := by decide +kernel
theorem d_M_learn_72 : decode prog_10_method_18_code 72 = .ok (.bipush 16, 2) := by decide +kernel
theorem d_M_learn_74 : decode prog_10_method_18_code 74 = .ok (.aload_n 0, 1) := by decide +kernel
theorem d_M_learn_75 : decode prog_10_method_18_code 75 = .ok (.getfield 20, 3) := by decide +kernel
theorem d_M_learn_78 : decode prog_10_method_18_code 78 = .ok (.iconst 4, 1) := by decide +kernel
theorem d_M_learn_79 : decode prog_10_method_18_code 79 = .ok (.iload_n 1, 1) := by decide +kernel
theorem d_M_learn_80 : decode prog_10_method_18_code 80 = .ok (.imul, 1) := by decide +kernel
theorem d_M_learn_81 : decode prog_10_method_18_code 81 = .ok (.iload_n 3, 1) := by decide +kernel
theorem d_M_learn_82 : decode prog_10_method_18_code 82 = .ok (.iadd, 1) := by decide +kernel
theorem d_M_learn_83 : decode prog_10_method_18_code 83 = .ok (.iaload, 1) := by decide +kernel
theorem d_M_learn_84 : decode prog_10_method_18_code 84 = .ok (.imul, 1) := by decide +kernel
theorem d_M_learn_85 : decode prog_10_method_18_code 85 = .ok (.iload 4, 2) := by decide +kernel
theorem d_M_learn_87 : decode prog_10_method_18_code 87 = .ok (.iadd, 1) := by decide +kernel
theorem d_M_learn_88 : decode prog_10_method_18_code 88 = .ok (.baload, 1) := by decide +kernel
theorem d_M_learn_89 : decode prog_10_method_18_code 89 = .ok (.ifCond .eq 7, 3) := by decide +kernel
theorem d_M_learn_96 : decode prog_10_method_18_code 96 = .ok (.iconst 0, 1) := by decide +kernel
theorem d_M_circles_0 : decode prog_10_method_19_code 0 = .ok (.iconst 1, 1) := by decide +kernel
theorem d_M_circles_1 : decode prog_10_method_19_code 1 = .ok (.istore_n 1, 1) := by decide +kernel
theorem d_M_circles_2 : decode prog_10_method_19_code 2 = .ok (.iload_n 1, 1) := by decide +kernel
theorem d_M_circles_3 : decode prog_10_method_19_code 3 = .ok (.ifCond .eq 34, 3) := by decide +kernel
theorem d_M_circles_37 : decode prog_10_method_19_code 37 = .ok (.iconst 0, 1) := by decide +kernel
theorem d_M_circles_38 : decode prog_10_method_19_code 38 = .ok (.istore_n 2, 1) := by decide +kernel
theorem d_M_circles_39 : decode prog_10_method_19_code 39 = .ok (.iload_n 2, 1) := by decide +kernel
theorem d_M_circles_40 : decode prog_10_method_19_code 40 = .ok (.aload_n 0, 1) := by decide +kernel
theorem d_M_circles_41 : decode prog_10_method_19_code 41 = .ok (.getfield 119, 3) := by decide +kernel
theorem d_M_circles_44 : decode prog_10_method_19_code 44 = .ok (.if_icmp .ge 49, 3) := by decide +kernel
theorem d_M_circles_93 : decode prog_10_method_19_code 93 = .ok (.iconst 0, 1) := by decide +kernel
theorem d_M_circles_94 : decode prog_10_method_19_code 94 = .ok (.ireturn, 1) := by decide +kernel
theorem d_M_circles_47 : decode prog_10_method_19_code 47 = .ok (.iconst 0, 1) := by decide +kernel
theorem d_M_circles_48 : decode prog_10_method_19_code 48 = .ok (.istore_n 3, 1) := by decide +kernel
theorem d_M_circles_49 : decode prog_10_method_19_code 49 = .ok (.iload_n 3, 1) := by decide +kernel
theorem d_M_circles_50 : decode prog_10_method_19_code 50 = .ok (.bipush 16, 2) := by decide +kernel
theorem d_M_circles_52 : decode prog_10_method_19_code 52 = .ok (.if_icmp .ge 35, 3) := by decide +kernel
theorem d_M_circles_87 : decode prog_10_method_19_code 87 = .ok (.iinc 2 1, 3) := by decide +kernel
theorem d_M_circles_90 : decode prog_10_method_19_code 90 = .ok (.goto (-51), 3) := by decide +kernel
theorem d_M_circles_55 : decode prog_10_method_19_code 55 = .ok (.aload_n 0, 1) := by decide +kernel
theorem d_M_circles_56 : decode prog_10_method_19_code 56 = .ok (.getfield 42, 3) := by decide +kernel
theorem d_M_circles_59 : decode prog_10_method_19_code 59 = .ok (.sipush 256, 3) := by decide +kernel
theorem d_M_circles_62 : decode prog_10_method_19_code 62 = .ok (.iload_n 2, 1) := by decide +kernel
theorem d_M_circles_63 : decode prog_10_method_19_code 63 = .ok (.imul, 1) := by decide +kernel
theorem d_M_circles_64 : decode prog_10_method_19_code 64 = .ok (.bipush 17, 2) := by decide +kernel
theorem d_M_circles_66 : decode prog_10_method_19_code 66 = .ok (.iload_n 3, 1) := by decide +kernel
theorem d_M_circles_67 : decode prog_10_method_19_code 67 = .ok (.imul, 1) := by decide +kernel
theorem d_M_circles_68 : decode prog_10_method_19_code 68 = .ok (.iadd, 1) := by decide +kernel
theorem d_M_circles_69 : decode prog_10_method_19_code 69 = .ok (.baload, 1) := by decide +kernel
theorem d_M_circles_70 : decode prog_10_method_19_code 70 = .ok (.ifCond .eq 11, 3) := by decide +kernel
theorem d_M_circles_81 : decode prog_10_method_19_code 81 = .ok (.iinc 3 1, 3) := by decide +kernel
theorem d_M_circles_84 : decode prog_10_method_19_code 84 = .ok (.goto (-35), 3) := by decide +kernel
theorem d_M_circles_73 : decode prog_10_method_19_code 73 = .ok (.aload_n 0, 1) := by decide +kernel
theorem d_M_circles_74 : decode prog_10_method_19_code 74 = .ok (.iconst 2, 1) := by decide +kernel
theorem d_M_circles_75 : decode prog_10_method_19_code 75 = .ok (.iload_n 2, 1) := by decide +kernel
theorem d_M_circles_76 : decode prog_10_method_19_code 76 = .ok (.iload_n 3, 1) := by decide +kernel
theorem d_M_circles_77 : decode prog_10_method_19_code 77 = .ok (.invokevirtual 137, 3) := by decide +kernel
theorem d_M_circles_80 : decode prog_10_method_19_code 80 = .ok (.ireturn, 1) := by decide +kernel
theorem d_M_circles_6 : decode prog_10_method_19_code 6 = .ok (.iconst 0, 1) := by decide +kernel
theorem d_M_circles_7 : decode prog_10_method_19_code 7 = .ok (.istore_n 1, 1) := by decide +kernel
theorem d_M_circles_8 : decode prog_10_method_19_code 8 = .ok (.iconst 0, 1) := by decide +kernel
theorem d_M_circles_9 : decode prog_10_method_19_code 9 = .ok (.istore_n 2, 1) := by decide +kernel
theorem d_M_circles_10 : decode prog_10_method_19_code 10 = .ok (.iload_n 2, 1) := by decide +kernel
theorem d_M_circles_11 : decode prog_10_method_19_code 11 = .ok (.aload_n 0, 1) := by decide +kernel
theorem d_M_circles_12 : decode prog_10_method_19_code 12 = .ok (.getfield 119, 3) := by decide +kernel
theorem d_M_circles_15 : decode prog_10_method_19_code 15 = .ok (.if_icmp .ge 19, 3) := by decide +kernel
theorem d_M_circles_34 : decode prog_10_method_19_code 34 = .ok (.goto (-32), 3) := by decide +kernel
theorem d_M_circles_18 : decode prog_10_method_19_code 18 = .ok (.aload_n 0, 1) := by decide +kernel
theorem d_M_circles_19 : decode prog_10_method_19_code 19 = .ok (.iload_n 2, 1) := by decide +kernel
theorem d_M_circles_20 : decode prog_10_method_19_code 20 = .ok (.invokevirtual 147, 3) := by decide +kernel
theorem d_M_circles_28 : decode prog_10_method_19_code 28 = .ok (.iinc 2 1, 3) := by decide +kernel
theorem d_M_circles_31 : decode prog_10_method_19_code 31 = .ok (.goto (-21), 3) := by decide +kernel
theorem d_M_circles_23 : decode prog_10_method_19_code 23 = .ok (.ifCond .eq 5, 3) := by decide +kernel
theorem d_M_circles_26 : decode prog_10_method_19_code 26 = .ok (.iconst 1, 1) := by decide +kernel
theorem d_M_circles_27 : decode prog_10_method_19_code 27 = .ok (.istore_n 1, 1) := by decide +kernel
theorem d_M_reach_0 : decode prog_10_method_20_code 0 = .ok (.iconst 0, 1) := by decide +kernel
theorem d_M_reach_1 : decode prog_10_method_20_code 1 = .ok (.istore_n 3, 1) := by decide +kernel
theorem d_M_reach_2 : decode prog_10_method_20_code 2 = .ok (.iconst 0, 1) := by decide +kernel
theorem d_M_reach_3 : decode prog_10_method_20_code 3 = .ok (.istore 4, 2) := by decide +kernel
theorem d_M_reach_5 : decode prog_10_method_20_code 5 = .ok (.iload 4, 2) := by decide +kernel
theorem d_M_reach_7 : decode prog_10_method_20_code 7 = .ok (.iconst 4, 1) := by decide +kernel
theorem d_M_reach_8 : decode prog_10_method_20_code 8 = .ok (.if_icmp .ge 36, 3) := by decide +kernel
theorem d_M_reach_44 : decode prog_10_method_20_code 44 = .ok (.iload_n 3, 1) := by decide +kernel
theorem d_M_reach_45 : decode prog_10_method_20_code 45 = .ok (.ireturn, 1) := by decide +kernel
theorem d_M_reach_11 : decode prog_10_method_20_code 11 = .ok (.iload_n 3, 1) := by decide +kernel
theorem d_M_reach_12 : decode prog_10_method_20_code 12 = .ok (.aload_n 0, 1) := by decide +kernel
theorem d_M_reach_13 : decode prog_10_method_20_code 13 = .ok (.getfield 45, 3) := by decide +kernel
theorem d_M_reach_16 : decode prog_10_method_20_code 16 = .ok (.bipush 16, 2) := by decide +kernel
theorem d_M_reach_18 : decode prog_10_method_20_code 18 = .ok (.iload_n 1, 1) := by decide +kernel
theorem d_M_reach_19 : decode prog_10_method_20_code 19 = .ok (.imul, 1) := by decide +kernel
theorem d_M_reach_20 : decode prog_10_method_20_code 20 = .ok (.iconst 4, 1) := by decide +kernel
theorem d_M_reach_21 : decode prog_10_method_20_code 21 = .ok (.iload_n 2, 1) := by decide +kernel
theorem d_M_reach_22 : decode prog_10_method_20_code 22 = .ok (.imul, 1) := by decide +kernel
theorem d_M_reach_23 : decode prog_10_method_20_code 23 = .ok (.iadd, 1) := by decide +kernel
theorem d_M_reach_24 : decode prog_10_method_20_code 24 = .ok (.iload 4, 2) := by decide +kernel
theorem d_M_reach_26 : decode prog_10_method_20_code 26 = .ok (.iadd, 1) := by decide +kernel
theorem d_M_reach_27 : decode prog_10_method_20_code 27 = .ok (.baload, 1) := by decide +kernel
theorem d_M_reach_36 : decode prog_10_method_20_code 36 = .ok (.iadd, 1) := by decide +kernel
theorem d_M_reach_37 : decode prog_10_method_20_code 37 = .ok (.istore_n 3, 1) := by decide +kernel
theorem d_M_reach_38 : decode prog_10_method_20_code 38 = .ok (.iinc 4 1, 3) := by decide +kernel
theorem d_M_reach_41 : decode prog_10_method_20_code 41 = .ok (.goto (-36), 3) := by decide +kernel
theorem d_M_reach_28 : decode prog_10_method_20_code 28 = .ok (.ifCond .eq 7, 3) := by decide +kernel
theorem d_M_reach_35 : decode prog_10_method_20_code 35 = .ok (.iconst 0, 1) := by decide +kernel
theorem d_M_reach_31 : decode prog_10_method_20_code 31 = .ok (.iconst 1, 1) := by decide +kernel
theorem d_M_reach_32 : decode prog_10_method_20_code 32 = .ok (.goto 4, 3) := by decide +kernel
theorem d_M_rankAll_0 : decode prog_10_method_21_code 0 = .ok (.iconst 1, 1) := by decide +kernel
theorem d_M_rankAll_1 : decode prog_10_method_21_code 1 = .ok (.istore_n 2, 1) := by decide +kernel
theorem d_M_rankAll_2 : decode prog_10_method_21_code 2 = .ok (.iconst 0, 1) := by decide +kernel
theorem d_M_rankAll_3 : decode prog_10_method_21_code 3 = .ok (.istore_n 3, 1) := by decide +kernel
theorem d_M_rankAll_4 : decode prog_10_method_21_code 4 = .ok (.iload_n 3, 1) := by decide +kernel
theorem d_M_rankAll_5 : decode prog_10_method_21_code 5 = .ok (.iconst 4, 1) := by decide +kernel
theorem d_M_rankAll_6 : decode prog_10_method_21_code 6 = .ok (.if_icmp .ge 205, 3) := by decide +kernel
theorem d_M_rankAll_211 : decode prog_10_method_21_code 211 = .ok (.aload_n 0, 1) := by decide +kernel
theorem d_M_rankAll_212 : decode prog_10_method_21_code 212 = .ok (.getfield 54, 3) := by decide +kernel
theorem d_M_rankAll_215 : decode prog_10_method_21_code 215 = .ok (.iload_n 1, 1) := by decide +kernel
theorem d_M_rankAll_216 : decode prog_10_method_21_code 216 = .ok (.iload_n 2, 1) := by decide +kernel
theorem d_M_rankAll_217 : decode prog_10_method_21_code 217 = .ok (.iconst 1, 1) := by decide +kernel
theorem d_M_rankAll_218 : decode prog_10_method_21_code 218 = .ok (.iadd, 1) := by decide +kernel
theorem d_M_rankAll_219 : decode prog_10_method_21_code 219 = .ok (.iconst 2, 1) := by decide +kernel
theorem d_M_rankAll_220 : decode prog_10_method_21_code 220 = .ok (.idiv, 1) := by decide +kernel
theorem d_M_rankAll_221 : decode prog_10_method_21_code 221 = .ok (.iastore, 1) := by decide +kernel
theorem d_M_rankAll_222 : decode prog_10_method_21_code 222 = .ok (.return_, 1) := by decide +kernel
theorem d_M_rankAll_9 : decode prog_10_method_21_code 9 = .ok (.iconst 0, 1) := by decide +kernel
theorem d_M_rankAll_10 : decode prog_10_method_21_code 10 = .ok (.istore 4, 2) := by decide +kernel
theorem d_M_rankAll_12 : decode prog_10_method_21_code 12 = .ok (.iload 4, 2) := by decide +kernel
theorem d_M_rankAll_14 : decode prog_10_method_21_code 14 = .ok (.aload_n 0, 1) := by decide +kernel
theorem d_M_rankAll_15 : decode prog_10_method_21_code 15 = .ok (.getfield 7, 3) := by decide +kernel
theorem d_M_rankAll_18 : decode prog_10_method_21_code 18 = .ok (.iload_n 1, 1) := by decide +kernel
theorem d_M_rankAll_19 : decode prog_10_method_21_code 19 = .ok (.iaload, 1) := by decide +kernel
theorem d_M_rankAll_20 : decode prog_10_method_21_code 20 = .ok (.if_icmp .ge 185, 3) := by decide +kernel
theorem d_M_rankAll_205 : decode prog_10_method_21_code 205 = .ok (.iinc 3 1, 3) := by decide +kernel
theorem d_M_rankAll_208 : decode prog_10_method_21_code 208 = .ok (.goto (-204), 3) := by decide +kernel
theorem d_M_rankAll_23 : decode prog_10_method_21_code 23 = .ok (.aload_n 0, 1) := by decide +kernel
theorem d_M_rankAll_24 : decode prog_10_method_21_code 24 = .ok (.iload_n 1, 1) := by decide +kernel
theorem d_M_rankAll_25 : decode prog_10_method_21_code 25 = .ok (.iload 4, 2) := by decide +kernel
theorem d_M_rankAll_27 : decode prog_10_method_21_code 27 = .ok (.invokevirtual 150, 3) := by decide +kernel
theorem d_M_rankAll_30 : decode prog_10_method_21_code 30 = .ok (.iload_n 3, 1) := by decide +kernel
theorem d_M_rankAll_199 : decode prog_10_method_21_code 199 = .ok (.iinc 4 1, 3) := by decide +kernel
theorem d_M_rankAll_202 : decode prog_10_method_21_code 202 = .ok (.goto (-190), 3) := by decide +kernel
theorem d_M_rankAll_31 : decode prog_10_method_21_code 31 = .ok (.if_icmp .eq 6, 3) := by decide +kernel
theorem d_M_rankAll_37 : decode prog_10_method_21_code 37 = .ok (.iconst 1, 1) := by decide +kernel
theorem d_M_rankAll_38 : decode prog_10_method_21_code 38 = .ok (.istore 5, 2) := by decide +kernel
theorem d_M_rankAll_40 : decode prog_10_method_21_code 40 = .ok (.iconst 0, 1) := by decide +kernel
theorem d_M_rankAll_41 : decode prog_10_method_21_code 41 = .ok (.istore 6, 2) := by decide +kernel
theorem d_M_rankAll_43 : decode prog_10_method_21_code 43 = .ok (.iload 6, 2) := by decide +kernel
theorem d_M_rankAll_45 : decode prog_10_method_21_code 45 = .ok (.iconst 4, 1) := by decide +kernel
theorem d_M_rankAll_46 : decode prog_10_method_21_code 46 = .ok (.if_icmp .ge 63, 3) := by decide +kernel
theorem d_M_rankAll_109 : decode prog_10_method_21_code 109 = .ok (.aload_n 0, 1) := by decide +kernel
theorem d_M_rankAll_110 : decode prog_10_method_21_code 110 = .ok (.getfield 13, 3) := by decide +kernel
theorem d_M_rankAll_113 : decode prog_10_method_21_code 113 = .ok (.iconst 4, 1) := by decide +kernel
theorem d_M_rankAll_114 : decode prog_10_method_21_code 114 = .ok (.iload_n 1, 1) := by decide +kernel
theorem d_M_rankAll_115 : decode prog_10_method_21_code 115 = .ok (.imul, 1) := by decide +kernel
theorem d_M_rankAll_116 : decode prog_10_method_21_code 116 = .ok (.iload 4, 2) := by decide +kernel
theorem d_M_rankAll_118 : decode prog_10_method_21_code 118 = .ok (.iadd, 1) := by decide +kernel
theorem d_M_rankAll_119 : decode prog_10_method_21_code 119 = .ok (.baload, 1) := by decide +kernel
theorem d_M_rankAll_128 : decode prog_10_method_21_code 128 = .ok (.istore 6, 2) := by decide +kernel
theorem d_M_rankAll_130 : decode prog_10_method_21_code 130 = .ok (.aload_n 0, 1) := by decide +kernel
theorem d_M_rankAll_131 : decode prog_10_method_21_code 131 = .ok (.getfield 51, 3) := by decide +kernel
theorem d_M_rankAll_134 : decode prog_10_method_21_code 134 = .ok (.iconst 4, 1) := by decide +kernel
theorem d_M_rankAll_135 : decode prog_10_method_21_code 135 = .ok (.iload_n 1, 1) := by decide +kernel
theorem d_M_rankAll_136 : decode prog_10_method_21_code 136 = .ok (.imul, 1) := by decide +kernel
theorem d_M_rankAll_137 : decode prog_10_method_21_code 137 = .ok (.iload 4, 2) := by decide +kernel
theorem d_M_rankAll_139 : decode prog_10_method_21_code 139 = .ok (.iadd, 1) := by decide +kernel
theorem d_M_rankAll_140 : decode prog_10_method_21_code 140 = .ok (.iload 5, 2) := by decide +kernel
theorem d_M_rankAll_142 : decode prog_10_method_21_code 142 = .ok (.iconst 2, 1) := by decide +kernel
theorem d_M_rankAll_143 : decode prog_10_method_21_code 143 = .ok (.irem, 1) := by decide +kernel
theorem d_M_rankAll_144 : decode prog_10_method_21_code 144 = .ok (.iconst 1, 1) := by decide +kernel
theorem d_M_rankAll_153 : decode prog_10_method_21_code 153 = .ok (.iload 6, 2) := by decide +kernel
theorem d_M_rankAll_167 : decode prog_10_method_21_code 167 = .ok (.iastore, 1) := by decide +kernel
theorem d_M_rankAll_168 : decode prog_10_method_21_code 168 = .ok (.aload_n 0, 1) := by decide +kernel
theorem d_M_rankAll_169 : decode prog_10_method_21_code 169 = .ok (.getfield 51, 3) := by decide +kernel
theorem d_M_rankAll_172 : decode prog_10_method_21_code 172 = .ok (.iconst 4, 1) := by decide +kernel
theorem d_M_rankAll_173 : decode prog_10_method_21_code 173 = .ok (.iload_n 1, 1) := by decide +kernel
theorem d_M_rankAll_174 : decode prog_10_method_21_code 174 = .ok (.imul, 1) := by decide +kernel
theorem d_M_rankAll_175 : decode prog_10_method_21_code 175 = .ok (.iload 4, 2) := by decide +kernel
theorem d_M_rankAll_177 : decode prog_10_method_21_code 177 = .ok (.iadd, 1) := by decide +kernel
theorem d_M_rankAll_178 : decode prog_10_method_21_code 178 = .ok (.iaload, 1) := by decide +kernel
theorem d_M_rankAll_179 : decode prog_10_method_21_code 179 = .ok (.iload_n 2, 1) := by decide +kernel
theorem d_M_rankAll_198 : decode prog_10_method_21_code 198 = .ok (.istore_n 2, 1) := by decide +kernel
theorem d_M_rankAll_180 : decode prog_10_method_21_code 180 = .ok (.if_icmp .le 17, 3) := by decide +kernel
theorem d_M_rankAll_197 : decode prog_10_method_21_code 197 = .ok (.iload_n 2, 1) := by decide +kernel
theorem d_M_rankAll_183 : decode prog_10_method_21_code 183 = .ok (.aload_n 0, 1) := by decide +kernel
theorem d_M_rankAll_184 : decode prog_10_method_21_code 184 = .ok (.getfield 51, 3) := by decide +kernel
theorem d_M_rankAll_187 : decode prog_10_method_21_code 187 = .ok (.iconst 4, 1) := by decide +kernel
theorem d_M_rankAll_188 : decode prog_10_method_21_code 188 = .ok (.iload_n 1, 1) := by decide +kernel
theorem d_M_rankAll_189 : decode prog_10_method_21_code 189 = .ok (.imul, 1) := by decide +kernel
theorem d_M_rankAll_190 : decode prog_10_method_21_code 190 = .ok (.iload 4, 2) := by decide +kernel
theorem d_M_rankAll_192 : decode prog_10_method_21_code 192 = .ok (.iadd, 1) := by decide +kernel
theorem d_M_rankAll_193 : decode prog_10_method_21_code 193 = .ok (.iaload, 1) := by decide +kernel
