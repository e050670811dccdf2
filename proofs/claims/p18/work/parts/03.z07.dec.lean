theorem d_M_learn_50 : decode prog_10_method_18_code 50 = .ok (.istore 5, 2) := by decide +kernel
theorem d_M_learn_52 : decode prog_10_method_18_code 52 = .ok (.aload_n 0, 1) := by decide +kernel
theorem d_M_learn_53 : decode prog_10_method_18_code 53 = .ok (.getfield 42, 3) := by decide +kernel
theorem d_M_learn_56 : decode prog_10_method_18_code 56 = .ok (.iload 5, 2) := by decide +kernel
theorem d_M_learn_58 : decode prog_10_method_18_code 58 = .ok (.aload_n 0, 1) := by decide +kernel
theorem d_M_learn_59 : decode prog_10_method_18_code 59 = .ok (.getfield 42, 3) := by decide +kernel
theorem d_M_learn_62 : decode prog_10_method_18_code 62 = .ok (.iload 5, 2) := by decide +kernel
theorem d_M_learn_64 : decode prog_10_method_18_code 64 = .ok (.baload, 1) := by decide +kernel
theorem d_M_learn_97 : decode prog_10_method_18_code 97 = .ok (.bastore, 1) := by decide +kernel
theorem d_M_learn_98 : decode prog_10_method_18_code 98 = .ok (.iinc 4 1, 3) := by decide +kernel
theorem d_M_learn_101 : decode prog_10_method_18_code 101 = .ok (.goto (-80), 3) := by decide +kernel
theorem d_M_learn_92 : decode prog_10_method_18_code 92 = .ok (.iconst 1, 1) := by decide +kernel
theorem d_M_learn_93 : decode prog_10_method_18_code 93 = .ok (.goto 4, 3) := by decide +kernel
theorem d_M_learn_65 : decode prog_10_method_18_code 65 = .ok (.ifCond .ne 27, 3) := by decide +kernel
theorem d_M_learn_68 : decode prog_10_method_18_code 68 = .ok (.aload_n 0, 1) := by decide +kernel
theorem d_M_learn_69 : decode prog_10_method_18_code 69 = .ok (.getfield 45, 3) := by decide +kernel
theorem d_M_learn_72 : decode prog_10_method_18_code 72 = .ok (.bipush 16, 2) := by decide +kernel
theorem d_M_learn_74 : decode prog_10_method_18_code 74 = .ok (.aload_n 0, 1) := by decide +kernel
theorem d_M_learn_75 : decode prog_10_method_18_code 75 = .ok (.getfield 20, 3) := by decide +kernel
theorem d_M_learn_78 : decode prog_10_method_18_code 78 = .ok (.iconst 4, 1) := by decide +kernel
theorem d_M_learn_79 : decode prog_10_method_18_code 79 = .ok (.iload_n 1, 1) := by decide +kernel
theorem d_M_learn_80 : decode prog_10_method_18_code 80 = .ok (.imul, 1) := by decide +kernel
theorem d_M_learn_81 : decode prog_10_method_18_code 81 = .ok (.iload_n 3, 1) := by decide +kernel
theorem d_M_learn_82 : decode prog_10_method_18_code 82 = .ok (.iadd, 1) := by decide +kernel
theorem d_M_learn_83 : decode prog_10_method_18_code 83 = .ok (.iaload, 1) := by decide +kernel
theorem d_M_learn_84 : decode prog_10_method_18_code 84 = .ok (.imul, 1) := by decide +kernel
theorem d_M_learn_85 : decode prog_10_method_18_code 85 = .ok (.iload 4, 2) := by decide +kernel
theorem d_M_learn_87 : decode prog_10_method_18_code 87 = .ok (.iadd, 1) := by decide +kernel
theorem d_M_learn_88 : decode prog_10_method_18_code 88 = .ok (.baload, 1) := by decide +kernel
theorem d_M_learn_89 : decode prog_10_method_18_code 89 = .ok (.ifCond .eq 7, 3) := by decide +kernel
theorem d_M_learn_96 : decode prog_10_method_18_code 96 = .ok (.iconst 0, 1) := by decide +kernel
theorem d_M_circles_0 : decode prog_10_method_19_code 0 = .ok (.iconst 1, 1) := by decide +kernel
theorem d_M_circles_1 : decode prog_10_method_19_code 1 = .ok (.istore_n 1, 1) := by decide +kernel
theorem d_M_circles_2 : decode prog_10_method_19_code 2 = .ok (.iload_n 1, 1) := by decide +kernel
theorem d_M_circles_3 : decode prog_10_method_19_code 3 = .ok (.ifCond .eq 34, 3) := by decide +kernel
theorem d_M_circles_37 : decode prog_10_method_19_code 37 = .ok (.iconst 0, 1) := by decide +kernel
theorem d_M_circles_38 : decode prog_10_method_19_code 38 = .ok (.istore_n 2, 1) := by decide +kernel
theorem d_M_circles_39 : decode prog_10_method_19_code 39 = .ok (.iload_n 2, 1) := by decide +kernel
theorem d_M_circles_40 : decode prog_10_method_19_code 40 = .ok (.aload_n 0, 1) := by decide +kernel
theorem d_M_circles_41 : decode prog_10_method_19_code 41 = .ok (.getfield 119, 3) := by decide +kernel
theorem d_M_circles_44 : decode prog_10_method_19_code 44 = .ok (.if_icmp .ge 49, 3) := by decide +kernel
theorem d_M_circles_93 : decode prog_10_method_19_code 93 = .ok (.iconst 0, 1) := by decide +kernel
theorem d_M_circles_94 : decode prog_10_method_19_code 94 = .ok (.ireturn, 1) := by decide +kernel
theorem d_M_circles_47 : decode prog_10_method_19_code 47 = .ok (.iconst 0, 1) := by decide +kernel
theorem d_M_circles_48 : decode prog_10_method_19_code 48 = .ok (.istore_n 3, 1) := by decide +kernel
theorem d_M_circles_49 : decode prog_10_method_19_code 49 = .ok (.iload_n 3, 1) := by decide +kernel
theorem d_M_circles_50 : decode prog_10_method_19_code 50 = .ok (.bipush 16, 2) := by decide +kernel
theorem d_M_circles_52 : decode prog_10_method_19_code 52 = .ok (.if_icmp .ge 35, 3) := by decide +kernel
theorem d_M_circles_87 : decode prog_10_method_19_code 87 = .ok (.iinc 2 1, 3) := by decide +kernel
theorem d_M_circles_90 : decode prog_10_method_19_code 90 = .ok (.goto (-51), 3) := by decide +kernel
theorem d_M_circles_55 : decode prog_10_method_19_code 55 = .ok (.aload_n 0, 1) := by decide +kernel
theorem d_M_circles_56 : decode prog_10_method_19_code 56 = .ok (.getfield 42, 3) := by decide +kernel
theorem d_M_circles_59 : decode prog_10_method_19_code 59 = .ok (.sipush 256, 3) := by decide +kernel
theorem d_M_circles_62 : decode prog_10_method_19_code 62 = .ok (.iload_n 2, 1) := by decide +kernel
theorem d_M_circles_63 : decode prog_10_method_19_code 63 = .ok (.imul, 1) := by decide +kernel
theorem d_M_circles_64 : decode prog_10_method_19_code 64 = .ok (.bipush 17, 2) := by decide +kernel
theorem d_M_circles_66 : decode prog_10_method_19_code 66 = .ok (.iload_n 3, 1) := by decide +kernel
theorem d_M_circles_67 : decode prog_10_method_19_code 67 = .ok (.imul, 1) := by decide +kernel
theorem d_M_circles_68 : decode prog_10_method_19_code 68 = .ok (.iadd, 1) := by decide +kernel
theorem d_M_circles_69 : decode prog_10_method_19_code 69 = .ok (.baload, 1) := by decide +kernel
theorem d_M_circles_70 : decode prog_10_method_19_code 70 = .ok (.ifCond .eq 11, 3) := by decide +kernel
theorem d_M_circles_81 : decode prog_10_method_19_code 81 = .ok (.iinc 3 1, 3) := by decide +kernel
theorem d_M_circles_84 : decode prog_10_method_19_code 84 = .ok (.goto (-35), 3) := by decide +kernel
theorem d_M_circles_73 : decode prog_10_method_19_code 73 = .ok (.aload_n 0, 1) := by decide +kernel
theorem d_M_circles_74 : decode prog_10_method_19_code 74 = .ok (.iconst 2, 1) := by decide +kernel
theorem d_M_circles_75 : decode prog_10_method_19_code 75 = .ok (.iload_n 2, 1) := by decide +kernel
theorem d_M_circles_76 : decode prog_10_method_19_code 76 = .ok (.iload_n 3, 1) := by decide +kernel
theorem d_M_circles_77 : decode prog_10_method_19_code 77 = .ok (.invokevirtual 137, 3) := by decide +kernel
theorem d_M_circles_80 : decode prog_10_method_19_code 80 = .ok (.ireturn, 1) := by decide +kernel
theorem d_M_circles_6 : decode prog_10_method_19_code 6 = .ok (.iconst 0, 1) := by decide +kernel
theorem d_M_circles_7 : decode prog_10_method_19_code 7 = .ok (.istore_n 1, 1) := by decide +kernel
theorem d_M_circles_8 : decode prog_10_method_19_code 8 = .ok (.iconst 0, 1) := by decide +kernel
theorem d_M_circles_9 : decode prog_10_method_19_code 9 = .ok (.istore_n 2, 1) := by decide +kernel
theorem d_M_circles_10 : decode prog_10_method_19_code 10 = .ok (.iload_n 2, 1) := by decide +kernel
theorem d_M_circles_11 : decode prog_10_method_19_code 11 = .ok (.aload_n 0, 1) := by decide +kernel
theorem d_M_circles_12 : decode prog_10_method_19_code 12 = .ok (.getfield 119, 3) := by decide +kernel
theorem d_M_circles_15 : decode prog_10_method_19_code 15 = .ok (.if_icmp .ge 19, 3) := by decide +kernel
theorem d_M_circles_34 : decode prog_10_method_19_code 34 = .ok (.goto (-32), 3) := by decide +kernel
theorem d_M_circles_18 : decode prog_10_method_19_code 18 = .ok (.aload_n 0, 1) := by decide +kernel
theorem d_M_circles_19 : decode prog_10_method_19_code 19 = .ok (.iload_n 2, 1) := by decide +kernel
theorem d_M_circles_20 : decode prog_10_method_19_code 20 = .ok (.invokevirtual 147, 3) := by decide +kernel
theorem d_M_circles_28 : decode prog_10_method_19_code 28 = .ok (.iinc 2 1, 3) := by decide +kernel
theorem d_M_circles_31 : decode prog_10_method_19_code 31 = .ok (.goto (-21), 3) := by decide +kernel
theorem d_M_circles_23 : decode prog_10_method_19_code 23 = .ok (.ifCond .eq 5, 3) := by decide +kernel
theorem d_M_circles_26 : decode prog_10_method_19_code 26 = .ok (.iconst 1, 1) := by decide +kernel
theorem d_M_circles_27 : decode prog_10_method_19_code 27 = .ok (.istore_n 1, 1) := by decide +kernel
theorem d_M_reach_0 : decode prog_10_method_20_code 0 = .ok (.iconst 0, 1) := by decide +kernel
theorem d_M_reach_1 : decode prog_10_method_20_code 1 = .ok (.istore_n 3, 1) := by decide +kernel
theorem d_M_reach_2 : decode prog_10_method_20_code 2 = .ok (.iconst 0, 1) := by decide +kernel
theorem d_M_reach_3 : decode prog_10_method_20_code 3 = .ok (.istore 4, 2) := by decide +kernel
theorem d_M_reach_5 : decode prog_10_method_20_code 5 = .ok (.iload 4, 2) := by decide +kernel
theorem d_M_reach_7 : decode prog_10_method_20_code 7 = .ok (.iconst 4, 1) := by decide +kernel
theorem d_M_reach_8 : decode prog_10_method_20_code 8 = .ok (.if_icmp .ge 36, 3) := by decide +kernel
theorem d_M_reach_44 : decode prog_10_method_20_code 44 = .ok (.iload_n 3, 1) := by decide +kernel
theorem d_M_reach_45 : decode prog_10_method_20_code 45 = .ok (.ireturn, 1) := by decide +kernel
theorem d_M_reach_11 : decode prog_10_method_20_code 11 = .ok (.iload_n 3, 1) := by decide +kernel
theorem d_M_reach_12 : decode prog_10_method_20_code 12 = .ok (.aload_n 0, 1) := by decide +kernel
theorem d_M_reach_13 : decode prog_10_method_20_code 13 = .ok (.getfield 45, 3) := by decide +kernel
theorem d_M_reach_16 : decode prog_10_method_20_code 16 = .ok (.bipush 16, 2) := by decide +kernel
theorem d_M_reach_18 : decode prog_10_method_20_code 18 = .ok (.iload_n 1, 1) := by decide +kernel
theorem d_M_reach_19 : decode prog_10_method_20_code 19 = .ok (.imul, 1) := by decide +kernel
theorem d_M_reach_20 : decode prog_10_method_20_code 20 = .ok (.iconst 4, 1) := by decide +kernel
theorem d_M_reach_21 : decode prog_10_method_20_code 21 = .ok (.iload_n 2, 1) := by decide +kernel
theorem d_M_reach_22 : decode prog_10_method_20_code 22 = .ok (.imul, 1) := by decide +kernel
theorem d_M_reach_23 : decode prog_10_method_20_code 23 = .ok (.iadd, 1) := by decide +kernel
theorem d_M_reach_24 : decode prog_10_method_20_code 24 = .ok (.iload 4, 2) := by decide +kernel
theorem d_M_reach_26 : decode prog_10_method_20_code 26 = .ok (.iadd, 1) := by decide +kernel
theorem d_M_reach_27 : decode prog_10_method_20_code 27 = .ok (.baload, 1) := by decide +kernel
theorem d_M_reach_36 : decode prog_10_method_20_code 36 = .ok (.iadd, 1) := by decide +kernel
theorem d_M_reach_37 : decode prog_10_method_20_code 37 = .ok (.istore_n 3, 1) := by decide +kernel
theorem d_M_reach_38 : decode prog_10_method_20_code 38 = .ok (.iinc 4 1, 3) := by decide +kernel
theorem d_M_reach_41 : decode prog_10_method_20_code 41 = .ok (.goto (-36), 3) := by decide +kernel
theorem d_M_reach_28 : decode prog_10_method_20_code 28 = .ok (.ifCond .eq 7, 3) := by decide +kernel
theorem d_M_reach_35 : decode prog_10_method_20_code 35 = .ok (.iconst 0, 1) := by decide +kernel
theorem d_M_reach_31 : decode prog_10_method_20_code 31 = .ok (.iconst 1, 1) := by decide +kernel
theorem d_M_reach_32 : decode prog_10_method_20_code 32 = .ok (.goto 4, 3) := by decide +kernel
theorem d_M_rankAll_0 : decode prog_10_method_21_code 0 = .ok (.iconst 1, 1) := by decide +kernel
theorem d_M_rankAll_1 : decode prog_10_method_21_code 1 = .ok (.istore_n 2, 1) := by decide +kernel
theorem d_M_rankAll_2 : decode prog_10_method_21_code 2 = .ok (.iconst 0, 1) := by decide +kernel
theorem d_M_rankAll_3 : decode prog_10_method_21_code 3 = .ok (.istore_n 3, 1) := by decide +kernel
theorem d_M_rankAll_4 : decode prog_10_method_21_code 4 = .ok (.iload_n 3, 1) := by decide +kernel
theorem d_M_rankAll_5 : decode prog_10_method_21_code 5 = .ok (.iconst 4, 1) := by decide +kernel
theorem d_M_rankAll_6 : decode prog_10_method_21_code 6 = .ok (.if_icmp .ge 205, 3) := by decide +kernel
theorem d_M_rankAll_211 : decode prog_10_method_21_code 211 = .ok (.aload_n 0, 1) := by decide +kernel
theorem d_M_rankAll_212 : decode prog_10_method_21_code 212 = .ok (.getfield 54, 3) := by decide +kernel
theorem d_M_rankAll_215 : decode prog_10_method_21_code 215 = .ok (.iload_n 1, 1) := by decide +kernel
theorem d_M_rankAll_216 : decode prog_10_method_21_code 216 = .ok (.iload_n 2, 1) := by decide +kernel
theorem d_M_rankAll_217 : decode prog_10_method_21_code 217 = .ok (.iconst 1, 1) := by decide +kernel
theorem d_M_rankAll_218 : decode prog_10_method_21_code 218 = .ok (.iadd, 1) := by decide +kernel
theorem d_M_rankAll_219 : decode prog_10_method_21_code 219 = .ok (.iconst 2, 1) := by decide +kernel
theorem d_M_rankAll_220 : decode prog_10_method_21_code 220 = .ok (.idiv, 1) := by decide +kernel
theorem d_M_rankAll_221 : decode prog_10_method_21_code 221 = .ok (.iastore, 1) := by decide +kernel
theorem d_M_rankAll_222 : decode prog_10_method_21_code 222 = .ok (.return_, 1) := by decide +kernel
theorem d_M_rankAll_9 : decode prog_10_method_21_code 9 = .ok (.iconst 0, 1) := by decide +kernel
theorem d_M_rankAll_10 : decode prog_10_method_21_code 10 = .ok (.istore 4, 2) := by decide +kernel
theorem d_M_rankAll_12 : decode prog_10_method_21_code 12 = .ok (.iload 4, 2) := by decide +kernel
theorem d_M_rankAll_14 : decode prog_10_method_21_code 14 = .ok (.aload_n 0, 1) := by decide +kernel
theorem d_M_rankAll_15 : decode prog_10_method_21_code 15 = .ok (.getfield 7, 3) := by decide +kernel
theorem d_M_rankAll_18 : decode prog_10_method_21_code 18 = .ok (.iload_n 1, 1) := by decide +kernel
theorem d_M_rankAll_19 : decode prog_10_method_21_code 19 = .ok (.iaload, 1) := by decide +kernel
theorem d_M_rankAll_20 : decode prog_10_method_21_code 20 = .ok (.if_icmp .ge 185, 3) := by decide +kernel
theorem d_M_rankAll_205 : decode prog_10_method_21_code 205 = .ok (.iinc 3 1, 3) := by decide +kernel
theorem d_M_rankAll_208 : decode prog_10_method_21_code 208 = .ok (.goto (-204), 3) := by decide +kernel
theorem d_M_rankAll_23 : decode prog_10_method_21_code 23 = .ok (.aload_n 0, 1) := by decide +kernel
theorem d_M_rankAll_24 : decode prog_10_method_21_code 24 = .ok (.iload_n 1, 1) := by decide +kernel
theorem d_M_rankAll_25 : decode prog_10_method_21_code 25 = .ok (.iload 4, 2) := by decide +kernel
theorem d_M_rankAll_27 : decode prog_10_method_21_code 27 = .ok (.invokevirtual 150, 3) := by decide +kernel
theorem d_M_rankAll_30 : decode prog_10_method_21_code 30 = .ok (.iload_n 3, 1) := by decide +kernel
theorem d_M_rankAll_199 : decode prog_10_method_21_code 199 = .ok (.iinc 4 1, 3) := by decide +kernel
theorem d_M_rankAll_202 : decode prog_10_method_21_code 202 = .ok (.goto (-190), 3) := by decide +kernel
theorem d_M_rankAll_31 : decode prog_10_method_21_code 31 = .ok (.if_icmp .eq 6, 3) := by decide +kernel
theorem d_M_rankAll_37 : decode prog_10_method_21_code 37 = .ok (.iconst 1, 1) := by decide +kernel
theorem d_M_rankAll_38 : decode prog_10_method_21_code 38 = .ok (.istore 5, 2) := by decide +kernel
theorem d_M_rankAll_40 : decode prog_10_method_21_code 40 = .ok (.iconst 0, 1) := by decide +kernel
theorem d_M_rankAll_41 : decode prog_10_method_21_code 41 = .ok (.istore 6, 2) := by decide +kernel
theorem d_M_rankAll_43 : decode prog_10_method_21_code 43 = .ok (.iload 6, 2) := by decide +kernel
theorem d_M_rankAll_45 : decode prog_10_method_21_code 45 = .ok (.iconst 4, 1) := by decide +kernel
theorem d_M_rankAll_46 : decode prog_10_method_21_code 46 = .ok (.if_icmp .ge 63, 3) := by decide +kernel
theorem d_M_rankAll_109 : decode prog_10_method_21_code 109 = .ok (.aload_n 0, 1) := by decide +kernel
theorem d_M_rankAll_110 : decode prog_10_method_21_code 110 = .ok (.getfield 13, 3) := by decide +kernel
theorem d_M_rankAll_113 : decode prog_10_method_21_code 113 = .ok (.iconst 4, 1) := by decide +kernel
theorem d_M_rankAll_114 : decode prog_10_method_21_code 114 = .ok (.iload_n 1, 1) := by decide +kernel
theorem d_M_rankAll_115 : decode prog_10_method_21_code 115 = .ok (.imul, 1) := by decide +kernel
theorem d_M_rankAll_116 : decode prog_10_method_21_code 116 = .ok (.iload 4, 2) := by decide +kernel
theorem d_M_rankAll_118 : decode prog_10_method_21_code 118 = .ok (.iadd, 1) := by decide +kernel
theorem d_M_rankAll_119 : decode prog_10_method_21_code 119 = .ok (.baload, 1) := by decide +kernel
theorem d_M_rankAll_128 : decode prog_10_method_21_code 128 = .ok (.istore 6, 2) := by decide +kernel
theorem d_M_rankAll_130 : decode prog_10_method_21_code 130 = .ok (.aload_n 0, 1) := by decide +kernel
theorem d_M_rankAll_131 : decode prog_10_method_21_code 131 = .ok (.getfield 51, 3) := by decide +kernel
theorem d_M_rankAll_134 : decode prog_10_method_21_code 134 = .ok (.iconst 4, 1) := by decide +kernel
theorem d_M_rankAll_135 : decode prog_10_method_21_code 135 = .ok (.iload_n 1, 1) := by decide +kernel
theorem d_M_rankAll_136 : decode prog_10_method_21_code 136 = .ok (.imul, 1) := by decide +kernel
theorem d_M_rankAll_137 : decode prog_10_method_21_code 137 = .ok (.iload 4, 2) := by decide +kernel
theorem d_M_rankAll_139 : decode prog_10_method_21_code 139 = .ok (.iadd, 1) := by decide +kernel
theorem d_M_rankAll_140 : decode prog_10_method_21_code 140 = .ok (.iload 5, 2) := by decide +kernel
theorem d_M_rankAll_142 : decode prog_10_method_21_code 142 = .ok (.iconst 2, 1) := by decide +kernel
theorem d_M_rankAll_143 : decode prog_10_method_21_code 143 = .ok (.irem, 1) := by decide +kernel
theorem d_M_rankAll_144 : decode prog_10_method_21_code 144 = .ok (.iconst 1, 1) := by decide +kernel
theorem d_M_rankAll_153 : decode prog_10_method_21_code 153 = .ok (.iload 6, 2) := by decide +kernel
theorem d_M_rankAll_167 : decode prog_10_method_21_code 167 = .ok (.iastore, 1) := by decide +kernel
theorem d_M_rankAll_168 : decode prog_10_method_21_code 168 = .ok (.aload_n 0, 1) := by decide +kernel
theorem d_M_rankAll_169 : decode prog_10_method_21_code 169 = .ok (.getfield 51, 3) := by decide +kernel
theorem d_M_rankAll_172 : decode prog_10_method_21_code 172 = .ok (.iconst 4, 1) := by decide +kernel
theorem d_M_rankAll_173 : decode prog_10_method_21_code 173 = .ok (.iload_n 1, 1) := by decide +kernel
theorem d_M_rankAll_174 : decode prog_10_method_21_code 174 = .ok (.imul, 1) := by decide +kernel
theorem d_M_rankAll_175 : decode prog_10_method_21_code 175 = .ok (.iload 4, 2) := by decide +kernel
theorem d_M_rankAll_177 : decode prog_10_method_21_code 177 = .ok (.iadd, 1) := by decide +kernel
theorem d_M_rankAll_178 : decode prog_10_method_21_code 178 = .ok (.iaload, 1) := by decide +kernel
theorem d_M_rankAll_179 : decode prog_10_method_21_code 179 = .ok (.iload_n 2, 1) := by decide +kernel
theorem d_M_rankAll_198 : decode prog_10_method_21_code 198 = .ok (.istore_n 2, 1) := by decide +kernel
theorem d_M_rankAll_180 : decode prog_10_method_21_code 180 = .ok (.if_icmp .le 17, 3) := by decide +kernel
theorem d_M_rankAll_197 : decode prog_10_method_21_code 197 = .ok (.iload_n 2, 1) := by decide +kernel
theorem d_M_rankAll_183 : decode prog_10_method_21_code 183 = .ok (.aload_n 0, 1) := by decide +kernel
theorem d_M_rankAll_184 : decode prog_10_method_21_code 184 = .ok (.getfield 51, 3) := by decide +kernel
theorem d_M_rankAll_187 : decode prog_10_method_21_code 187 = .ok (.iconst 4, 1) := by decide +kernel
theorem d_M_rankAll_188 : decode prog_10_method_21_code 188 = .ok (.iload_n 1, 1) := by decide +kernel
theorem d_M_rankAll_189 : decode prog_10_method_21_code 189 = .ok (.imul, 1) := by decide +kernel
theorem d_M_rankAll_190 : decode prog_10_method_21_code 190 = .ok (.iload 4, 2) := by decide +kernel
theorem d_M_rankAll_192 : decode prog_10_method_21_code 192 = .ok (.iadd, 1) := by decide +kernel
theorem d_M_rankAll_193 : decode prog_10_method_21_code 193 = .ok (.iaload, 1) := by decide +kernel
theorem d_M_rankAll_194 : decode prog_10_method_21_code 194 = .ok (.goto 4, 3) := by decide +kernel
theorem d_M_rankAll_155 : decode prog_10_method_21_code 155 = .ok (.if_icmp .ne 8, 3) := by decide +kernel
theorem d_M_rankAll_163 : decode prog_10_method_21_code 163 = .ok (.iload 5, 2) := by decide +kernel
theorem d_M_rankAll_165 : decode prog_10_method_21_code 165 = .ok (.iconst 1, 1) := by decide +kernel
theorem d_M_rankAll_166 : decode prog_10_method_21_code 166 = .ok (.iadd, 1) := by decide +kernel
theorem d_M_rankAll_158 : decode prog_10_method_21_code 158 = .ok (.iload 5, 2) := by decide +kernel
theorem d_M_rankAll_160 : decode prog_10_method_21_code 160 = .ok (.goto 7, 3) := by decide +kernel
theorem d_M_rankAll_145 : decode prog_10_method_21_code 145 = .ok (.if_icmp .ne 7, 3) := by decide +kernel
theorem d_M_rankAll_152 : decode prog_10_method_21_code 152 = .ok (.iconst 0, 1) := by decide +kernel
theorem d_M_rankAll_148 : decode prog_10_method_21_code 148 = .ok (.iconst 1, 1) := by decide +kernel
theorem d_M_rankAll_149 : decode prog_10_method_21_code 149 = .ok (.goto 4, 3) := by decide +kernel
theorem d_M_rankAll_120 : decode prog_10_method_21_code 120 = .ok (.ifCond .ne 7, 3) := by decide +kernel
theorem d_M_rankAll_127 : decode prog_10_method_21_code 127 = .ok (.iconst 0, 1) := by decide +kernel
theorem d_M_rankAll_123 : decode prog_10_method_21_code 123 = .ok (.iconst 1, 1) := by decide +kernel
theorem d_M_rankAll_124 : decode prog_10_method_21_code 124 = .ok (.goto 4, 3) := by decide +kernel
theorem d_M_rankAll_49 : decode prog_10_method_21_code 49 = .ok (.aload_n 0, 1) := by decide +kernel
theorem d_M_rankAll_50 : decode prog_10_method_21_code 50 = .ok (.getfield 45, 3) := by decide +kernel
theorem d_M_rankAll_53 : decode prog_10_method_21_code 53 = .ok (.bipush 16, 2) := by decide +kernel
theorem d_M_rankAll_55 : decode prog_10_method_21_code 55 = .ok (.iload_n 1, 1) := by decide +kernel
theorem d_M_rankAll_56 : decode prog_10_method_21_code 56 = .ok (.imul, 1) := by decide +kernel
theorem d_M_rankAll_57 : decode prog_10_method_21_code 57 = .ok (.iconst 4, 1) := by decide +kernel
theorem d_M_rankAll_58 : decode prog_10_method_21_code 58 = .ok (.iload 4, 2) := by decide +kernel
theorem d_M_rankAll_60 : decode prog_10_method_21_code 60 = .ok (.imul, 1) := by decide +kernel
theorem d_M_rankAll_61 : decode prog_10_method_21_code 61 = .ok (.iadd, 1) := by decide +kernel
theorem d_M_rankAll_62 : decode prog_10_method_21_code 62 = .ok (.iload 6, 2) := by decide +kernel
theorem d_M_rankAll_64 : decode prog_10_method_21_code 64 = .ok (.iadd, 1) := by decide +kernel
theorem d_M_rankAll_65 : decode prog_10_method_21_code 65 = .ok (.baload, 1) := by decide +kernel
theorem d_M_rankAll_101 : decode prog_10_method_21_code 101 = .ok (.istore 5, 2) := by decide +kernel
theorem d_M_rankAll_103 : decode prog_10_method_21_code 103 = .ok (.iinc 6 1, 3) := by decide +kernel
theorem d_M_rankAll_106 : decode prog_10_method_21_code 106 = .ok (.goto (-63), 3) := by decide +kernel
theorem d_M_rankAll_99 : decode prog_10_method_21_code 99 = .ok (.iload 5, 2) := by decide +kernel
theorem d_M_rankAll_66 : decode prog_10_method_21_code 66 = .ok (.ifCond .eq 33, 3) := by decide +kernel
theorem d_M_rankAll_69 : decode prog_10_method_21_code 69 = .ok (.aload_n 0, 1) := by decide +kernel
theorem d_M_rankAll_70 : decode prog_10_method_21_code 70 = .ok (.getfield 51, 3) := by decide +kernel
theorem d_M_rankAll_73 : decode prog_10_method_21_code 73 = .ok (.iconst 4, 1) := by decide +kernel
theorem d_M_rankAll_74 : decode prog_10_method_21_code 74 = .ok (.iload_n 1, 1) := by decide +kernel
theorem d_M_rankAll_75 : decode prog_10_method_21_code 75 = .ok (.imul, 1) := by decide +kernel
theorem d_M_rankAll_76 : decode prog_10_method_21_code 76 = .ok (.iload 6, 2) := by decide +kernel
theorem d_M_rankAll_78 : decode prog_10_method_21_code 78 = .ok (.iadd, 1) := by decide +kernel
theorem d_M_rankAll_79 : decode prog_10_method_21_code 79 = .ok (.iaload, 1) := by decide +kernel
theorem d_M_rankAll_80 : decode prog_10_method_21_code 80 = .ok (.iload 5, 2) := by decide +kernel
theorem d_M_rankAll_82 : decode prog_10_method_21_code 82 = .ok (.if_icmp .le 17, 3) := by decide +kernel
theorem d_M_rankAll_85 : decode prog_10_method_21_code 85 = .ok (.aload_n 0, 1) := by decide +kernel
theorem d_M_rankAll_86 : decode prog_10_method_21_code 86 = .ok (.getfield 51, 3) := by decide +kernel
theorem d_M_rankAll_89 : decode prog_10_method_21_code 89 = .ok (.iconst 4, 1) := by decide +kernel
theorem d_M_rankAll_90 : decode prog_10_method_21_code 90 = .ok (.iload_n 1, 1) := by decide +kernel
theorem d_M_rankAll_91 : decode prog_10_method_21_code 91 = .ok (.imul, 1) := by decide +kernel
theorem d_M_rankAll_92 : decode prog_10_method_21_code 92 = .ok (.iload 6, 2) := by decide +kernel
theorem d_M_rankAll_94 : decode prog_10_method_21_code 94 = .ok (.iadd, 1) := by decide +kernel
theorem d_M_rankAll_95 : decode prog_10_method_21_code 95 = .ok (.iaload, 1) := by decide +kernel
theorem d_M_rankAll_96 : decode prog_10_method_21_code 96 = .ok (.goto 5, 3) := by decide +kernel
theorem d_M_rankAll_34 : decode prog_10_method_21_code 34 = .ok (.goto 165, 3) := by decide +kernel
theorem d_M_isDemanded_0 : decode prog_10_method_22_code 0 = .ok (.aload_n 0, 1) := by decide +kernel
theorem d_M_isDemanded_1 : decode prog_10_method_22_code 1 = .ok (.getfield 39, 3) := by decide +kernel
theorem d_M_isDemanded_4 : decode prog_10_method_22_code 4 = .ok (.sipush 256, 3) := by decide +kernel
theorem d_M_isDemanded_7 : decode prog_10_method_22_code 7 = .ok (.iload_n 1, 1) := by decide +kernel
theorem d_M_isDemanded_8 : decode prog_10_method_22_code 8 = .ok (.imul, 1) := by decide +kernel
theorem d_M_isDemanded_9 : decode prog_10_method_22_code 9 = .ok (.bipush 16, 2) := by decide +kernel
theorem d_M_isDemanded_11 : decode prog_10_method_22_code 11 = .ok (.iload_n 2, 1) := by decide +kernel
theorem d_M_isDemanded_12 : decode prog_10_method_22_code 12 = .ok (.imul, 1) := by decide +kernel
theorem d_M_isDemanded_13 : decode prog_10_method_22_code 13 = .ok (.iadd, 1) := by decide +kernel
theorem d_M_isDemanded_14 : decode prog_10_method_22_code 14 = .ok (.iload_n 3, 1) := by decide +kernel
theorem d_M_isDemanded_15 : decode prog_10_method_22_code 15 = .ok (.iadd, 1) := by decide +kernel
theorem d_M_isDemanded_16 : decode prog_10_method_22_code 16 = .ok (.baload, 1) := by decide +kernel
theorem d_M_isDemanded_17 : decode prog_10_method_22_code 17 = .ok (.ifCond .eq 5, 3) := by decide +kernel
theorem d_M_isDemanded_22 : decode prog_10_method_22_code 22 = .ok (.iload_n 2, 1) := by decide +kernel
theorem d_M_isDemanded_23 : decode prog_10_method_22_code 23 = .ok (.iconst 4, 1) := by decide +kernel
theorem d_M_isDemanded_24 : decode prog_10_method_22_code 24 = .ok (.idiv, 1) := by decide +kernel
theorem d_M_isDemanded_25 : decode prog_10_method_22_code 25 = .ok (.iload_n 3, 1) := by decide +kernel
theorem d_M_isDemanded_26 : decode prog_10_method_22_code 26 = .ok (.iconst 4, 1) := by decide +kernel
theorem d_M_isDemanded_27 : decode prog_10_method_22_code 27 = .ok (.idiv, 1) := by decide +kernel
theorem d_M_isDemanded_28 : decode prog_10_method_22_code 28 = .ok (.if_icmp .ne 21, 3) := by decide +kernel
theorem d_M_isDemanded_49 : decode prog_10_method_22_code 49 = .ok (.iconst 0, 1) := by decide +kernel
theorem d_M_isDemanded_50 : decode prog_10_method_22_code 50 = .ok (.ireturn, 1) := by decide +kernel
theorem d_M_isDemanded_31 : decode prog_10_method_22_code 31 = .ok (.aload_n 0, 1) := by decide +kernel
theorem d_M_isDemanded_32 : decode prog_10_method_22_code 32 = .ok (.iload_n 1, 1) := by decide +kernel
theorem d_M_isDemanded_33 : decode prog_10_method_22_code 33 = .ok (.iload_n 2, 1) := by decide +kernel
theorem d_M_isDemanded_34 : decode prog_10_method_22_code 34 = .ok (.invokevirtual 122, 3) := by decide +kernel
theorem d_M_isDemanded_37 : decode prog_10_method_22_code 37 = .ok (.ifCond .eq 12, 3) := by decide +kernel
theorem d_M_isDemanded_40 : decode prog_10_method_22_code 40 = .ok (.aload_n 0, 1) := by decide +kernel
theorem d_M_isDemanded_41 : decode prog_10_method_22_code 41 = .ok (.iload_n 1, 1) := by decide +kernel
theorem d_M_isDemanded_42 : decode prog_10_method_22_code 42 = .ok (.iload_n 3, 1) := by decide +kernel
theorem d_M_isDemanded_43 : decode prog_10_method_22_code 43 = .ok (.invokevirtual 122, 3) := by decide +kernel
theorem d_M_isDemanded_46 : decode prog_10_method_22_code 46 = .ok (.ifCond .ne 5, 3) := by decide +kernel
theorem d_M_isDemanded_51 : decode prog_10_method_22_code 51 = .ok (.aload_n 0, 1) := by decide +kernel
theorem d_M_isDemanded_52 : decode prog_10_method_22_code 52 = .ok (.getfield 20, 3) := by decide +kernel
theorem d_M_isDemanded_55 : decode prog_10_method_22_code 55 = .ok (.iconst 4, 1) := by decide +kernel
theorem d_M_isDemanded_56 : decode prog_10_method_22_code 56 = .ok (.iload_n 1, 1) := by decide +kernel
theorem d_M_isDemanded_57 : decode prog_10_method_22_code 57 = .ok (.imul, 1) := by decide +kernel
theorem d_M_isDemanded_58 : decode prog_10_method_22_code 58 = .ok (.iload_n 2, 1) := by decide +kernel
theorem d_M_isDemanded_59 : decode prog_10_method_22_code 59 = .ok (.iconst 4, 1) := by decide +kernel
theorem d_M_isDemanded_60 : decode prog_10_method_22_code 60 = .ok (.idiv, 1) := by decide +kernel
theorem d_M_isDemanded_61 : decode prog_10_method_22_code 61 = .ok (.iadd, 1) := by decide +kernel
theorem d_M_isDemanded_62 : decode prog_10_method_22_code 62 = .ok (.iaload, 1) := by decide +kernel
theorem d_M_isDemanded_63 : decode prog_10_method_22_code 63 = .ok (.istore 4, 2) := by decide +kernel
theorem d_M_isDemanded_65 : decode prog_10_method_22_code 65 = .ok (.aload_n 0, 1) := by decide +kernel
theorem d_M_isDemanded_66 : decode prog_10_method_22_code 66 = .ok (.getfield 45, 3) := by decide +kernel
theorem d_M_isDemanded_69 : decode prog_10_method_22_code 69 = .ok (.bipush 16, 2) := by decide +kernel
theorem d_M_isDemanded_71 : decode prog_10_method_22_code 71 = .ok (.iload 4, 2) := by decide +kernel
theorem d_M_isDemanded_73 : decode prog_10_method_22_code 73 = .ok (.imul, 1) := by decide +kernel
theorem d_M_isDemanded_74 : decode prog_10_method_22_code 74 = .ok (.iconst 4, 1) := by decide +kernel
theorem d_M_isDemanded_75 : decode prog_10_method_22_code 75 = .ok (.iload_n 2, 1) := by decide +kernel
theorem d_M_isDemanded_76 : decode prog_10_method_22_code 76 = .ok (.iconst 4, 1) := by decide +kernel
theorem d_M_isDemanded_77 : decode prog_10_method_22_code 77 = .ok (.irem, 1) := by decide +kernel
theorem d_M_isDemanded_78 : decode prog_10_method_22_code 78 = .ok (.imul, 1) := by decide +kernel
theorem d_M_isDemanded_79 : decode prog_10_method_22_code 79 = .ok (.iadd, 1) := by decide +kernel
theorem d_M_isDemanded_80 : decode prog_10_method_22_code 80 = .ok (.iload_n 3, 1) := by decide +kernel
theorem d_M_isDemanded_81 : decode prog_10_method_22_code 81 = .ok (.iconst 4, 1) := by decide +kernel
theorem d_M_isDemanded_82 : decode prog_10_method_22_code 82 = .ok (.irem, 1) := by decide +kernel
theorem d_M_isDemanded_83 : decode prog_10_method_22_code 83 = .ok (.iadd, 1) := by decide +kernel
theorem d_M_isDemanded_84 : decode prog_10_method_22_code 84 = .ok (.baload, 1) := by decide +kernel
theorem d_M_isDemanded_113 : decode prog_10_method_22_code 113 = .ok (.iconst 1, 1) := by decide +kernel
theorem d_M_isDemanded_114 : decode prog_10_method_22_code 114 = .ok (.goto 4, 3) := by decide +kernel
theorem d_M_isDemanded_118 : decode prog_10_method_22_code 118 = .ok (.ireturn, 1) := by decide +kernel
theorem d_M_isDemanded_85 : decode prog_10_method_22_code 85 = .ok (.ifCond .ne 28, 3) := by decide +kernel
theorem d_M_isDemanded_88 : decode prog_10_method_22_code 88 = .ok (.aload_n 0, 1) := by decide +kernel
theorem d_M_isDemanded_89 : decode prog_10_method_22_code 89 = .ok (.getfield 51, 3) := by decide +kernel
theorem d_M_isDemanded_92 : decode prog_10_method_22_code 92 = .ok (.aload_n 0, 1) := by decide +kernel
theorem d_M_isDemanded_93 : decode prog_10_method_22_code 93 = .ok (.iload_n 1, 1) := by decide +kernel
theorem d_M_isDemanded_94 : decode prog_10_method_22_code 94 = .ok (.iload_n 2, 1) := by decide +kernel
theorem d_M_isDemanded_95 : decode prog_10_method_22_code 95 = .ok (.invokevirtual 126, 3) := by decide +kernel
theorem d_M_isDemanded_98 : decode prog_10_method_22_code 98 = .ok (.iaload, 1) := by decide +kernel
theorem d_M_isDemanded_99 : decode prog_10_method_22_code 99 = .ok (.aload_n 0, 1) := by decide +kernel
theorem d_M_isDemanded_100 : decode prog_10_method_22_code 100 = .ok (.getfield 51, 3) := by decide +kernel
theorem d_M_isDemanded_103 : decode prog_10_method_22_code 103 = .ok (.aload_n 0, 1) := by decide +kernel
theorem d_M_isDemanded_104 : decode prog_10_method_22_code 104 = .ok (.iload_n 1, 1) := by decide +kernel
theorem d_M_isDemanded_105 : decode prog_10_method_22_code 105 = .ok (.iload_n 3, 1) := by decide +kernel
theorem d_M_isDemanded_106 : decode prog_10_method_22_code 106 = .ok (.invokevirtual 126, 3) := by decide +kernel
theorem d_M_isDemanded_109 : decode prog_10_method_22_code 109 = .ok (.iaload, 1) := by decide +kernel
theorem d_M_isDemanded_110 : decode prog_10_method_22_code 110 = .ok (.if_icmp .le 7, 3) := by decide +kernel
theorem d_M_isDemanded_117 : decode prog_10_method_22_code 117 = .ok (.iconst 0, 1) := by decide +kernel
theorem d_M_isDemanded_20 : decode prog_10_method_22_code 20 = .ok (.iconst 1, 1) := by decide +kernel
theorem d_M_isDemanded_21 : decode prog_10_method_22_code 21 = .ok (.ireturn, 1) := by decide +kernel
theorem d_M_mixes_0 : decode prog_10_method_23_code 0 = .ok (.iconst 0, 1) := by decide +kernel
theorem d_M_mixes_1 : decode prog_10_method_23_code 1 = .ok (.istore_n 1, 1) := by decide +kernel
theorem d_M_mixes_2 : decode prog_10_method_23_code 2 = .ok (.iload_n 1, 1) := by decide +kernel
theorem d_M_mixes_3 : decode prog_10_method_23_code 3 = .ok (.aload_n 0, 1) := by decide +kernel
theorem d_M_mixes_4 : decode prog_10_method_23_code 4 = .ok (.getfield 119, 3) := by decide +kernel
theorem d_M_mixes_7 : decode prog_10_method_23_code 7 = .ok (.if_icmp .ge 160, 3) := by decide +kernel
theorem d_M_mixes_167 : decode prog_10_method_23_code 167 = .ok (.iconst 0, 1) := by decide +kernel
theorem d_M_mixes_168 : decode prog_10_method_23_code 168 = .ok (.ireturn, 1) := by decide +kernel
theorem d_M_mixes_10 : decode prog_10_method_23_code 10 = .ok (.iconst 0, 1) := by decide +kernel
theorem d_M_mixes_11 : decode prog_10_method_23_code 11 = .ok (.istore_n 2, 1) := by decide +kernel
theorem d_M_mixes_12 : decode prog_10_method_23_code 12 = .ok (.iload_n 2, 1) := by decide +kernel
theorem d_M_mixes_13 : decode prog_10_method_23_code 13 = .ok (.sipush 256, 3) := by decide +kernel
theorem d_M_mixes_16 : decode prog_10_method_23_code 16 = .ok (.if_icmp .ge 28, 3) := by decide +kernel
theorem d_M_mixes_44 : decode prog_10_method_23_code 44 = .ok (.iconst 0, 1) := by decide +kernel
theorem d_M_mixes_45 : decode prog_10_method_23_code 45 = .ok (.istore_n 2, 1) := by decide +kernel
theorem d_M_mixes_46 : decode prog_10_method_23_code 46 = .ok (.iload_n 2, 1) := by decide +kernel
theorem d_M_mixes_47 : decode prog_10_method_23_code 47 = .ok (.bipush 16, 2) := by decide +kernel
theorem d_M_mixes_49 : decode prog_10_method_23_code 49 = .ok (.if_icmp .ge 78, 3) := by decide +kernel
theorem d_M_mixes_127 : decode prog_10_method_23_code 127 = .ok (.iconst 0, 1) := by decide +kernel
theorem d_M_mixes_128 : decode prog_10_method_23_code 128 = .ok (.istore_n 2, 1) := by decide +kernel
theorem d_M_mixes_129 : decode prog_10_method_23_code 129 = .ok (.iload_n 2, 1) := by decide +kernel
theorem d_M_mixes_130 : decode prog_10_method_23_code 130 = .ok (.bipush 16, 2) := by decide +kernel
theorem d_M_mixes_132 : decode prog_10_method_23_code 132 = .ok (.if_icmp .ge 29, 3) := by decide +kernel
theorem d_M_mixes_161 : decode prog_10_method_23_code 161 = .ok (.iinc 1 1, 3) := by decide +kernel
theorem d_M_mixes_164 : decode prog_10_method_23_code 164 = .ok (.goto (-162), 3) := by decide +kernel
theorem d_M_mixes_135 : decode prog_10_method_23_code 135 = .ok (.aload_n 0, 1) := by decide +kernel
theorem d_M_mixes_136 : decode prog_10_method_23_code 136 = .ok (.getfield 48, 3) := by decide +kernel
theorem d_M_mixes_139 : decode prog_10_method_23_code 139 = .ok (.bipush 17, 2) := by decide +kernel
theorem d_M_mixes_141 : decode prog_10_method_23_code 141 = .ok (.iload_n 2, 1) := by decide +kernel
theorem d_M_mixes_142 : decode prog_10_method_23_code 142 = .ok (.imul, 1) := by decide +kernel
theorem d_M_mixes_143 : decode prog_10_method_23_code 143 = .ok (.baload, 1) := by decide +kernel
theorem d_M_mixes_144 : decode prog_10_method_23_code 144 = .ok (.ifCond .eq 11, 3) := by decide +kernel
theorem d_M_mixes_155 : decode prog_10_method_23_code 155 = .ok (.iinc 2 1, 3) := by decide +kernel
theorem d_M_mixes_158 : decode prog_10_method_23_code 158 = .ok (.goto (-29), 3) := by decide +kernel
theorem d_M_mixes_147 : decode prog_10_method_23_code 147 = .ok (.aload_n 0, 1) := by decide +kernel
theorem d_M_mixes_148 : decode prog_10_method_23_code 148 = .ok (.iconst 3, 1) := by decide +kernel
theorem d_M_mixes_149 : decode prog_10_method_23_code 149 = .ok (.iload_n 1, 1) := by decide +kernel
theorem d_M_mixes_150 : decode prog_10_method_23_code 150 = .ok (.iload_n 2, 1) := by decide +kernel
theorem d_M_mixes_151 : decode prog_10_method_23_code 151 = .ok (.invokevirtual 137, 3) := by decide +kernel
theorem d_M_mixes_154 : decode prog_10_method_23_code 154 = .ok (.ireturn, 1) := by decide +kernel
theorem d_M_mixes_52 : decode prog_10_method_23_code 52 = .ok (.iconst 0, 1) := by decide +kernel
theorem d_M_mixes_53 : decode prog_10_method_23_code 53 = .ok (.istore_n 3, 1) := by decide +kernel
theorem d_M_mixes_54 : decode prog_10_method_23_code 54 = .ok (.iload_n 3, 1) := by decide +kernel
theorem d_M_mixes_55 : decode prog_10_method_23_code 55 = .ok (.sipush 256, 3) := by decide +kernel
theorem d_M_mixes_58 : decode prog_10_method_23_code 58 = .ok (.if_icmp .ge 63, 3) := by decide +kernel
theorem d_M_mixes_121 : decode prog_10_method_23_code 121 = .ok (.iinc 2 1, 3) := by decide +kernel
theorem d_M_mixes_124 : decode prog_10_method_23_code 124 = .ok (.goto (-78), 3) := by decide +kernel
theorem d_M_mixes_61 : decode prog_10_method_23_code 61 = .ok (.aload_n 0, 1) := by decide +kernel
theorem d_M_mixes_62 : decode prog_10_method_23_code 62 = .ok (.getfield 48, 3) := by decide +kernel
theorem d_M_mixes_65 : decode prog_10_method_23_code 65 = .ok (.iload_n 3, 1) := by decide +kernel
theorem d_M_mixes_66 : decode prog_10_method_23_code 66 = .ok (.aload_n 0, 1) := by decide +kernel
theorem d_M_mixes_67 : decode prog_10_method_23_code 67 = .ok (.getfield 48, 3) := by decide +kernel
theorem d_M_mixes_70 : decode prog_10_method_23_code 70 = .ok (.iload_n 3, 1) := by decide +kernel
theorem d_M_mixes_71 : decode prog_10_method_23_code 71 = .ok (.baload, 1) := by decide +kernel
theorem d_M_mixes_114 : decode prog_10_method_23_code 114 = .ok (.bastore, 1) := by decide +kernel
theorem d_M_mixes_115 : decode prog_10_method_23_code 115 = .ok (.iinc 3 1, 3) := by decide +kernel
theorem d_M_mixes_118 : decode prog_10_method_23_code 118 = .ok (.goto (-64), 3) := by decide +kernel
theorem d_M_mixes_109 : decode prog_10_method_23_code 109 = .ok (.iconst 1, 1) := by decide +kernel
theorem d_M_mixes_110 : decode prog_10_method_23_code 110 = .ok (.goto 4, 3) := by decide +kernel
theorem d_M_mixes_72 : decode prog_10_method_23_code 72 = .ok (.ifCond .ne 37, 3) := by decide +kernel
theorem d_M_mixes_75 : decode prog_10_method_23_code 75 = .ok (.aload_n 0, 1) := by decide +kernel
theorem d_M_mixes_76 : decode prog_10_method_23_code 76 = .ok (.getfield 48, 3) := by decide +kernel
theorem d_M_mixes_79 : decode prog_10_method_23_code 79 = .ok (.iload_n 3, 1) := by decide +kernel
theorem d_M_mixes_80 : decode prog_10_method_23_code 80 = .ok (.bipush 16, 2) := by decide +kernel
theorem d_M_mixes_82 : decode prog_10_method_23_code 82 = .ok (.idiv, 1) := by decide +kernel
theorem d_M_mixes_83 : decode prog_10_method_23_code 83 = .ok (.bipush 16, 2) := by decide +kernel
theorem d_M_mixes_85 : decode prog_10_method_23_code 85 = .ok (.imul, 1) := by decide +kernel
