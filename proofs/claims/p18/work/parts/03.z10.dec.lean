theorem d_M_start_0 : decode prog_10_method_40_code 0 = .ok (.aload_n 0, 1) := by decide +kernel
theorem d_M_start_1 : decode prog_10_method_40_code 1 = .ok (.aload_n 0, 1) := by decide +kernel
theorem d_M_start_2 : decode prog_10_method_40_code 2 = .ok (.getfield 102, 3) := by decide +kernel
theorem d_M_start_25 : decode prog_10_method_40_code 25 = .ok (.putfield 99, 3) := by decide +kernel
theorem d_M_start_28 : decode prog_10_method_40_code 28 = .ok (.aload_n 0, 1) := by decide +kernel
theorem d_M_start_29 : decode prog_10_method_40_code 29 = .ok (.getfield 99, 3) := by decide +kernel
theorem d_M_start_32 : decode prog_10_method_40_code 32 = .ok (.ifCond .le 4, 3) := by decide +kernel
theorem d_M_start_36 : decode prog_10_method_40_code 36 = .ok (.aload_n 0, 1) := by decide +kernel
theorem d_M_start_37 : decode prog_10_method_40_code 37 = .ok (.invokevirtual 106, 3) := by decide +kernel
theorem d_M_start_40 : decode prog_10_method_40_code 40 = .ok (.iconst 0, 1) := by decide +kernel
theorem d_M_start_41 : decode prog_10_method_40_code 41 = .ok (.istore_n 2, 1) := by decide +kernel
theorem d_M_start_42 : decode prog_10_method_40_code 42 = .ok (.iload_n 2, 1) := by decide +kernel
theorem d_M_start_43 : decode prog_10_method_40_code 43 = .ok (.aload_n 0, 1) := by decide +kernel
theorem d_M_start_44 : decode prog_10_method_40_code 44 = .ok (.getfield 194, 3) := by decide +kernel
theorem d_M_start_47 : decode prog_10_method_40_code 47 = .ok (.if_icmp .ge 16, 3) := by decide +kernel
theorem d_M_start_63 : decode prog_10_method_40_code 63 = .ok (.aload_n 0, 1) := by decide +kernel
theorem d_M_start_64 : decode prog_10_method_40_code 64 = .ok (.getfield 20, 3) := by decide +kernel
theorem d_M_start_67 : decode prog_10_method_40_code 67 = .ok (.iconst 4, 1) := by decide +kernel
theorem d_M_start_68 : decode prog_10_method_40_code 68 = .ok (.aload_n 0, 1) := by decide +kernel
theorem d_M_start_69 : decode prog_10_method_40_code 69 = .ok (.getfield 69, 3) := by decide +kernel
theorem d_M_start_72 : decode prog_10_method_40_code 72 = .ok (.iload_n 1, 1) := by decide +kernel
theorem d_M_start_73 : decode prog_10_method_40_code 73 = .ok (.iaload, 1) := by decide +kernel
theorem d_M_start_74 : decode prog_10_method_40_code 74 = .ok (.imul, 1) := by decide +kernel
theorem d_M_start_75 : decode prog_10_method_40_code 75 = .ok (.iaload, 1) := by decide +kernel
theorem d_M_start_76 : decode prog_10_method_40_code 76 = .ok (.istore_n 2, 1) := by decide +kernel
theorem d_M_start_77 : decode prog_10_method_40_code 77 = .ok (.iconst 0, 1) := by decide +kernel
theorem d_M_start_78 : decode prog_10_method_40_code 78 = .ok (.istore_n 3, 1) := by decide +kernel
theorem d_M_start_79 : decode prog_10_method_40_code 79 = .ok (.iload_n 3, 1) := by decide +kernel
theorem d_M_start_80 : decode prog_10_method_40_code 80 = .ok (.iconst 4, 1) := by decide +kernel
theorem d_M_start_81 : decode prog_10_method_40_code 81 = .ok (.if_icmp .ge 45, 3) := by decide +kernel
theorem d_M_start_126 : decode prog_10_method_40_code 126 = .ok (.aload_n 0, 1) := by decide +kernel
theorem d_M_start_127 : decode prog_10_method_40_code 127 = .ok (.iload_n 1, 1) := by decide +kernel
theorem d_M_start_128 : decode prog_10_method_40_code 128 = .ok (.putfield 93, 3) := by decide +kernel
theorem d_M_start_131 : decode prog_10_method_40_code 131 = .ok (.aload_n 0, 1) := by decide +kernel
theorem d_M_start_132 : decode prog_10_method_40_code 132 = .ok (.iload_n 1, 1) := by decide +kernel
theorem d_M_start_133 : decode prog_10_method_40_code 133 = .ok (.putfield 96, 3) := by decide +kernel
theorem d_M_start_136 : decode prog_10_method_40_code 136 = .ok (.return_, 1) := by decide +kernel
theorem d_M_start_84 : decode prog_10_method_40_code 84 = .ok (.aload_n 0, 1) := by decide +kernel
theorem d_M_start_85 : decode prog_10_method_40_code 85 = .ok (.getfield 84, 3) := by decide +kernel
theorem d_M_start_88 : decode prog_10_method_40_code 88 = .ok (.iconst 4, 1) := by decide +kernel
theorem d_M_start_89 : decode prog_10_method_40_code 89 = .ok (.iload_n 1, 1) := by decide +kernel
theorem d_M_start_90 : decode prog_10_method_40_code 90 = .ok (.imul, 1) := by decide +kernel
theorem d_M_start_91 : decode prog_10_method_40_code 91 = .ok (.iload_n 3, 1) := by decide +kernel
theorem d_M_start_92 : decode prog_10_method_40_code 92 = .ok (.iadd, 1) := by decide +kernel
theorem d_M_start_93 : decode prog_10_method_40_code 93 = .ok (.aload_n 0, 1) := by decide +kernel
theorem d_M_start_94 : decode prog_10_method_40_code 94 = .ok (.getfield 13, 3) := by decide +kernel
theorem d_M_start_97 : decode prog_10_method_40_code 97 = .ok (.iconst 4, 1) := by decide +kernel
theorem d_M_start_98 : decode prog_10_method_40_code 98 = .ok (.iload_n 2, 1) := by decide +kernel
theorem d_M_start_99 : decode prog_10_method_40_code 99 = .ok (.imul, 1) := by decide +kernel
theorem d_M_start_100 : decode prog_10_method_40_code 100 = .ok (.iload_n 3, 1) := by decide +kernel
theorem d_M_start_101 : decode prog_10_method_40_code 101 = .ok (.iadd, 1) := by decide +kernel
theorem d_M_start_102 : decode prog_10_method_40_code 102 = .ok (.baload, 1) := by decide +kernel
theorem d_M_start_103 : decode prog_10_method_40_code 103 = .ok (.bastore, 1) := by decide +kernel
theorem d_M_start_104 : decode prog_10_method_40_code 104 = .ok (.aload_n 0, 1) := by decide +kernel
theorem d_M_start_105 : decode prog_10_method_40_code 105 = .ok (.getfield 87, 3) := by decide +kernel
theorem d_M_start_108 : decode prog_10_method_40_code 108 = .ok (.iconst 4, 1) := by decide +kernel
theorem d_M_start_109 : decode prog_10_method_40_code 109 = .ok (.iload_n 1, 1) := by decide +kernel
theorem d_M_start_110 : decode prog_10_method_40_code 110 = .ok (.imul, 1) := by decide +kernel
theorem d_M_start_111 : decode prog_10_method_40_code 111 = .ok (.iload_n 3, 1) := by decide +kernel
theorem d_M_start_112 : decode prog_10_method_40_code 112 = .ok (.iadd, 1) := by decide +kernel
theorem d_M_start_113 : decode prog_10_method_40_code 113 = .ok (.aload_n 0, 1) := by decide +kernel
theorem d_M_start_114 : decode prog_10_method_40_code 114 = .ok (.getfield 90, 3) := by decide +kernel
theorem d_M_start_117 : decode prog_10_method_40_code 117 = .ok (.iload_n 3, 1) := by decide +kernel
theorem d_M_start_118 : decode prog_10_method_40_code 118 = .ok (.iaload, 1) := by decide +kernel
theorem d_M_start_119 : decode prog_10_method_40_code 119 = .ok (.iastore, 1) := by decide +kernel
theorem d_M_start_120 : decode prog_10_method_40_code 120 = .ok (.iinc 3 1, 3) := by decide +kernel
theorem d_M_start_123 : decode prog_10_method_40_code 123 = .ok (.goto (-44), 3) := by decide +kernel
theorem d_M_start_50 : decode prog_10_method_40_code 50 = .ok (.aload_n 0, 1) := by decide +kernel
theorem d_M_start_51 : decode prog_10_method_40_code 51 = .ok (.getfield 81, 3) := by decide +kernel
theorem d_M_start_54 : decode prog_10_method_40_code 54 = .ok (.iload_n 2, 1) := by decide +kernel
theorem d_M_start_55 : decode prog_10_method_40_code 55 = .ok (.iconst 0, 1) := by decide +kernel
theorem d_M_start_56 : decode prog_10_method_40_code 56 = .ok (.iastore, 1) := by decide +kernel
theorem d_M_start_57 : decode prog_10_method_40_code 57 = .ok (.iinc 2 1, 3) := by decide +kernel
theorem d_M_start_60 : decode prog_10_method_40_code 60 = .ok (.goto (-18), 3) := by decide +kernel
theorem d_M_start_35 : decode prog_10_method_40_code 35 = .ok (.return_, 1) := by decide +kernel
theorem d_M_start_5 : decode prog_10_method_40_code 5 = .ok (.ifCond .ne 7, 3) := by decide +kernel
theorem d_M_start_12 : decode prog_10_method_40_code 12 = .ok (.aload_n 0, 1) := by decide +kernel
theorem d_M_start_13 : decode prog_10_method_40_code 13 = .ok (.iload_n 1, 1) := by decide +kernel
theorem d_M_start_14 : decode prog_10_method_40_code 14 = .ok (.invokevirtual 200, 3) := by decide +kernel
theorem d_M_start_17 : decode prog_10_method_40_code 17 = .ok (.ifCond .eq 7, 3) := by decide +kernel
theorem d_M_start_24 : decode prog_10_method_40_code 24 = .ok (.iconst 2, 1) := by decide +kernel
theorem d_M_start_20 : decode prog_10_method_40_code 20 = .ok (.iconst 0, 1) := by decide +kernel
theorem d_M_start_21 : decode prog_10_method_40_code 21 = .ok (.goto 4, 3) := by decide +kernel
theorem d_M_start_8 : decode prog_10_method_40_code 8 = .ok (.iconst 1, 1) := by decide +kernel
theorem d_M_start_9 : decode prog_10_method_40_code 9 = .ok (.goto 16, 3) := by decide +kernel
theorem d_M_cell_0 : decode prog_10_method_41_code 0 = .ok (.iconst 4, 1) := by decide +kernel
theorem d_M_cell_1 : decode prog_10_method_41_code 1 = .ok (.iload_n 2, 1) := by decide +kernel
theorem d_M_cell_2 : decode prog_10_method_41_code 2 = .ok (.iconst 4, 1) := by decide +kernel
theorem d_M_cell_24 : decode prog_10_method_41_code 24 = .ok (.imul, 1) := by decide +kernel
theorem d_M_cell_25 : decode prog_10_method_41_code 25 = .ok (.iload_n 2, 1) := by decide +kernel
theorem d_M_cell_26 : decode prog_10_method_41_code 26 = .ok (.iconst 4, 1) := by decide +kernel
theorem d_M_cell_27 : decode prog_10_method_41_code 27 = .ok (.irem, 1) := by decide +kernel
theorem d_M_cell_28 : decode prog_10_method_41_code 28 = .ok (.iadd, 1) := by decide +kernel
theorem d_M_cell_29 : decode prog_10_method_41_code 29 = .ok (.ireturn, 1) := by decide +kernel
theorem d_M_cell_3 : decode prog_10_method_41_code 3 = .ok (.if_icmp .ge 7, 3) := by decide +kernel
theorem d_M_cell_10 : decode prog_10_method_41_code 10 = .ok (.aload_n 0, 1) := by decide +kernel
theorem d_M_cell_11 : decode prog_10_method_41_code 11 = .ok (.getfield 75, 3) := by decide +kernel
theorem d_M_cell_14 : decode prog_10_method_41_code 14 = .ok (.iconst 3, 1) := by decide +kernel
theorem d_M_cell_15 : decode prog_10_method_41_code 15 = .ok (.iload_n 1, 1) := by decide +kernel
theorem d_M_cell_16 : decode prog_10_method_41_code 16 = .ok (.imul, 1) := by decide +kernel
theorem d_M_cell_17 : decode prog_10_method_41_code 17 = .ok (.iload_n 2, 1) := by decide +kernel
theorem d_M_cell_18 : decode prog_10_method_41_code 18 = .ok (.iconst 4, 1) := by decide +kernel
theorem d_M_cell_19 : decode prog_10_method_41_code 19 = .ok (.idiv, 1) := by decide +kernel
theorem d_M_cell_20 : decode prog_10_method_41_code 20 = .ok (.iadd, 1) := by decide +kernel
theorem d_M_cell_21 : decode prog_10_method_41_code 21 = .ok (.iconst 1, 1) := by decide +kernel
theorem d_M_cell_22 : decode prog_10_method_41_code 22 = .ok (.isub, 1) := by decide +kernel
theorem d_M_cell_23 : decode prog_10_method_41_code 23 = .ok (.iaload, 1) := by decide +kernel
theorem d_M_cell_6 : decode prog_10_method_41_code 6 = .ok (.iload_n 1, 1) := by decide +kernel
theorem d_M_cell_7 : decode prog_10_method_41_code 7 = .ok (.goto 17, 3) := by decide +kernel
theorem d_M_worth_0 : decode prog_10_method_42_code 0 = .ok (.bipush 16, 2) := by decide +kernel
theorem d_M_worth_2 : decode prog_10_method_42_code 2 = .ok (.aload_n 0, 1) := by decide +kernel
theorem d_M_worth_3 : decode prog_10_method_42_code 3 = .ok (.getfield 69, 3) := by decide +kernel
theorem d_M_worth_6 : decode prog_10_method_42_code 6 = .ok (.iload_n 1, 1) := by decide +kernel
theorem d_M_worth_7 : decode prog_10_method_42_code 7 = .ok (.iaload, 1) := by decide +kernel
theorem d_M_worth_8 : decode prog_10_method_42_code 8 = .ok (.imul, 1) := by decide +kernel
theorem d_M_worth_9 : decode prog_10_method_42_code 9 = .ok (.iload_n 2, 1) := by decide +kernel
theorem d_M_worth_10 : decode prog_10_method_42_code 10 = .ok (.iadd, 1) := by decide +kernel
theorem d_M_worth_11 : decode prog_10_method_42_code 11 = .ok (.istore_n 3, 1) := by decide +kernel
theorem d_M_worth_12 : decode prog_10_method_42_code 12 = .ok (.aload_n 0, 1) := by decide +kernel
theorem d_M_worth_13 : decode prog_10_method_42_code 13 = .ok (.getfield 23, 3) := by decide +kernel
theorem d_M_worth_16 : decode prog_10_method_42_code 16 = .ok (.iload_n 3, 1) := by decide +kernel
theorem d_M_worth_17 : decode prog_10_method_42_code 17 = .ok (.iaload, 1) := by decide +kernel
theorem d_M_worth_18 : decode prog_10_method_42_code 18 = .ok (.istore 4, 2) := by decide +kernel
theorem d_M_worth_20 : decode prog_10_method_42_code 20 = .ok (.iload 4, 2) := by decide +kernel
theorem d_M_worth_22 : decode prog_10_method_42_code 22 = .ok (.invokestatic 133, 3) := by decide +kernel
theorem d_M_worth_48 : decode prog_10_method_42_code 48 = .ok (.istore 5, 2) := by decide +kernel
theorem d_M_worth_50 : decode prog_10_method_42_code 50 = .ok (.iload 4, 2) := by decide +kernel
theorem d_M_worth_52 : decode prog_10_method_42_code 52 = .ok (.invokestatic 133, 3) := by decide +kernel
theorem d_M_worth_55 : decode prog_10_method_42_code 55 = .ok (.iconst 1, 1) := by decide +kernel
theorem d_M_worth_79 : decode prog_10_method_42_code 79 = .ok (.istore 6, 2) := by decide +kernel
theorem d_M_worth_81 : decode prog_10_method_42_code 81 = .ok (.iload 4, 2) := by decide +kernel
theorem d_M_worth_83 : decode prog_10_method_42_code 83 = .ok (.tableswitch 91 0 6 #[41, 48, 55, 58, 64, 70, 76], 41) := by decide +kernel
theorem d_M_worth_124 : decode prog_10_method_42_code 124 = .ok (.aload_n 0, 1) := by decide +kernel
theorem d_M_worth_125 : decode prog_10_method_42_code 125 = .ok (.getfield 26, 3) := by decide +kernel
theorem d_M_worth_128 : decode prog_10_method_42_code 128 = .ok (.iload_n 3, 1) := by decide +kernel
theorem d_M_worth_129 : decode prog_10_method_42_code 129 = .ok (.iaload, 1) := by decide +kernel
theorem d_M_worth_130 : decode prog_10_method_42_code 130 = .ok (.ireturn, 1) := by decide +kernel
theorem d_M_worth_131 : decode prog_10_method_42_code 131 = .ok (.aload_n 0, 1) := by decide +kernel
theorem d_M_worth_132 : decode prog_10_method_42_code 132 = .ok (.getfield 72, 3) := by decide +kernel
theorem d_M_worth_135 : decode prog_10_method_42_code 135 = .ok (.iload_n 1, 1) := by decide +kernel
theorem d_M_worth_136 : decode prog_10_method_42_code 136 = .ok (.iaload, 1) := by decide +kernel
theorem d_M_worth_137 : decode prog_10_method_42_code 137 = .ok (.ireturn, 1) := by decide +kernel
theorem d_M_worth_138 : decode prog_10_method_42_code 138 = .ok (.iload 5, 2) := by decide +kernel
theorem d_M_worth_140 : decode prog_10_method_42_code 140 = .ok (.ireturn, 1) := by decide +kernel
theorem d_M_worth_141 : decode prog_10_method_42_code 141 = .ok (.iload 5, 2) := by decide +kernel
theorem d_M_worth_143 : decode prog_10_method_42_code 143 = .ok (.iload 6, 2) := by decide +kernel
theorem d_M_worth_145 : decode prog_10_method_42_code 145 = .ok (.iadd, 1) := by decide +kernel
theorem d_M_worth_146 : decode prog_10_method_42_code 146 = .ok (.ireturn, 1) := by decide +kernel
theorem d_M_worth_147 : decode prog_10_method_42_code 147 = .ok (.iload 5, 2) := by decide +kernel
theorem d_M_worth_149 : decode prog_10_method_42_code 149 = .ok (.iload 6, 2) := by decide +kernel
theorem d_M_worth_151 : decode prog_10_method_42_code 151 = .ok (.isub, 1) := by decide +kernel
theorem d_M_worth_152 : decode prog_10_method_42_code 152 = .ok (.ireturn, 1) := by decide +kernel
theorem d_M_worth_153 : decode prog_10_method_42_code 153 = .ok (.iload 5, 2) := by decide +kernel
theorem d_M_worth_155 : decode prog_10_method_42_code 155 = .ok (.iload 6, 2) := by decide +kernel
theorem d_M_worth_157 : decode prog_10_method_42_code 157 = .ok (.imul, 1) := by decide +kernel
theorem d_M_worth_158 : decode prog_10_method_42_code 158 = .ok (.ireturn, 1) := by decide +kernel
theorem d_M_worth_159 : decode prog_10_method_42_code 159 = .ok (.iload 5, 2) := by decide +kernel
theorem d_M_worth_161 : decode prog_10_method_42_code 161 = .ok (.iload 6, 2) := by decide +kernel
theorem d_M_worth_163 : decode prog_10_method_42_code 163 = .ok (.if_icmp .ge 8, 3) := by decide +kernel
theorem d_M_worth_171 : decode prog_10_method_42_code 171 = .ok (.iload 5, 2) := by decide +kernel
theorem d_M_worth_173 : decode prog_10_method_42_code 173 = .ok (.ireturn, 1) := by decide +kernel
theorem d_M_worth_166 : decode prog_10_method_42_code 166 = .ok (.iload 6, 2) := by decide +kernel
theorem d_M_worth_168 : decode prog_10_method_42_code 168 = .ok (.goto 5, 3) := by decide +kernel
theorem d_M_worth_174 : decode prog_10_method_42_code 174 = .ok (.aload_n 0, 1) := by decide +kernel
theorem d_M_worth_175 : decode prog_10_method_42_code 175 = .ok (.getfield 72, 3) := by decide +kernel
theorem d_M_worth_178 : decode prog_10_method_42_code 178 = .ok (.iload_n 1, 1) := by decide +kernel
theorem d_M_worth_179 : decode prog_10_method_42_code 179 = .ok (.iaload, 1) := by decide +kernel
theorem d_M_worth_180 : decode prog_10_method_42_code 180 = .ok (.iload 5, 2) := by decide +kernel
theorem d_M_worth_182 : decode prog_10_method_42_code 182 = .ok (.iadd, 1) := by decide +kernel
theorem d_M_worth_183 : decode prog_10_method_42_code 183 = .ok (.ireturn, 1) := by decide +kernel
theorem d_M_worth_56 : decode prog_10_method_42_code 56 = .ok (.if_icmp .le 22, 3) := by decide +kernel
theorem d_M_worth_78 : decode prog_10_method_42_code 78 = .ok (.iconst 0, 1) := by decide +kernel
theorem d_M_worth_59 : decode prog_10_method_42_code 59 = .ok (.aload_n 0, 1) := by decide +kernel
theorem d_M_worth_60 : decode prog_10_method_42_code 60 = .ok (.getfield 87, 3) := by decide +kernel
theorem d_M_worth_63 : decode prog_10_method_42_code 63 = .ok (.aload_n 0, 1) := by decide +kernel
theorem d_M_worth_64 : decode prog_10_method_42_code 64 = .ok (.iload_n 1, 1) := by decide +kernel
theorem d_M_worth_65 : decode prog_10_method_42_code 65 = .ok (.aload_n 0, 1) := by decide +kernel
theorem d_M_worth_66 : decode prog_10_method_42_code 66 = .ok (.getfield 29, 3) := by decide +kernel
theorem d_M_worth_69 : decode prog_10_method_42_code 69 = .ok (.iload_n 3, 1) := by decide +kernel
theorem d_M_worth_70 : decode prog_10_method_42_code 70 = .ok (.iaload, 1) := by decide +kernel
theorem d_M_worth_71 : decode prog_10_method_42_code 71 = .ok (.invokevirtual 203, 3) := by decide +kernel
theorem d_M_worth_74 : decode prog_10_method_42_code 74 = .ok (.iaload, 1) := by decide +kernel
theorem d_M_worth_75 : decode prog_10_method_42_code 75 = .ok (.goto 4, 3) := by decide +kernel
theorem d_M_worth_25 : decode prog_10_method_42_code 25 = .ok (.ifCond .le 22, 3) := by decide +kernel
theorem d_M_worth_47 : decode prog_10_method_42_code 47 = .ok (.iconst 0, 1) := by decide +kernel
theorem d_M_worth_28 : decode prog_10_method_42_code 28 = .ok (.aload_n 0, 1) := by decide +kernel
theorem d_M_worth_29 : decode prog_10_method_42_code 29 = .ok (.getfield 87, 3) := by decide +kernel
theorem d_M_worth_32 : decode prog_10_method_42_code 32 = .ok (.aload_n 0, 1) := by decide +kernel
theorem d_M_worth_33 : decode prog_10_method_42_code 33 = .ok (.iload_n 1, 1) := by decide +kernel
theorem d_M_worth_34 : decode prog_10_method_42_code 34 = .ok (.aload_n 0, 1) := by decide +kernel
theorem d_M_worth_35 : decode prog_10_method_42_code 35 = .ok (.getfield 26, 3) := by decide +kernel
theorem d_M_worth_38 : decode prog_10_method_42_code 38 = .ok (.iload_n 3, 1) := by decide +kernel
theorem d_M_worth_39 : decode prog_10_method_42_code 39 = .ok (.iaload, 1) := by decide +kernel
theorem d_M_worth_40 : decode prog_10_method_42_code 40 = .ok (.invokevirtual 203, 3) := by decide +kernel
theorem d_M_worth_43 : decode prog_10_method_42_code 43 = .ok (.iaload, 1) := by decide +kernel
theorem d_M_worth_44 : decode prog_10_method_42_code 44 = .ok (.goto 4, 3) := by decide +kernel
theorem d_M_step_0 : decode prog_10_method_43_code 0 = .ok (.aload_n 0, 1) := by decide +kernel
theorem d_M_step_1 : decode prog_10_method_43_code 1 = .ok (.getfield 96, 3) := by decide +kernel
theorem d_M_step_4 : decode prog_10_method_43_code 4 = .ok (.istore_n 1, 1) := by decide +kernel
theorem d_M_step_5 : decode prog_10_method_43_code 5 = .ok (.aload_n 0, 1) := by decide +kernel
theorem d_M_step_6 : decode prog_10_method_43_code 6 = .ok (.getfield 69, 3) := by decide +kernel
theorem d_M_step_9 : decode prog_10_method_43_code 9 = .ok (.iload_n 1, 1) := by decide +kernel
theorem d_M_step_10 : decode prog_10_method_43_code 10 = .ok (.iaload, 1) := by decide +kernel
theorem d_M_step_11 : decode prog_10_method_43_code 11 = .ok (.istore_n 2, 1) := by decide +kernel
theorem d_M_step_12 : decode prog_10_method_43_code 12 = .ok (.aload_n 0, 1) := by decide +kernel
theorem d_M_step_13 : decode prog_10_method_43_code 13 = .ok (.getfield 60, 3) := by decide +kernel
theorem d_M_step_16 : decode prog_10_method_43_code 16 = .ok (.bipush 48, 2) := by decide +kernel
theorem d_M_step_18 : decode prog_10_method_43_code 18 = .ok (.iload_n 2, 1) := by decide +kernel
theorem d_M_step_19 : decode prog_10_method_43_code 19 = .ok (.imul, 1) := by decide +kernel
theorem d_M_step_20 : decode prog_10_method_43_code 20 = .ok (.aload_n 0, 1) := by decide +kernel
theorem d_M_step_21 : decode prog_10_method_43_code 21 = .ok (.getfield 81, 3) := by decide +kernel
theorem d_M_step_24 : decode prog_10_method_43_code 24 = .ok (.iload_n 1, 1) := by decide +kernel
theorem d_M_step_25 : decode prog_10_method_43_code 25 = .ok (.iaload, 1) := by decide +kernel
theorem d_M_step_26 : decode prog_10_method_43_code 26 = .ok (.iadd, 1) := by decide +kernel
theorem d_M_step_27 : decode prog_10_method_43_code 27 = .ok (.iaload, 1) := by decide +kernel
theorem d_M_step_28 : decode prog_10_method_43_code 28 = .ok (.istore_n 3, 1) := by decide +kernel
theorem d_M_step_29 : decode prog_10_method_43_code 29 = .ok (.aload_n 0, 1) := by decide +kernel
theorem d_M_step_30 : decode prog_10_method_43_code 30 = .ok (.getfield 81, 3) := by decide +kernel
theorem d_M_step_33 : decode prog_10_method_43_code 33 = .ok (.iload_n 1, 1) := by decide +kernel
theorem d_M_step_34 : decode prog_10_method_43_code 34 = .ok (.dup2, 1) := by decide +kernel
theorem d_M_step_35 : decode prog_10_method_43_code 35 = .ok (.iaload, 1) := by decide +kernel
theorem d_M_step_36 : decode prog_10_method_43_code 36 = .ok (.iconst 1, 1) := by decide +kernel
theorem d_M_step_37 : decode prog_10_method_43_code 37 = .ok (.iadd, 1) := by decide +kernel
theorem d_M_step_38 : decode prog_10_method_43_code 38 = .ok (.iastore, 1) := by decide +kernel
theorem d_M_step_39 : decode prog_10_method_43_code 39 = .ok (.iload_n 3, 1) := by decide +kernel
theorem d_M_step_40 : decode prog_10_method_43_code 40 = .ok (.bipush 100, 2) := by decide +kernel
theorem d_M_step_42 : decode prog_10_method_43_code 42 = .ok (.if_icmp .ge 35, 3) := by decide +kernel
theorem d_M_step_77 : decode prog_10_method_43_code 77 = .ok (.iload_n 3, 1) := by decide +kernel
theorem d_M_step_78 : decode prog_10_method_43_code 78 = .ok (.sipush 1000, 3) := by decide +kernel
theorem d_M_step_81 : decode prog_10_method_43_code 81 = .ok (.if_icmp .ge 25, 3) := by decide +kernel
theorem d_M_step_106 : decode prog_10_method_43_code 106 = .ok (.aload_n 0, 1) := by decide +kernel
theorem d_M_step_107 : decode prog_10_method_43_code 107 = .ok (.iload_n 1, 1) := by decide +kernel
theorem d_M_step_108 : decode prog_10_method_43_code 108 = .ok (.aload_n 0, 1) := by decide +kernel
theorem d_M_step_109 : decode prog_10_method_43_code 109 = .ok (.getfield 93, 3) := by decide +kernel
theorem d_M_step_112 : decode prog_10_method_43_code 112 = .ok (.if_icmp .eq 12, 3) := by decide +kernel
theorem d_M_step_124 : decode prog_10_method_43_code 124 = .ok (.aload_n 0, 1) := by decide +kernel
theorem d_M_step_125 : decode prog_10_method_43_code 125 = .ok (.getfield 81, 3) := by decide +kernel
theorem d_M_step_128 : decode prog_10_method_43_code 128 = .ok (.iload_n 1, 1) := by decide +kernel
theorem d_M_step_129 : decode prog_10_method_43_code 129 = .ok (.iaload, 1) := by decide +kernel
theorem d_M_step_130 : decode prog_10_method_43_code 130 = .ok (.aload_n 0, 1) := by decide +kernel
theorem d_M_step_131 : decode prog_10_method_43_code 131 = .ok (.getfield 57, 3) := by decide +kernel
theorem d_M_step_134 : decode prog_10_method_43_code 134 = .ok (.iload_n 2, 1) := by decide +kernel
theorem d_M_step_135 : decode prog_10_method_43_code 135 = .ok (.iaload, 1) := by decide +kernel
theorem d_M_step_136 : decode prog_10_method_43_code 136 = .ok (.if_icmp .ne 7, 3) := by decide +kernel
theorem d_M_step_143 : decode prog_10_method_43_code 143 = .ok (.iload_n 1, 1) := by decide +kernel
theorem d_M_step_144 : decode prog_10_method_43_code 144 = .ok (.putfield 96, 3) := by decide +kernel
theorem d_M_step_147 : decode prog_10_method_43_code 147 = .ok (.return_, 1) := by decide +kernel
theorem d_M_step_139 : decode prog_10_method_43_code 139 = .ok (.iconst (-1), 1) := by decide +kernel
theorem d_M_step_140 : decode prog_10_method_43_code 140 = .ok (.goto 4, 3) := by decide +kernel
theorem d_M_step_115 : decode prog_10_method_43_code 115 = .ok (.aload_n 0, 1) := by decide +kernel
theorem d_M_step_116 : decode prog_10_method_43_code 116 = .ok (.getfield 78, 3) := by decide +kernel
theorem d_M_step_119 : decode prog_10_method_43_code 119 = .ok (.iload_n 1, 1) := by decide +kernel
theorem d_M_step_120 : decode prog_10_method_43_code 120 = .ok (.iaload, 1) := by decide +kernel
theorem d_M_step_121 : decode prog_10_method_43_code 121 = .ok (.goto 23, 3) := by decide +kernel
theorem d_M_step_84 : decode prog_10_method_43_code 84 = .ok (.aload_n 0, 1) := by decide +kernel
theorem d_M_step_85 : decode prog_10_method_43_code 85 = .ok (.aload_n 0, 1) := by decide +kernel
theorem d_M_step_86 : decode prog_10_method_43_code 86 = .ok (.getfield 75, 3) := by decide +kernel
theorem d_M_step_89 : decode prog_10_method_43_code 89 = .ok (.iconst 3, 1) := by decide +kernel
theorem d_M_step_90 : decode prog_10_method_43_code 90 = .ok (.iload_n 1, 1) := by decide +kernel
theorem d_M_step_91 : decode prog_10_method_43_code 91 = .ok (.imul, 1) := by decide +kernel
theorem d_M_step_92 : decode prog_10_method_43_code 92 = .ok (.iload_n 3, 1) := by decide +kernel
theorem d_M_step_93 : decode prog_10_method_43_code 93 = .ok (.bipush 100, 2) := by decide +kernel
theorem d_M_step_95 : decode prog_10_method_43_code 95 = .ok (.idiv, 1) := by decide +kernel
theorem d_M_step_96 : decode prog_10_method_43_code 96 = .ok (.iadd, 1) := by decide +kernel
theorem d_M_step_97 : decode prog_10_method_43_code 97 = .ok (.iconst 1, 1) := by decide +kernel
theorem d_M_step_98 : decode prog_10_method_43_code 98 = .ok (.isub, 1) := by decide +kernel
theorem d_M_step_99 : decode prog_10_method_43_code 99 = .ok (.iaload, 1) := by decide +kernel
theorem d_M_step_100 : decode prog_10_method_43_code 100 = .ok (.putfield 96, 3) := by decide +kernel
theorem d_M_step_103 : decode prog_10_method_43_code 103 = .ok (.goto 44, 3) := by decide +kernel
theorem d_M_step_45 : decode prog_10_method_43_code 45 = .ok (.aload_n 0, 1) := by decide +kernel
theorem d_M_step_46 : decode prog_10_method_43_code 46 = .ok (.getfield 87, 3) := by decide +kernel
theorem d_M_step_49 : decode prog_10_method_43_code 49 = .ok (.aload_n 0, 1) := by decide +kernel
theorem d_M_step_50 : decode prog_10_method_43_code 50 = .ok (.iload_n 1, 1) := by decide +kernel
theorem d_M_step_51 : decode prog_10_method_43_code 51 = .ok (.iload_n 3, 1) := by decide +kernel
theorem d_M_step_52 : decode prog_10_method_43_code 52 = .ok (.invokevirtual 203, 3) := by decide +kernel
theorem d_M_step_55 : decode prog_10_method_43_code 55 = .ok (.aload_n 0, 1) := by decide +kernel
theorem d_M_step_56 : decode prog_10_method_43_code 56 = .ok (.iload_n 1, 1) := by decide +kernel
theorem d_M_step_57 : decode prog_10_method_43_code 57 = .ok (.iload_n 3, 1) := by decide +kernel
theorem d_M_step_58 : decode prog_10_method_43_code 58 = .ok (.invokevirtual 206, 3) := by decide +kernel
theorem d_M_step_61 : decode prog_10_method_43_code 61 = .ok (.iastore, 1) := by decide +kernel
theorem d_M_step_62 : decode prog_10_method_43_code 62 = .ok (.aload_n 0, 1) := by decide +kernel
theorem d_M_step_63 : decode prog_10_method_43_code 63 = .ok (.getfield 84, 3) := by decide +kernel
theorem d_M_step_66 : decode prog_10_method_43_code 66 = .ok (.aload_n 0, 1) := by decide +kernel
theorem d_M_step_67 : decode prog_10_method_43_code 67 = .ok (.iload_n 1, 1) := by decide +kernel
theorem d_M_step_68 : decode prog_10_method_43_code 68 = .ok (.iload_n 3, 1) := by decide +kernel
theorem d_M_step_69 : decode prog_10_method_43_code 69 = .ok (.invokevirtual 203, 3) := by decide +kernel
theorem d_M_step_72 : decode prog_10_method_43_code 72 = .ok (.iconst 1, 1) := by decide +kernel
theorem d_M_step_73 : decode prog_10_method_43_code 73 = .ok (.bastore, 1) := by decide +kernel
theorem d_M_step_74 : decode prog_10_method_43_code 74 = .ok (.goto 73, 3) := by decide +kernel
theorem d_M_run_0 : decode prog_10_method_44_code 0 = .ok (.aload_n 0, 1) := by decide +kernel
theorem d_M_run_1 : decode prog_10_method_44_code 1 = .ok (.iload_n 1, 1) := by decide +kernel
theorem d_M_run_29 : decode prog_10_method_44_code 29 = .ok (.putfield 99, 3) := by decide +kernel
theorem d_M_run_32 : decode prog_10_method_44_code 32 = .ok (.aload_n 0, 1) := by decide +kernel
theorem d_M_run_33 : decode prog_10_method_44_code 33 = .ok (.getfield 99, 3) := by decide +kernel
theorem d_M_run_36 : decode prog_10_method_44_code 36 = .ok (.ifCond .le 5, 3) := by decide +kernel
theorem d_M_run_41 : decode prog_10_method_44_code 41 = .ok (.iconst 0, 1) := by decide +kernel
theorem d_M_run_42 : decode prog_10_method_44_code 42 = .ok (.istore_n 2, 1) := by decide +kernel
theorem d_M_run_43 : decode prog_10_method_44_code 43 = .ok (.iload_n 2, 1) := by decide +kernel
theorem d_M_run_44 : decode prog_10_method_44_code 44 = .ok (.iload_n 1, 1) := by decide +kernel
theorem d_M_run_45 : decode prog_10_method_44_code 45 = .ok (.if_icmp .ge 21, 3) := by decide +kernel
theorem d_M_run_66 : decode prog_10_method_44_code 66 = .ok (.iload_n 2, 1) := by decide +kernel
theorem d_M_run_67 : decode prog_10_method_44_code 67 = .ok (.ireturn, 1) := by decide +kernel
theorem d_M_run_48 : decode prog_10_method_44_code 48 = .ok (.aload_n 0, 1) := by decide +kernel
theorem d_M_run_49 : decode prog_10_method_44_code 49 = .ok (.getfield 96, 3) := by decide +kernel
theorem d_M_run_52 : decode prog_10_method_44_code 52 = .ok (.iconst (-1), 1) := by decide +kernel
theorem d_M_run_53 : decode prog_10_method_44_code 53 = .ok (.if_icmp .eq 13, 3) := by decide +kernel
theorem d_M_run_56 : decode prog_10_method_44_code 56 = .ok (.aload_n 0, 1) := by decide +kernel
theorem d_M_run_57 : decode prog_10_method_44_code 57 = .ok (.invokevirtual 209, 3) := by decide +kernel
theorem d_M_run_60 : decode prog_10_method_44_code 60 = .ok (.iinc 2 1, 3) := by decide +kernel
theorem d_M_run_63 : decode prog_10_method_44_code 63 = .ok (.goto (-20), 3) := by decide +kernel
theorem d_M_run_39 : decode prog_10_method_44_code 39 = .ok (.iconst 0, 1) := by decide +kernel
theorem d_M_run_40 : decode prog_10_method_44_code 40 = .ok (.ireturn, 1) := by decide +kernel
theorem d_M_run_12 : decode prog_10_method_44_code 12 = .ok (.iconst 1, 1) := by decide +kernel
theorem d_M_run_13 : decode prog_10_method_44_code 13 = .ok (.goto 16, 3) := by decide +kernel
theorem d_M_run_2 : decode prog_10_method_44_code 2 = .ok (.ifCond .lt 10, 3) := by decide +kernel
theorem d_M_run_5 : decode prog_10_method_44_code 5 = .ok (.iload_n 1, 1) := by decide +kernel
theorem d_M_run_6 : decode prog_10_method_44_code 6 = .ok (.sipush 500, 3) := by decide +kernel
theorem d_M_run_9 : decode prog_10_method_44_code 9 = .ok (.if_icmp .le 7, 3) := by decide +kernel
theorem d_M_run_16 : decode prog_10_method_44_code 16 = .ok (.aload_n 0, 1) := by decide +kernel
theorem d_M_run_17 : decode prog_10_method_44_code 17 = .ok (.getfield 93, 3) := by decide +kernel
theorem d_M_run_20 : decode prog_10_method_44_code 20 = .ok (.iconst (-1), 1) := by decide +kernel
theorem d_M_run_21 : decode prog_10_method_44_code 21 = .ok (.if_icmp .ne 7, 3) := by decide +kernel
theorem d_M_run_28 : decode prog_10_method_44_code 28 = .ok (.iconst 0, 1) := by decide +kernel
theorem d_M_run_24 : decode prog_10_method_44_code 24 = .ok (.iconst 2, 1) := by decide +kernel
theorem d_M_run_25 : decode prog_10_method_44_code 25 = .ok (.goto 4, 3) := by decide +kernel
theorem d_M_status_0 : decode prog_10_method_45_code 0 = .ok (.aload_n 0, 1) := by decide +kernel
theorem d_M_status_1 : decode prog_10_method_45_code 1 = .ok (.iconst 0, 1) := by decide +kernel
theorem d_M_status_2 : decode prog_10_method_45_code 2 = .ok (.putfield 99, 3) := by decide +kernel
theorem d_M_status_5 : decode prog_10_method_45_code 5 = .ok (.aload_n 0, 1) := by decide +kernel
theorem d_M_status_6 : decode prog_10_method_45_code 6 = .ok (.getfield 93, 3) := by decide +kernel
theorem d_M_status_9 : decode prog_10_method_45_code 9 = .ok (.iconst (-1), 1) := by decide +kernel
theorem d_M_status_10 : decode prog_10_method_45_code 10 = .ok (.if_icmp .ne 7, 3) := by decide +kernel
theorem d_M_status_17 : decode prog_10_method_45_code 17 = .ok (.aload_n 0, 1) := by decide +kernel
theorem d_M_status_18 : decode prog_10_method_45_code 18 = .ok (.getfield 96, 3) := by decide +kernel
theorem d_M_status_21 : decode prog_10_method_45_code 21 = .ok (.iconst (-1), 1) := by decide +kernel
theorem d_M_status_22 : decode prog_10_method_45_code 22 = .ok (.if_icmp .ne 7, 3) := by decide +kernel
theorem d_M_status_29 : decode prog_10_method_45_code 29 = .ok (.iconst 1, 1) := by decide +kernel
theorem d_M_status_30 : decode prog_10_method_45_code 30 = .ok (.ireturn, 1) := by decide +kernel
theorem d_M_status_25 : decode prog_10_method_45_code 25 = .ok (.iconst 2, 1) := by decide +kernel
theorem d_M_status_26 : decode prog_10_method_45_code 26 = .ok (.goto 4, 3) := by decide +kernel
theorem d_M_status_13 : decode prog_10_method_45_code 13 = .ok (.iconst 0, 1) := by decide +kernel
theorem d_M_status_14 : decode prog_10_method_45_code 14 = .ok (.goto 16, 3) := by decide +kernel
theorem d_M_atHand_0 : decode prog_10_method_46_code 0 = .ok (.aload_n 0, 1) := by decide +kernel
theorem d_M_atHand_1 : decode prog_10_method_46_code 1 = .ok (.iconst 0, 1) := by decide +kernel
theorem d_M_atHand_2 : decode prog_10_method_46_code 2 = .ok (.putfield 99, 3) := by decide +kernel
theorem d_M_atHand_5 : decode prog_10_method_46_code 5 = .ok (.aload_n 0, 1) := by decide +kernel
theorem d_M_atHand_6 : decode prog_10_method_46_code 6 = .ok (.getfield 96, 3) := by decide +kernel
theorem d_M_atHand_9 : decode prog_10_method_46_code 9 = .ok (.ireturn, 1) := by decide +kernel
theorem d_M_isAttribute_0 : decode prog_10_method_47_code 0 = .ok (.aload_n 0, 1) := by decide +kernel
theorem d_M_isAttribute_1 : decode prog_10_method_47_code 1 = .ok (.iload_n 1, 1) := by decide +kernel
theorem d_M_isAttribute_2 : decode prog_10_method_47_code 2 = .ok (.invokevirtual 200, 3) := by decide +kernel
theorem d_M_isAttribute_5 : decode prog_10_method_47_code 5 = .ok (.ifCond .eq 33, 3) := by decide +kernel
theorem d_M_isAttribute_38 : decode prog_10_method_47_code 38 = .ok (.iconst 0, 1) := by decide +kernel
theorem d_M_isAttribute_39 : decode prog_10_method_47_code 39 = .ok (.ireturn, 1) := by decide +kernel
theorem d_M_isAttribute_8 : decode prog_10_method_47_code 8 = .ok (.iload_n 2, 1) := by decide +kernel
theorem d_M_isAttribute_9 : decode prog_10_method_47_code 9 = .ok (.ifCond .lt 29, 3) := by decide +kernel
theorem d_M_isAttribute_12 : decode prog_10_method_47_code 12 = .ok (.iload_n 2, 1) := by decide +kernel
theorem d_M_isAttribute_13 : decode prog_10_method_47_code 13 = .ok (.aload_n 0, 1) := by decide +kernel
theorem d_M_isAttribute_14 : decode prog_10_method_47_code 14 = .ok (.getfield 7, 3) := by decide +kernel
theorem d_M_isAttribute_17 : decode prog_10_method_47_code 17 = .ok (.aload_n 0, 1) := by decide +kernel
theorem d_M_isAttribute_18 : decode prog_10_method_47_code 18 = .ok (.getfield 20, 3) := by decide +kernel
theorem d_M_isAttribute_21 : decode prog_10_method_47_code 21 = .ok (.iconst 4, 1) := by decide +kernel
theorem d_M_isAttribute_22 : decode prog_10_method_47_code 22 = .ok (.aload_n 0, 1) := by decide +kernel
theorem d_M_isAttribute_23 : decode prog_10_method_47_code 23 = .ok (.getfield 69, 3) := by decide +kernel
theorem d_M_isAttribute_26 : decode prog_10_method_47_code 26 = .ok (.iload_n 1, 1) := by decide +kernel
theorem d_M_isAttribute_27 : decode prog_10_method_47_code 27 = .ok (.iaload, 1) := by decide +kernel
theorem d_M_isAttribute_28 : decode prog_10_method_47_code 28 = .ok (.imul, 1) := by decide +kernel
theorem d_M_isAttribute_29 : decode prog_10_method_47_code 29 = .ok (.iaload, 1) := by decide +kernel
theorem d_M_isAttribute_30 : decode prog_10_method_47_code 30 = .ok (.iaload, 1) := by decide +kernel
theorem d_M_isAttribute_31 : decode prog_10_method_47_code 31 = .ok (.if_icmp .ge 7, 3) := by decide +kernel
theorem d_M_isAttribute_34 : decode prog_10_method_47_code 34 = .ok (.iconst 1, 1) := by decide +kernel
theorem d_M_isAttribute_35 : decode prog_10_method_47_code 35 = .ok (.goto 4, 3) := by decide +kernel
theorem d_M_knows_0 : decode prog_10_method_48_code 0 = .ok (.aload_n 0, 1) := by decide +kernel
theorem d_M_knows_1 : decode prog_10_method_48_code 1 = .ok (.aload_n 0, 1) := by decide +kernel
theorem d_M_knows_2 : decode prog_10_method_48_code 2 = .ok (.iload_n 1, 1) := by decide +kernel
theorem d_M_knows_3 : decode prog_10_method_48_code 3 = .ok (.iload_n 2, 1) := by decide +kernel
theorem d_M_knows_4 : decode prog_10_method_48_code 4 = .ok (.invokevirtual 212, 3) := by decide +kernel
theorem d_M_knows_15 : decode prog_10_method_48_code 15 = .ok (.putfield 99, 3) := by decide +kernel
theorem d_M_knows_18 : decode prog_10_method_48_code 18 = .ok (.aload_n 0, 1) := by decide +kernel
theorem d_M_knows_19 : decode prog_10_method_48_code 19 = .ok (.getfield 99, 3) := by decide +kernel
theorem d_M_knows_22 : decode prog_10_method_48_code 22 = .ok (.ifCond .ne 20, 3) := by decide +kernel
theorem d_M_knows_42 : decode prog_10_method_48_code 42 = .ok (.iconst 0, 1) := by decide +kernel
theorem d_M_knows_43 : decode prog_10_method_48_code 43 = .ok (.ireturn, 1) := by decide +kernel
theorem d_M_knows_25 : decode prog_10_method_48_code 25 = .ok (.aload_n 0, 1) := by decide +kernel
theorem d_M_knows_26 : decode prog_10_method_48_code 26 = .ok (.getfield 84, 3) := by decide +kernel
theorem d_M_knows_29 : decode prog_10_method_48_code 29 = .ok (.iconst 4, 1) := by decide +kernel
theorem d_M_knows_30 : decode prog_10_method_48_code 30 = .ok (.iload_n 1, 1) := by decide +kernel
theorem d_M_knows_31 : decode prog_10_method_48_code 31 = .ok (.imul, 1) := by decide +kernel
theorem d_M_knows_32 : decode prog_10_method_48_code 32 = .ok (.iload_n 2, 1) := by decide +kernel
theorem d_M_knows_33 : decode prog_10_method_48_code 33 = .ok (.iadd, 1) := by decide +kernel
theorem d_M_knows_34 : decode prog_10_method_48_code 34 = .ok (.baload, 1) := by decide +kernel
theorem d_M_knows_35 : decode prog_10_method_48_code 35 = .ok (.ifCond .eq 7, 3) := by decide +kernel
theorem d_M_knows_38 : decode prog_10_method_48_code 38 = .ok (.iconst 1, 1) := by decide +kernel
theorem d_M_knows_39 : decode prog_10_method_48_code 39 = .ok (.goto 4, 3) := by decide +kernel
theorem d_M_knows_7 : decode prog_10_method_48_code 7 = .ok (.ifCond .eq 7, 3) := by decide +kernel
theorem d_M_knows_14 : decode prog_10_method_48_code 14 = .ok (.iconst 1, 1) := by decide +kernel
theorem d_M_knows_10 : decode prog_10_method_48_code 10 = .ok (.iconst 0, 1) := by decide +kernel
theorem d_M_knows_11 : decode prog_10_method_48_code 11 = .ok (.goto 4, 3) := by decide +kernel
theorem d_M_value_0 : decode prog_10_method_49_code 0 = .ok (.aload_n 0, 1) := by decide +kernel
theorem d_M_value_1 : decode prog_10_method_49_code 1 = .ok (.aload_n 0, 1) := by decide +kernel
