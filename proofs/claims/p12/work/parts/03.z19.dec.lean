theorem d_M_node_49 : decode prog_10_method_36_code 49 = .ok (.istore 6, 2) := by decide +kernel
theorem d_M_node_51 : decode prog_10_method_36_code 51 = .ok (.iload 6, 2) := by decide +kernel
theorem d_M_node_91 : decode prog_10_method_36_code 91 = .ok (.istore 6, 2) := by decide +kernel
theorem d_M_node_93 : decode prog_10_method_36_code 93 = .ok (.aload_n 0, 1) := by decide +kernel
theorem d_M_node_94 : decode prog_10_method_36_code 94 = .ok (.iload 6, 2) := by decide +kernel
theorem d_M_node_117 : decode prog_10_method_36_code 117 = .ok (.putfield 99, 3) := by decide +kernel
theorem d_M_node_120 : decode prog_10_method_36_code 120 = .ok (.aload_n 0, 1) := by decide +kernel
theorem d_M_node_121 : decode prog_10_method_36_code 121 = .ok (.getfield 99, 3) := by decide +kernel
theorem d_M_node_124 : decode prog_10_method_36_code 124 = .ok (.ifCond .le 5, 3) := by decide +kernel
theorem d_M_node_129 : decode prog_10_method_36_code 129 = .ok (.aload_n 0, 1) := by decide +kernel
theorem d_M_node_130 : decode prog_10_method_36_code 130 = .ok (.getfield 194, 3) := by decide +kernel
theorem d_M_node_133 : decode prog_10_method_36_code 133 = .ok (.istore 7, 2) := by decide +kernel
theorem d_M_node_135 : decode prog_10_method_36_code 135 = .ok (.aload_n 0, 1) := by decide +kernel
theorem d_M_node_136 : decode prog_10_method_36_code 136 = .ok (.getfield 69, 3) := by decide +kernel
theorem d_M_node_139 : decode prog_10_method_36_code 139 = .ok (.iload 7, 2) := by decide +kernel
theorem d_M_node_141 : decode prog_10_method_36_code 141 = .ok (.iload_n 1, 1) := by decide +kernel
theorem d_M_node_142 : decode prog_10_method_36_code 142 = .ok (.iastore, 1) := by decide +kernel
theorem d_M_node_143 : decode prog_10_method_36_code 143 = .ok (.aload_n 0, 1) := by decide +kernel
theorem d_M_node_144 : decode prog_10_method_36_code 144 = .ok (.getfield 72, 3) := by decide +kernel
theorem d_M_node_147 : decode prog_10_method_36_code 147 = .ok (.iload 7, 2) := by decide +kernel
theorem d_M_node_149 : decode prog_10_method_36_code 149 = .ok (.iload_n 2, 1) := by decide +kernel
theorem d_M_node_150 : decode prog_10_method_36_code 150 = .ok (.iastore, 1) := by decide +kernel
theorem d_M_node_151 : decode prog_10_method_36_code 151 = .ok (.aload_n 0, 1) := by decide +kernel
theorem d_M_node_152 : decode prog_10_method_36_code 152 = .ok (.getfield 78, 3) := by decide +kernel
theorem d_M_node_155 : decode prog_10_method_36_code 155 = .ok (.iload 7, 2) := by decide +kernel
theorem d_M_node_157 : decode prog_10_method_36_code 157 = .ok (.iconst (-1), 1) := by decide +kernel
theorem d_M_node_158 : decode prog_10_method_36_code 158 = .ok (.iastore, 1) := by decide +kernel
theorem d_M_node_159 : decode prog_10_method_36_code 159 = .ok (.aload_n 0, 1) := by decide +kernel
theorem d_M_node_160 : decode prog_10_method_36_code 160 = .ok (.getfield 75, 3) := by decide +kernel
theorem d_M_node_163 : decode prog_10_method_36_code 163 = .ok (.iconst 3, 1) := by decide +kernel
theorem d_M_node_164 : decode prog_10_method_36_code 164 = .ok (.iload 7, 2) := by decide +kernel
theorem d_M_node_166 : decode prog_10_method_36_code 166 = .ok (.imul, 1) := by decide +kernel
theorem d_M_node_167 : decode prog_10_method_36_code 167 = .ok (.iload_n 3, 1) := by decide +kernel
theorem d_M_node_168 : decode prog_10_method_36_code 168 = .ok (.iastore, 1) := by decide +kernel
theorem d_M_node_169 : decode prog_10_method_36_code 169 = .ok (.aload_n 0, 1) := by decide +kernel
theorem d_M_node_170 : decode prog_10_method_36_code 170 = .ok (.getfield 75, 3) := by decide +kernel
theorem d_M_node_173 : decode prog_10_method_36_code 173 = .ok (.iconst 3, 1) := by decide +kernel
theorem d_M_node_174 : decode prog_10_method_36_code 174 = .ok (.iload 7, 2) := by decide +kernel
theorem d_M_node_176 : decode prog_10_method_36_code 176 = .ok (.imul, 1) := by decide +kernel
theorem d_M_node_177 : decode prog_10_method_36_code 177 = .ok (.iconst 1, 1) := by decide +kernel
theorem d_M_node_178 : decode prog_10_method_36_code 178 = .ok (.iadd, 1) := by decide +kernel
theorem d_M_node_179 : decode prog_10_method_36_code 179 = .ok (.iload 4, 2) := by decide +kernel
theorem d_M_node_181 : decode prog_10_method_36_code 181 = .ok (.iastore, 1) := by decide +kernel
theorem d_M_node_182 : decode prog_10_method_36_code 182 = .ok (.aload_n 0, 1) := by decide +kernel
theorem d_M_node_183 : decode prog_10_method_36_code 183 = .ok (.getfield 75, 3) := by decide +kernel
theorem d_M_node_186 : decode prog_10_method_36_code 186 = .ok (.iconst 3, 1) := by decide +kernel
theorem d_M_node_187 : decode prog_10_method_36_code 187 = .ok (.iload 7, 2) := by decide +kernel
theorem d_M_node_189 : decode prog_10_method_36_code 189 = .ok (.imul, 1) := by decide +kernel
theorem d_M_node_190 : decode prog_10_method_36_code 190 = .ok (.iconst 2, 1) := by decide +kernel
theorem d_M_node_191 : decode prog_10_method_36_code 191 = .ok (.iadd, 1) := by decide +kernel
theorem d_M_node_192 : decode prog_10_method_36_code 192 = .ok (.iload 5, 2) := by decide +kernel
theorem d_M_node_194 : decode prog_10_method_36_code 194 = .ok (.iastore, 1) := by decide +kernel
theorem d_M_node_195 : decode prog_10_method_36_code 195 = .ok (.iconst 0, 1) := by decide +kernel
theorem d_M_node_196 : decode prog_10_method_36_code 196 = .ok (.istore 8, 2) := by decide +kernel
theorem d_M_node_198 : decode prog_10_method_36_code 198 = .ok (.iload 8, 2) := by decide +kernel
theorem d_M_node_200 : decode prog_10_method_36_code 200 = .ok (.iconst 3, 1) := by decide +kernel
theorem d_M_node_201 : decode prog_10_method_36_code 201 = .ok (.if_icmp .ge 44, 3) := by decide +kernel
theorem d_M_node_245 : decode prog_10_method_36_code 245 = .ok (.iconst 0, 1) := by decide +kernel
theorem d_M_node_246 : decode prog_10_method_36_code 246 = .ok (.istore 8, 2) := by decide +kernel
theorem d_M_node_248 : decode prog_10_method_36_code 248 = .ok (.iload 8, 2) := by decide +kernel
theorem d_M_node_250 : decode prog_10_method_36_code 250 = .ok (.iconst 4, 1) := by decide +kernel
theorem d_M_node_251 : decode prog_10_method_36_code 251 = .ok (.if_icmp .ge 22, 3) := by decide +kernel
theorem d_M_node_273 : decode prog_10_method_36_code 273 = .ok (.aload_n 0, 1) := by decide +kernel
theorem d_M_node_274 : decode prog_10_method_36_code 274 = .ok (.dup, 1) := by decide +kernel
theorem d_M_node_275 : decode prog_10_method_36_code 275 = .ok (.getfield 194, 3) := by decide +kernel
theorem d_M_node_278 : decode prog_10_method_36_code 278 = .ok (.iconst 1, 1) := by decide +kernel
theorem d_M_node_279 : decode prog_10_method_36_code 279 = .ok (.iadd, 1) := by decide +kernel
theorem d_M_node_280 : decode prog_10_method_36_code 280 = .ok (.putfield 194, 3) := by decide +kernel
theorem d_M_node_283 : decode prog_10_method_36_code 283 = .ok (.iload 7, 2) := by decide +kernel
theorem d_M_node_285 : decode prog_10_method_36_code 285 = .ok (.ireturn, 1) := by decide +kernel
theorem d_M_node_254 : decode prog_10_method_36_code 254 = .ok (.aload_n 0, 1) := by decide +kernel
theorem d_M_node_255 : decode prog_10_method_36_code 255 = .ok (.getfield 84, 3) := by decide +kernel
theorem d_M_node_258 : decode prog_10_method_36_code 258 = .ok (.iconst 4, 1) := by decide +kernel
theorem d_M_node_259 : decode prog_10_method_36_code 259 = .ok (.iload 7, 2) := by decide +kernel
theorem d_M_node_261 : decode prog_10_method_36_code 261 = .ok (.imul, 1) := by decide +kernel
theorem d_M_node_262 : decode prog_10_method_36_code 262 = .ok (.iload 8, 2) := by decide +kernel
theorem d_M_node_264 : decode prog_10_method_36_code 264 = .ok (.iadd, 1) := by decide +kernel
theorem d_M_node_265 : decode prog_10_method_36_code 265 = .ok (.iconst 0, 1) := by decide +kernel
theorem d_M_node_266 : decode prog_10_method_36_code 266 = .ok (.bastore, 1) := by decide +kernel
theorem d_M_node_267 : decode prog_10_method_36_code 267 = .ok (.iinc 8 1, 3) := by decide +kernel
theorem d_M_node_270 : decode prog_10_method_36_code 270 = .ok (.goto (-22), 3) := by decide +kernel
theorem d_M_node_204 : decode prog_10_method_36_code 204 = .ok (.aload_n 0, 1) := by decide +kernel
theorem d_M_node_205 : decode prog_10_method_36_code 205 = .ok (.getfield 75, 3) := by decide +kernel
theorem d_M_node_208 : decode prog_10_method_36_code 208 = .ok (.iconst 3, 1) := by decide +kernel
theorem d_M_node_209 : decode prog_10_method_36_code 209 = .ok (.iload 7, 2) := by decide +kernel
theorem d_M_node_211 : decode prog_10_method_36_code 211 = .ok (.imul, 1) := by decide +kernel
theorem d_M_node_212 : decode prog_10_method_36_code 212 = .ok (.iload 8, 2) := by decide +kernel
theorem d_M_node_214 : decode prog_10_method_36_code 214 = .ok (.iadd, 1) := by decide +kernel
theorem d_M_node_215 : decode prog_10_method_36_code 215 = .ok (.iaload, 1) := by decide +kernel
theorem d_M_node_216 : decode prog_10_method_36_code 216 = .ok (.iconst (-1), 1) := by decide +kernel
theorem d_M_node_239 : decode prog_10_method_36_code 239 = .ok (.iinc 8 1, 3) := by decide +kernel
theorem d_M_node_242 : decode prog_10_method_36_code 242 = .ok (.goto (-44), 3) := by decide +kernel
theorem d_M_node_217 : decode prog_10_method_36_code 217 = .ok (.if_icmp .eq 22, 3) := by decide +kernel
theorem d_M_node_220 : decode prog_10_method_36_code 220 = .ok (.aload_n 0, 1) := by decide +kernel
theorem d_M_node_221 : decode prog_10_method_36_code 221 = .ok (.getfield 78, 3) := by decide +kernel
theorem d_M_node_224 : decode prog_10_method_36_code 224 = .ok (.aload_n 0, 1) := by decide +kernel
theorem d_M_node_225 : decode prog_10_method_36_code 225 = .ok (.getfield 75, 3) := by decide +kernel
theorem d_M_node_228 : decode prog_10_method_36_code 228 = .ok (.iconst 3, 1) := by decide +kernel
theorem d_M_node_229 : decode prog_10_method_36_code 229 = .ok (.iload 7, 2) := by decide +kernel
theorem d_M_node_231 : decode prog_10_method_36_code 231 = .ok (.imul, 1) := by decide +kernel
theorem d_M_node_232 : decode prog_10_method_36_code 232 = .ok (.iload 8, 2) := by decide +kernel
theorem d_M_node_234 : decode prog_10_method_36_code 234 = .ok (.iadd, 1) := by decide +kernel
theorem d_M_node_235 : decode prog_10_method_36_code 235 = .ok (.iaload, 1) := by decide +kernel
theorem d_M_node_236 : decode prog_10_method_36_code 236 = .ok (.iload 7, 2) := by decide +kernel
theorem d_M_node_238 : decode prog_10_method_36_code 238 = .ok (.iastore, 1) := by decide +kernel
theorem d_M_node_127 : decode prog_10_method_36_code 127 = .ok (.iconst 0, 1) := by decide +kernel
theorem d_M_node_128 : decode prog_10_method_36_code 128 = .ok (.ireturn, 1) := by decide +kernel
theorem d_M_node_96 : decode prog_10_method_36_code 96 = .ok (.ifCond .ne 7, 3) := by decide +kernel
theorem d_M_node_103 : decode prog_10_method_36_code 103 = .ok (.aload_n 0, 1) := by decide +kernel
theorem d_M_node_104 : decode prog_10_method_36_code 104 = .ok (.getfield 194, 3) := by decide +kernel
theorem d_M_node_107 : decode prog_10_method_36_code 107 = .ok (.bipush 40, 2) := by decide +kernel
theorem d_M_node_109 : decode prog_10_method_36_code 109 = .ok (.if_icmp .ne 7, 3) := by decide +kernel
theorem d_M_node_116 : decode prog_10_method_36_code 116 = .ok (.iconst 0, 1) := by decide +kernel
theorem d_M_node_112 : decode prog_10_method_36_code 112 = .ok (.iconst 2, 1) := by decide +kernel
theorem d_M_node_113 : decode prog_10_method_36_code 113 = .ok (.goto 4, 3) := by decide +kernel
theorem d_M_node_99 : decode prog_10_method_36_code 99 = .ok (.iconst 1, 1) := by decide +kernel
theorem d_M_node_100 : decode prog_10_method_36_code 100 = .ok (.goto 17, 3) := by decide +kernel
theorem d_M_node_90 : decode prog_10_method_36_code 90 = .ok (.iconst 0, 1) := by decide +kernel
theorem d_M_node_53 : decode prog_10_method_36_code 53 = .ok (.ifCond .eq 37, 3) := by decide +kernel
theorem d_M_node_56 : decode prog_10_method_36_code 56 = .ok (.iload_n 3, 1) := by decide +kernel
theorem d_M_node_57 : decode prog_10_method_36_code 57 = .ok (.iconst (-1), 1) := by decide +kernel
theorem d_M_node_73 : decode prog_10_method_36_code 73 = .ok (.iload 4, 2) := by decide +kernel
theorem d_M_node_75 : decode prog_10_method_36_code 75 = .ok (.iconst (-1), 1) := by decide +kernel
theorem d_M_node_86 : decode prog_10_method_36_code 86 = .ok (.iconst 1, 1) := by decide +kernel
theorem d_M_node_87 : decode prog_10_method_36_code 87 = .ok (.goto 4, 3) := by decide +kernel
theorem d_M_node_76 : decode prog_10_method_36_code 76 = .ok (.if_icmp .eq 10, 3) := by decide +kernel
theorem d_M_node_79 : decode prog_10_method_36_code 79 = .ok (.iload 4, 2) := by decide +kernel
theorem d_M_node_81 : decode prog_10_method_36_code 81 = .ok (.iload 5, 2) := by decide +kernel
theorem d_M_node_83 : decode prog_10_method_36_code 83 = .ok (.if_icmp .eq 7, 3) := by decide +kernel
theorem d_M_node_58 : decode prog_10_method_36_code 58 = .ok (.if_icmp .eq 15, 3) := by decide +kernel
theorem d_M_node_61 : decode prog_10_method_36_code 61 = .ok (.iload_n 3, 1) := by decide +kernel
theorem d_M_node_62 : decode prog_10_method_36_code 62 = .ok (.iload 4, 2) := by decide +kernel
theorem d_M_node_64 : decode prog_10_method_36_code 64 = .ok (.if_icmp .eq 26, 3) := by decide +kernel
theorem d_M_node_67 : decode prog_10_method_36_code 67 = .ok (.iload_n 3, 1) := by decide +kernel
theorem d_M_node_68 : decode prog_10_method_36_code 68 = .ok (.iload 5, 2) := by decide +kernel
theorem d_M_node_70 : decode prog_10_method_36_code 70 = .ok (.if_icmp .eq 20, 3) := by decide +kernel
theorem d_M_node_48 : decode prog_10_method_36_code 48 = .ok (.iconst 0, 1) := by decide +kernel
theorem d_M_node_1 : decode prog_10_method_36_code 1 = .ok (.ifCond .lt 47, 3) := by decide +kernel
theorem d_M_node_4 : decode prog_10_method_36_code 4 = .ok (.iload_n 1, 1) := by decide +kernel
theorem d_M_node_5 : decode prog_10_method_36_code 5 = .ok (.aload_n 0, 1) := by decide +kernel
theorem d_M_node_6 : decode prog_10_method_36_code 6 = .ok (.getfield 119, 3) := by decide +kernel
theorem d_M_node_9 : decode prog_10_method_36_code 9 = .ok (.if_icmp .ge 39, 3) := by decide +kernel
theorem d_M_node_12 : decode prog_10_method_36_code 12 = .ok (.aload_n 0, 1) := by decide +kernel
theorem d_M_node_13 : decode prog_10_method_36_code 13 = .ok (.iload_n 1, 1) := by decide +kernel
theorem d_M_node_14 : decode prog_10_method_36_code 14 = .ok (.iconst 1, 1) := by decide +kernel
theorem d_M_node_15 : decode prog_10_method_36_code 15 = .ok (.iload_n 3, 1) := by decide +kernel
theorem d_M_node_16 : decode prog_10_method_36_code 16 = .ok (.invokevirtual 197, 3) := by decide +kernel
theorem d_M_node_19 : decode prog_10_method_36_code 19 = .ok (.ifCond .eq 29, 3) := by decide +kernel
theorem d_M_node_22 : decode prog_10_method_36_code 22 = .ok (.aload_n 0, 1) := by decide +kernel
theorem d_M_node_23 : decode prog_10_method_36_code 23 = .ok (.iload_n 1, 1) := by decide +kernel
theorem d_M_node_24 : decode prog_10_method_36_code 24 = .ok (.iconst 2, 1) := by decide +kernel
theorem d_M_node_25 : decode prog_10_method_36_code 25 = .ok (.iload 4, 2) := by decide +kernel
theorem d_M_node_27 : decode prog_10_method_36_code 27 = .ok (.invokevirtual 197, 3) := by decide +kernel
theorem d_M_node_30 : decode prog_10_method_36_code 30 = .ok (.ifCond .eq 18, 3) := by decide +kernel
theorem d_M_node_33 : decode prog_10_method_36_code 33 = .ok (.aload_n 0, 1) := by decide +kernel
theorem d_M_node_34 : decode prog_10_method_36_code 34 = .ok (.iload_n 1, 1) := by decide +kernel
theorem d_M_node_35 : decode prog_10_method_36_code 35 = .ok (.iconst 3, 1) := by decide +kernel
theorem d_M_node_36 : decode prog_10_method_36_code 36 = .ok (.iload 5, 2) := by decide +kernel
theorem d_M_node_38 : decode prog_10_method_36_code 38 = .ok (.invokevirtual 197, 3) := by decide +kernel
theorem d_M_node_41 : decode prog_10_method_36_code 41 = .ok (.ifCond .eq 7, 3) := by decide +kernel
theorem d_M_node_44 : decode prog_10_method_36_code 44 = .ok (.iconst 1, 1) := by decide +kernel
theorem d_M_node_45 : decode prog_10_method_36_code 45 = .ok (.goto 4, 3) := by decide +kernel
theorem d_M_fell_0 : decode prog_10_method_37_code 0 = .ok (.aload_n 0, 1) := by decide +kernel
theorem d_M_fell_1 : decode prog_10_method_37_code 1 = .ok (.iconst 0, 1) := by decide +kernel
theorem d_M_fell_2 : decode prog_10_method_37_code 2 = .ok (.putfield 99, 3) := by decide +kernel
theorem d_M_fell_5 : decode prog_10_method_37_code 5 = .ok (.aload_n 0, 1) := by decide +kernel
theorem d_M_fell_6 : decode prog_10_method_37_code 6 = .ok (.invokevirtual 106, 3) := by decide +kernel
theorem d_M_fell_9 : decode prog_10_method_37_code 9 = .ok (.aload_n 0, 1) := by decide +kernel
theorem d_M_fell_10 : decode prog_10_method_37_code 10 = .ok (.iconst 0, 1) := by decide +kernel
theorem d_M_fell_11 : decode prog_10_method_37_code 11 = .ok (.putfield 194, 3) := by decide +kernel
theorem d_M_fell_14 : decode prog_10_method_37_code 14 = .ok (.return_, 1) := by decide +kernel
theorem d_M_give_0 : decode prog_10_method_38_code 0 = .ok (.aload_n 0, 1) := by decide +kernel
theorem d_M_give_1 : decode prog_10_method_38_code 1 = .ok (.iload_n 1, 1) := by decide +kernel
theorem d_M_give_15 : decode prog_10_method_38_code 15 = .ok (.putfield 99, 3) := by decide +kernel
theorem d_M_give_18 : decode prog_10_method_38_code 18 = .ok (.aload_n 0, 1) := by decide +kernel
theorem d_M_give_19 : decode prog_10_method_38_code 19 = .ok (.getfield 99, 3) := by decide +kernel
theorem d_M_give_22 : decode prog_10_method_38_code 22 = .ok (.ifCond .ne 10, 3) := by decide +kernel
theorem d_M_give_32 : decode prog_10_method_38_code 32 = .ok (.return_, 1) := by decide +kernel
theorem d_M_give_25 : decode prog_10_method_38_code 25 = .ok (.aload_n 0, 1) := by decide +kernel
theorem d_M_give_26 : decode prog_10_method_38_code 26 = .ok (.getfield 90, 3) := by decide +kernel
theorem d_M_give_29 : decode prog_10_method_38_code 29 = .ok (.iload_n 1, 1) := by decide +kernel
theorem d_M_give_30 : decode prog_10_method_38_code 30 = .ok (.iload_n 2, 1) := by decide +kernel
theorem d_M_give_31 : decode prog_10_method_38_code 31 = .ok (.iastore, 1) := by decide +kernel
theorem d_M_give_10 : decode prog_10_method_38_code 10 = .ok (.iconst 1, 1) := by decide +kernel
theorem d_M_give_11 : decode prog_10_method_38_code 11 = .ok (.goto 4, 3) := by decide +kernel
theorem d_M_give_2 : decode prog_10_method_38_code 2 = .ok (.ifCond .lt 8, 3) := by decide +kernel
theorem d_M_give_5 : decode prog_10_method_38_code 5 = .ok (.iload_n 1, 1) := by decide +kernel
theorem d_M_give_6 : decode prog_10_method_38_code 6 = .ok (.iconst 3, 1) := by decide +kernel
theorem d_M_give_7 : decode prog_10_method_38_code 7 = .ok (.if_icmp .le 7, 3) := by decide +kernel
theorem d_M_give_14 : decode prog_10_method_38_code 14 = .ok (.iconst 0, 1) := by decide +kernel
theorem d_M_isNode_0 : decode prog_10_method_39_code 0 = .ok (.iload_n 1, 1) := by decide +kernel
theorem d_M_isNode_1 : decode prog_10_method_39_code 1 = .ok (.ifCond .lt 15, 3) := by decide +kernel
theorem d_M_isNode_16 : decode prog_10_method_39_code 16 = .ok (.iconst 0, 1) := by decide +kernel
theorem d_M_isNode_17 : decode prog_10_method_39_code 17 = .ok (.ireturn, 1) := by decide +kernel
theorem d_M_isNode_4 : decode prog_10_method_39_code 4 = .ok (.iload_n 1, 1) := by decide +kernel
theorem d_M_isNode_5 : decode prog_10_method_39_code 5 = .ok (.aload_n 0, 1) := by decide +kernel
theorem d_M_isNode_6 : decode prog_10_method_39_code 6 = .ok (.getfield 194, 3) := by decide +kernel
theorem d_M_isNode_9 : decode prog_10_method_39_code 9 = .ok (.if_icmp .ge 7, 3) := by decide +kernel
theorem d_M_isNode_12 : decode prog_10_method_39_code 12 = .ok (.iconst 1, 1) := by decide +kernel
theorem d_M_isNode_13 : decode prog_10_method_39_code 13 = .ok (.goto 4, 3) := by decide +kernel
