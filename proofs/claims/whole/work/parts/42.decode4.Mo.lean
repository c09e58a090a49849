theorem d_Mo_source_257 : decode b_Mo_source 257 = .ok (.iload 4, 2) := by decide +kernel
theorem d_Mo_source_259 : decode b_Mo_source 259 = .ok (.istore 4, 2) := by decide +kernel
theorem d_Mo_source_261 : decode b_Mo_source 261 = .ok (.iinc 5 1, 3) := by decide +kernel
theorem d_Mo_source_264 : decode b_Mo_source 264 = .ok (.goto (-168), 3) := by decide +kernel
theorem d_Mo_source_267 : decode b_Mo_source 267 = .ok (.iload 4, 2) := by decide +kernel
theorem d_Mo_source_269 : decode b_Mo_source 269 = .ok (.ireturn, 1) := by decide +kernel
theorem d_Mo_sapwood_0 : decode b_Mo_sapwood 0 = .ok (.aload_n 0, 1) := by decide +kernel
theorem d_Mo_sapwood_1 : decode b_Mo_sapwood 1 = .ok (.iload_n 1, 1) := by decide +kernel
theorem d_Mo_sapwood_2 : decode b_Mo_sapwood 2 = .ok (.iconst 0, 1) := by decide +kernel
theorem d_Mo_sapwood_3 : decode b_Mo_sapwood 3 = .ok (.bipush 60, 2) := by decide +kernel
theorem d_Mo_sapwood_5 : decode b_Mo_sapwood 5 = .ok (.invokestatic 50, 3) := by decide +kernel
theorem d_Mo_sapwood_8 : decode b_Mo_sapwood 8 = .ok (.ifCond .eq 18, 3) := by decide +kernel
theorem d_Mo_sapwood_11 : decode b_Mo_sapwood 11 = .ok (.iload_n 2, 1) := by decide +kernel
theorem d_Mo_sapwood_12 : decode b_Mo_sapwood 12 = .ok (.iconst 0, 1) := by decide +kernel
theorem d_Mo_sapwood_13 : decode b_Mo_sapwood 13 = .ok (.sipush 10000, 3) := by decide +kernel
theorem d_Mo_sapwood_16 : decode b_Mo_sapwood 16 = .ok (.invokestatic 50, 3) := by decide +kernel
theorem d_Mo_sapwood_19 : decode b_Mo_sapwood 19 = .ok (.ifCond .eq 7, 3) := by decide +kernel
theorem d_Mo_sapwood_22 : decode b_Mo_sapwood 22 = .ok (.iconst 1, 1) := by decide +kernel
theorem d_Mo_sapwood_23 : decode b_Mo_sapwood 23 = .ok (.goto 4, 3) := by decide +kernel
theorem d_Mo_sapwood_26 : decode b_Mo_sapwood 26 = .ok (.iconst 0, 1) := by decide +kernel
theorem d_Mo_sapwood_27 : decode b_Mo_sapwood 27 = .ok (.iconst 1, 1) := by decide +kernel
theorem d_Mo_sapwood_28 : decode b_Mo_sapwood 28 = .ok (.iconst 1, 1) := by decide +kernel
theorem d_Mo_sapwood_29 : decode b_Mo_sapwood 29 = .ok (.invokevirtual 60, 3) := by decide +kernel
theorem d_Mo_sapwood_32 : decode b_Mo_sapwood 32 = .ok (.ifCond .ne 5, 3) := by decide +kernel
theorem d_Mo_sapwood_35 : decode b_Mo_sapwood 35 = .ok (.iconst 0, 1) := by decide +kernel
theorem d_Mo_sapwood_36 : decode b_Mo_sapwood 36 = .ok (.ireturn, 1) := by decide +kernel
theorem d_Mo_sapwood_37 : decode b_Mo_sapwood 37 = .ok (.aload_n 0, 1) := by decide +kernel
theorem d_Mo_sapwood_38 : decode b_Mo_sapwood 38 = .ok (.getfield 31, 3) := by decide +kernel
theorem d_Mo_sapwood_41 : decode b_Mo_sapwood 41 = .ok (.iload_n 1, 1) := by decide +kernel
theorem d_Mo_sapwood_42 : decode b_Mo_sapwood 42 = .ok (.iaload, 1) := by decide +kernel
theorem d_Mo_sapwood_43 : decode b_Mo_sapwood 43 = .ok (.istore_n 3, 1) := by decide +kernel
theorem d_Mo_sapwood_44 : decode b_Mo_sapwood 44 = .ok (.aload_n 0, 1) := by decide +kernel
theorem d_Mo_sapwood_45 : decode b_Mo_sapwood 45 = .ok (.getfield 31, 3) := by decide +kernel
theorem d_Mo_sapwood_48 : decode b_Mo_sapwood 48 = .ok (.iload_n 1, 1) := by decide +kernel
theorem d_Mo_sapwood_49 : decode b_Mo_sapwood 49 = .ok (.iload_n 2, 1) := by decide +kernel
theorem d_Mo_sapwood_50 : decode b_Mo_sapwood 50 = .ok (.iastore, 1) := by decide +kernel
theorem d_Mo_sapwood_51 : decode b_Mo_sapwood 51 = .ok (.iload_n 3, 1) := by decide +kernel
theorem d_Mo_sapwood_52 : decode b_Mo_sapwood 52 = .ok (.ireturn, 1) := by decide +kernel
theorem d_Mo_felling_0 : decode b_Mo_felling 0 = .ok (.aload_n 0, 1) := by decide +kernel
theorem d_Mo_felling_1 : decode b_Mo_felling 1 = .ok (.iload_n 1, 1) := by decide +kernel
theorem d_Mo_felling_2 : decode b_Mo_felling 2 = .ok (.invokevirtual 64, 3) := by decide +kernel
theorem d_Mo_felling_5 : decode b_Mo_felling 5 = .ok (.istore 5, 2) := by decide +kernel
theorem d_Mo_felling_7 : decode b_Mo_felling 7 = .ok (.iload 5, 2) := by decide +kernel
theorem d_Mo_felling_9 : decode b_Mo_felling 9 = .ok (.ifCond .eq 49, 3) := by decide +kernel
theorem d_Mo_felling_12 : decode b_Mo_felling 12 = .ok (.iload_n 2, 1) := by decide +kernel
theorem d_Mo_felling_13 : decode b_Mo_felling 13 = .ok (.iconst 0, 1) := by decide +kernel
theorem d_Mo_felling_14 : decode b_Mo_felling 14 = .ok (.aload_n 0, 1) := by decide +kernel
theorem d_Mo_felling_15 : decode b_Mo_felling 15 = .ok (.getfield 13, 3) := by decide +kernel
theorem d_Mo_felling_18 : decode b_Mo_felling 18 = .ok (.iload 5, 2) := by decide +kernel
theorem d_Mo_felling_20 : decode b_Mo_felling 20 = .ok (.ifCond .eq 7, 3) := by decide +kernel
theorem d_Mo_felling_23 : decode b_Mo_felling 23 = .ok (.iload_n 1, 1) := by decide +kernel
theorem d_Mo_felling_24 : decode b_Mo_felling 24 = .ok (.goto 4, 3) := by decide +kernel
theorem d_Mo_felling_27 : decode b_Mo_felling 27 = .ok (.iconst 0, 1) := by decide +kernel
theorem d_Mo_felling_28 : decode b_Mo_felling 28 = .ok (.iaload, 1) := by decide +kernel
theorem d_Mo_felling_29 : decode b_Mo_felling 29 = .ok (.invokestatic 50, 3) := by decide +kernel
theorem d_Mo_felling_32 : decode b_Mo_felling 32 = .ok (.ifCond .eq 26, 3) := by decide +kernel
theorem d_Mo_felling_35 : decode b_Mo_felling 35 = .ok (.iload_n 3, 1) := by decide +kernel
theorem d_Mo_felling_36 : decode b_Mo_felling 36 = .ok (.iconst 1, 1) := by decide +kernel
theorem d_Mo_felling_37 : decode b_Mo_felling 37 = .ok (.if_icmp .lt 21, 3) := by decide +kernel
theorem d_Mo_felling_40 : decode b_Mo_felling 40 = .ok (.iload_n 3, 1) := by decide +kernel
theorem d_Mo_felling_41 : decode b_Mo_felling 41 = .ok (.iload 4, 2) := by decide +kernel
theorem d_Mo_felling_43 : decode b_Mo_felling 43 = .ok (.if_icmp .gt 15, 3) := by decide +kernel
theorem d_Mo_felling_46 : decode b_Mo_felling 46 = .ok (.iload 4, 2) := by decide +kernel
theorem d_Mo_felling_48 : decode b_Mo_felling 48 = .ok (.sipush 1000, 3) := by decide +kernel
theorem d_Mo_felling_51 : decode b_Mo_felling 51 = .ok (.if_icmp .gt 7, 3) := by decide +kernel
theorem d_Mo_felling_54 : decode b_Mo_felling 54 = .ok (.iconst 1, 1) := by decide +kernel
theorem d_Mo_felling_55 : decode b_Mo_felling 55 = .ok (.goto 4, 3) := by decide +kernel
theorem d_Mo_felling_58 : decode b_Mo_felling 58 = .ok (.iconst 0, 1) := by decide +kernel
theorem d_Mo_felling_59 : decode b_Mo_felling 59 = .ok (.istore 6, 2) := by decide +kernel
theorem d_Mo_felling_61 : decode b_Mo_felling 61 = .ok (.aload_n 0, 1) := by decide +kernel
theorem d_Mo_felling_62 : decode b_Mo_felling 62 = .ok (.iload 5, 2) := by decide +kernel
theorem d_Mo_felling_64 : decode b_Mo_felling 64 = .ok (.iload 5, 2) := by decide +kernel
theorem d_Mo_felling_66 : decode b_Mo_felling 66 = .ok (.ifCond .eq 26, 3) := by decide +kernel
theorem d_Mo_felling_69 : decode b_Mo_felling 69 = .ok (.aload_n 0, 1) := by decide +kernel
theorem d_Mo_felling_70 : decode b_Mo_felling 70 = .ok (.getfield 19, 3) := by decide +kernel
theorem d_Mo_felling_73 : decode b_Mo_felling 73 = .ok (.iload 5, 2) := by decide +kernel
theorem d_Mo_felling_75 : decode b_Mo_felling 75 = .ok (.ifCond .eq 7, 3) := by decide +kernel
theorem d_Mo_felling_78 : decode b_Mo_felling 78 = .ok (.iload_n 1, 1) := by decide +kernel
theorem d_Mo_felling_79 : decode b_Mo_felling 79 = .ok (.goto 4, 3) := by decide +kernel
theorem d_Mo_felling_82 : decode b_Mo_felling 82 = .ok (.iconst 0, 1) := by decide +kernel
theorem d_Mo_felling_83 : decode b_Mo_felling 83 = .ok (.iaload, 1) := by decide +kernel
theorem d_Mo_felling_84 : decode b_Mo_felling 84 = .ok (.iconst (-1), 1) := by decide +kernel
theorem d_Mo_felling_85 : decode b_Mo_felling 85 = .ok (.if_icmp .eq 7, 3) := by decide +kernel
theorem d_Mo_felling_88 : decode b_Mo_felling 88 = .ok (.iconst 1, 1) := by decide +kernel
theorem d_Mo_felling_89 : decode b_Mo_felling 89 = .ok (.goto 4, 3) := by decide +kernel
theorem d_Mo_felling_92 : decode b_Mo_felling 92 = .ok (.iconst 0, 1) := by decide +kernel
theorem d_Mo_felling_93 : decode b_Mo_felling 93 = .ok (.iload 6, 2) := by decide +kernel
theorem d_Mo_felling_95 : decode b_Mo_felling 95 = .ok (.invokevirtual 60, 3) := by decide +kernel
theorem d_Mo_felling_98 : decode b_Mo_felling 98 = .ok (.ifCond .ne 5, 3) := by decide +kernel
theorem d_Mo_felling_101 : decode b_Mo_felling 101 = .ok (.iconst 0, 1) := by decide +kernel
theorem d_Mo_felling_102 : decode b_Mo_felling 102 = .ok (.ireturn, 1) := by decide +kernel
theorem d_Mo_felling_103 : decode b_Mo_felling 103 = .ok (.iconst 0, 1) := by decide +kernel
theorem d_Mo_felling_104 : decode b_Mo_felling 104 = .ok (.istore 7, 2) := by decide +kernel
theorem d_Mo_felling_106 : decode b_Mo_felling 106 = .ok (.iload_n 2, 1) := by decide +kernel
theorem d_Mo_felling_107 : decode b_Mo_felling 107 = .ok (.istore 8, 2) := by decide +kernel
theorem d_Mo_felling_109 : decode b_Mo_felling 109 = .ok (.iload 8, 2) := by decide +kernel
theorem d_Mo_felling_111 : decode b_Mo_felling 111 = .ok (.bipush 60, 2) := by decide +kernel
theorem d_Mo_felling_113 : decode b_Mo_felling 113 = .ok (.if_icmp .gt 21, 3) := by decide +kernel
theorem d_Mo_felling_116 : decode b_Mo_felling 116 = .ok (.iload 7, 2) := by decide +kernel
theorem d_Mo_felling_118 : decode b_Mo_felling 118 = .ok (.aload_n 0, 1) := by decide +kernel
theorem d_Mo_felling_119 : decode b_Mo_felling 119 = .ok (.getfield 31, 3) := by decide +kernel
theorem d_Mo_felling_122 : decode b_Mo_felling 122 = .ok (.iload 8, 2) := by decide +kernel
theorem d_Mo_felling_124 : decode b_Mo_felling 124 = .ok (.iaload, 1) := by decide +kernel
theorem d_Mo_felling_125 : decode b_Mo_felling 125 = .ok (.iadd, 1) := by decide +kernel
theorem d_Mo_felling_126 : decode b_Mo_felling 126 = .ok (.istore 7, 2) := by decide +kernel
theorem d_Mo_felling_128 : decode b_Mo_felling 128 = .ok (.iinc 8 1, 3) := by decide +kernel
theorem d_Mo_felling_131 : decode b_Mo_felling 131 = .ok (.goto (-22), 3) := by decide +kernel
theorem d_Mo_felling_134 : decode b_Mo_felling 134 = .ok (.aload_n 0, 1) := by decide +kernel
theorem d_Mo_felling_135 : decode b_Mo_felling 135 = .ok (.getfield 19, 3) := by decide +kernel
theorem d_Mo_felling_138 : decode b_Mo_felling 138 = .ok (.iload_n 1, 1) := by decide +kernel
theorem d_Mo_felling_139 : decode b_Mo_felling 139 = .ok (.iaload, 1) := by decide +kernel
theorem d_Mo_felling_140 : decode b_Mo_felling 140 = .ok (.aload_n 0, 1) := by decide +kernel
theorem d_Mo_felling_141 : decode b_Mo_felling 141 = .ok (.getfield 13, 3) := by decide +kernel
theorem d_Mo_felling_144 : decode b_Mo_felling 144 = .ok (.iload_n 1, 1) := by decide +kernel
theorem d_Mo_felling_145 : decode b_Mo_felling 145 = .ok (.iaload, 1) := by decide +kernel
theorem d_Mo_felling_146 : decode b_Mo_felling 146 = .ok (.iadd, 1) := by decide +kernel
theorem d_Mo_felling_147 : decode b_Mo_felling 147 = .ok (.iconst 1, 1) := by decide +kernel
theorem d_Mo_felling_148 : decode b_Mo_felling 148 = .ok (.isub, 1) := by decide +kernel
theorem d_Mo_felling_149 : decode b_Mo_felling 149 = .ok (.iload_n 2, 1) := by decide +kernel
theorem d_Mo_felling_150 : decode b_Mo_felling 150 = .ok (.isub, 1) := by decide +kernel
theorem d_Mo_felling_151 : decode b_Mo_felling 151 = .ok (.istore 8, 2) := by decide +kernel
theorem d_Mo_felling_153 : decode b_Mo_felling 153 = .ok (.iconst 1, 1) := by decide +kernel
theorem d_Mo_felling_154 : decode b_Mo_felling 154 = .ok (.istore 9, 2) := by decide +kernel
theorem d_Mo_felling_156 : decode b_Mo_felling 156 = .ok (.iload 9, 2) := by decide +kernel
theorem d_Mo_felling_158 : decode b_Mo_felling 158 = .ok (.bipush 61, 2) := by decide +kernel
theorem d_Mo_felling_160 : decode b_Mo_felling 160 = .ok (.iload_n 2, 1) := by decide +kernel
theorem d_Mo_felling_161 : decode b_Mo_felling 161 = .ok (.isub, 1) := by decide +kernel
theorem d_Mo_felling_162 : decode b_Mo_felling 162 = .ok (.if_icmp .gt 106, 3) := by decide +kernel
theorem d_Mo_felling_165 : decode b_Mo_felling 165 = .ok (.iload 7, 2) := by decide +kernel
theorem d_Mo_felling_167 : decode b_Mo_felling 167 = .ok (.ifCond .le 101, 3) := by decide +kernel
theorem d_Mo_felling_170 : decode b_Mo_felling 170 = .ok (.iload_n 2, 1) := by decide +kernel
theorem d_Mo_felling_171 : decode b_Mo_felling 171 = .ok (.istore 10, 2) := by decide +kernel
theorem d_Mo_felling_173 : decode b_Mo_felling 173 = .ok (.iload 10, 2) := by decide +kernel
theorem d_Mo_felling_175 : decode b_Mo_felling 175 = .ok (.iload 9, 2) := by decide +kernel
theorem d_Mo_felling_177 : decode b_Mo_felling 177 = .ok (.iadd, 1) := by decide +kernel
theorem d_Mo_felling_178 : decode b_Mo_felling 178 = .ok (.bipush 61, 2) := by decide +kernel
theorem d_Mo_felling_180 : decode b_Mo_felling 180 = .ok (.if_icmp .gt 82, 3) := by decide +kernel
theorem d_Mo_felling_183 : decode b_Mo_felling 183 = .ok (.iconst 0, 1) := by decide +kernel
theorem d_Mo_felling_184 : decode b_Mo_felling 184 = .ok (.istore 11, 2) := by decide +kernel
theorem d_Mo_felling_186 : decode b_Mo_felling 186 = .ok (.iload 10, 2) := by decide +kernel
theorem d_Mo_felling_188 : decode b_Mo_felling 188 = .ok (.istore 12, 2) := by decide +kernel
theorem d_Mo_felling_190 : decode b_Mo_felling 190 = .ok (.iload 12, 2) := by decide +kernel
theorem d_Mo_felling_192 : decode b_Mo_felling 192 = .ok (.iload 10, 2) := by decide +kernel
theorem d_Mo_felling_194 : decode b_Mo_felling 194 = .ok (.iload 9, 2) := by decide +kernel
theorem d_Mo_felling_196 : decode b_Mo_felling 196 = .ok (.iadd, 1) := by decide +kernel
theorem d_Mo_felling_197 : decode b_Mo_felling 197 = .ok (.if_icmp .ge 21, 3) := by decide +kernel
theorem d_Mo_felling_200 : decode b_Mo_felling 200 = .ok (.iload 11, 2) := by decide +kernel
theorem d_Mo_felling_202 : decode b_Mo_felling 202 = .ok (.aload_n 0, 1) := by decide +kernel
theorem d_Mo_felling_203 : decode b_Mo_felling 203 = .ok (.getfield 31, 3) := by decide +kernel
theorem d_Mo_felling_206 : decode b_Mo_felling 206 = .ok (.iload 12, 2) := by decide +kernel
theorem d_Mo_felling_208 : decode b_Mo_felling 208 = .ok (.iaload, 1) := by decide +kernel
theorem d_Mo_felling_209 : decode b_Mo_felling 209 = .ok (.iadd, 1) := by decide +kernel
theorem d_Mo_felling_210 : decode b_Mo_felling 210 = .ok (.istore 11, 2) := by decide +kernel
theorem d_Mo_felling_212 : decode b_Mo_felling 212 = .ok (.iinc 12 1, 3) := by decide +kernel
theorem d_Mo_felling_215 : decode b_Mo_felling 215 = .ok (.goto (-25), 3) := by decide +kernel
theorem d_Mo_felling_218 : decode b_Mo_felling 218 = .ok (.iload 11, 2) := by decide +kernel
theorem d_Mo_felling_220 : decode b_Mo_felling 220 = .ok (.i2l, 1) := by decide +kernel
theorem d_Mo_felling_221 : decode b_Mo_felling 221 = .ok (.iload 4, 2) := by decide +kernel
theorem d_Mo_felling_223 : decode b_Mo_felling 223 = .ok (.i2l, 1) := by decide +kernel
theorem d_Mo_felling_224 : decode b_Mo_felling 224 = .ok (.lmul, 1) := by decide +kernel
theorem d_Mo_felling_225 : decode b_Mo_felling 225 = .ok (.iload 7, 2) := by decide +kernel
theorem d_Mo_felling_227 : decode b_Mo_felling 227 = .ok (.i2l, 1) := by decide +kernel
theorem d_Mo_felling_228 : decode b_Mo_felling 228 = .ok (.iload_n 3, 1) := by decide +kernel
theorem d_Mo_felling_229 : decode b_Mo_felling 229 = .ok (.i2l, 1) := by decide +kernel
theorem d_Mo_felling_230 : decode b_Mo_felling 230 = .ok (.lmul, 1) := by decide +kernel
theorem d_Mo_felling_231 : decode b_Mo_felling 231 = .ok (.lcmp, 1) := by decide +kernel
theorem d_Mo_felling_232 : decode b_Mo_felling 232 = .ok (.ifCond .lt 24, 3) := by decide +kernel
theorem d_Mo_felling_235 : decode b_Mo_felling 235 = .ok (.sipush 1000, 3) := by decide +kernel
theorem d_Mo_felling_238 : decode b_Mo_felling 238 = .ok (.iload 8, 2) := by decide +kernel
theorem d_Mo_felling_240 : decode b_Mo_felling 240 = .ok (.iload 10, 2) := by decide +kernel
theorem d_Mo_felling_242 : decode b_Mo_felling 242 = .ok (.iadd, 1) := by decide +kernel
theorem d_Mo_felling_243 : decode b_Mo_felling 243 = .ok (.imul, 1) := by decide +kernel
theorem d_Mo_felling_244 : decode b_Mo_felling 244 = .ok (.iload 8, 2) := by decide +kernel
theorem d_Mo_felling_246 : decode b_Mo_felling 246 = .ok (.iadd, 1) := by decide +kernel
theorem d_Mo_felling_247 : decode b_Mo_felling 247 = .ok (.iload 10, 2) := by decide +kernel
theorem d_Mo_felling_249 : decode b_Mo_felling 249 = .ok (.iadd, 1) := by decide +kernel
theorem d_Mo_felling_250 : decode b_Mo_felling 250 = .ok (.iload 9, 2) := by decide +kernel
theorem d_Mo_felling_252 : decode b_Mo_felling 252 = .ok (.iadd, 1) := by decide +kernel
theorem d_Mo_felling_253 : decode b_Mo_felling 253 = .ok (.iconst 1, 1) := by decide +kernel
theorem d_Mo_felling_254 : decode b_Mo_felling 254 = .ok (.isub, 1) := by decide +kernel
theorem d_Mo_felling_255 : decode b_Mo_felling 255 = .ok (.ireturn, 1) := by decide +kernel
theorem d_Mo_felling_256 : decode b_Mo_felling 256 = .ok (.iinc 10 1, 3) := by decide +kernel
theorem d_Mo_felling_259 : decode b_Mo_felling 259 = .ok (.goto (-86), 3) := by decide +kernel
theorem d_Mo_felling_262 : decode b_Mo_felling 262 = .ok (.iinc 9 1, 3) := by decide +kernel
theorem d_Mo_felling_265 : decode b_Mo_felling 265 = .ok (.goto (-109), 3) := by decide +kernel
theorem d_Mo_felling_268 : decode b_Mo_felling 268 = .ok (.iconst (-1), 1) := by decide +kernel
theorem d_Mo_felling_269 : decode b_Mo_felling 269 = .ok (.ireturn, 1) := by decide +kernel
theorem d_Mo_sameTree_0 : decode b_Mo_sameTree 0 = .ok (.aload_n 0, 1) := by decide +kernel
theorem d_Mo_sameTree_1 : decode b_Mo_sameTree 1 = .ok (.aload_n 0, 1) := by decide +kernel
theorem d_Mo_sameTree_2 : decode b_Mo_sameTree 2 = .ok (.iload_n 1, 1) := by decide +kernel
theorem d_Mo_sameTree_3 : decode b_Mo_sameTree 3 = .ok (.invokevirtual 64, 3) := by decide +kernel
theorem d_Mo_sameTree_6 : decode b_Mo_sameTree 6 = .ok (.ifCond .eq 15, 3) := by decide +kernel
theorem d_Mo_sameTree_9 : decode b_Mo_sameTree 9 = .ok (.aload_n 0, 1) := by decide +kernel
theorem d_Mo_sameTree_10 : decode b_Mo_sameTree 10 = .ok (.iload_n 2, 1) := by decide +kernel
theorem d_Mo_sameTree_11 : decode b_Mo_sameTree 11 = .ok (.invokevirtual 64, 3) := by decide +kernel
theorem d_Mo_sameTree_14 : decode b_Mo_sameTree 14 = .ok (.ifCond .eq 7, 3) := by decide +kernel
theorem d_Mo_sameTree_17 : decode b_Mo_sameTree 17 = .ok (.iconst 1, 1) := by decide +kernel
theorem d_Mo_sameTree_18 : decode b_Mo_sameTree 18 = .ok (.goto 4, 3) := by decide +kernel
theorem d_Mo_sameTree_21 : decode b_Mo_sameTree 21 = .ok (.iconst 0, 1) := by decide +kernel
theorem d_Mo_sameTree_22 : decode b_Mo_sameTree 22 = .ok (.iconst 1, 1) := by decide +kernel
theorem d_Mo_sameTree_23 : decode b_Mo_sameTree 23 = .ok (.iconst 1, 1) := by decide +kernel
theorem d_Mo_sameTree_24 : decode b_Mo_sameTree 24 = .ok (.invokevirtual 60, 3) := by decide +kernel
theorem d_Mo_sameTree_27 : decode b_Mo_sameTree 27 = .ok (.ifCond .ne 5, 3) := by decide +kernel
theorem d_Mo_sameTree_30 : decode b_Mo_sameTree 30 = .ok (.iconst 0, 1) := by decide +kernel
theorem d_Mo_sameTree_31 : decode b_Mo_sameTree 31 = .ok (.ireturn, 1) := by decide +kernel
theorem d_Mo_sameTree_32 : decode b_Mo_sameTree 32 = .ok (.iconst 0, 1) := by decide +kernel
theorem d_Mo_sameTree_33 : decode b_Mo_sameTree 33 = .ok (.istore_n 3, 1) := by decide +kernel
theorem d_Mo_sameTree_34 : decode b_Mo_sameTree 34 = .ok (.iconst 0, 1) := by decide +kernel
theorem d_Mo_sameTree_35 : decode b_Mo_sameTree 35 = .ok (.istore 4, 2) := by decide +kernel
theorem d_Mo_sameTree_37 : decode b_Mo_sameTree 37 = .ok (.iconst 0, 1) := by decide +kernel
theorem d_Mo_sameTree_38 : decode b_Mo_sameTree 38 = .ok (.istore 5, 2) := by decide +kernel
theorem d_Mo_sameTree_40 : decode b_Mo_sameTree 40 = .ok (.iload 5, 2) := by decide +kernel
theorem d_Mo_sameTree_42 : decode b_Mo_sameTree 42 = .ok (.aload_n 0, 1) := by decide +kernel
theorem d_Mo_sameTree_43 : decode b_Mo_sameTree 43 = .ok (.getfield 13, 3) := by decide +kernel
theorem d_Mo_sameTree_46 : decode b_Mo_sameTree 46 = .ok (.iload_n 1, 1) := by decide +kernel
theorem d_Mo_sameTree_47 : decode b_Mo_sameTree 47 = .ok (.iaload, 1) := by decide +kernel
theorem d_Mo_sameTree_48 : decode b_Mo_sameTree 48 = .ok (.if_icmp .ge 103, 3) := by decide +kernel
theorem d_Mo_sameTree_51 : decode b_Mo_sameTree 51 = .ok (.aload_n 0, 1) := by decide +kernel
theorem d_Mo_sameTree_52 : decode b_Mo_sameTree 52 = .ok (.getfield 19, 3) := by decide +kernel
theorem d_Mo_sameTree_55 : decode b_Mo_sameTree 55 = .ok (.iload_n 1, 1) := by decide +kernel
theorem d_Mo_sameTree_56 : decode b_Mo_sameTree 56 = .ok (.iaload, 1) := by decide +kernel
theorem d_Mo_sameTree_57 : decode b_Mo_sameTree 57 = .ok (.iload 5, 2) := by decide +kernel
theorem d_Mo_sameTree_59 : decode b_Mo_sameTree 59 = .ok (.iadd, 1) := by decide +kernel
theorem d_Mo_sameTree_60 : decode b_Mo_sameTree 60 = .ok (.aload_n 0, 1) := by decide +kernel
theorem d_Mo_sameTree_61 : decode b_Mo_sameTree 61 = .ok (.getfield 19, 3) := by decide +kernel
theorem d_Mo_sameTree_64 : decode b_Mo_sameTree 64 = .ok (.iload_n 2, 1) := by decide +kernel
theorem d_Mo_sameTree_65 : decode b_Mo_sameTree 65 = .ok (.iaload, 1) := by decide +kernel
theorem d_Mo_sameTree_66 : decode b_Mo_sameTree 66 = .ok (.isub, 1) := by decide +kernel
theorem d_Mo_sameTree_67 : decode b_Mo_sameTree 67 = .ok (.istore 6, 2) := by decide +kernel
theorem d_Mo_sameTree_69 : decode b_Mo_sameTree 69 = .ok (.aload_n 0, 1) := by decide +kernel
theorem d_Mo_sameTree_70 : decode b_Mo_sameTree 70 = .ok (.getfield 19, 3) := by decide +kernel
theorem d_Mo_sameTree_73 : decode b_Mo_sameTree 73 = .ok (.iload_n 1, 1) := by decide +kernel
theorem d_Mo_sameTree_74 : decode b_Mo_sameTree 74 = .ok (.iaload, 1) := by decide +kernel
theorem d_Mo_sameTree_75 : decode b_Mo_sameTree 75 = .ok (.iconst (-1), 1) := by decide +kernel
theorem d_Mo_sameTree_76 : decode b_Mo_sameTree 76 = .ok (.if_icmp .eq 69, 3) := by decide +kernel
theorem d_Mo_sameTree_79 : decode b_Mo_sameTree 79 = .ok (.aload_n 0, 1) := by decide +kernel
theorem d_Mo_sameTree_80 : decode b_Mo_sameTree 80 = .ok (.getfield 19, 3) := by decide +kernel
theorem d_Mo_sameTree_83 : decode b_Mo_sameTree 83 = .ok (.iload_n 2, 1) := by decide +kernel
theorem d_Mo_sameTree_84 : decode b_Mo_sameTree 84 = .ok (.iaload, 1) := by decide +kernel
theorem d_Mo_sameTree_85 : decode b_Mo_sameTree 85 = .ok (.iconst (-1), 1) := by decide +kernel
theorem d_Mo_sameTree_86 : decode b_Mo_sameTree 86 = .ok (.if_icmp .eq 59, 3) := by decide +kernel
theorem d_Mo_sameTree_89 : decode b_Mo_sameTree 89 = .ok (.iload 6, 2) := by decide +kernel
theorem d_Mo_sameTree_91 : decode b_Mo_sameTree 91 = .ok (.ifCond .lt 54, 3) := by decide +kernel
theorem d_Mo_sameTree_94 : decode b_Mo_sameTree 94 = .ok (.iload 6, 2) := by decide +kernel
theorem d_Mo_sameTree_96 : decode b_Mo_sameTree 96 = .ok (.aload_n 0, 1) := by decide +kernel
theorem d_Mo_sameTree_97 : decode b_Mo_sameTree 97 = .ok (.getfield 13, 3) := by decide +kernel
theorem d_Mo_sameTree_100 : decode b_Mo_sameTree 100 = .ok (.iload_n 2, 1) := by decide +kernel
theorem d_Mo_sameTree_101 : decode b_Mo_sameTree 101 = .ok (.iaload, 1) := by decide +kernel
theorem d_Mo_sameTree_102 : decode b_Mo_sameTree 102 = .ok (.if_icmp .ge 43, 3) := by decide +kernel
theorem d_Mo_sameTree_105 : decode b_Mo_sameTree 105 = .ok (.aload_n 0, 1) := by decide +kernel
theorem d_Mo_sameTree_106 : decode b_Mo_sameTree 106 = .ok (.iload_n 1, 1) := by decide +kernel
theorem d_Mo_sameTree_107 : decode b_Mo_sameTree 107 = .ok (.iload 5, 2) := by decide +kernel
theorem d_Mo_sameTree_109 : decode b_Mo_sameTree 109 = .ok (.invokevirtual 68, 3) := by decide +kernel
theorem d_Mo_sameTree_112 : decode b_Mo_sameTree 112 = .ok (.aload_n 0, 1) := by decide +kernel
theorem d_Mo_sameTree_113 : decode b_Mo_sameTree 113 = .ok (.iload_n 2, 1) := by decide +kernel
theorem d_Mo_sameTree_114 : decode b_Mo_sameTree 114 = .ok (.iload 6, 2) := by decide +kernel
theorem d_Mo_sameTree_116 : decode b_Mo_sameTree 116 = .ok (.invokevirtual 68, 3) := by decide +kernel
theorem d_Mo_sameTree_119 : decode b_Mo_sameTree 119 = .ok (.isub, 1) := by decide +kernel
theorem d_Mo_sameTree_120 : decode b_Mo_sameTree 120 = .ok (.istore 7, 2) := by decide +kernel
theorem d_Mo_sameTree_122 : decode b_Mo_sameTree 122 = .ok (.iload 7, 2) := by decide +kernel
theorem d_Mo_sameTree_124 : decode b_Mo_sameTree 124 = .ok (.ifCond .ge 11, 3) := by decide +kernel
theorem d_Mo_sameTree_127 : decode b_Mo_sameTree 127 = .ok (.iload 4, 2) := by decide +kernel
theorem d_Mo_sameTree_129 : decode b_Mo_sameTree 129 = .ok (.iload 7, 2) := by decide +kernel
theorem d_Mo_sameTree_131 : decode b_Mo_sameTree 131 = .ok (.isub, 1) := by decide +kernel
theorem d_Mo_sameTree_132 : decode b_Mo_sameTree 132 = .ok (.goto 8, 3) := by decide +kernel
theorem d_Mo_sameTree_135 : decode b_Mo_sameTree 135 = .ok (.iload 4, 2) := by decide +kernel
theorem d_Mo_sameTree_137 : decode b_Mo_sameTree 137 = .ok (.iload 7, 2) := by decide +kernel
theorem d_Mo_sameTree_139 : decode b_Mo_sameTree 139 = .ok (.iadd, 1) := by decide +kernel
theorem d_Mo_sameTree_140 : decode b_Mo_sameTree 140 = .ok (.istore 4, 2) := by decide +kernel
theorem d_Mo_sameTree_142 : decode b_Mo_sameTree 142 = .ok (.iinc 3 1, 3) := by decide +kernel
theorem d_Mo_sameTree_145 : decode b_Mo_sameTree 145 = .ok (.iinc 5 1, 3) := by decide +kernel
theorem d_Mo_sameTree_148 : decode b_Mo_sameTree 148 = .ok (.goto (-108), 3) := by decide +kernel
theorem d_Mo_sameTree_151 : decode b_Mo_sameTree 151 = .ok (.iload_n 3, 1) := by decide +kernel
theorem d_Mo_sameTree_152 : decode b_Mo_sameTree 152 = .ok (.iconst 5, 1) := by decide +kernel
theorem d_Mo_sameTree_153 : decode b_Mo_sameTree 153 = .ok (.if_icmp .lt 16, 3) := by decide +kernel
theorem d_Mo_sameTree_156 : decode b_Mo_sameTree 156 = .ok (.iload 4, 2) := by decide +kernel
theorem d_Mo_sameTree_158 : decode b_Mo_sameTree 158 = .ok (.bipush 15, 2) := by decide +kernel
theorem d_Mo_sameTree_160 : decode b_Mo_sameTree 160 = .ok (.iload_n 3, 1) := by decide +kernel
theorem d_Mo_sameTree_161 : decode b_Mo_sameTree 161 = .ok (.imul, 1) := by decide +kernel
theorem d_Mo_sameTree_162 : decode b_Mo_sameTree 162 = .ok (.if_icmp .gt 7, 3) := by decide +kernel
theorem d_Mo_sameTree_165 : decode b_Mo_sameTree 165 = .ok (.iconst 1, 1) := by decide +kernel
theorem d_Mo_sameTree_166 : decode b_Mo_sameTree 166 = .ok (.goto 4, 3) := by decide +kernel
theorem d_Mo_sameTree_169 : decode b_Mo_sameTree 169 = .ok (.iconst 0, 1) := by decide +kernel
theorem d_Mo_sameTree_170 : decode b_Mo_sameTree 170 = .ok (.ireturn, 1) := by decide +kernel
theorem d_Mo_count_0 : decode b_Mo_count 0 = .ok (.aload_n 0, 1) := by decide +kernel
theorem d_Mo_count_1 : decode b_Mo_count 1 = .ok (.iload_n 1, 1) := by decide +kernel
theorem d_Mo_count_2 : decode b_Mo_count 2 = .ok (.iconst 0, 1) := by decide +kernel
theorem d_Mo_count_3 : decode b_Mo_count 3 = .ok (.iconst 3, 1) := by decide +kernel
theorem d_Mo_count_4 : decode b_Mo_count 4 = .ok (.invokestatic 50, 3) := by decide +kernel
theorem d_Mo_count_7 : decode b_Mo_count 7 = .ok (.iconst 1, 1) := by decide +kernel
theorem d_Mo_count_8 : decode b_Mo_count 8 = .ok (.iconst 1, 1) := by decide +kernel
theorem d_Mo_count_9 : decode b_Mo_count 9 = .ok (.invokevirtual 60, 3) := by decide +kernel
theorem d_Mo_count_12 : decode b_Mo_count 12 = .ok (.ifCond .ne 5, 3) := by decide +kernel
theorem d_Mo_count_15 : decode b_Mo_count 15 = .ok (.iconst 0, 1) := by decide +kernel
theorem d_Mo_count_16 : decode b_Mo_count 16 = .ok (.ireturn, 1) := by decide +kernel
theorem d_Mo_count_17 : decode b_Mo_count 17 = .ok (.iconst 0, 1) := by decide +kernel
theorem d_Mo_count_18 : decode b_Mo_count 18 = .ok (.istore_n 2, 1) := by decide +kernel
theorem d_Mo_count_19 : decode b_Mo_count 19 = .ok (.iconst 0, 1) := by decide +kernel
theorem d_Mo_count_20 : decode b_Mo_count 20 = .ok (.istore_n 3, 1) := by decide +kernel
theorem d_Mo_count_21 : decode b_Mo_count 21 = .ok (.iload_n 3, 1) := by decide +kernel
theorem d_Mo_count_22 : decode b_Mo_count 22 = .ok (.aload_n 0, 1) := by decide +kernel
theorem d_Mo_count_23 : decode b_Mo_count 23 = .ok (.getfield 47, 3) := by decide +kernel
theorem d_Mo_count_26 : decode b_Mo_count 26 = .ok (.if_icmp .ge 27, 3) := by decide +kernel
theorem d_Mo_count_29 : decode b_Mo_count 29 = .ok (.aload_n 0, 1) := by decide +kernel
theorem d_Mo_count_30 : decode b_Mo_count 30 = .ok (.getfield 19, 3) := by decide +kernel
theorem d_Mo_count_33 : decode b_Mo_count 33 = .ok (.iload_n 3, 1) := by decide +kernel
theorem d_Mo_count_34 : decode b_Mo_count 34 = .ok (.iaload, 1) := by decide +kernel
theorem d_Mo_count_35 : decode b_Mo_count 35 = .ok (.iconst (-1), 1) := by decide +kernel
theorem d_Mo_count_36 : decode b_Mo_count 36 = .ok (.if_icmp .ne 9, 3) := by decide +kernel
theorem d_Mo_count_39 : decode b_Mo_count 39 = .ok (.iload_n 2, 1) := by decide +kernel
theorem d_Mo_count_40 : decode b_Mo_count 40 = .ok (.iconst 1, 1) := by decide +kernel
theorem d_Mo_count_41 : decode b_Mo_count 41 = .ok (.iadd, 1) := by decide +kernel
theorem d_Mo_count_42 : decode b_Mo_count 42 = .ok (.goto 4, 3) := by decide +kernel
theorem d_Mo_count_45 : decode b_Mo_count 45 = .ok (.iload_n 2, 1) := by decide +kernel
theorem d_Mo_count_46 : decode b_Mo_count 46 = .ok (.istore_n 2, 1) := by decide +kernel
theorem d_Mo_count_47 : decode b_Mo_count 47 = .ok (.iinc 3 1, 3) := by decide +kernel
theorem d_Mo_count_50 : decode b_Mo_count 50 = .ok (.goto (-29), 3) := by decide +kernel
theorem d_Mo_count_53 : decode b_Mo_count 53 = .ok (.iload_n 1, 1) := by decide +kernel
theorem d_Mo_count_54 : decode b_Mo_count 54 = .ok (.ifCond .ne 10, 3) := by decide +kernel
theorem d_Mo_count_57 : decode b_Mo_count 57 = .ok (.aload_n 0, 1) := by decide +kernel
theorem d_Mo_count_58 : decode b_Mo_count 58 = .ok (.getfield 57, 3) := by decide +kernel
theorem d_Mo_count_61 : decode b_Mo_count 61 = .ok (.goto 28, 3) := by decide +kernel
theorem d_Mo_count_64 : decode b_Mo_count 64 = .ok (.iload_n 1, 1) := by decide +kernel
theorem d_Mo_count_65 : decode b_Mo_count 65 = .ok (.iconst 1, 1) := by decide +kernel
theorem d_Mo_count_66 : decode b_Mo_count 66 = .ok (.if_icmp .ne 10, 3) := by decide +kernel
theorem d_Mo_count_69 : decode b_Mo_count 69 = .ok (.aload_n 0, 1) := by decide +kernel
theorem d_Mo_count_70 : decode b_Mo_count 70 = .ok (.getfield 47, 3) := by decide +kernel
theorem d_Mo_count_73 : decode b_Mo_count 73 = .ok (.goto 16, 3) := by decide +kernel
theorem d_Mo_count_76 : decode b_Mo_count 76 = .ok (.iload_n 1, 1) := by decide +kernel
theorem d_Mo_count_77 : decode b_Mo_count 77 = .ok (.iconst 2, 1) := by decide +kernel
theorem d_Mo_count_78 : decode b_Mo_count 78 = .ok (.if_icmp .ne 10, 3) := by decide +kernel
theorem d_Mo_count_81 : decode b_Mo_count 81 = .ok (.aload_n 0, 1) := by decide +kernel
theorem d_Mo_count_82 : decode b_Mo_count 82 = .ok (.getfield 54, 3) := by decide +kernel
theorem d_Mo_count_85 : decode b_Mo_count 85 = .ok (.goto 4, 3) := by decide +kernel
theorem d_Mo_count_88 : decode b_Mo_count 88 = .ok (.iload_n 2, 1) := by decide +kernel
theorem d_Mo_count_89 : decode b_Mo_count 89 = .ok (.ireturn, 1) := by decide +kernel
