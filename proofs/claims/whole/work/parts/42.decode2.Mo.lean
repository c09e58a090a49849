theorem d_Mo_master_155 : decode b_Mo_master 155 = .ok (.iaload, 1) := by decide +kernel
theorem d_Mo_master_156 : decode b_Mo_master 156 = .ok (.aload_n 0, 1) := by decide +kernel
theorem d_Mo_master_157 : decode b_Mo_master 157 = .ok (.getfield 13, 3) := by decide +kernel
theorem d_Mo_master_160 : decode b_Mo_master 160 = .ok (.iload 4, 2) := by decide +kernel
theorem d_Mo_master_162 : decode b_Mo_master 162 = .ok (.iaload, 1) := by decide +kernel
theorem d_Mo_master_163 : decode b_Mo_master 163 = .ok (.iadd, 1) := by decide +kernel
theorem d_Mo_master_164 : decode b_Mo_master 164 = .ok (.iconst 1, 1) := by decide +kernel
theorem d_Mo_master_165 : decode b_Mo_master 165 = .ok (.isub, 1) := by decide +kernel
theorem d_Mo_master_166 : decode b_Mo_master 166 = .ok (.iload_n 3, 1) := by decide +kernel
theorem d_Mo_master_167 : decode b_Mo_master 167 = .ok (.if_icmp .le 23, 3) := by decide +kernel
theorem d_Mo_master_170 : decode b_Mo_master 170 = .ok (.aload_n 0, 1) := by decide +kernel
theorem d_Mo_master_171 : decode b_Mo_master 171 = .ok (.getfield 19, 3) := by decide +kernel
theorem d_Mo_master_174 : decode b_Mo_master 174 = .ok (.iload 4, 2) := by decide +kernel
theorem d_Mo_master_176 : decode b_Mo_master 176 = .ok (.iaload, 1) := by decide +kernel
theorem d_Mo_master_177 : decode b_Mo_master 177 = .ok (.aload_n 0, 1) := by decide +kernel
theorem d_Mo_master_178 : decode b_Mo_master 178 = .ok (.getfield 13, 3) := by decide +kernel
theorem d_Mo_master_181 : decode b_Mo_master 181 = .ok (.iload 4, 2) := by decide +kernel
theorem d_Mo_master_183 : decode b_Mo_master 183 = .ok (.iaload, 1) := by decide +kernel
theorem d_Mo_master_184 : decode b_Mo_master 184 = .ok (.iadd, 1) := by decide +kernel
theorem d_Mo_master_185 : decode b_Mo_master 185 = .ok (.iconst 1, 1) := by decide +kernel
theorem d_Mo_master_186 : decode b_Mo_master 186 = .ok (.isub, 1) := by decide +kernel
theorem d_Mo_master_187 : decode b_Mo_master 187 = .ok (.goto 4, 3) := by decide +kernel
theorem d_Mo_master_190 : decode b_Mo_master 190 = .ok (.iload_n 3, 1) := by decide +kernel
theorem d_Mo_master_191 : decode b_Mo_master 191 = .ok (.istore_n 3, 1) := by decide +kernel
theorem d_Mo_master_192 : decode b_Mo_master 192 = .ok (.iinc 4 1, 3) := by decide +kernel
theorem d_Mo_master_195 : decode b_Mo_master 195 = .ok (.goto (-154), 3) := by decide +kernel
theorem d_Mo_master_198 : decode b_Mo_master 198 = .ok (.iload_n 3, 1) := by decide +kernel
theorem d_Mo_master_199 : decode b_Mo_master 199 = .ok (.iconst (-1), 1) := by decide +kernel
theorem d_Mo_master_200 : decode b_Mo_master 200 = .ok (.if_icmp .ne 5, 3) := by decide +kernel
theorem d_Mo_master_203 : decode b_Mo_master 203 = .ok (.iconst (-1), 1) := by decide +kernel
theorem d_Mo_master_204 : decode b_Mo_master 204 = .ok (.ireturn, 1) := by decide +kernel
theorem d_Mo_master_205 : decode b_Mo_master 205 = .ok (.aload_n 0, 1) := by decide +kernel
theorem d_Mo_master_206 : decode b_Mo_master 206 = .ok (.getfield 25, 3) := by decide +kernel
theorem d_Mo_master_209 : decode b_Mo_master 209 = .ok (.aload_n 0, 1) := by decide +kernel
theorem d_Mo_master_210 : decode b_Mo_master 210 = .ok (.getfield 54, 3) := by decide +kernel
theorem d_Mo_master_213 : decode b_Mo_master 213 = .ok (.iload_n 2, 1) := by decide +kernel
theorem d_Mo_master_214 : decode b_Mo_master 214 = .ok (.iastore, 1) := by decide +kernel
theorem d_Mo_master_215 : decode b_Mo_master 215 = .ok (.aload_n 0, 1) := by decide +kernel
theorem d_Mo_master_216 : decode b_Mo_master 216 = .ok (.getfield 28, 3) := by decide +kernel
theorem d_Mo_master_219 : decode b_Mo_master 219 = .ok (.aload_n 0, 1) := by decide +kernel
theorem d_Mo_master_220 : decode b_Mo_master 220 = .ok (.getfield 54, 3) := by decide +kernel
theorem d_Mo_master_223 : decode b_Mo_master 223 = .ok (.iload_n 3, 1) := by decide +kernel
theorem d_Mo_master_224 : decode b_Mo_master 224 = .ok (.iastore, 1) := by decide +kernel
theorem d_Mo_master_225 : decode b_Mo_master 225 = .ok (.aload_n 0, 1) := by decide +kernel
theorem d_Mo_master_226 : decode b_Mo_master 226 = .ok (.dup, 1) := by decide +kernel
theorem d_Mo_master_227 : decode b_Mo_master 227 = .ok (.getfield 54, 3) := by decide +kernel
theorem d_Mo_master_230 : decode b_Mo_master 230 = .ok (.iconst 1, 1) := by decide +kernel
theorem d_Mo_master_231 : decode b_Mo_master 231 = .ok (.iadd, 1) := by decide +kernel
theorem d_Mo_master_232 : decode b_Mo_master 232 = .ok (.putfield 54, 3) := by decide +kernel
theorem d_Mo_master_235 : decode b_Mo_master 235 = .ok (.aload_n 0, 1) := by decide +kernel
theorem d_Mo_master_236 : decode b_Mo_master 236 = .ok (.getfield 54, 3) := by decide +kernel
theorem d_Mo_master_239 : decode b_Mo_master 239 = .ok (.iconst 1, 1) := by decide +kernel
theorem d_Mo_master_240 : decode b_Mo_master 240 = .ok (.isub, 1) := by decide +kernel
theorem d_Mo_master_241 : decode b_Mo_master 241 = .ok (.ireturn, 1) := by decide +kernel
theorem d_Mo_about_0 : decode b_Mo_about 0 = .ok (.aload_n 0, 1) := by decide +kernel
theorem d_Mo_about_1 : decode b_Mo_about 1 = .ok (.aload_n 0, 1) := by decide +kernel
theorem d_Mo_about_2 : decode b_Mo_about 2 = .ok (.iload_n 1, 1) := by decide +kernel
theorem d_Mo_about_3 : decode b_Mo_about 3 = .ok (.invokevirtual 75, 3) := by decide +kernel
theorem d_Mo_about_6 : decode b_Mo_about 6 = .ok (.ifCond .eq 16, 3) := by decide +kernel
theorem d_Mo_about_9 : decode b_Mo_about 9 = .ok (.iload_n 2, 1) := by decide +kernel
theorem d_Mo_about_10 : decode b_Mo_about 10 = .ok (.iconst 0, 1) := by decide +kernel
theorem d_Mo_about_11 : decode b_Mo_about 11 = .ok (.iconst 2, 1) := by decide +kernel
theorem d_Mo_about_12 : decode b_Mo_about 12 = .ok (.invokestatic 50, 3) := by decide +kernel
theorem d_Mo_about_15 : decode b_Mo_about 15 = .ok (.ifCond .eq 7, 3) := by decide +kernel
theorem d_Mo_about_18 : decode b_Mo_about 18 = .ok (.iconst 1, 1) := by decide +kernel
theorem d_Mo_about_19 : decode b_Mo_about 19 = .ok (.goto 4, 3) := by decide +kernel
theorem d_Mo_about_22 : decode b_Mo_about 22 = .ok (.iconst 0, 1) := by decide +kernel
theorem d_Mo_about_23 : decode b_Mo_about 23 = .ok (.iconst 1, 1) := by decide +kernel
theorem d_Mo_about_24 : decode b_Mo_about 24 = .ok (.iconst 1, 1) := by decide +kernel
theorem d_Mo_about_25 : decode b_Mo_about 25 = .ok (.invokevirtual 60, 3) := by decide +kernel
theorem d_Mo_about_28 : decode b_Mo_about 28 = .ok (.ifCond .ne 5, 3) := by decide +kernel
theorem d_Mo_about_31 : decode b_Mo_about 31 = .ok (.iconst 0, 1) := by decide +kernel
theorem d_Mo_about_32 : decode b_Mo_about 32 = .ok (.ireturn, 1) := by decide +kernel
theorem d_Mo_about_33 : decode b_Mo_about 33 = .ok (.iconst 0, 1) := by decide +kernel
theorem d_Mo_about_34 : decode b_Mo_about 34 = .ok (.istore_n 3, 1) := by decide +kernel
theorem d_Mo_about_35 : decode b_Mo_about 35 = .ok (.iconst 0, 1) := by decide +kernel
theorem d_Mo_about_36 : decode b_Mo_about 36 = .ok (.istore 4, 2) := by decide +kernel
theorem d_Mo_about_38 : decode b_Mo_about 38 = .ok (.iload 4, 2) := by decide +kernel
theorem d_Mo_about_40 : decode b_Mo_about 40 = .ok (.bipush 10, 2) := by decide +kernel
theorem d_Mo_about_42 : decode b_Mo_about 42 = .ok (.if_icmp .ge 33, 3) := by decide +kernel
theorem d_Mo_about_45 : decode b_Mo_about 45 = .ok (.aload_n 0, 1) := by decide +kernel
theorem d_Mo_about_46 : decode b_Mo_about 46 = .ok (.getfield 22, 3) := by decide +kernel
theorem d_Mo_about_49 : decode b_Mo_about 49 = .ok (.bipush 10, 2) := by decide +kernel
theorem d_Mo_about_51 : decode b_Mo_about 51 = .ok (.iload_n 1, 1) := by decide +kernel
theorem d_Mo_about_52 : decode b_Mo_about 52 = .ok (.imul, 1) := by decide +kernel
theorem d_Mo_about_53 : decode b_Mo_about 53 = .ok (.iload 4, 2) := by decide +kernel
theorem d_Mo_about_55 : decode b_Mo_about 55 = .ok (.iadd, 1) := by decide +kernel
theorem d_Mo_about_56 : decode b_Mo_about 56 = .ok (.iaload, 1) := by decide +kernel
theorem d_Mo_about_57 : decode b_Mo_about 57 = .ok (.iconst (-1), 1) := by decide +kernel
theorem d_Mo_about_58 : decode b_Mo_about 58 = .ok (.if_icmp .eq 9, 3) := by decide +kernel
theorem d_Mo_about_61 : decode b_Mo_about 61 = .ok (.iload_n 3, 1) := by decide +kernel
theorem d_Mo_about_62 : decode b_Mo_about 62 = .ok (.iconst 1, 1) := by decide +kernel
theorem d_Mo_about_63 : decode b_Mo_about 63 = .ok (.iadd, 1) := by decide +kernel
theorem d_Mo_about_64 : decode b_Mo_about 64 = .ok (.goto 4, 3) := by decide +kernel
theorem d_Mo_about_67 : decode b_Mo_about 67 = .ok (.iload_n 3, 1) := by decide +kernel
theorem d_Mo_about_68 : decode b_Mo_about 68 = .ok (.istore_n 3, 1) := by decide +kernel
theorem d_Mo_about_69 : decode b_Mo_about 69 = .ok (.iinc 4 1, 3) := by decide +kernel
theorem d_Mo_about_72 : decode b_Mo_about 72 = .ok (.goto (-34), 3) := by decide +kernel
theorem d_Mo_about_75 : decode b_Mo_about 75 = .ok (.iload_n 2, 1) := by decide +kernel
theorem d_Mo_about_76 : decode b_Mo_about 76 = .ok (.ifCond .ne 12, 3) := by decide +kernel
theorem d_Mo_about_79 : decode b_Mo_about 79 = .ok (.aload_n 0, 1) := by decide +kernel
theorem d_Mo_about_80 : decode b_Mo_about 80 = .ok (.getfield 25, 3) := by decide +kernel
theorem d_Mo_about_83 : decode b_Mo_about 83 = .ok (.iload_n 1, 1) := by decide +kernel
theorem d_Mo_about_84 : decode b_Mo_about 84 = .ok (.iaload, 1) := by decide +kernel
theorem d_Mo_about_85 : decode b_Mo_about 85 = .ok (.goto 18, 3) := by decide +kernel
theorem d_Mo_about_88 : decode b_Mo_about 88 = .ok (.iload_n 2, 1) := by decide +kernel
theorem d_Mo_about_89 : decode b_Mo_about 89 = .ok (.iconst 1, 1) := by decide +kernel
theorem d_Mo_about_90 : decode b_Mo_about 90 = .ok (.if_icmp .ne 12, 3) := by decide +kernel
theorem d_Mo_about_93 : decode b_Mo_about 93 = .ok (.aload_n 0, 1) := by decide +kernel
theorem d_Mo_about_94 : decode b_Mo_about 94 = .ok (.getfield 28, 3) := by decide +kernel
theorem d_Mo_about_97 : decode b_Mo_about 97 = .ok (.iload_n 1, 1) := by decide +kernel
theorem d_Mo_about_98 : decode b_Mo_about 98 = .ok (.iaload, 1) := by decide +kernel
theorem d_Mo_about_99 : decode b_Mo_about 99 = .ok (.goto 4, 3) := by decide +kernel
theorem d_Mo_about_102 : decode b_Mo_about 102 = .ok (.iload_n 3, 1) := by decide +kernel
theorem d_Mo_about_103 : decode b_Mo_about 103 = .ok (.ireturn, 1) := by decide +kernel
theorem d_Mo_isMaster_0 : decode b_Mo_isMaster 0 = .ok (.iload_n 1, 1) := by decide +kernel
theorem d_Mo_isMaster_1 : decode b_Mo_isMaster 1 = .ok (.iconst 0, 1) := by decide +kernel
theorem d_Mo_isMaster_2 : decode b_Mo_isMaster 2 = .ok (.aload_n 0, 1) := by decide +kernel
theorem d_Mo_isMaster_3 : decode b_Mo_isMaster 3 = .ok (.getfield 54, 3) := by decide +kernel
theorem d_Mo_isMaster_6 : decode b_Mo_isMaster 6 = .ok (.iconst 1, 1) := by decide +kernel
theorem d_Mo_isMaster_7 : decode b_Mo_isMaster 7 = .ok (.isub, 1) := by decide +kernel
theorem d_Mo_isMaster_8 : decode b_Mo_isMaster 8 = .ok (.invokestatic 50, 3) := by decide +kernel
theorem d_Mo_isMaster_11 : decode b_Mo_isMaster 11 = .ok (.ireturn, 1) := by decide +kernel
theorem d_Mo_at_0 : decode b_Mo_at 0 = .ok (.aload_n 0, 1) := by decide +kernel
theorem d_Mo_at_1 : decode b_Mo_at 1 = .ok (.aload_n 0, 1) := by decide +kernel
theorem d_Mo_at_2 : decode b_Mo_at 2 = .ok (.iload_n 1, 1) := by decide +kernel
theorem d_Mo_at_3 : decode b_Mo_at 3 = .ok (.iload_n 2, 1) := by decide +kernel
theorem d_Mo_at_4 : decode b_Mo_at 4 = .ok (.invokevirtual 78, 3) := by decide +kernel
theorem d_Mo_at_7 : decode b_Mo_at 7 = .ok (.iconst 1, 1) := by decide +kernel
theorem d_Mo_at_8 : decode b_Mo_at 8 = .ok (.iconst 1, 1) := by decide +kernel
theorem d_Mo_at_9 : decode b_Mo_at 9 = .ok (.invokevirtual 60, 3) := by decide +kernel
theorem d_Mo_at_12 : decode b_Mo_at 12 = .ok (.ifCond .eq 13, 3) := by decide +kernel
theorem d_Mo_at_15 : decode b_Mo_at 15 = .ok (.aload_n 0, 1) := by decide +kernel
theorem d_Mo_at_16 : decode b_Mo_at 16 = .ok (.iload_n 1, 1) := by decide +kernel
theorem d_Mo_at_17 : decode b_Mo_at 17 = .ok (.iload_n 2, 1) := by decide +kernel
theorem d_Mo_at_18 : decode b_Mo_at 18 = .ok (.iconst (-1), 1) := by decide +kernel
theorem d_Mo_at_19 : decode b_Mo_at 19 = .ok (.invokevirtual 82, 3) := by decide +kernel
theorem d_Mo_at_22 : decode b_Mo_at 22 = .ok (.goto 4, 3) := by decide +kernel
theorem d_Mo_at_25 : decode b_Mo_at 25 = .ok (.iconst 0, 1) := by decide +kernel
theorem d_Mo_at_26 : decode b_Mo_at 26 = .ok (.ireturn, 1) := by decide +kernel
theorem d_Mo_isYear_0 : decode b_Mo_isYear 0 = .ok (.aload_n 0, 1) := by decide +kernel
theorem d_Mo_isYear_1 : decode b_Mo_isYear 1 = .ok (.iload_n 1, 1) := by decide +kernel
theorem d_Mo_isYear_2 : decode b_Mo_isYear 2 = .ok (.invokevirtual 75, 3) := by decide +kernel
theorem d_Mo_isYear_5 : decode b_Mo_isYear 5 = .ok (.ifCond .eq 26, 3) := by decide +kernel
theorem d_Mo_isYear_8 : decode b_Mo_isYear 8 = .ok (.iload_n 2, 1) := by decide +kernel
theorem d_Mo_isYear_9 : decode b_Mo_isYear 9 = .ok (.aload_n 0, 1) := by decide +kernel
theorem d_Mo_isYear_10 : decode b_Mo_isYear 10 = .ok (.getfield 25, 3) := by decide +kernel
theorem d_Mo_isYear_13 : decode b_Mo_isYear 13 = .ok (.iload_n 1, 1) := by decide +kernel
theorem d_Mo_isYear_14 : decode b_Mo_isYear 14 = .ok (.iaload, 1) := by decide +kernel
theorem d_Mo_isYear_15 : decode b_Mo_isYear 15 = .ok (.aload_n 0, 1) := by decide +kernel
theorem d_Mo_isYear_16 : decode b_Mo_isYear 16 = .ok (.getfield 28, 3) := by decide +kernel
theorem d_Mo_isYear_19 : decode b_Mo_isYear 19 = .ok (.iload_n 1, 1) := by decide +kernel
theorem d_Mo_isYear_20 : decode b_Mo_isYear 20 = .ok (.iaload, 1) := by decide +kernel
theorem d_Mo_isYear_21 : decode b_Mo_isYear 21 = .ok (.invokestatic 50, 3) := by decide +kernel
theorem d_Mo_isYear_24 : decode b_Mo_isYear 24 = .ok (.ifCond .eq 7, 3) := by decide +kernel
theorem d_Mo_isYear_27 : decode b_Mo_isYear 27 = .ok (.iconst 1, 1) := by decide +kernel
theorem d_Mo_isYear_28 : decode b_Mo_isYear 28 = .ok (.goto 4, 3) := by decide +kernel
theorem d_Mo_isYear_31 : decode b_Mo_isYear 31 = .ok (.iconst 0, 1) := by decide +kernel
theorem d_Mo_isYear_32 : decode b_Mo_isYear 32 = .ok (.ireturn, 1) := by decide +kernel
theorem d_Mo_valueOf_0 : decode b_Mo_valueOf 0 = .ok (.iconst 0, 1) := by decide +kernel
theorem d_Mo_valueOf_1 : decode b_Mo_valueOf 1 = .ok (.istore 4, 2) := by decide +kernel
theorem d_Mo_valueOf_3 : decode b_Mo_valueOf 3 = .ok (.iconst 0, 1) := by decide +kernel
theorem d_Mo_valueOf_4 : decode b_Mo_valueOf 4 = .ok (.istore 5, 2) := by decide +kernel
theorem d_Mo_valueOf_6 : decode b_Mo_valueOf 6 = .ok (.sipush 9999, 3) := by decide +kernel
theorem d_Mo_valueOf_9 : decode b_Mo_valueOf 9 = .ok (.istore 6, 2) := by decide +kernel
theorem d_Mo_valueOf_11 : decode b_Mo_valueOf 11 = .ok (.iconst (-1), 1) := by decide +kernel
theorem d_Mo_valueOf_12 : decode b_Mo_valueOf 12 = .ok (.istore 7, 2) := by decide +kernel
theorem d_Mo_valueOf_14 : decode b_Mo_valueOf 14 = .ok (.iconst 0, 1) := by decide +kernel
theorem d_Mo_valueOf_15 : decode b_Mo_valueOf 15 = .ok (.istore 8, 2) := by decide +kernel
theorem d_Mo_valueOf_17 : decode b_Mo_valueOf 17 = .ok (.iload 8, 2) := by decide +kernel
theorem d_Mo_valueOf_19 : decode b_Mo_valueOf 19 = .ok (.bipush 10, 2) := by decide +kernel
theorem d_Mo_valueOf_21 : decode b_Mo_valueOf 21 = .ok (.if_icmp .ge 90, 3) := by decide +kernel
theorem d_Mo_valueOf_24 : decode b_Mo_valueOf 24 = .ok (.iload 8, 2) := by decide +kernel
theorem d_Mo_valueOf_26 : decode b_Mo_valueOf 26 = .ok (.iload_n 3, 1) := by decide +kernel
theorem d_Mo_valueOf_27 : decode b_Mo_valueOf 27 = .ok (.if_icmp .eq 78, 3) := by decide +kernel
theorem d_Mo_valueOf_30 : decode b_Mo_valueOf 30 = .ok (.aload_n 0, 1) := by decide +kernel
theorem d_Mo_valueOf_31 : decode b_Mo_valueOf 31 = .ok (.iload_n 1, 1) := by decide +kernel
theorem d_Mo_valueOf_32 : decode b_Mo_valueOf 32 = .ok (.iload 8, 2) := by decide +kernel
theorem d_Mo_valueOf_34 : decode b_Mo_valueOf 34 = .ok (.iload_n 2, 1) := by decide +kernel
theorem d_Mo_valueOf_35 : decode b_Mo_valueOf 35 = .ok (.invokevirtual 72, 3) := by decide +kernel
theorem d_Mo_valueOf_38 : decode b_Mo_valueOf 38 = .ok (.ifCond .eq 67, 3) := by decide +kernel
theorem d_Mo_valueOf_41 : decode b_Mo_valueOf 41 = .ok (.aload_n 0, 1) := by decide +kernel
theorem d_Mo_valueOf_42 : decode b_Mo_valueOf 42 = .ok (.iload 8, 2) := by decide +kernel
theorem d_Mo_valueOf_44 : decode b_Mo_valueOf 44 = .ok (.iload_n 2, 1) := by decide +kernel
theorem d_Mo_valueOf_45 : decode b_Mo_valueOf 45 = .ok (.aload_n 0, 1) := by decide +kernel
theorem d_Mo_valueOf_46 : decode b_Mo_valueOf 46 = .ok (.getfield 22, 3) := by decide +kernel
theorem d_Mo_valueOf_49 : decode b_Mo_valueOf 49 = .ok (.bipush 10, 2) := by decide +kernel
theorem d_Mo_valueOf_51 : decode b_Mo_valueOf 51 = .ok (.iload_n 1, 1) := by decide +kernel
theorem d_Mo_valueOf_52 : decode b_Mo_valueOf 52 = .ok (.imul, 1) := by decide +kernel
theorem d_Mo_valueOf_53 : decode b_Mo_valueOf 53 = .ok (.iload 8, 2) := by decide +kernel
theorem d_Mo_valueOf_55 : decode b_Mo_valueOf 55 = .ok (.iadd, 1) := by decide +kernel
theorem d_Mo_valueOf_56 : decode b_Mo_valueOf 56 = .ok (.iaload, 1) := by decide +kernel
theorem d_Mo_valueOf_57 : decode b_Mo_valueOf 57 = .ok (.isub, 1) := by decide +kernel
theorem d_Mo_valueOf_58 : decode b_Mo_valueOf 58 = .ok (.invokevirtual 68, 3) := by decide +kernel
theorem d_Mo_valueOf_61 : decode b_Mo_valueOf 61 = .ok (.istore 9, 2) := by decide +kernel
theorem d_Mo_valueOf_63 : decode b_Mo_valueOf 63 = .ok (.iinc 4 1, 3) := by decide +kernel
theorem d_Mo_valueOf_66 : decode b_Mo_valueOf 66 = .ok (.iload 5, 2) := by decide +kernel
theorem d_Mo_valueOf_68 : decode b_Mo_valueOf 68 = .ok (.iload 9, 2) := by decide +kernel
theorem d_Mo_valueOf_70 : decode b_Mo_valueOf 70 = .ok (.iadd, 1) := by decide +kernel
theorem d_Mo_valueOf_71 : decode b_Mo_valueOf 71 = .ok (.istore 5, 2) := by decide +kernel
theorem d_Mo_valueOf_73 : decode b_Mo_valueOf 73 = .ok (.iload 9, 2) := by decide +kernel
theorem d_Mo_valueOf_75 : decode b_Mo_valueOf 75 = .ok (.iload 6, 2) := by decide +kernel
theorem d_Mo_valueOf_77 : decode b_Mo_valueOf 77 = .ok (.if_icmp .ge 8, 3) := by decide +kernel
theorem d_Mo_valueOf_80 : decode b_Mo_valueOf 80 = .ok (.iload 9, 2) := by decide +kernel
theorem d_Mo_valueOf_82 : decode b_Mo_valueOf 82 = .ok (.goto 5, 3) := by decide +kernel
theorem d_Mo_valueOf_85 : decode b_Mo_valueOf 85 = .ok (.iload 6, 2) := by decide +kernel
theorem d_Mo_valueOf_87 : decode b_Mo_valueOf 87 = .ok (.istore 6, 2) := by decide +kernel
theorem d_Mo_valueOf_89 : decode b_Mo_valueOf 89 = .ok (.iload 9, 2) := by decide +kernel
theorem d_Mo_valueOf_91 : decode b_Mo_valueOf 91 = .ok (.iload 7, 2) := by decide +kernel
theorem d_Mo_valueOf_93 : decode b_Mo_valueOf 93 = .ok (.if_icmp .le 8, 3) := by decide +kernel
theorem d_Mo_valueOf_96 : decode b_Mo_valueOf 96 = .ok (.iload 9, 2) := by decide +kernel
theorem d_Mo_valueOf_98 : decode b_Mo_valueOf 98 = .ok (.goto 5, 3) := by decide +kernel
theorem d_Mo_valueOf_101 : decode b_Mo_valueOf 101 = .ok (.iload 7, 2) := by decide +kernel
theorem d_Mo_valueOf_103 : decode b_Mo_valueOf 103 = .ok (.istore 7, 2) := by decide +kernel
theorem d_Mo_valueOf_105 : decode b_Mo_valueOf 105 = .ok (.iinc 8 1, 3) := by decide +kernel
theorem d_Mo_valueOf_108 : decode b_Mo_valueOf 108 = .ok (.goto (-91), 3) := by decide +kernel
theorem d_Mo_valueOf_111 : decode b_Mo_valueOf 111 = .ok (.iload 4, 2) := by decide +kernel
theorem d_Mo_valueOf_113 : decode b_Mo_valueOf 113 = .ok (.ifCond .ne 7, 3) := by decide +kernel
theorem d_Mo_valueOf_116 : decode b_Mo_valueOf 116 = .ok (.iconst (-1), 1) := by decide +kernel
theorem d_Mo_valueOf_117 : decode b_Mo_valueOf 117 = .ok (.goto 30, 3) := by decide +kernel
theorem d_Mo_valueOf_120 : decode b_Mo_valueOf 120 = .ok (.iload 4, 2) := by decide +kernel
theorem d_Mo_valueOf_122 : decode b_Mo_valueOf 122 = .ok (.iconst 3, 1) := by decide +kernel
theorem d_Mo_valueOf_123 : decode b_Mo_valueOf 123 = .ok (.if_icmp .ge 11, 3) := by decide +kernel
theorem d_Mo_valueOf_126 : decode b_Mo_valueOf 126 = .ok (.iload 5, 2) := by decide +kernel
theorem d_Mo_valueOf_128 : decode b_Mo_valueOf 128 = .ok (.iload 4, 2) := by decide +kernel
theorem d_Mo_valueOf_130 : decode b_Mo_valueOf 130 = .ok (.idiv, 1) := by decide +kernel
theorem d_Mo_valueOf_131 : decode b_Mo_valueOf 131 = .ok (.goto 16, 3) := by decide +kernel
theorem d_Mo_valueOf_134 : decode b_Mo_valueOf 134 = .ok (.iload 5, 2) := by decide +kernel
theorem d_Mo_valueOf_136 : decode b_Mo_valueOf 136 = .ok (.iload 6, 2) := by decide +kernel
theorem d_Mo_valueOf_138 : decode b_Mo_valueOf 138 = .ok (.isub, 1) := by decide +kernel
theorem d_Mo_valueOf_139 : decode b_Mo_valueOf 139 = .ok (.iload 7, 2) := by decide +kernel
theorem d_Mo_valueOf_141 : decode b_Mo_valueOf 141 = .ok (.isub, 1) := by decide +kernel
theorem d_Mo_valueOf_142 : decode b_Mo_valueOf 142 = .ok (.iload 4, 2) := by decide +kernel
theorem d_Mo_valueOf_144 : decode b_Mo_valueOf 144 = .ok (.iconst 2, 1) := by decide +kernel
theorem d_Mo_valueOf_145 : decode b_Mo_valueOf 145 = .ok (.isub, 1) := by decide +kernel
theorem d_Mo_valueOf_146 : decode b_Mo_valueOf 146 = .ok (.idiv, 1) := by decide +kernel
theorem d_Mo_valueOf_147 : decode b_Mo_valueOf 147 = .ok (.ireturn, 1) := by decide +kernel
theorem d_Mo_has_0 : decode b_Mo_has 0 = .ok (.aload_n 0, 1) := by decide +kernel
theorem d_Mo_has_1 : decode b_Mo_has 1 = .ok (.getfield 22, 3) := by decide +kernel
theorem d_Mo_has_4 : decode b_Mo_has 4 = .ok (.bipush 10, 2) := by decide +kernel
theorem d_Mo_has_6 : decode b_Mo_has 6 = .ok (.iload_n 1, 1) := by decide +kernel
theorem d_Mo_has_7 : decode b_Mo_has 7 = .ok (.imul, 1) := by decide +kernel
theorem d_Mo_has_8 : decode b_Mo_has 8 = .ok (.iload_n 2, 1) := by decide +kernel
theorem d_Mo_has_9 : decode b_Mo_has 9 = .ok (.iadd, 1) := by decide +kernel
theorem d_Mo_has_10 : decode b_Mo_has 10 = .ok (.iaload, 1) := by decide +kernel
theorem d_Mo_has_11 : decode b_Mo_has 11 = .ok (.istore 4, 2) := by decide +kernel
theorem d_Mo_has_13 : decode b_Mo_has 13 = .ok (.iload 4, 2) := by decide +kernel
theorem d_Mo_has_15 : decode b_Mo_has 15 = .ok (.iconst (-1), 1) := by decide +kernel
theorem d_Mo_has_16 : decode b_Mo_has 16 = .ok (.if_icmp .eq 26, 3) := by decide +kernel
theorem d_Mo_has_19 : decode b_Mo_has 19 = .ok (.iload_n 3, 1) := by decide +kernel
theorem d_Mo_has_20 : decode b_Mo_has 20 = .ok (.iload 4, 2) := by decide +kernel
theorem d_Mo_has_22 : decode b_Mo_has 22 = .ok (.if_icmp .lt 20, 3) := by decide +kernel
theorem d_Mo_has_25 : decode b_Mo_has 25 = .ok (.iload_n 3, 1) := by decide +kernel
theorem d_Mo_has_26 : decode b_Mo_has 26 = .ok (.iload 4, 2) := by decide +kernel
theorem d_Mo_has_28 : decode b_Mo_has 28 = .ok (.aload_n 0, 1) := by decide +kernel
theorem d_Mo_has_29 : decode b_Mo_has 29 = .ok (.getfield 13, 3) := by decide +kernel
theorem d_Mo_has_32 : decode b_Mo_has 32 = .ok (.iload_n 2, 1) := by decide +kernel
theorem d_Mo_has_33 : decode b_Mo_has 33 = .ok (.iaload, 1) := by decide +kernel
theorem d_Mo_has_34 : decode b_Mo_has 34 = .ok (.iadd, 1) := by decide +kernel
theorem d_Mo_has_35 : decode b_Mo_has 35 = .ok (.if_icmp .ge 7, 3) := by decide +kernel
theorem d_Mo_has_38 : decode b_Mo_has 38 = .ok (.iconst 1, 1) := by decide +kernel
theorem d_Mo_has_39 : decode b_Mo_has 39 = .ok (.goto 4, 3) := by decide +kernel
theorem d_Mo_has_42 : decode b_Mo_has 42 = .ok (.iconst 0, 1) := by decide +kernel
theorem d_Mo_has_43 : decode b_Mo_has 43 = .ok (.ireturn, 1) := by decide +kernel
theorem d_Mo_depth_0 : decode b_Mo_depth 0 = .ok (.aload_n 0, 1) := by decide +kernel
theorem d_Mo_depth_1 : decode b_Mo_depth 1 = .ok (.aload_n 0, 1) := by decide +kernel
theorem d_Mo_depth_2 : decode b_Mo_depth 2 = .ok (.iload_n 1, 1) := by decide +kernel
theorem d_Mo_depth_3 : decode b_Mo_depth 3 = .ok (.iload_n 2, 1) := by decide +kernel
theorem d_Mo_depth_4 : decode b_Mo_depth 4 = .ok (.invokevirtual 78, 3) := by decide +kernel
theorem d_Mo_depth_7 : decode b_Mo_depth 7 = .ok (.iconst 1, 1) := by decide +kernel
theorem d_Mo_depth_8 : decode b_Mo_depth 8 = .ok (.iconst 1, 1) := by decide +kernel
theorem d_Mo_depth_9 : decode b_Mo_depth 9 = .ok (.invokevirtual 60, 3) := by decide +kernel
theorem d_Mo_depth_12 : decode b_Mo_depth 12 = .ok (.ifCond .eq 13, 3) := by decide +kernel
theorem d_Mo_depth_15 : decode b_Mo_depth 15 = .ok (.aload_n 0, 1) := by decide +kernel
theorem d_Mo_depth_16 : decode b_Mo_depth 16 = .ok (.iload_n 1, 1) := by decide +kernel
theorem d_Mo_depth_17 : decode b_Mo_depth 17 = .ok (.iload_n 2, 1) := by decide +kernel
theorem d_Mo_depth_18 : decode b_Mo_depth 18 = .ok (.iconst (-1), 1) := by decide +kernel
theorem d_Mo_depth_19 : decode b_Mo_depth 19 = .ok (.invokevirtual 86, 3) := by decide +kernel
theorem d_Mo_depth_22 : decode b_Mo_depth 22 = .ok (.goto 4, 3) := by decide +kernel
theorem d_Mo_depth_25 : decode b_Mo_depth 25 = .ok (.iconst 0, 1) := by decide +kernel
theorem d_Mo_depth_26 : decode b_Mo_depth 26 = .ok (.ireturn, 1) := by decide +kernel
theorem d_Mo_depthOf_0 : decode b_Mo_depthOf 0 = .ok (.iconst 0, 1) := by decide +kernel
theorem d_Mo_depthOf_1 : decode b_Mo_depthOf 1 = .ok (.istore 4, 2) := by decide +kernel
theorem d_Mo_depthOf_3 : decode b_Mo_depthOf 3 = .ok (.iconst 0, 1) := by decide +kernel
theorem d_Mo_depthOf_4 : decode b_Mo_depthOf 4 = .ok (.istore 5, 2) := by decide +kernel
theorem d_Mo_depthOf_6 : decode b_Mo_depthOf 6 = .ok (.iload 5, 2) := by decide +kernel
theorem d_Mo_depthOf_8 : decode b_Mo_depthOf 8 = .ok (.bipush 10, 2) := by decide +kernel
theorem d_Mo_depthOf_10 : decode b_Mo_depthOf 10 = .ok (.if_icmp .ge 37, 3) := by decide +kernel
theorem d_Mo_depthOf_13 : decode b_Mo_depthOf 13 = .ok (.iload 5, 2) := by decide +kernel
theorem d_Mo_depthOf_15 : decode b_Mo_depthOf 15 = .ok (.iload_n 3, 1) := by decide +kernel
theorem d_Mo_depthOf_16 : decode b_Mo_depthOf 16 = .ok (.if_icmp .eq 21, 3) := by decide +kernel
theorem d_Mo_depthOf_19 : decode b_Mo_depthOf 19 = .ok (.aload_n 0, 1) := by decide +kernel
theorem d_Mo_depthOf_20 : decode b_Mo_depthOf 20 = .ok (.iload_n 1, 1) := by decide +kernel
theorem d_Mo_depthOf_21 : decode b_Mo_depthOf 21 = .ok (.iload 5, 2) := by decide +kernel
theorem d_Mo_depthOf_23 : decode b_Mo_depthOf 23 = .ok (.iload_n 2, 1) := by decide +kernel
theorem d_Mo_depthOf_24 : decode b_Mo_depthOf 24 = .ok (.invokevirtual 72, 3) := by decide +kernel
theorem d_Mo_depthOf_27 : decode b_Mo_depthOf 27 = .ok (.ifCond .eq 10, 3) := by decide +kernel
theorem d_Mo_depthOf_30 : decode b_Mo_depthOf 30 = .ok (.iload 4, 2) := by decide +kernel
theorem d_Mo_depthOf_32 : decode b_Mo_depthOf 32 = .ok (.iconst 1, 1) := by decide +kernel
theorem d_Mo_depthOf_33 : decode b_Mo_depthOf 33 = .ok (.iadd, 1) := by decide +kernel
theorem d_Mo_depthOf_34 : decode b_Mo_depthOf 34 = .ok (.goto 5, 3) := by decide +kernel
theorem d_Mo_depthOf_37 : decode b_Mo_depthOf 37 = .ok (.iload 4, 2) := by decide +kernel
theorem d_Mo_depthOf_39 : decode b_Mo_depthOf 39 = .ok (.istore 4, 2) := by decide +kernel
theorem d_Mo_depthOf_41 : decode b_Mo_depthOf 41 = .ok (.iinc 5 1, 3) := by decide +kernel
theorem d_Mo_depthOf_44 : decode b_Mo_depthOf 44 = .ok (.goto (-38), 3) := by decide +kernel
theorem d_Mo_depthOf_47 : decode b_Mo_depthOf 47 = .ok (.iload 4, 2) := by decide +kernel
theorem d_Mo_depthOf_49 : decode b_Mo_depthOf 49 = .ok (.ireturn, 1) := by decide +kernel
theorem d_Mo_leftOut_0 : decode b_Mo_leftOut 0 = .ok (.aload_n 0, 1) := by decide +kernel
theorem d_Mo_leftOut_1 : decode b_Mo_leftOut 1 = .ok (.iload_n 1, 1) := by decide +kernel
theorem d_Mo_leftOut_2 : decode b_Mo_leftOut 2 = .ok (.invokevirtual 75, 3) := by decide +kernel
theorem d_Mo_leftOut_5 : decode b_Mo_leftOut 5 = .ok (.ifCond .eq 50, 3) := by decide +kernel
theorem d_Mo_leftOut_8 : decode b_Mo_leftOut 8 = .ok (.aload_n 0, 1) := by decide +kernel
theorem d_Mo_leftOut_9 : decode b_Mo_leftOut 9 = .ok (.iload_n 2, 1) := by decide +kernel
theorem d_Mo_leftOut_10 : decode b_Mo_leftOut 10 = .ok (.invokevirtual 64, 3) := by decide +kernel
theorem d_Mo_leftOut_13 : decode b_Mo_leftOut 13 = .ok (.ifCond .eq 42, 3) := by decide +kernel
theorem d_Mo_leftOut_16 : decode b_Mo_leftOut 16 = .ok (.aload_n 0, 1) := by decide +kernel
theorem d_Mo_leftOut_17 : decode b_Mo_leftOut 17 = .ok (.getfield 22, 3) := by decide +kernel
theorem d_Mo_leftOut_20 : decode b_Mo_leftOut 20 = .ok (.aload_n 0, 1) := by decide +kernel
theorem d_Mo_leftOut_21 : decode b_Mo_leftOut 21 = .ok (.iload_n 1, 1) := by decide +kernel
theorem d_Mo_leftOut_22 : decode b_Mo_leftOut 22 = .ok (.invokevirtual 75, 3) := by decide +kernel
theorem d_Mo_leftOut_25 : decode b_Mo_leftOut 25 = .ok (.ifCond .eq 20, 3) := by decide +kernel
theorem d_Mo_leftOut_28 : decode b_Mo_leftOut 28 = .ok (.aload_n 0, 1) := by decide +kernel
theorem d_Mo_leftOut_29 : decode b_Mo_leftOut 29 = .ok (.iload_n 2, 1) := by decide +kernel
theorem d_Mo_leftOut_30 : decode b_Mo_leftOut 30 = .ok (.invokevirtual 64, 3) := by decide +kernel
theorem d_Mo_leftOut_33 : decode b_Mo_leftOut 33 = .ok (.ifCond .eq 12, 3) := by decide +kernel
theorem d_Mo_leftOut_36 : decode b_Mo_leftOut 36 = .ok (.bipush 10, 2) := by decide +kernel
theorem d_Mo_leftOut_38 : decode b_Mo_leftOut 38 = .ok (.iload_n 1, 1) := by decide +kernel
theorem d_Mo_leftOut_39 : decode b_Mo_leftOut 39 = .ok (.imul, 1) := by decide +kernel
theorem d_Mo_leftOut_40 : decode b_Mo_leftOut 40 = .ok (.iload_n 2, 1) := by decide +kernel
theorem d_Mo_leftOut_41 : decode b_Mo_leftOut 41 = .ok (.iadd, 1) := by decide +kernel
theorem d_Mo_leftOut_42 : decode b_Mo_leftOut 42 = .ok (.goto 4, 3) := by decide +kernel
theorem d_Mo_leftOut_45 : decode b_Mo_leftOut 45 = .ok (.iconst 0, 1) := by decide +kernel
theorem d_Mo_leftOut_46 : decode b_Mo_leftOut 46 = .ok (.iaload, 1) := by decide +kernel
theorem d_Mo_leftOut_47 : decode b_Mo_leftOut 47 = .ok (.iconst (-1), 1) := by decide +kernel
theorem d_Mo_leftOut_48 : decode b_Mo_leftOut 48 = .ok (.if_icmp .eq 7, 3) := by decide +kernel
theorem d_Mo_leftOut_51 : decode b_Mo_leftOut 51 = .ok (.iconst 1, 1) := by decide +kernel
theorem d_Mo_leftOut_52 : decode b_Mo_leftOut 52 = .ok (.goto 4, 3) := by decide +kernel
theorem d_Mo_leftOut_55 : decode b_Mo_leftOut 55 = .ok (.iconst 0, 1) := by decide +kernel
theorem d_Mo_leftOut_56 : decode b_Mo_leftOut 56 = .ok (.istore 4, 2) := by decide +kernel
theorem d_Mo_leftOut_58 : decode b_Mo_leftOut 58 = .ok (.aload_n 0, 1) := by decide +kernel
theorem d_Mo_leftOut_59 : decode b_Mo_leftOut 59 = .ok (.iload 4, 2) := by decide +kernel
theorem d_Mo_leftOut_61 : decode b_Mo_leftOut 61 = .ok (.ifCond .eq 16, 3) := by decide +kernel
theorem d_Mo_leftOut_64 : decode b_Mo_leftOut 64 = .ok (.iload_n 3, 1) := by decide +kernel
theorem d_Mo_leftOut_65 : decode b_Mo_leftOut 65 = .ok (.iconst 0, 1) := by decide +kernel
theorem d_Mo_leftOut_66 : decode b_Mo_leftOut 66 = .ok (.iconst 1, 1) := by decide +kernel
theorem d_Mo_leftOut_67 : decode b_Mo_leftOut 67 = .ok (.invokestatic 50, 3) := by decide +kernel
theorem d_Mo_leftOut_70 : decode b_Mo_leftOut 70 = .ok (.ifCond .eq 7, 3) := by decide +kernel
theorem d_Mo_leftOut_73 : decode b_Mo_leftOut 73 = .ok (.iconst 1, 1) := by decide +kernel
theorem d_Mo_leftOut_74 : decode b_Mo_leftOut 74 = .ok (.goto 4, 3) := by decide +kernel
theorem d_Mo_leftOut_77 : decode b_Mo_leftOut 77 = .ok (.iconst 0, 1) := by decide +kernel
theorem d_Mo_leftOut_78 : decode b_Mo_leftOut 78 = .ok (.iconst 1, 1) := by decide +kernel
theorem d_Mo_leftOut_79 : decode b_Mo_leftOut 79 = .ok (.iconst 1, 1) := by decide +kernel
theorem d_Mo_leftOut_80 : decode b_Mo_leftOut 80 = .ok (.invokevirtual 60, 3) := by decide +kernel
theorem d_Mo_leftOut_83 : decode b_Mo_leftOut 83 = .ok (.ifCond .ne 5, 3) := by decide +kernel
theorem d_Mo_leftOut_86 : decode b_Mo_leftOut 86 = .ok (.iconst 0, 1) := by decide +kernel
theorem d_Mo_leftOut_87 : decode b_Mo_leftOut 87 = .ok (.ireturn, 1) := by decide +kernel
theorem d_Mo_leftOut_88 : decode b_Mo_leftOut 88 = .ok (.aload_n 0, 1) := by decide +kernel
theorem d_Mo_leftOut_89 : decode b_Mo_leftOut 89 = .ok (.iload_n 2, 1) := by decide +kernel
theorem d_Mo_leftOut_90 : decode b_Mo_leftOut 90 = .ok (.iload_n 1, 1) := by decide +kernel
theorem d_Mo_leftOut_91 : decode b_Mo_leftOut 91 = .ok (.aload_n 0, 1) := by decide +kernel
theorem d_Mo_leftOut_92 : decode b_Mo_leftOut 92 = .ok (.getfield 22, 3) := by decide +kernel
theorem d_Mo_leftOut_95 : decode b_Mo_leftOut 95 = .ok (.bipush 10, 2) := by decide +kernel
theorem d_Mo_leftOut_97 : decode b_Mo_leftOut 97 = .ok (.iload_n 1, 1) := by decide +kernel
theorem d_Mo_leftOut_98 : decode b_Mo_leftOut 98 = .ok (.imul, 1) := by decide +kernel
theorem d_Mo_leftOut_99 : decode b_Mo_leftOut 99 = .ok (.iload_n 2, 1) := by decide +kernel
theorem d_Mo_leftOut_100 : decode b_Mo_leftOut 100 = .ok (.iadd, 1) := by decide +kernel
theorem d_Mo_leftOut_101 : decode b_Mo_leftOut 101 = .ok (.iaload, 1) := by decide +kernel
theorem d_Mo_leftOut_102 : decode b_Mo_leftOut 102 = .ok (.iload_n 2, 1) := by decide +kernel
theorem d_Mo_leftOut_103 : decode b_Mo_leftOut 103 = .ok (.invokevirtual 95, 3) := by decide +kernel
theorem d_Mo_leftOut_106 : decode b_Mo_leftOut 106 = .ok (.iload_n 3, 1) := by decide +kernel
theorem d_Mo_leftOut_107 : decode b_Mo_leftOut 107 = .ok (.ifCond .ne 10, 3) := by decide +kernel
theorem d_Mo_leftOut_110 : decode b_Mo_leftOut 110 = .ok (.aload_n 0, 1) := by decide +kernel
theorem d_Mo_leftOut_111 : decode b_Mo_leftOut 111 = .ok (.getfield 89, 3) := by decide +kernel
theorem d_Mo_leftOut_114 : decode b_Mo_leftOut 114 = .ok (.goto 7, 3) := by decide +kernel
theorem d_Mo_leftOut_117 : decode b_Mo_leftOut 117 = .ok (.aload_n 0, 1) := by decide +kernel
theorem d_Mo_leftOut_118 : decode b_Mo_leftOut 118 = .ok (.getfield 92, 3) := by decide +kernel
theorem d_Mo_leftOut_121 : decode b_Mo_leftOut 121 = .ok (.ireturn, 1) := by decide +kernel
theorem d_Mo_measure_0 : decode b_Mo_measure 0 = .ok (.aload_n 0, 1) := by decide +kernel
theorem d_Mo_measure_1 : decode b_Mo_measure 1 = .ok (.iconst 0, 1) := by decide +kernel
theorem d_Mo_measure_2 : decode b_Mo_measure 2 = .ok (.putfield 89, 3) := by decide +kernel
theorem d_Mo_measure_5 : decode b_Mo_measure 5 = .ok (.aload_n 0, 1) := by decide +kernel
theorem d_Mo_measure_6 : decode b_Mo_measure 6 = .ok (.iconst 0, 1) := by decide +kernel
theorem d_Mo_measure_7 : decode b_Mo_measure 7 = .ok (.putfield 92, 3) := by decide +kernel
theorem d_Mo_measure_10 : decode b_Mo_measure 10 = .ok (.iconst 0, 1) := by decide +kernel
theorem d_Mo_measure_11 : decode b_Mo_measure 11 = .ok (.istore 5, 2) := by decide +kernel
theorem d_Mo_measure_13 : decode b_Mo_measure 13 = .ok (.iload 5, 2) := by decide +kernel
theorem d_Mo_measure_15 : decode b_Mo_measure 15 = .ok (.aload_n 0, 1) := by decide +kernel
theorem d_Mo_measure_16 : decode b_Mo_measure 16 = .ok (.getfield 13, 3) := by decide +kernel
theorem d_Mo_measure_19 : decode b_Mo_measure 19 = .ok (.iload_n 1, 1) := by decide +kernel
theorem d_Mo_measure_20 : decode b_Mo_measure 20 = .ok (.iaload, 1) := by decide +kernel
theorem d_Mo_measure_21 : decode b_Mo_measure 21 = .ok (.if_icmp .ge 105, 3) := by decide +kernel
theorem d_Mo_measure_24 : decode b_Mo_measure 24 = .ok (.iload_n 3, 1) := by decide +kernel
theorem d_Mo_measure_25 : decode b_Mo_measure 25 = .ok (.bipush (-100), 2) := by decide +kernel
theorem d_Mo_measure_27 : decode b_Mo_measure 27 = .ok (.if_icmp .lt 14, 3) := by decide +kernel
theorem d_Mo_measure_30 : decode b_Mo_measure 30 = .ok (.iload_n 3, 1) := by decide +kernel
theorem d_Mo_measure_31 : decode b_Mo_measure 31 = .ok (.sipush 600, 3) := by decide +kernel
theorem d_Mo_measure_34 : decode b_Mo_measure 34 = .ok (.if_icmp .gt 7, 3) := by decide +kernel
theorem d_Mo_measure_37 : decode b_Mo_measure 37 = .ok (.iconst 1, 1) := by decide +kernel
theorem d_Mo_measure_38 : decode b_Mo_measure 38 = .ok (.goto 4, 3) := by decide +kernel
theorem d_Mo_measure_41 : decode b_Mo_measure 41 = .ok (.iconst 0, 1) := by decide +kernel
