theorem dL_types_161 : decode cL_types 161 = .ok (.goto 50, 3) := by decide +kernel
theorem dL_types_164 : decode cL_types 164 = .ok (.iload 8, 2) := by decide +kernel
theorem dL_types_166 : decode cL_types 166 = .ok (.iconst 3, 1) := by decide +kernel
theorem dL_types_167 : decode cL_types 167 = .ok (.if_icmp .ne 7, 3) := by decide +kernel
theorem dL_types_170 : decode cL_types 170 = .ok (.iconst 5, 1) := by decide +kernel
theorem dL_types_171 : decode cL_types 171 = .ok (.goto 40, 3) := by decide +kernel
theorem dL_types_174 : decode cL_types 174 = .ok (.iload 8, 2) := by decide +kernel
theorem dL_types_176 : decode cL_types 176 = .ok (.iconst 4, 1) := by decide +kernel
theorem dL_types_177 : decode cL_types 177 = .ok (.if_icmp .ne 8, 3) := by decide +kernel
theorem dL_types_180 : decode cL_types 180 = .ok (.bipush 10, 2) := by decide +kernel
theorem dL_types_182 : decode cL_types 182 = .ok (.goto 29, 3) := by decide +kernel
theorem dL_types_185 : decode cL_types 185 = .ok (.iconst 3, 1) := by decide +kernel
theorem dL_types_186 : decode cL_types 186 = .ok (.goto 25, 3) := by decide +kernel
theorem dL_types_189 : decode cL_types 189 = .ok (.iload 6, 2) := by decide +kernel
theorem dL_types_191 : decode cL_types 191 = .ok (.iconst 4, 1) := by decide +kernel
theorem dL_types_192 : decode cL_types 192 = .ok (.if_icmp .ge 18, 3) := by decide +kernel
theorem dL_types_195 : decode cL_types 195 = .ok (.iload 8, 2) := by decide +kernel
theorem dL_types_197 : decode cL_types 197 = .ok (.ifCond .ne 8, 3) := by decide +kernel
theorem dL_types_200 : decode cL_types 200 = .ok (.bipush 30, 2) := by decide +kernel
theorem dL_types_202 : decode cL_types 202 = .ok (.goto 9, 3) := by decide +kernel
theorem dL_types_205 : decode cL_types 205 = .ok (.bipush 60, 2) := by decide +kernel
theorem dL_types_207 : decode cL_types 207 = .ok (.goto 4, 3) := by decide +kernel
theorem dL_types_210 : decode cL_types 210 = .ok (.iconst 4, 1) := by decide +kernel
theorem dL_types_211 : decode cL_types 211 = .ok (.istore 9, 2) := by decide +kernel
theorem dL_types_213 : decode cL_types 213 = .ok (.iload_n 3, 1) := by decide +kernel
theorem dL_types_214 : decode cL_types 214 = .ok (.ifCond .eq 42, 3) := by decide +kernel
theorem dL_types_217 : decode cL_types 217 = .ok (.iload 8, 2) := by decide +kernel
theorem dL_types_219 : decode cL_types 219 = .ok (.ifCond .eq 12, 3) := by decide +kernel
theorem dL_types_222 : decode cL_types 222 = .ok (.aload_n 0, 1) := by decide +kernel
theorem dL_types_223 : decode cL_types 223 = .ok (.bipush 44, 2) := by decide +kernel
theorem dL_types_225 : decode cL_types 225 = .ok (.invokevirtual 44, 3) := by decide +kernel
theorem dL_types_228 : decode cL_types 228 = .ok (.ifCond .le 28, 3) := by decide +kernel
theorem dL_types_231 : decode cL_types 231 = .ok (.aload_n 0, 1) := by decide +kernel
theorem dL_types_232 : decode cL_types 232 = .ok (.iload 5, 2) := by decide +kernel
theorem dL_types_234 : decode cL_types 234 = .ok (.iconst 1, 1) := by decide +kernel
theorem dL_types_235 : decode cL_types 235 = .ok (.iconst 2, 1) := by decide +kernel
theorem dL_types_236 : decode cL_types 236 = .ok (.iload 8, 2) := by decide +kernel
theorem dL_types_238 : decode cL_types 238 = .ok (.imul, 1) := by decide +kernel
theorem dL_types_239 : decode cL_types 239 = .ok (.iadd, 1) := by decide +kernel
theorem dL_types_240 : decode cL_types 240 = .ok (.ishr, 1) := by decide +kernel
theorem dL_types_241 : decode cL_types 241 = .ok (.iload 9, 2) := by decide +kernel
theorem dL_types_243 : decode cL_types 243 = .ok (.invokestatic 32, 3) := by decide +kernel
theorem dL_types_246 : decode cL_types 246 = .ok (.invokestatic 51, 3) := by decide +kernel
theorem dL_types_249 : decode cL_types 249 = .ok (.ifCond .eq 7, 3) := by decide +kernel
theorem dL_types_252 : decode cL_types 252 = .ok (.iconst 1, 1) := by decide +kernel
theorem dL_types_253 : decode cL_types 253 = .ok (.goto 4, 3) := by decide +kernel
theorem dL_types_256 : decode cL_types 256 = .ok (.iconst 0, 1) := by decide +kernel
theorem dL_types_257 : decode cL_types 257 = .ok (.istore_n 3, 1) := by decide +kernel
theorem dL_types_258 : decode cL_types 258 = .ok (.iinc 8 1, 3) := by decide +kernel
theorem dL_types_261 : decode cL_types 261 = .ok (.goto (-121), 3) := by decide +kernel
theorem dL_types_264 : decode cL_types 264 = .ok (.iload_n 3, 1) := by decide +kernel
theorem dL_types_265 : decode cL_types 265 = .ok (.ifCond .eq 53, 3) := by decide +kernel
theorem dL_types_268 : decode cL_types 268 = .ok (.iload_n 1, 1) := by decide +kernel
theorem dL_types_269 : decode cL_types 269 = .ok (.bipush 24, 2) := by decide +kernel
theorem dL_types_271 : decode cL_types 271 = .ok (.ishr, 1) := by decide +kernel
theorem dL_types_272 : decode cL_types 272 = .ok (.bipush 6, 2) := by decide +kernel
theorem dL_types_274 : decode cL_types 274 = .ok (.invokestatic 32, 3) := by decide +kernel
theorem dL_types_277 : decode cL_types 277 = .ok (.ifCond .ne 11, 3) := by decide +kernel
theorem dL_types_280 : decode cL_types 280 = .ok (.iload 4, 2) := by decide +kernel
theorem dL_types_282 : decode cL_types 282 = .ok (.iload_n 2, 1) := by decide +kernel
theorem dL_types_283 : decode cL_types 283 = .ok (.iconst 1, 1) := by decide +kernel
theorem dL_types_284 : decode cL_types 284 = .ok (.isub, 1) := by decide +kernel
theorem dL_types_285 : decode cL_types 285 = .ok (.if_icmp .eq 29, 3) := by decide +kernel
theorem dL_types_288 : decode cL_types 288 = .ok (.aload_n 0, 1) := by decide +kernel
theorem dL_types_289 : decode cL_types 289 = .ok (.iload_n 1, 1) := by decide +kernel
theorem dL_types_290 : decode cL_types 290 = .ok (.bipush 20, 2) := by decide +kernel
theorem dL_types_292 : decode cL_types 292 = .ok (.ishr, 1) := by decide +kernel
theorem dL_types_293 : decode cL_types 293 = .ok (.bipush 11, 2) := by decide +kernel
theorem dL_types_295 : decode cL_types 295 = .ok (.invokestatic 32, 3) := by decide +kernel
theorem dL_types_298 : decode cL_types 298 = .ok (.ifCond .ne 8, 3) := by decide +kernel
theorem dL_types_301 : decode cL_types 301 = .ok (.bipush 46, 2) := by decide +kernel
theorem dL_types_303 : decode cL_types 303 = .ok (.goto 5, 3) := by decide +kernel
theorem dL_types_306 : decode cL_types 306 = .ok (.bipush 59, 2) := by decide +kernel
theorem dL_types_308 : decode cL_types 308 = .ok (.invokevirtual 44, 3) := by decide +kernel
theorem dL_types_311 : decode cL_types 311 = .ok (.ifCond .le 7, 3) := by decide +kernel
theorem dL_types_314 : decode cL_types 314 = .ok (.iconst 1, 1) := by decide +kernel
theorem dL_types_315 : decode cL_types 315 = .ok (.goto 4, 3) := by decide +kernel
theorem dL_types_318 : decode cL_types 318 = .ok (.iconst 0, 1) := by decide +kernel
theorem dL_types_319 : decode cL_types 319 = .ok (.istore_n 3, 1) := by decide +kernel
theorem dL_types_320 : decode cL_types 320 = .ok (.iinc 4 1, 3) := by decide +kernel
theorem dL_types_323 : decode cL_types 323 = .ok (.goto (-301), 3) := by decide +kernel
theorem dL_types_326 : decode cL_types 326 = .ok (.iload_n 3, 1) := by decide +kernel
theorem dL_types_327 : decode cL_types 327 = .ok (.ireturn, 1) := by decide +kernel
theorem dL_reads_0 : decode cL_reads 0 = .ok (.aload_n 0, 1) := by decide +kernel
theorem dL_reads_1 : decode cL_reads 1 = .ok (.iconst 0, 1) := by decide +kernel
theorem dL_reads_2 : decode cL_reads 2 = .ok (.invokevirtual 55, 3) := by decide +kernel
theorem dL_reads_5 : decode cL_reads 5 = .ok (.istore_n 1, 1) := by decide +kernel
theorem dL_reads_6 : decode cL_reads 6 = .ok (.aload_n 0, 1) := by decide +kernel
theorem dL_reads_7 : decode cL_reads 7 = .ok (.iconst 1, 1) := by decide +kernel
theorem dL_reads_8 : decode cL_reads 8 = .ok (.invokevirtual 55, 3) := by decide +kernel
theorem dL_reads_11 : decode cL_reads 11 = .ok (.istore_n 2, 1) := by decide +kernel
theorem dL_reads_12 : decode cL_reads 12 = .ok (.aload_n 0, 1) := by decide +kernel
theorem dL_reads_13 : decode cL_reads 13 = .ok (.iconst 2, 1) := by decide +kernel
theorem dL_reads_14 : decode cL_reads 14 = .ok (.invokevirtual 55, 3) := by decide +kernel
theorem dL_reads_17 : decode cL_reads 17 = .ok (.istore_n 3, 1) := by decide +kernel
theorem dL_reads_18 : decode cL_reads 18 = .ok (.aload_n 0, 1) := by decide +kernel
theorem dL_reads_19 : decode cL_reads 19 = .ok (.bipush 9, 2) := by decide +kernel
theorem dL_reads_21 : decode cL_reads 21 = .ok (.invokevirtual 13, 3) := by decide +kernel
theorem dL_reads_24 : decode cL_reads 24 = .ok (.istore 4, 2) := by decide +kernel
theorem dL_reads_26 : decode cL_reads 26 = .ok (.aload_n 0, 1) := by decide +kernel
theorem dL_reads_27 : decode cL_reads 27 = .ok (.invokevirtual 58, 3) := by decide +kernel
theorem dL_reads_30 : decode cL_reads 30 = .ok (.istore 5, 2) := by decide +kernel
theorem dL_reads_32 : decode cL_reads 32 = .ok (.iload_n 1, 1) := by decide +kernel
theorem dL_reads_33 : decode cL_reads 33 = .ok (.ldc 37, 2) := by decide +kernel
theorem dL_reads_35 : decode cL_reads 35 = .ok (.if_icmp .ne 33, 3) := by decide +kernel
theorem dL_reads_38 : decode cL_reads 38 = .ok (.iload_n 2, 1) := by decide +kernel
theorem dL_reads_39 : decode cL_reads 39 = .ok (.ldc 37, 2) := by decide +kernel
theorem dL_reads_41 : decode cL_reads 41 = .ok (.if_icmp .ne 27, 3) := by decide +kernel
theorem dL_reads_44 : decode cL_reads 44 = .ok (.iload_n 3, 1) := by decide +kernel
theorem dL_reads_45 : decode cL_reads 45 = .ok (.ldc 37, 2) := by decide +kernel
theorem dL_reads_47 : decode cL_reads 47 = .ok (.if_icmp .ne 21, 3) := by decide +kernel
theorem dL_reads_50 : decode cL_reads 50 = .ok (.iload 5, 2) := by decide +kernel
theorem dL_reads_52 : decode cL_reads 52 = .ok (.ifCond .lt 16, 3) := by decide +kernel
theorem dL_reads_55 : decode cL_reads 55 = .ok (.iconst 3, 1) := by decide +kernel
theorem dL_reads_56 : decode cL_reads 56 = .ok (.iload 5, 2) := by decide +kernel
theorem dL_reads_58 : decode cL_reads 58 = .ok (.imul, 1) := by decide +kernel
theorem dL_reads_59 : decode cL_reads 59 = .ok (.iload 4, 2) := by decide +kernel
theorem dL_reads_61 : decode cL_reads 61 = .ok (.if_icmp .gt 7, 3) := by decide +kernel
theorem dL_reads_64 : decode cL_reads 64 = .ok (.iconst 1, 1) := by decide +kernel
theorem dL_reads_65 : decode cL_reads 65 = .ok (.goto 4, 3) := by decide +kernel
theorem dL_reads_68 : decode cL_reads 68 = .ok (.iconst 0, 1) := by decide +kernel
theorem dL_reads_69 : decode cL_reads 69 = .ok (.istore 6, 2) := by decide +kernel
theorem dL_reads_71 : decode cL_reads 71 = .ok (.iload_n 1, 1) := by decide +kernel
theorem dL_reads_72 : decode cL_reads 72 = .ok (.ifCond .lt 54, 3) := by decide +kernel
theorem dL_reads_75 : decode cL_reads 75 = .ok (.iload_n 1, 1) := by decide +kernel
theorem dL_reads_76 : decode cL_reads 76 = .ok (.iload 4, 2) := by decide +kernel
theorem dL_reads_78 : decode cL_reads 78 = .ok (.if_icmp .ge 48, 3) := by decide +kernel
theorem dL_reads_81 : decode cL_reads 81 = .ok (.iload 5, 2) := by decide +kernel
theorem dL_reads_83 : decode cL_reads 83 = .ok (.ldc 61, 2) := by decide +kernel
theorem dL_reads_85 : decode cL_reads 85 = .ok (.if_icmp .ne 41, 3) := by decide +kernel
theorem dL_reads_88 : decode cL_reads 88 = .ok (.iload_n 2, 1) := by decide +kernel
theorem dL_reads_89 : decode cL_reads 89 = .ok (.iconst 1, 1) := by decide +kernel
theorem dL_reads_90 : decode cL_reads 90 = .ok (.if_icmp .ne 15, 3) := by decide +kernel
theorem dL_reads_93 : decode cL_reads 93 = .ok (.iload_n 3, 1) := by decide +kernel
theorem dL_reads_94 : decode cL_reads 94 = .ok (.ifCond .lt 11, 3) := by decide +kernel
theorem dL_reads_97 : decode cL_reads 97 = .ok (.iload_n 1, 1) := by decide +kernel
theorem dL_reads_98 : decode cL_reads 98 = .ok (.iload_n 3, 1) := by decide +kernel
theorem dL_reads_99 : decode cL_reads 99 = .ok (.iadd, 1) := by decide +kernel
theorem dL_reads_100 : decode cL_reads 100 = .ok (.iload 4, 2) := by decide +kernel
theorem dL_reads_102 : decode cL_reads 102 = .ok (.if_icmp .le 20, 3) := by decide +kernel
theorem dL_reads_105 : decode cL_reads 105 = .ok (.iload_n 2, 1) := by decide +kernel
theorem dL_reads_106 : decode cL_reads 106 = .ok (.iconst 2, 1) := by decide +kernel
theorem dL_reads_107 : decode cL_reads 107 = .ok (.if_icmp .ne 19, 3) := by decide +kernel
theorem dL_reads_110 : decode cL_reads 110 = .ok (.iload_n 3, 1) := by decide +kernel
theorem dL_reads_111 : decode cL_reads 111 = .ok (.ldc 62, 2) := by decide +kernel
theorem dL_reads_113 : decode cL_reads 113 = .ok (.if_icmp .gt 13, 3) := by decide +kernel
theorem dL_reads_116 : decode cL_reads 116 = .ok (.iload_n 3, 1) := by decide +kernel
theorem dL_reads_117 : decode cL_reads 117 = .ok (.ldc 37, 2) := by decide +kernel
theorem dL_reads_119 : decode cL_reads 119 = .ok (.if_icmp .le 7, 3) := by decide +kernel
theorem dL_reads_122 : decode cL_reads 122 = .ok (.iconst 1, 1) := by decide +kernel
theorem dL_reads_123 : decode cL_reads 123 = .ok (.goto 4, 3) := by decide +kernel
theorem dL_reads_126 : decode cL_reads 126 = .ok (.iconst 0, 1) := by decide +kernel
theorem dL_reads_127 : decode cL_reads 127 = .ok (.istore 7, 2) := by decide +kernel
theorem dL_reads_129 : decode cL_reads 129 = .ok (.iload 6, 2) := by decide +kernel
theorem dL_reads_131 : decode cL_reads 131 = .ok (.ifCond .ne 8, 3) := by decide +kernel
theorem dL_reads_134 : decode cL_reads 134 = .ok (.iload 7, 2) := by decide +kernel
theorem dL_reads_136 : decode cL_reads 136 = .ok (.ifCond .eq 18, 3) := by decide +kernel
theorem dL_reads_139 : decode cL_reads 139 = .ok (.aload_n 0, 1) := by decide +kernel
theorem dL_reads_140 : decode cL_reads 140 = .ok (.bipush 9, 2) := by decide +kernel
theorem dL_reads_142 : decode cL_reads 142 = .ok (.invokevirtual 13, 3) := by decide +kernel
theorem dL_reads_145 : decode cL_reads 145 = .ok (.iload 4, 2) := by decide +kernel
theorem dL_reads_147 : decode cL_reads 147 = .ok (.if_icmp .ne 7, 3) := by decide +kernel
theorem dL_reads_150 : decode cL_reads 150 = .ok (.iconst 1, 1) := by decide +kernel
theorem dL_reads_151 : decode cL_reads 151 = .ok (.goto 4, 3) := by decide +kernel
theorem dL_reads_154 : decode cL_reads 154 = .ok (.iconst 0, 1) := by decide +kernel
theorem dL_reads_155 : decode cL_reads 155 = .ok (.ireturn, 1) := by decide +kernel
theorem dL_acts_0 : decode cL_acts 0 = .ok (.iload_n 1, 1) := by decide +kernel
theorem dL_acts_1 : decode cL_acts 1 = .ok (.bipush 18, 2) := by decide +kernel
theorem dL_acts_3 : decode cL_acts 3 = .ok (.invokestatic 32, 3) := by decide +kernel
theorem dL_acts_6 : decode cL_acts 6 = .ok (.istore_n 3, 1) := by decide +kernel
theorem dL_acts_7 : decode cL_acts 7 = .ok (.aload_n 0, 1) := by decide +kernel
theorem dL_acts_8 : decode cL_acts 8 = .ok (.iconst 0, 1) := by decide +kernel
theorem dL_acts_9 : decode cL_acts 9 = .ok (.invokevirtual 13, 3) := by decide +kernel
theorem dL_acts_12 : decode cL_acts 12 = .ok (.istore 4, 2) := by decide +kernel
theorem dL_acts_14 : decode cL_acts 14 = .ok (.iload_n 1, 1) := by decide +kernel
theorem dL_acts_15 : decode cL_acts 15 = .ok (.iconst 5, 1) := by decide +kernel
theorem dL_acts_16 : decode cL_acts 16 = .ok (.ishr, 1) := by decide +kernel
theorem dL_acts_17 : decode cL_acts 17 = .ok (.iload 4, 2) := by decide +kernel
theorem dL_acts_19 : decode cL_acts 19 = .ok (.iconst 1, 1) := by decide +kernel
theorem dL_acts_20 : decode cL_acts 20 = .ok (.iadd, 1) := by decide +kernel
theorem dL_acts_21 : decode cL_acts 21 = .ok (.invokestatic 32, 3) := by decide +kernel
theorem dL_acts_24 : decode cL_acts 24 = .ok (.istore 5, 2) := by decide +kernel
theorem dL_acts_26 : decode cL_acts 26 = .ok (.iload 5, 2) := by decide +kernel
theorem dL_acts_28 : decode cL_acts 28 = .ok (.iload 4, 2) := by decide +kernel
theorem dL_acts_30 : decode cL_acts 30 = .ok (.if_icmp .ge 7, 3) := by decide +kernel
theorem dL_acts_33 : decode cL_acts 33 = .ok (.iconst 1, 1) := by decide +kernel
theorem dL_acts_34 : decode cL_acts 34 = .ok (.goto 4, 3) := by decide +kernel
theorem dL_acts_37 : decode cL_acts 37 = .ok (.iconst 0, 1) := by decide +kernel
theorem dL_acts_38 : decode cL_acts 38 = .ok (.istore 6, 2) := by decide +kernel
theorem dL_acts_40 : decode cL_acts 40 = .ok (.iload 6, 2) := by decide +kernel
theorem dL_acts_42 : decode cL_acts 42 = .ok (.ifCond .eq 14, 3) := by decide +kernel
theorem dL_acts_45 : decode cL_acts 45 = .ok (.aload_n 0, 1) := by decide +kernel
theorem dL_acts_46 : decode cL_acts 46 = .ok (.iload 5, 2) := by decide +kernel
theorem dL_acts_48 : decode cL_acts 48 = .ok (.bipush 6, 2) := by decide +kernel
theorem dL_acts_50 : decode cL_acts 50 = .ok (.invokevirtual 19, 3) := by decide +kernel
theorem dL_acts_53 : decode cL_acts 53 = .ok (.goto 4, 3) := by decide +kernel
theorem dL_acts_56 : decode cL_acts 56 = .ok (.iconst 0, 1) := by decide +kernel
theorem dL_acts_57 : decode cL_acts 57 = .ok (.istore 7, 2) := by decide +kernel
theorem dL_acts_59 : decode cL_acts 59 = .ok (.iload_n 3, 1) := by decide +kernel
theorem dL_acts_60 : decode cL_acts 60 = .ok (.iconst 3, 1) := by decide +kernel
theorem dL_acts_61 : decode cL_acts 61 = .ok (.if_icmp .ge 153, 3) := by decide +kernel
theorem dL_acts_64 : decode cL_acts 64 = .ok (.iload_n 2, 1) := by decide +kernel
theorem dL_acts_65 : decode cL_acts 65 = .ok (.bipush 101, 2) := by decide +kernel
theorem dL_acts_67 : decode cL_acts 67 = .ok (.invokestatic 32, 3) := by decide +kernel
theorem dL_acts_70 : decode cL_acts 70 = .ok (.istore 8, 2) := by decide +kernel
theorem dL_acts_72 : decode cL_acts 72 = .ok (.iload_n 2, 1) := by decide +kernel
theorem dL_acts_73 : decode cL_acts 73 = .ok (.bipush 7, 2) := by decide +kernel
theorem dL_acts_75 : decode cL_acts 75 = .ok (.ishr, 1) := by decide +kernel
theorem dL_acts_76 : decode cL_acts 76 = .ok (.bipush 60, 2) := by decide +kernel
theorem dL_acts_78 : decode cL_acts 78 = .ok (.invokestatic 32, 3) := by decide +kernel
theorem dL_acts_81 : decode cL_acts 81 = .ok (.istore 9, 2) := by decide +kernel
theorem dL_acts_83 : decode cL_acts 83 = .ok (.iload_n 2, 1) := by decide +kernel
theorem dL_acts_84 : decode cL_acts 84 = .ok (.bipush 13, 2) := by decide +kernel
theorem dL_acts_86 : decode cL_acts 86 = .ok (.ishr, 1) := by decide +kernel
theorem dL_acts_87 : decode cL_acts 87 = .ok (.iconst 5, 1) := by decide +kernel
theorem dL_acts_88 : decode cL_acts 88 = .ok (.invokestatic 32, 3) := by decide +kernel
theorem dL_acts_91 : decode cL_acts 91 = .ok (.istore 10, 2) := by decide +kernel
theorem dL_acts_93 : decode cL_acts 93 = .ok (.iload_n 2, 1) := by decide +kernel
theorem dL_acts_94 : decode cL_acts 94 = .ok (.bipush 16, 2) := by decide +kernel
theorem dL_acts_96 : decode cL_acts 96 = .ok (.ishr, 1) := by decide +kernel
theorem dL_acts_97 : decode cL_acts 97 = .ok (.bipush 11, 2) := by decide +kernel
theorem dL_acts_99 : decode cL_acts 99 = .ok (.invokestatic 32, 3) := by decide +kernel
theorem dL_acts_102 : decode cL_acts 102 = .ok (.istore 11, 2) := by decide +kernel
theorem dL_acts_104 : decode cL_acts 104 = .ok (.iload_n 2, 1) := by decide +kernel
theorem dL_acts_105 : decode cL_acts 105 = .ok (.bipush 20, 2) := by decide +kernel
theorem dL_acts_107 : decode cL_acts 107 = .ok (.ishr, 1) := by decide +kernel
theorem dL_acts_108 : decode cL_acts 108 = .ok (.iload 4, 2) := by decide +kernel
theorem dL_acts_110 : decode cL_acts 110 = .ok (.iconst 2, 1) := by decide +kernel
theorem dL_acts_111 : decode cL_acts 111 = .ok (.iadd, 1) := by decide +kernel
theorem dL_acts_112 : decode cL_acts 112 = .ok (.invokestatic 32, 3) := by decide +kernel
theorem dL_acts_115 : decode cL_acts 115 = .ok (.iconst 1, 1) := by decide +kernel
theorem dL_acts_116 : decode cL_acts 116 = .ok (.isub, 1) := by decide +kernel
theorem dL_acts_117 : decode cL_acts 117 = .ok (.istore 12, 2) := by decide +kernel
theorem dL_acts_119 : decode cL_acts 119 = .ok (.iload 8, 2) := by decide +kernel
theorem dL_acts_121 : decode cL_acts 121 = .ok (.bipush 100, 2) := by decide +kernel
theorem dL_acts_123 : decode cL_acts 123 = .ok (.if_icmp .eq 28, 3) := by decide +kernel
theorem dL_acts_126 : decode cL_acts 126 = .ok (.iload 10, 2) := by decide +kernel
theorem dL_acts_128 : decode cL_acts 128 = .ok (.iconst 4, 1) := by decide +kernel
theorem dL_acts_129 : decode cL_acts 129 = .ok (.if_icmp .eq 22, 3) := by decide +kernel
