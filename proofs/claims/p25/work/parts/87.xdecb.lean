theorem dL_holds_170 : decode cL_holds 170 = .ok (.iload 9, 2) := by decide +kernel
theorem dL_holds_172 : decode cL_holds 172 = .ok (.ifCond .ne 45, 3) := by decide +kernel
theorem dL_holds_175 : decode cL_holds 175 = .ok (.iload 7, 2) := by decide +kernel
theorem dL_holds_177 : decode cL_holds 177 = .ok (.ifCond .eq 9, 3) := by decide +kernel
theorem dL_holds_180 : decode cL_holds 180 = .ok (.iload 7, 2) := by decide +kernel
theorem dL_holds_182 : decode cL_holds 182 = .ok (.iconst 5, 1) := by decide +kernel
theorem dL_holds_183 : decode cL_holds 183 = .ok (.if_icmp .le 8, 3) := by decide +kernel
theorem dL_holds_186 : decode cL_holds 186 = .ok (.iload 9, 2) := by decide +kernel
theorem dL_holds_188 : decode cL_holds 188 = .ok (.ifCond .eq 29, 3) := by decide +kernel
theorem dL_holds_191 : decode cL_holds 191 = .ok (.aload_n 0, 1) := by decide +kernel
theorem dL_holds_192 : decode cL_holds 192 = .ok (.iload 8, 2) := by decide +kernel
theorem dL_holds_194 : decode cL_holds 194 = .ok (.iconst 3, 1) := by decide +kernel
theorem dL_holds_195 : decode cL_holds 195 = .ok (.invokevirtual 23, 3) := by decide +kernel
theorem dL_holds_198 : decode cL_holds 198 = .ok (.iload 4, 2) := by decide +kernel
theorem dL_holds_200 : decode cL_holds 200 = .ok (.ishr, 1) := by decide +kernel
theorem dL_holds_201 : decode cL_holds 201 = .ok (.iconst 1, 1) := by decide +kernel
theorem dL_holds_202 : decode cL_holds 202 = .ok (.iand, 1) := by decide +kernel
theorem dL_holds_203 : decode cL_holds 203 = .ok (.iconst 1, 1) := by decide +kernel
theorem dL_holds_204 : decode cL_holds 204 = .ok (.if_icmp .ne 7, 3) := by decide +kernel
theorem dL_holds_207 : decode cL_holds 207 = .ok (.iconst 1, 1) := by decide +kernel
theorem dL_holds_208 : decode cL_holds 208 = .ok (.goto 4, 3) := by decide +kernel
theorem dL_holds_211 : decode cL_holds 211 = .ok (.iconst 0, 1) := by decide +kernel
theorem dL_holds_212 : decode cL_holds 212 = .ok (.iload 9, 2) := by decide +kernel
theorem dL_holds_214 : decode cL_holds 214 = .ok (.if_icmp .eq 5, 3) := by decide +kernel
theorem dL_holds_217 : decode cL_holds 217 = .ok (.iconst 0, 1) := by decide +kernel
theorem dL_holds_218 : decode cL_holds 218 = .ok (.ireturn, 1) := by decide +kernel
theorem dL_holds_219 : decode cL_holds 219 = .ok (.iinc 4 1, 3) := by decide +kernel
theorem dL_holds_222 : decode cL_holds 222 = .ok (.goto (-215), 3) := by decide +kernel
theorem dL_holds_225 : decode cL_holds 225 = .ok (.iconst 0, 1) := by decide +kernel
theorem dL_holds_226 : decode cL_holds 226 = .ok (.istore 4, 2) := by decide +kernel
theorem dL_holds_228 : decode cL_holds 228 = .ok (.iload 4, 2) := by decide +kernel
theorem dL_holds_230 : decode cL_holds 230 = .ok (.bipush 10, 2) := by decide +kernel
theorem dL_holds_232 : decode cL_holds 232 = .ok (.if_icmp .ge 29, 3) := by decide +kernel
theorem dL_holds_235 : decode cL_holds 235 = .ok (.iload_n 2, 1) := by decide +kernel
theorem dL_holds_236 : decode cL_holds 236 = .ok (.aload_n 0, 1) := by decide +kernel
theorem dL_holds_237 : decode cL_holds 237 = .ok (.iload 4, 2) := by decide +kernel
theorem dL_holds_239 : decode cL_holds 239 = .ok (.iconst 0, 1) := by decide +kernel
theorem dL_holds_240 : decode cL_holds 240 = .ok (.invokevirtual 26, 3) := by decide +kernel
theorem dL_holds_243 : decode cL_holds 243 = .ok (.ldc 37, 2) := by decide +kernel
theorem dL_holds_245 : decode cL_holds 245 = .ok (.if_icmp .ne 7, 3) := by decide +kernel
theorem dL_holds_248 : decode cL_holds 248 = .ok (.iconst 0, 1) := by decide +kernel
theorem dL_holds_249 : decode cL_holds 249 = .ok (.goto 4, 3) := by decide +kernel
theorem dL_holds_252 : decode cL_holds 252 = .ok (.iconst 1, 1) := by decide +kernel
theorem dL_holds_253 : decode cL_holds 253 = .ok (.iadd, 1) := by decide +kernel
theorem dL_holds_254 : decode cL_holds 254 = .ok (.istore_n 2, 1) := by decide +kernel
theorem dL_holds_255 : decode cL_holds 255 = .ok (.iinc 4 1, 3) := by decide +kernel
theorem dL_holds_258 : decode cL_holds 258 = .ok (.goto (-30), 3) := by decide +kernel
theorem dL_holds_261 : decode cL_holds 261 = .ok (.aload_n 0, 1) := by decide +kernel
theorem dL_holds_262 : decode cL_holds 262 = .ok (.iconst 0, 1) := by decide +kernel
theorem dL_holds_263 : decode cL_holds 263 = .ok (.invokevirtual 38, 3) := by decide +kernel
theorem dL_holds_266 : decode cL_holds 266 = .ok (.istore 4, 2) := by decide +kernel
theorem dL_holds_268 : decode cL_holds 268 = .ok (.iload 4, 2) := by decide +kernel
theorem dL_holds_270 : decode cL_holds 270 = .ok (.ldc 37, 2) := by decide +kernel
theorem dL_holds_272 : decode cL_holds 272 = .ok (.if_icmp .ne 21, 3) := by decide +kernel
theorem dL_holds_275 : decode cL_holds 275 = .ok (.aload_n 0, 1) := by decide +kernel
theorem dL_holds_276 : decode cL_holds 276 = .ok (.iconst 1, 1) := by decide +kernel
theorem dL_holds_277 : decode cL_holds 277 = .ok (.invokevirtual 38, 3) := by decide +kernel
theorem dL_holds_280 : decode cL_holds 280 = .ok (.ldc 37, 2) := by decide +kernel
theorem dL_holds_282 : decode cL_holds 282 = .ok (.if_icmp .ne 7, 3) := by decide +kernel
theorem dL_holds_285 : decode cL_holds 285 = .ok (.iconst 1, 1) := by decide +kernel
theorem dL_holds_286 : decode cL_holds 286 = .ok (.goto 33, 3) := by decide +kernel
theorem dL_holds_289 : decode cL_holds 289 = .ok (.iconst 0, 1) := by decide +kernel
theorem dL_holds_290 : decode cL_holds 290 = .ok (.goto 29, 3) := by decide +kernel
theorem dL_holds_293 : decode cL_holds 293 = .ok (.iload 4, 2) := by decide +kernel
theorem dL_holds_295 : decode cL_holds 295 = .ok (.iconst 2, 1) := by decide +kernel
theorem dL_holds_296 : decode cL_holds 296 = .ok (.if_icmp .le 22, 3) := by decide +kernel
theorem dL_holds_299 : decode cL_holds 299 = .ok (.iload 4, 2) := by decide +kernel
theorem dL_holds_301 : decode cL_holds 301 = .ok (.bipush 9, 2) := by decide +kernel
theorem dL_holds_303 : decode cL_holds 303 = .ok (.if_icmp .ge 15, 3) := by decide +kernel
theorem dL_holds_306 : decode cL_holds 306 = .ok (.aload_n 0, 1) := by decide +kernel
theorem dL_holds_307 : decode cL_holds 307 = .ok (.iconst 1, 1) := by decide +kernel
theorem dL_holds_308 : decode cL_holds 308 = .ok (.invokevirtual 38, 3) := by decide +kernel
theorem dL_holds_311 : decode cL_holds 311 = .ok (.ifCond .le 7, 3) := by decide +kernel
theorem dL_holds_314 : decode cL_holds 314 = .ok (.iconst 1, 1) := by decide +kernel
theorem dL_holds_315 : decode cL_holds 315 = .ok (.goto 4, 3) := by decide +kernel
theorem dL_holds_318 : decode cL_holds 318 = .ok (.iconst 0, 1) := by decide +kernel
theorem dL_holds_319 : decode cL_holds 319 = .ok (.istore 5, 2) := by decide +kernel
theorem dL_holds_321 : decode cL_holds 321 = .ok (.iload 5, 2) := by decide +kernel
theorem dL_holds_323 : decode cL_holds 323 = .ok (.ifCond .eq 97, 3) := by decide +kernel
theorem dL_holds_326 : decode cL_holds 326 = .ok (.iload_n 3, 1) := by decide +kernel
theorem dL_holds_327 : decode cL_holds 327 = .ok (.aload_n 0, 1) := by decide +kernel
theorem dL_holds_328 : decode cL_holds 328 = .ok (.iconst 5, 1) := by decide +kernel
theorem dL_holds_329 : decode cL_holds 329 = .ok (.invokevirtual 13, 3) := by decide +kernel
theorem dL_holds_332 : decode cL_holds 332 = .ok (.if_icmp .ne 88, 3) := by decide +kernel
theorem dL_holds_335 : decode cL_holds 335 = .ok (.iload_n 2, 1) := by decide +kernel
theorem dL_holds_336 : decode cL_holds 336 = .ok (.aload_n 0, 1) := by decide +kernel
theorem dL_holds_337 : decode cL_holds 337 = .ok (.iconst 5, 1) := by decide +kernel
theorem dL_holds_338 : decode cL_holds 338 = .ok (.invokevirtual 13, 3) := by decide +kernel
theorem dL_holds_341 : decode cL_holds 341 = .ok (.bipush 10, 2) := by decide +kernel
theorem dL_holds_343 : decode cL_holds 343 = .ok (.if_icmp .ge 11, 3) := by decide +kernel
theorem dL_holds_346 : decode cL_holds 346 = .ok (.aload_n 0, 1) := by decide +kernel
theorem dL_holds_347 : decode cL_holds 347 = .ok (.iconst 5, 1) := by decide +kernel
theorem dL_holds_348 : decode cL_holds 348 = .ok (.invokevirtual 13, 3) := by decide +kernel
theorem dL_holds_351 : decode cL_holds 351 = .ok (.goto 5, 3) := by decide +kernel
theorem dL_holds_354 : decode cL_holds 354 = .ok (.bipush 10, 2) := by decide +kernel
theorem dL_holds_356 : decode cL_holds 356 = .ok (.if_icmp .ne 64, 3) := by decide +kernel
theorem dL_holds_359 : decode cL_holds 359 = .ok (.aload_n 0, 1) := by decide +kernel
theorem dL_holds_360 : decode cL_holds 360 = .ok (.bipush 6, 2) := by decide +kernel
theorem dL_holds_362 : decode cL_holds 362 = .ok (.invokevirtual 13, 3) := by decide +kernel
theorem dL_holds_365 : decode cL_holds 365 = .ok (.aload_n 0, 1) := by decide +kernel
theorem dL_holds_366 : decode cL_holds 366 = .ok (.iconst 5, 1) := by decide +kernel
theorem dL_holds_367 : decode cL_holds 367 = .ok (.invokevirtual 13, 3) := by decide +kernel
theorem dL_holds_370 : decode cL_holds 370 = .ok (.if_icmp .gt 50, 3) := by decide +kernel
theorem dL_holds_373 : decode cL_holds 373 = .ok (.aload_n 0, 1) := by decide +kernel
theorem dL_holds_374 : decode cL_holds 374 = .ok (.iconst 1, 1) := by decide +kernel
theorem dL_holds_375 : decode cL_holds 375 = .ok (.invokevirtual 41, 3) := by decide +kernel
theorem dL_holds_378 : decode cL_holds 378 = .ok (.aload_n 0, 1) := by decide +kernel
theorem dL_holds_379 : decode cL_holds 379 = .ok (.iconst 0, 1) := by decide +kernel
theorem dL_holds_380 : decode cL_holds 380 = .ok (.invokevirtual 13, 3) := by decide +kernel
theorem dL_holds_383 : decode cL_holds 383 = .ok (.if_icmp .gt 37, 3) := by decide +kernel
theorem dL_holds_386 : decode cL_holds 386 = .ok (.aload_n 0, 1) := by decide +kernel
theorem dL_holds_387 : decode cL_holds 387 = .ok (.iconst 0, 1) := by decide +kernel
theorem dL_holds_388 : decode cL_holds 388 = .ok (.invokevirtual 41, 3) := by decide +kernel
theorem dL_holds_391 : decode cL_holds 391 = .ok (.iconst 1, 1) := by decide +kernel
theorem dL_holds_392 : decode cL_holds 392 = .ok (.if_icmp .ne 7, 3) := by decide +kernel
theorem dL_holds_395 : decode cL_holds 395 = .ok (.iconst 1, 1) := by decide +kernel
theorem dL_holds_396 : decode cL_holds 396 = .ok (.goto 4, 3) := by decide +kernel
theorem dL_holds_399 : decode cL_holds 399 = .ok (.iconst 0, 1) := by decide +kernel
theorem dL_holds_400 : decode cL_holds 400 = .ok (.aload_n 0, 1) := by decide +kernel
theorem dL_holds_401 : decode cL_holds 401 = .ok (.iconst 5, 1) := by decide +kernel
theorem dL_holds_402 : decode cL_holds 402 = .ok (.invokevirtual 41, 3) := by decide +kernel
theorem dL_holds_405 : decode cL_holds 405 = .ok (.ifCond .ne 7, 3) := by decide +kernel
theorem dL_holds_408 : decode cL_holds 408 = .ok (.iconst 1, 1) := by decide +kernel
theorem dL_holds_409 : decode cL_holds 409 = .ok (.goto 4, 3) := by decide +kernel
theorem dL_holds_412 : decode cL_holds 412 = .ok (.iconst 0, 1) := by decide +kernel
theorem dL_holds_413 : decode cL_holds 413 = .ok (.if_icmp .ne 7, 3) := by decide +kernel
theorem dL_holds_416 : decode cL_holds 416 = .ok (.iconst 1, 1) := by decide +kernel
theorem dL_holds_417 : decode cL_holds 417 = .ok (.goto 4, 3) := by decide +kernel
theorem dL_holds_420 : decode cL_holds 420 = .ok (.iconst 0, 1) := by decide +kernel
theorem dL_holds_421 : decode cL_holds 421 = .ok (.ireturn, 1) := by decide +kernel
theorem dL_digits_0 : decode cL_digits 0 = .ok (.iload_n 1, 1) := by decide +kernel
theorem dL_digits_1 : decode cL_digits 1 = .ok (.bipush 10, 2) := by decide +kernel
theorem dL_digits_3 : decode cL_digits 3 = .ok (.if_icmp .lt 17, 3) := by decide +kernel
theorem dL_digits_6 : decode cL_digits 6 = .ok (.aload_n 0, 1) := by decide +kernel
theorem dL_digits_7 : decode cL_digits 7 = .ok (.bipush 48, 2) := by decide +kernel
theorem dL_digits_9 : decode cL_digits 9 = .ok (.iload_n 1, 1) := by decide +kernel
theorem dL_digits_10 : decode cL_digits 10 = .ok (.bipush 10, 2) := by decide +kernel
theorem dL_digits_12 : decode cL_digits 12 = .ok (.idiv, 1) := by decide +kernel
theorem dL_digits_13 : decode cL_digits 13 = .ok (.iadd, 1) := by decide +kernel
theorem dL_digits_14 : decode cL_digits 14 = .ok (.invokevirtual 44, 3) := by decide +kernel
theorem dL_digits_17 : decode cL_digits 17 = .ok (.ifCond .le 21, 3) := by decide +kernel
theorem dL_digits_20 : decode cL_digits 20 = .ok (.aload_n 0, 1) := by decide +kernel
theorem dL_digits_21 : decode cL_digits 21 = .ok (.bipush 48, 2) := by decide +kernel
theorem dL_digits_23 : decode cL_digits 23 = .ok (.iload_n 1, 1) := by decide +kernel
theorem dL_digits_24 : decode cL_digits 24 = .ok (.bipush 10, 2) := by decide +kernel
theorem dL_digits_26 : decode cL_digits 26 = .ok (.irem, 1) := by decide +kernel
theorem dL_digits_27 : decode cL_digits 27 = .ok (.iadd, 1) := by decide +kernel
theorem dL_digits_28 : decode cL_digits 28 = .ok (.invokevirtual 44, 3) := by decide +kernel
theorem dL_digits_31 : decode cL_digits 31 = .ok (.ifCond .le 7, 3) := by decide +kernel
theorem dL_digits_34 : decode cL_digits 34 = .ok (.iconst 1, 1) := by decide +kernel
theorem dL_digits_35 : decode cL_digits 35 = .ok (.goto 4, 3) := by decide +kernel
theorem dL_digits_38 : decode cL_digits 38 = .ok (.iconst 0, 1) := by decide +kernel
theorem dL_digits_39 : decode cL_digits 39 = .ok (.ireturn, 1) := by decide +kernel
theorem dL_types_0 : decode cL_types 0 = .ok (.iload_n 1, 1) := by decide +kernel
theorem dL_types_1 : decode cL_types 1 = .ok (.iconst 4, 1) := by decide +kernel
theorem dL_types_2 : decode cL_types 2 = .ok (.invokestatic 32, 3) := by decide +kernel
theorem dL_types_5 : decode cL_types 5 = .ok (.istore_n 2, 1) := by decide +kernel
theorem dL_types_6 : decode cL_types 6 = .ok (.aload_n 0, 1) := by decide +kernel
theorem dL_types_7 : decode cL_types 7 = .ok (.invokevirtual 47, 3) := by decide +kernel
theorem dL_types_10 : decode cL_types 10 = .ok (.ifCond .lt 7, 3) := by decide +kernel
theorem dL_types_13 : decode cL_types 13 = .ok (.iconst 1, 1) := by decide +kernel
theorem dL_types_14 : decode cL_types 14 = .ok (.goto 4, 3) := by decide +kernel
theorem dL_types_17 : decode cL_types 17 = .ok (.iconst 0, 1) := by decide +kernel
theorem dL_types_18 : decode cL_types 18 = .ok (.istore_n 3, 1) := by decide +kernel
theorem dL_types_19 : decode cL_types 19 = .ok (.iconst 0, 1) := by decide +kernel
theorem dL_types_20 : decode cL_types 20 = .ok (.istore 4, 2) := by decide +kernel
theorem dL_types_22 : decode cL_types 22 = .ok (.iload 4, 2) := by decide +kernel
theorem dL_types_24 : decode cL_types 24 = .ok (.iload_n 2, 1) := by decide +kernel
theorem dL_types_25 : decode cL_types 25 = .ok (.if_icmp .ge 301, 3) := by decide +kernel
theorem dL_types_28 : decode cL_types 28 = .ok (.iload_n 1, 1) := by decide +kernel
theorem dL_types_29 : decode cL_types 29 = .ok (.iconst 2, 1) := by decide +kernel
theorem dL_types_30 : decode cL_types 30 = .ok (.bipush 6, 2) := by decide +kernel
theorem dL_types_32 : decode cL_types 32 = .ok (.iload 4, 2) := by decide +kernel
theorem dL_types_34 : decode cL_types 34 = .ok (.imul, 1) := by decide +kernel
theorem dL_types_35 : decode cL_types 35 = .ok (.iadd, 1) := by decide +kernel
theorem dL_types_36 : decode cL_types 36 = .ok (.ishr, 1) := by decide +kernel
theorem dL_types_37 : decode cL_types 37 = .ok (.istore 5, 2) := by decide +kernel
theorem dL_types_39 : decode cL_types 39 = .ok (.iload 5, 2) := by decide +kernel
theorem dL_types_41 : decode cL_types 41 = .ok (.bipush 9, 2) := by decide +kernel
theorem dL_types_43 : decode cL_types 43 = .ok (.invokestatic 32, 3) := by decide +kernel
theorem dL_types_46 : decode cL_types 46 = .ok (.istore 6, 2) := by decide +kernel
theorem dL_types_48 : decode cL_types 48 = .ok (.iload 6, 2) := by decide +kernel
theorem dL_types_50 : decode cL_types 50 = .ok (.iconst 2, 1) := by decide +kernel
theorem dL_types_51 : decode cL_types 51 = .ok (.if_icmp .ge 8, 3) := by decide +kernel
theorem dL_types_54 : decode cL_types 54 = .ok (.bipush 6, 2) := by decide +kernel
theorem dL_types_56 : decode cL_types 56 = .ok (.goto 14, 3) := by decide +kernel
theorem dL_types_59 : decode cL_types 59 = .ok (.iload 6, 2) := by decide +kernel
theorem dL_types_61 : decode cL_types 61 = .ok (.iconst 4, 1) := by decide +kernel
theorem dL_types_62 : decode cL_types 62 = .ok (.if_icmp .ge 7, 3) := by decide +kernel
theorem dL_types_65 : decode cL_types 65 = .ok (.iconst 4, 1) := by decide +kernel
theorem dL_types_66 : decode cL_types 66 = .ok (.goto 4, 3) := by decide +kernel
theorem dL_types_69 : decode cL_types 69 = .ok (.iconst 1, 1) := by decide +kernel
theorem dL_types_70 : decode cL_types 70 = .ok (.istore 7, 2) := by decide +kernel
theorem dL_types_72 : decode cL_types 72 = .ok (.iload_n 3, 1) := by decide +kernel
theorem dL_types_73 : decode cL_types 73 = .ok (.ifCond .eq 62, 3) := by decide +kernel
theorem dL_types_76 : decode cL_types 76 = .ok (.aload_n 0, 1) := by decide +kernel
theorem dL_types_77 : decode cL_types 77 = .ok (.iload 6, 2) := by decide +kernel
theorem dL_types_79 : decode cL_types 79 = .ok (.iconst 2, 1) := by decide +kernel
theorem dL_types_80 : decode cL_types 80 = .ok (.if_icmp .ge 8, 3) := by decide +kernel
theorem dL_types_83 : decode cL_types 83 = .ok (.bipush 99, 2) := by decide +kernel
theorem dL_types_85 : decode cL_types 85 = .ok (.goto 40, 3) := by decide +kernel
theorem dL_types_88 : decode cL_types 88 = .ok (.iload 6, 2) := by decide +kernel
theorem dL_types_90 : decode cL_types 90 = .ok (.iconst 4, 1) := by decide +kernel
theorem dL_types_91 : decode cL_types 91 = .ok (.if_icmp .ge 8, 3) := by decide +kernel
theorem dL_types_94 : decode cL_types 94 = .ok (.bipush 119, 2) := by decide +kernel
theorem dL_types_96 : decode cL_types 96 = .ok (.goto 29, 3) := by decide +kernel
theorem dL_types_99 : decode cL_types 99 = .ok (.iload 6, 2) := by decide +kernel
theorem dL_types_101 : decode cL_types 101 = .ok (.bipush 6, 2) := by decide +kernel
theorem dL_types_103 : decode cL_types 103 = .ok (.if_icmp .ge 8, 3) := by decide +kernel
theorem dL_types_106 : decode cL_types 106 = .ok (.bipush 102, 2) := by decide +kernel
theorem dL_types_108 : decode cL_types 108 = .ok (.goto 17, 3) := by decide +kernel
theorem dL_types_111 : decode cL_types 111 = .ok (.iload 6, 2) := by decide +kernel
theorem dL_types_113 : decode cL_types 113 = .ok (.bipush 6, 2) := by decide +kernel
theorem dL_types_115 : decode cL_types 115 = .ok (.if_icmp .ne 8, 3) := by decide +kernel
theorem dL_types_118 : decode cL_types 118 = .ok (.bipush 120, 2) := by decide +kernel
theorem dL_types_120 : decode cL_types 120 = .ok (.goto 5, 3) := by decide +kernel
theorem dL_types_123 : decode cL_types 123 = .ok (.bipush 100, 2) := by decide +kernel
theorem dL_types_125 : decode cL_types 125 = .ok (.invokevirtual 44, 3) := by decide +kernel
theorem dL_types_128 : decode cL_types 128 = .ok (.ifCond .le 7, 3) := by decide +kernel
theorem dL_types_131 : decode cL_types 131 = .ok (.iconst 1, 1) := by decide +kernel
theorem dL_types_132 : decode cL_types 132 = .ok (.goto 4, 3) := by decide +kernel
theorem dL_types_135 : decode cL_types 135 = .ok (.iconst 0, 1) := by decide +kernel
theorem dL_types_136 : decode cL_types 136 = .ok (.istore_n 3, 1) := by decide +kernel
theorem dL_types_137 : decode cL_types 137 = .ok (.iconst 0, 1) := by decide +kernel
theorem dL_types_138 : decode cL_types 138 = .ok (.istore 8, 2) := by decide +kernel
theorem dL_types_140 : decode cL_types 140 = .ok (.iload 8, 2) := by decide +kernel
theorem dL_types_142 : decode cL_types 142 = .ok (.iload 7, 2) := by decide +kernel
theorem dL_types_144 : decode cL_types 144 = .ok (.if_icmp .ge 120, 3) := by decide +kernel
theorem dL_types_147 : decode cL_types 147 = .ok (.iload 6, 2) := by decide +kernel
theorem dL_types_149 : decode cL_types 149 = .ok (.iconst 2, 1) := by decide +kernel
theorem dL_types_150 : decode cL_types 150 = .ok (.if_icmp .ge 39, 3) := by decide +kernel
theorem dL_types_153 : decode cL_types 153 = .ok (.iload 8, 2) := by decide +kernel
theorem dL_types_155 : decode cL_types 155 = .ok (.iconst 3, 1) := by decide +kernel
theorem dL_types_156 : decode cL_types 156 = .ok (.if_icmp .ge 8, 3) := by decide +kernel
theorem dL_types_159 : decode cL_types 159 = .ok (.bipush 60, 2) := by decide +kernel
