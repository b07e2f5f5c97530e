theorem dL_acts_132 : decode cL_acts 132 = .ok (.iload 11, 2) := by decide +kernel
theorem dL_acts_134 : decode cL_acts 134 = .ok (.ifCond .eq 17, 3) := by decide +kernel
theorem dL_acts_137 : decode cL_acts 137 = .ok (.iload 11, 2) := by decide +kernel
theorem dL_acts_139 : decode cL_acts 139 = .ok (.bipush 10, 2) := by decide +kernel
theorem dL_acts_141 : decode cL_acts 141 = .ok (.if_icmp .eq 10, 3) := by decide +kernel
theorem dL_acts_144 : decode cL_acts 144 = .ok (.iload 12, 2) := by decide +kernel
theorem dL_acts_146 : decode cL_acts 146 = .ok (.iload 4, 2) := by decide +kernel
theorem dL_acts_148 : decode cL_acts 148 = .ok (.if_icmp .ne 7, 3) := by decide +kernel
theorem dL_acts_151 : decode cL_acts 151 = .ok (.iconst 1, 1) := by decide +kernel
theorem dL_acts_152 : decode cL_acts 152 = .ok (.goto 4, 3) := by decide +kernel
theorem dL_acts_155 : decode cL_acts 155 = .ok (.iconst 0, 1) := by decide +kernel
theorem dL_acts_156 : decode cL_acts 156 = .ok (.istore 13, 2) := by decide +kernel
theorem dL_acts_158 : decode cL_acts 158 = .ok (.aload_n 0, 1) := by decide +kernel
theorem dL_acts_159 : decode cL_acts 159 = .ok (.iload 8, 2) := by decide +kernel
theorem dL_acts_161 : decode cL_acts 161 = .ok (.iload 9, 2) := by decide +kernel
theorem dL_acts_163 : decode cL_acts 163 = .ok (.iload_n 2, 1) := by decide +kernel
theorem dL_acts_164 : decode cL_acts 164 = .ok (.bipush 10, 2) := by decide +kernel
theorem dL_acts_166 : decode cL_acts 166 = .ok (.ishr, 1) := by decide +kernel
theorem dL_acts_167 : decode cL_acts 167 = .ok (.bipush 15, 2) := by decide +kernel
theorem dL_acts_169 : decode cL_acts 169 = .ok (.invokestatic 32, 3) := by decide +kernel
theorem dL_acts_172 : decode cL_acts 172 = .ok (.iload 10, 2) := by decide +kernel
theorem dL_acts_174 : decode cL_acts 174 = .ok (.iload 11, 2) := by decide +kernel
theorem dL_acts_176 : decode cL_acts 176 = .ok (.iload 12, 2) := by decide +kernel
theorem dL_acts_178 : decode cL_acts 178 = .ok (.invokevirtual 63, 3) := by decide +kernel
theorem dL_acts_181 : decode cL_acts 181 = .ok (.iload 13, 2) := by decide +kernel
theorem dL_acts_183 : decode cL_acts 183 = .ok (.ifCond .eq 8, 3) := by decide +kernel
theorem dL_acts_186 : decode cL_acts 186 = .ok (.ldc 62, 2) := by decide +kernel
theorem dL_acts_188 : decode cL_acts 188 = .ok (.goto 17, 3) := by decide +kernel
theorem dL_acts_191 : decode cL_acts 191 = .ok (.iload 4, 2) := by decide +kernel
theorem dL_acts_193 : decode cL_acts 193 = .ok (.bipush 12, 2) := by decide +kernel
theorem dL_acts_195 : decode cL_acts 195 = .ok (.if_icmp .ne 8, 3) := by decide +kernel
theorem dL_acts_198 : decode cL_acts 198 = .ok (.ldc 67, 2) := by decide +kernel
theorem dL_acts_200 : decode cL_acts 200 = .ok (.goto 5, 3) := by decide +kernel
theorem dL_acts_203 : decode cL_acts 203 = .ok (.iload 4, 2) := by decide +kernel
theorem dL_acts_205 : decode cL_acts 205 = .ok (.if_icmp .ne 7, 3) := by decide +kernel
theorem dL_acts_208 : decode cL_acts 208 = .ok (.iconst 1, 1) := by decide +kernel
theorem dL_acts_209 : decode cL_acts 209 = .ok (.goto 4, 3) := by decide +kernel
theorem dL_acts_212 : decode cL_acts 212 = .ok (.iconst 0, 1) := by decide +kernel
theorem dL_acts_213 : decode cL_acts 213 = .ok (.ireturn, 1) := by decide +kernel
theorem dL_acts_214 : decode cL_acts 214 = .ok (.iload_n 3, 1) := by decide +kernel
theorem dL_acts_215 : decode cL_acts 215 = .ok (.bipush 6, 2) := by decide +kernel
theorem dL_acts_217 : decode cL_acts 217 = .ok (.if_icmp .ge 129, 3) := by decide +kernel
theorem dL_acts_220 : decode cL_acts 220 = .ok (.iload_n 2, 1) := by decide +kernel
theorem dL_acts_221 : decode cL_acts 221 = .ok (.iconst 3, 1) := by decide +kernel
theorem dL_acts_222 : decode cL_acts 222 = .ok (.invokestatic 32, 3) := by decide +kernel
theorem dL_acts_225 : decode cL_acts 225 = .ok (.ifCond .le 14, 3) := by decide +kernel
theorem dL_acts_228 : decode cL_acts 228 = .ok (.aload_n 0, 1) := by decide +kernel
theorem dL_acts_229 : decode cL_acts 229 = .ok (.iconst 1, 1) := by decide +kernel
theorem dL_acts_230 : decode cL_acts 230 = .ok (.invokevirtual 13, 3) := by decide +kernel
theorem dL_acts_233 : decode cL_acts 233 = .ok (.bipush 28, 2) := by decide +kernel
theorem dL_acts_235 : decode cL_acts 235 = .ok (.irem, 1) := by decide +kernel
theorem dL_acts_236 : decode cL_acts 236 = .ok (.goto 11, 3) := by decide +kernel
theorem dL_acts_239 : decode cL_acts 239 = .ok (.iload_n 2, 1) := by decide +kernel
theorem dL_acts_240 : decode cL_acts 240 = .ok (.iconst 2, 1) := by decide +kernel
theorem dL_acts_241 : decode cL_acts 241 = .ok (.ishr, 1) := by decide +kernel
theorem dL_acts_242 : decode cL_acts 242 = .ok (.bipush 29, 2) := by decide +kernel
theorem dL_acts_244 : decode cL_acts 244 = .ok (.invokestatic 32, 3) := by decide +kernel
theorem dL_acts_247 : decode cL_acts 247 = .ok (.istore 8, 2) := by decide +kernel
theorem dL_acts_249 : decode cL_acts 249 = .ok (.iload_n 2, 1) := by decide +kernel
theorem dL_acts_250 : decode cL_acts 250 = .ok (.iconst 5, 1) := by decide +kernel
theorem dL_acts_251 : decode cL_acts 251 = .ok (.ishr, 1) := by decide +kernel
theorem dL_acts_252 : decode cL_acts 252 = .ok (.bipush 101, 2) := by decide +kernel
theorem dL_acts_254 : decode cL_acts 254 = .ok (.invokestatic 32, 3) := by decide +kernel
theorem dL_acts_257 : decode cL_acts 257 = .ok (.istore 9, 2) := by decide +kernel
theorem dL_acts_259 : decode cL_acts 259 = .ok (.aload_n 0, 1) := by decide +kernel
theorem dL_acts_260 : decode cL_acts 260 = .ok (.iload 8, 2) := by decide +kernel
theorem dL_acts_262 : decode cL_acts 262 = .ok (.iload 9, 2) := by decide +kernel
theorem dL_acts_264 : decode cL_acts 264 = .ok (.iload_n 2, 1) := by decide +kernel
theorem dL_acts_265 : decode cL_acts 265 = .ok (.bipush 9, 2) := by decide +kernel
theorem dL_acts_267 : decode cL_acts 267 = .ok (.ishr, 1) := by decide +kernel
theorem dL_acts_268 : decode cL_acts 268 = .ok (.bipush 90, 2) := by decide +kernel
theorem dL_acts_270 : decode cL_acts 270 = .ok (.invokestatic 32, 3) := by decide +kernel
theorem dL_acts_273 : decode cL_acts 273 = .ok (.iload_n 2, 1) := by decide +kernel
theorem dL_acts_274 : decode cL_acts 274 = .ok (.bipush 12, 2) := by decide +kernel
theorem dL_acts_276 : decode cL_acts 276 = .ok (.ishr, 1) := by decide +kernel
theorem dL_acts_277 : decode cL_acts 277 = .ok (.bipush 30, 2) := by decide +kernel
theorem dL_acts_279 : decode cL_acts 279 = .ok (.invokestatic 32, 3) := by decide +kernel
theorem dL_acts_282 : decode cL_acts 282 = .ok (.invokevirtual 68, 3) := by decide +kernel
theorem dL_acts_285 : decode cL_acts 285 = .ok (.istore 10, 2) := by decide +kernel
theorem dL_acts_287 : decode cL_acts 287 = .ok (.iload 8, 2) := by decide +kernel
theorem dL_acts_289 : decode cL_acts 289 = .ok (.bipush 28, 2) := by decide +kernel
theorem dL_acts_291 : decode cL_acts 291 = .ok (.if_icmp .eq 10, 3) := by decide +kernel
theorem dL_acts_294 : decode cL_acts 294 = .ok (.iload 9, 2) := by decide +kernel
theorem dL_acts_296 : decode cL_acts 296 = .ok (.bipush 100, 2) := by decide +kernel
theorem dL_acts_298 : decode cL_acts 298 = .ok (.if_icmp .ne 18, 3) := by decide +kernel
theorem dL_acts_301 : decode cL_acts 301 = .ok (.iload 10, 2) := by decide +kernel
theorem dL_acts_303 : decode cL_acts 303 = .ok (.ldc 62, 2) := by decide +kernel
theorem dL_acts_305 : decode cL_acts 305 = .ok (.if_icmp .ne 7, 3) := by decide +kernel
theorem dL_acts_308 : decode cL_acts 308 = .ok (.iconst 1, 1) := by decide +kernel
theorem dL_acts_309 : decode cL_acts 309 = .ok (.goto 36, 3) := by decide +kernel
theorem dL_acts_312 : decode cL_acts 312 = .ok (.iconst 0, 1) := by decide +kernel
theorem dL_acts_313 : decode cL_acts 313 = .ok (.goto 32, 3) := by decide +kernel
theorem dL_acts_316 : decode cL_acts 316 = .ok (.iload 10, 2) := by decide +kernel
theorem dL_acts_318 : decode cL_acts 318 = .ok (.ifCond .lt 26, 3) := by decide +kernel
theorem dL_acts_321 : decode cL_acts 321 = .ok (.iload 10, 2) := by decide +kernel
theorem dL_acts_323 : decode cL_acts 323 = .ok (.iload 4, 2) := by decide +kernel
theorem dL_acts_325 : decode cL_acts 325 = .ok (.if_icmp .gt 19, 3) := by decide +kernel
theorem dL_acts_328 : decode cL_acts 328 = .ok (.aload_n 0, 1) := by decide +kernel
theorem dL_acts_329 : decode cL_acts 329 = .ok (.iload 8, 2) := by decide +kernel
theorem dL_acts_331 : decode cL_acts 331 = .ok (.iconst 0, 1) := by decide +kernel
theorem dL_acts_332 : decode cL_acts 332 = .ok (.invokevirtual 23, 3) := by decide +kernel
theorem dL_acts_335 : decode cL_acts 335 = .ok (.iload 9, 2) := by decide +kernel
theorem dL_acts_337 : decode cL_acts 337 = .ok (.if_icmp .ne 7, 3) := by decide +kernel
theorem dL_acts_340 : decode cL_acts 340 = .ok (.iconst 1, 1) := by decide +kernel
theorem dL_acts_341 : decode cL_acts 341 = .ok (.goto 4, 3) := by decide +kernel
theorem dL_acts_344 : decode cL_acts 344 = .ok (.iconst 0, 1) := by decide +kernel
theorem dL_acts_345 : decode cL_acts 345 = .ok (.ireturn, 1) := by decide +kernel
theorem dL_acts_346 : decode cL_acts 346 = .ok (.iload_n 3, 1) := by decide +kernel
theorem dL_acts_347 : decode cL_acts 347 = .ok (.bipush 11, 2) := by decide +kernel
theorem dL_acts_349 : decode cL_acts 349 = .ok (.if_icmp .ge 196, 3) := by decide +kernel
theorem dL_acts_352 : decode cL_acts 352 = .ok (.iload_n 2, 1) := by decide +kernel
theorem dL_acts_353 : decode cL_acts 353 = .ok (.bipush 7, 2) := by decide +kernel
theorem dL_acts_355 : decode cL_acts 355 = .ok (.invokestatic 32, 3) := by decide +kernel
theorem dL_acts_358 : decode cL_acts 358 = .ok (.ifCond .ne 7, 3) := by decide +kernel
theorem dL_acts_361 : decode cL_acts 361 = .ok (.iconst 0, 1) := by decide +kernel
theorem dL_acts_362 : decode cL_acts 362 = .ok (.goto 12, 3) := by decide +kernel
theorem dL_acts_365 : decode cL_acts 365 = .ok (.iconst 1, 1) := by decide +kernel
theorem dL_acts_366 : decode cL_acts 366 = .ok (.iload_n 2, 1) := by decide +kernel
theorem dL_acts_367 : decode cL_acts 367 = .ok (.iconst 3, 1) := by decide +kernel
theorem dL_acts_368 : decode cL_acts 368 = .ok (.ishr, 1) := by decide +kernel
theorem dL_acts_369 : decode cL_acts 369 = .ok (.iconst 2, 1) := by decide +kernel
theorem dL_acts_370 : decode cL_acts 370 = .ok (.invokestatic 32, 3) := by decide +kernel
theorem dL_acts_373 : decode cL_acts 373 = .ok (.iadd, 1) := by decide +kernel
theorem dL_acts_374 : decode cL_acts 374 = .ok (.istore 8, 2) := by decide +kernel
theorem dL_acts_376 : decode cL_acts 376 = .ok (.iload 6, 2) := by decide +kernel
theorem dL_acts_378 : decode cL_acts 378 = .ok (.ifCond .eq 13, 3) := by decide +kernel
theorem dL_acts_381 : decode cL_acts 381 = .ok (.aload_n 0, 1) := by decide +kernel
theorem dL_acts_382 : decode cL_acts 382 = .ok (.iload 5, 2) := by decide +kernel
theorem dL_acts_384 : decode cL_acts 384 = .ok (.iconst 0, 1) := by decide +kernel
theorem dL_acts_385 : decode cL_acts 385 = .ok (.invokevirtual 29, 3) := by decide +kernel
theorem dL_acts_388 : decode cL_acts 388 = .ok (.goto 4, 3) := by decide +kernel
theorem dL_acts_391 : decode cL_acts 391 = .ok (.iconst 0, 1) := by decide +kernel
theorem dL_acts_392 : decode cL_acts 392 = .ok (.istore 9, 2) := by decide +kernel
theorem dL_acts_394 : decode cL_acts 394 = .ok (.aload_n 0, 1) := by decide +kernel
theorem dL_acts_395 : decode cL_acts 395 = .ok (.iconst 3, 1) := by decide +kernel
theorem dL_acts_396 : decode cL_acts 396 = .ok (.invokevirtual 13, 3) := by decide +kernel
theorem dL_acts_399 : decode cL_acts 399 = .ok (.istore 10, 2) := by decide +kernel
theorem dL_acts_401 : decode cL_acts 401 = .ok (.aload_n 0, 1) := by decide +kernel
theorem dL_acts_402 : decode cL_acts 402 = .ok (.iconst 2, 1) := by decide +kernel
theorem dL_acts_403 : decode cL_acts 403 = .ok (.invokevirtual 13, 3) := by decide +kernel
theorem dL_acts_406 : decode cL_acts 406 = .ok (.istore 11, 2) := by decide +kernel
theorem dL_acts_408 : decode cL_acts 408 = .ok (.aload_n 0, 1) := by decide +kernel
theorem dL_acts_409 : decode cL_acts 409 = .ok (.iload 5, 2) := by decide +kernel
theorem dL_acts_411 : decode cL_acts 411 = .ok (.iload 8, 2) := by decide +kernel
theorem dL_acts_413 : decode cL_acts 413 = .ok (.invokevirtual 72, 3) := by decide +kernel
theorem dL_acts_416 : decode cL_acts 416 = .ok (.istore 12, 2) := by decide +kernel
theorem dL_acts_418 : decode cL_acts 418 = .ok (.iload 6, 2) := by decide +kernel
theorem dL_acts_420 : decode cL_acts 420 = .ok (.ifCond .eq 8, 3) := by decide +kernel
theorem dL_acts_423 : decode cL_acts 423 = .ok (.iload 8, 2) := by decide +kernel
theorem dL_acts_425 : decode cL_acts 425 = .ok (.ifCond .ne 18, 3) := by decide +kernel
theorem dL_acts_428 : decode cL_acts 428 = .ok (.iload 12, 2) := by decide +kernel
theorem dL_acts_430 : decode cL_acts 430 = .ok (.ldc 62, 2) := by decide +kernel
theorem dL_acts_432 : decode cL_acts 432 = .ok (.if_icmp .ne 7, 3) := by decide +kernel
theorem dL_acts_435 : decode cL_acts 435 = .ok (.iconst 1, 1) := by decide +kernel
theorem dL_acts_436 : decode cL_acts 436 = .ok (.goto 108, 3) := by decide +kernel
theorem dL_acts_439 : decode cL_acts 439 = .ok (.iconst 0, 1) := by decide +kernel
theorem dL_acts_440 : decode cL_acts 440 = .ok (.goto 104, 3) := by decide +kernel
theorem dL_acts_443 : decode cL_acts 443 = .ok (.iload 9, 2) := by decide +kernel
theorem dL_acts_445 : decode cL_acts 445 = .ok (.ifCond .le 18, 3) := by decide +kernel
theorem dL_acts_448 : decode cL_acts 448 = .ok (.iload 12, 2) := by decide +kernel
theorem dL_acts_450 : decode cL_acts 450 = .ok (.ldc 61, 2) := by decide +kernel
theorem dL_acts_452 : decode cL_acts 452 = .ok (.if_icmp .ne 7, 3) := by decide +kernel
theorem dL_acts_455 : decode cL_acts 455 = .ok (.iconst 1, 1) := by decide +kernel
theorem dL_acts_456 : decode cL_acts 456 = .ok (.goto 88, 3) := by decide +kernel
theorem dL_acts_459 : decode cL_acts 459 = .ok (.iconst 0, 1) := by decide +kernel
theorem dL_acts_460 : decode cL_acts 460 = .ok (.goto 84, 3) := by decide +kernel
theorem dL_acts_463 : decode cL_acts 463 = .ok (.iload 12, 2) := by decide +kernel
theorem dL_acts_465 : decode cL_acts 465 = .ok (.iload 11, 2) := by decide +kernel
theorem dL_acts_467 : decode cL_acts 467 = .ok (.iconst 1, 1) := by decide +kernel
theorem dL_acts_468 : decode cL_acts 468 = .ok (.iadd, 1) := by decide +kernel
theorem dL_acts_469 : decode cL_acts 469 = .ok (.if_icmp .ne 74, 3) := by decide +kernel
theorem dL_acts_472 : decode cL_acts 472 = .ok (.aload_n 0, 1) := by decide +kernel
theorem dL_acts_473 : decode cL_acts 473 = .ok (.iconst 3, 1) := by decide +kernel
theorem dL_acts_474 : decode cL_acts 474 = .ok (.invokevirtual 13, 3) := by decide +kernel
theorem dL_acts_477 : decode cL_acts 477 = .ok (.iload 10, 2) := by decide +kernel
theorem dL_acts_479 : decode cL_acts 479 = .ok (.aload_n 0, 1) := by decide +kernel
theorem dL_acts_480 : decode cL_acts 480 = .ok (.iload 5, 2) := by decide +kernel
theorem dL_acts_482 : decode cL_acts 482 = .ok (.iconst 3, 1) := by decide +kernel
theorem dL_acts_483 : decode cL_acts 483 = .ok (.invokevirtual 19, 3) := by decide +kernel
theorem dL_acts_486 : decode cL_acts 486 = .ok (.iadd, 1) := by decide +kernel
theorem dL_acts_487 : decode cL_acts 487 = .ok (.if_icmp .ne 56, 3) := by decide +kernel
theorem dL_acts_490 : decode cL_acts 490 = .ok (.aload_n 0, 1) := by decide +kernel
theorem dL_acts_491 : decode cL_acts 491 = .ok (.iload 5, 2) := by decide +kernel
theorem dL_acts_493 : decode cL_acts 493 = .ok (.iconst 0, 1) := by decide +kernel
theorem dL_acts_494 : decode cL_acts 494 = .ok (.invokevirtual 29, 3) := by decide +kernel
theorem dL_acts_497 : decode cL_acts 497 = .ok (.iload 8, 2) := by decide +kernel
theorem dL_acts_499 : decode cL_acts 499 = .ok (.iconst 1, 1) := by decide +kernel
theorem dL_acts_500 : decode cL_acts 500 = .ok (.if_icmp .ne 7, 3) := by decide +kernel
theorem dL_acts_503 : decode cL_acts 503 = .ok (.iconst 1, 1) := by decide +kernel
theorem dL_acts_504 : decode cL_acts 504 = .ok (.goto 10, 3) := by decide +kernel
theorem dL_acts_507 : decode cL_acts 507 = .ok (.aload_n 0, 1) := by decide +kernel
theorem dL_acts_508 : decode cL_acts 508 = .ok (.iload 5, 2) := by decide +kernel
theorem dL_acts_510 : decode cL_acts 510 = .ok (.iconst 0, 1) := by decide +kernel
theorem dL_acts_511 : decode cL_acts 511 = .ok (.invokevirtual 29, 3) := by decide +kernel
theorem dL_acts_514 : decode cL_acts 514 = .ok (.if_icmp .ne 29, 3) := by decide +kernel
theorem dL_acts_517 : decode cL_acts 517 = .ok (.aload_n 0, 1) := by decide +kernel
theorem dL_acts_518 : decode cL_acts 518 = .ok (.iconst 0, 1) := by decide +kernel
theorem dL_acts_519 : decode cL_acts 519 = .ok (.iconst 0, 1) := by decide +kernel
theorem dL_acts_520 : decode cL_acts 520 = .ok (.invokevirtual 26, 3) := by decide +kernel
theorem dL_acts_523 : decode cL_acts 523 = .ok (.iload 5, 2) := by decide +kernel
theorem dL_acts_525 : decode cL_acts 525 = .ok (.if_icmp .ne 18, 3) := by decide +kernel
theorem dL_acts_528 : decode cL_acts 528 = .ok (.aload_n 0, 1) := by decide +kernel
theorem dL_acts_529 : decode cL_acts 529 = .ok (.iconst 0, 1) := by decide +kernel
theorem dL_acts_530 : decode cL_acts 530 = .ok (.iconst 2, 1) := by decide +kernel
theorem dL_acts_531 : decode cL_acts 531 = .ok (.invokevirtual 26, 3) := by decide +kernel
theorem dL_acts_534 : decode cL_acts 534 = .ok (.iload 8, 2) := by decide +kernel
theorem dL_acts_536 : decode cL_acts 536 = .ok (.if_icmp .ne 7, 3) := by decide +kernel
theorem dL_acts_539 : decode cL_acts 539 = .ok (.iconst 1, 1) := by decide +kernel
theorem dL_acts_540 : decode cL_acts 540 = .ok (.goto 4, 3) := by decide +kernel
theorem dL_acts_543 : decode cL_acts 543 = .ok (.iconst 0, 1) := by decide +kernel
theorem dL_acts_544 : decode cL_acts 544 = .ok (.ireturn, 1) := by decide +kernel
theorem dL_acts_545 : decode cL_acts 545 = .ok (.iload_n 3, 1) := by decide +kernel
theorem dL_acts_546 : decode cL_acts 546 = .ok (.bipush 11, 2) := by decide +kernel
theorem dL_acts_548 : decode cL_acts 548 = .ok (.if_icmp .ne 43, 3) := by decide +kernel
theorem dL_acts_551 : decode cL_acts 551 = .ok (.aload_n 0, 1) := by decide +kernel
theorem dL_acts_552 : decode cL_acts 552 = .ok (.iload 5, 2) := by decide +kernel
theorem dL_acts_554 : decode cL_acts 554 = .ok (.invokevirtual 75, 3) := by decide +kernel
theorem dL_acts_557 : decode cL_acts 557 = .ok (.iload 6, 2) := by decide +kernel
theorem dL_acts_559 : decode cL_acts 559 = .ok (.ifCond .ne 8, 3) := by decide +kernel
theorem dL_acts_562 : decode cL_acts 562 = .ok (.ldc 62, 2) := by decide +kernel
theorem dL_acts_564 : decode cL_acts 564 = .ok (.goto 18, 3) := by decide +kernel
theorem dL_acts_567 : decode cL_acts 567 = .ok (.iload 7, 2) := by decide +kernel
theorem dL_acts_569 : decode cL_acts 569 = .ok (.iconst 2, 1) := by decide +kernel
theorem dL_acts_570 : decode cL_acts 570 = .ok (.irem, 1) := by decide +kernel
theorem dL_acts_571 : decode cL_acts 571 = .ok (.iconst 1, 1) := by decide +kernel
theorem dL_acts_572 : decode cL_acts 572 = .ok (.if_icmp .ne 8, 3) := by decide +kernel
theorem dL_acts_575 : decode cL_acts 575 = .ok (.ldc 61, 2) := by decide +kernel
theorem dL_acts_577 : decode cL_acts 577 = .ok (.goto 5, 3) := by decide +kernel
theorem dL_acts_580 : decode cL_acts 580 = .ok (.iload 7, 2) := by decide +kernel
theorem dL_acts_582 : decode cL_acts 582 = .ok (.if_icmp .ne 7, 3) := by decide +kernel
theorem dL_acts_585 : decode cL_acts 585 = .ok (.iconst 1, 1) := by decide +kernel
theorem dL_acts_586 : decode cL_acts 586 = .ok (.goto 4, 3) := by decide +kernel
theorem dL_acts_589 : decode cL_acts 589 = .ok (.iconst 0, 1) := by decide +kernel
theorem dL_acts_590 : decode cL_acts 590 = .ok (.ireturn, 1) := by decide +kernel
theorem dL_acts_591 : decode cL_acts 591 = .ok (.iload_n 3, 1) := by decide +kernel
theorem dL_acts_592 : decode cL_acts 592 = .ok (.bipush 12, 2) := by decide +kernel
theorem dL_acts_594 : decode cL_acts 594 = .ok (.if_icmp .ne 104, 3) := by decide +kernel
theorem dL_acts_597 : decode cL_acts 597 = .ok (.iload 6, 2) := by decide +kernel
theorem dL_acts_599 : decode cL_acts 599 = .ok (.ifCond .eq 14, 3) := by decide +kernel
theorem dL_acts_602 : decode cL_acts 602 = .ok (.aload_n 0, 1) := by decide +kernel
