theorem dL_lays_362 : decode cL_lays 362 = .ok (.iconst 3, 1) := by decide +kernel
theorem dL_lays_363 : decode cL_lays 363 = .ok (.idiv, 1) := by decide +kernel
theorem dL_lays_364 : decode cL_lays 364 = .ok (.sipush 9000, 3) := by decide +kernel
theorem dL_lays_367 : decode cL_lays 367 = .ok (.irem, 1) := by decide +kernel
theorem dL_lays_368 : decode cL_lays 368 = .ok (.iadd, 1) := by decide +kernel
theorem dL_lays_369 : decode cL_lays 369 = .ok (.istore 12, 2) := by decide +kernel
theorem dL_lays_371 : decode cL_lays 371 = .ok (.iload 6, 2) := by decide +kernel
theorem dL_lays_373 : decode cL_lays 373 = .ok (.sipush 7201, 3) := by decide +kernel
theorem dL_lays_376 : decode cL_lays 376 = .ok (.irem, 1) := by decide +kernel
theorem dL_lays_377 : decode cL_lays 377 = .ok (.sipush 3600, 3) := by decide +kernel
theorem dL_lays_380 : decode cL_lays 380 = .ok (.isub, 1) := by decide +kernel
theorem dL_lays_381 : decode cL_lays 381 = .ok (.istore 13, 2) := by decide +kernel
theorem dL_lays_383 : decode cL_lays 383 = .ok (.iload 8, 2) := by decide +kernel
theorem dL_lays_385 : decode cL_lays 385 = .ok (.iload 9, 2) := by decide +kernel
theorem dL_lays_387 : decode cL_lays 387 = .ok (.if_icmp .eq 10, 3) := by decide +kernel
theorem dL_lays_390 : decode cL_lays 390 = .ok (.aload_n 1, 1) := by decide +kernel
theorem dL_lays_391 : decode cL_lays 391 = .ok (.iconst 4, 1) := by decide +kernel
theorem dL_lays_392 : decode cL_lays 392 = .ok (.iaload, 1) := by decide +kernel
theorem dL_lays_393 : decode cL_lays 393 = .ok (.iconst 4, 1) := by decide +kernel
theorem dL_lays_394 : decode cL_lays 394 = .ok (.if_icmp .ne 42, 3) := by decide +kernel
theorem dL_lays_397 : decode cL_lays 397 = .ok (.aload_n 0, 1) := by decide +kernel
theorem dL_lays_398 : decode cL_lays 398 = .ok (.iload 8, 2) := by decide +kernel
theorem dL_lays_400 : decode cL_lays 400 = .ok (.iload 9, 2) := by decide +kernel
theorem dL_lays_402 : decode cL_lays 402 = .ok (.iload 10, 2) := by decide +kernel
theorem dL_lays_404 : decode cL_lays 404 = .ok (.iload 11, 2) := by decide +kernel
theorem dL_lays_406 : decode cL_lays 406 = .ok (.iload 12, 2) := by decide +kernel
theorem dL_lays_408 : decode cL_lays 408 = .ok (.iload 13, 2) := by decide +kernel
theorem dL_lays_410 : decode cL_lays 410 = .ok (.invokestatic 143, 3) := by decide +kernel
theorem dL_lays_413 : decode cL_lays 413 = .ok (.iload 8, 2) := by decide +kernel
theorem dL_lays_415 : decode cL_lays 415 = .ok (.iload 9, 2) := by decide +kernel
theorem dL_lays_417 : decode cL_lays 417 = .ok (.if_icmp .ne 8, 3) := by decide +kernel
theorem dL_lays_420 : decode cL_lays 420 = .ok (.ldc 17, 2) := by decide +kernel
theorem dL_lays_422 : decode cL_lays 422 = .ok (.goto 5, 3) := by decide +kernel
theorem dL_lays_425 : decode cL_lays 425 = .ok (.ldc 23, 2) := by decide +kernel
theorem dL_lays_427 : decode cL_lays 427 = .ok (.if_icmp .ne 7, 3) := by decide +kernel
theorem dL_lays_430 : decode cL_lays 430 = .ok (.iconst 1, 1) := by decide +kernel
theorem dL_lays_431 : decode cL_lays 431 = .ok (.goto 4, 3) := by decide +kernel
theorem dL_lays_434 : decode cL_lays 434 = .ok (.iconst 0, 1) := by decide +kernel
theorem dL_lays_435 : decode cL_lays 435 = .ok (.ireturn, 1) := by decide +kernel
theorem dL_lays_436 : decode cL_lays 436 = .ok (.bipush 6, 2) := by decide +kernel
theorem dL_lays_438 : decode cL_lays 438 = .ok (.newarray .int, 2) := by decide +kernel
theorem dL_lays_440 : decode cL_lays 440 = .ok (.astore 14, 2) := by decide +kernel
theorem dL_lays_442 : decode cL_lays 442 = .ok (.aload 14, 2) := by decide +kernel
theorem dL_lays_444 : decode cL_lays 444 = .ok (.iconst 0, 1) := by decide +kernel
theorem dL_lays_445 : decode cL_lays 445 = .ok (.iload 8, 2) := by decide +kernel
theorem dL_lays_447 : decode cL_lays 447 = .ok (.iastore, 1) := by decide +kernel
theorem dL_lays_448 : decode cL_lays 448 = .ok (.aload 14, 2) := by decide +kernel
theorem dL_lays_450 : decode cL_lays 450 = .ok (.iconst 1, 1) := by decide +kernel
theorem dL_lays_451 : decode cL_lays 451 = .ok (.iload 9, 2) := by decide +kernel
theorem dL_lays_453 : decode cL_lays 453 = .ok (.iastore, 1) := by decide +kernel
theorem dL_lays_454 : decode cL_lays 454 = .ok (.aload 14, 2) := by decide +kernel
theorem dL_lays_456 : decode cL_lays 456 = .ok (.iconst 2, 1) := by decide +kernel
theorem dL_lays_457 : decode cL_lays 457 = .ok (.iload 10, 2) := by decide +kernel
theorem dL_lays_459 : decode cL_lays 459 = .ok (.iastore, 1) := by decide +kernel
theorem dL_lays_460 : decode cL_lays 460 = .ok (.aload 14, 2) := by decide +kernel
theorem dL_lays_462 : decode cL_lays 462 = .ok (.iconst 3, 1) := by decide +kernel
theorem dL_lays_463 : decode cL_lays 463 = .ok (.iload 11, 2) := by decide +kernel
theorem dL_lays_465 : decode cL_lays 465 = .ok (.iastore, 1) := by decide +kernel
theorem dL_lays_466 : decode cL_lays 466 = .ok (.aload 14, 2) := by decide +kernel
theorem dL_lays_468 : decode cL_lays 468 = .ok (.iconst 4, 1) := by decide +kernel
theorem dL_lays_469 : decode cL_lays 469 = .ok (.iload 12, 2) := by decide +kernel
theorem dL_lays_471 : decode cL_lays 471 = .ok (.iastore, 1) := by decide +kernel
theorem dL_lays_472 : decode cL_lays 472 = .ok (.aload 14, 2) := by decide +kernel
theorem dL_lays_474 : decode cL_lays 474 = .ok (.iconst 5, 1) := by decide +kernel
theorem dL_lays_475 : decode cL_lays 475 = .ok (.iload 13, 2) := by decide +kernel
theorem dL_lays_477 : decode cL_lays 477 = .ok (.iastore, 1) := by decide +kernel
theorem dL_lays_478 : decode cL_lays 478 = .ok (.iconst 0, 1) := by decide +kernel
theorem dL_lays_479 : decode cL_lays 479 = .ok (.istore 15, 2) := by decide +kernel
theorem dL_lays_481 : decode cL_lays 481 = .ok (.iload 15, 2) := by decide +kernel
theorem dL_lays_483 : decode cL_lays 483 = .ok (.bipush 6, 2) := by decide +kernel
theorem dL_lays_485 : decode cL_lays 485 = .ok (.if_icmp .ge 26, 3) := by decide +kernel
theorem dL_lays_488 : decode cL_lays 488 = .ok (.aload 5, 2) := by decide +kernel
theorem dL_lays_490 : decode cL_lays 490 = .ok (.bipush 6, 2) := by decide +kernel
theorem dL_lays_492 : decode cL_lays 492 = .ok (.aload_n 1, 1) := by decide +kernel
theorem dL_lays_493 : decode cL_lays 493 = .ok (.iconst 4, 1) := by decide +kernel
theorem dL_lays_494 : decode cL_lays 494 = .ok (.iaload, 1) := by decide +kernel
theorem dL_lays_495 : decode cL_lays 495 = .ok (.imul, 1) := by decide +kernel
theorem dL_lays_496 : decode cL_lays 496 = .ok (.iload 15, 2) := by decide +kernel
theorem dL_lays_498 : decode cL_lays 498 = .ok (.iadd, 1) := by decide +kernel
theorem dL_lays_499 : decode cL_lays 499 = .ok (.aload 14, 2) := by decide +kernel
theorem dL_lays_501 : decode cL_lays 501 = .ok (.iload 15, 2) := by decide +kernel
theorem dL_lays_503 : decode cL_lays 503 = .ok (.iaload, 1) := by decide +kernel
theorem dL_lays_504 : decode cL_lays 504 = .ok (.iastore, 1) := by decide +kernel
theorem dL_lays_505 : decode cL_lays 505 = .ok (.iinc 15 1, 3) := by decide +kernel
theorem dL_lays_508 : decode cL_lays 508 = .ok (.goto (-27), 3) := by decide +kernel
theorem dL_lays_511 : decode cL_lays 511 = .ok (.aload_n 1, 1) := by decide +kernel
theorem dL_lays_512 : decode cL_lays 512 = .ok (.iconst 4, 1) := by decide +kernel
theorem dL_lays_513 : decode cL_lays 513 = .ok (.dup2, 1) := by decide +kernel
theorem dL_lays_514 : decode cL_lays 514 = .ok (.iaload, 1) := by decide +kernel
theorem dL_lays_515 : decode cL_lays 515 = .ok (.iconst 1, 1) := by decide +kernel
theorem dL_lays_516 : decode cL_lays 516 = .ok (.iadd, 1) := by decide +kernel
theorem dL_lays_517 : decode cL_lays 517 = .ok (.iastore, 1) := by decide +kernel
theorem dL_lays_518 : decode cL_lays 518 = .ok (.aload_n 0, 1) := by decide +kernel
theorem dL_lays_519 : decode cL_lays 519 = .ok (.iload 8, 2) := by decide +kernel
theorem dL_lays_521 : decode cL_lays 521 = .ok (.iload 9, 2) := by decide +kernel
theorem dL_lays_523 : decode cL_lays 523 = .ok (.iload 10, 2) := by decide +kernel
theorem dL_lays_525 : decode cL_lays 525 = .ok (.iload 11, 2) := by decide +kernel
theorem dL_lays_527 : decode cL_lays 527 = .ok (.iload 12, 2) := by decide +kernel
theorem dL_lays_529 : decode cL_lays 529 = .ok (.iload 13, 2) := by decide +kernel
theorem dL_lays_531 : decode cL_lays 531 = .ok (.invokestatic 143, 3) := by decide +kernel
theorem dL_lays_534 : decode cL_lays 534 = .ok (.aload_n 1, 1) := by decide +kernel
theorem dL_lays_535 : decode cL_lays 535 = .ok (.iconst 4, 1) := by decide +kernel
theorem dL_lays_536 : decode cL_lays 536 = .ok (.iaload, 1) := by decide +kernel
theorem dL_lays_537 : decode cL_lays 537 = .ok (.iconst 1, 1) := by decide +kernel
theorem dL_lays_538 : decode cL_lays 538 = .ok (.isub, 1) := by decide +kernel
theorem dL_lays_539 : decode cL_lays 539 = .ok (.if_icmp .ne 7, 3) := by decide +kernel
theorem dL_lays_542 : decode cL_lays 542 = .ok (.iconst 1, 1) := by decide +kernel
theorem dL_lays_543 : decode cL_lays 543 = .ok (.goto 4, 3) := by decide +kernel
theorem dL_lays_546 : decode cL_lays 546 = .ok (.iconst 0, 1) := by decide +kernel
theorem dL_lays_547 : decode cL_lays 547 = .ok (.ireturn, 1) := by decide +kernel
theorem dL_walks_0 : decode cL_walks 0 = .ok (.iload 8, 2) := by decide +kernel
theorem dL_walks_2 : decode cL_walks 2 = .ok (.aload_n 1, 1) := by decide +kernel
theorem dL_walks_3 : decode cL_walks 3 = .ok (.iconst 5, 1) := by decide +kernel
theorem dL_walks_4 : decode cL_walks 4 = .ok (.iaload, 1) := by decide +kernel
theorem dL_walks_5 : decode cL_walks 5 = .ok (.irem, 1) := by decide +kernel
theorem dL_walks_6 : decode cL_walks 6 = .ok (.istore 10, 2) := by decide +kernel
theorem dL_walks_8 : decode cL_walks 8 = .ok (.iload 8, 2) := by decide +kernel
theorem dL_walks_10 : decode cL_walks 10 = .ok (.iconst 4, 1) := by decide +kernel
theorem dL_walks_11 : decode cL_walks 11 = .ok (.idiv, 1) := by decide +kernel
theorem dL_walks_12 : decode cL_walks 12 = .ok (.ldc 147, 2) := by decide +kernel
theorem dL_walks_14 : decode cL_walks 14 = .ok (.irem, 1) := by decide +kernel
theorem dL_walks_15 : decode cL_walks 15 = .ok (.istore 11, 2) := by decide +kernel
theorem dL_walks_17 : decode cL_walks 17 = .ok (.aload 5, 2) := by decide +kernel
theorem dL_walks_19 : decode cL_walks 19 = .ok (.iconst 4, 1) := by decide +kernel
theorem dL_walks_20 : decode cL_walks 20 = .ok (.iload 10, 2) := by decide +kernel
theorem dL_walks_22 : decode cL_walks 22 = .ok (.imul, 1) := by decide +kernel
theorem dL_walks_23 : decode cL_walks 23 = .ok (.iconst 1, 1) := by decide +kernel
theorem dL_walks_24 : decode cL_walks 24 = .ok (.iadd, 1) := by decide +kernel
theorem dL_walks_25 : decode cL_walks 25 = .ok (.iaload, 1) := by decide +kernel
theorem dL_walks_26 : decode cL_walks 26 = .ok (.istore 12, 2) := by decide +kernel
theorem dL_walks_28 : decode cL_walks 28 = .ok (.iload 9, 2) := by decide +kernel
theorem dL_walks_30 : decode cL_walks 30 = .ok (.ifCond .ne 114, 3) := by decide +kernel
theorem dL_walks_33 : decode cL_walks 33 = .ok (.iconst 1, 1) := by decide +kernel
theorem dL_walks_34 : decode cL_walks 34 = .ok (.iload 8, 2) := by decide +kernel
theorem dL_walks_36 : decode cL_walks 36 = .ok (.iconst 3, 1) := by decide +kernel
theorem dL_walks_37 : decode cL_walks 37 = .ok (.idiv, 1) := by decide +kernel
theorem dL_walks_38 : decode cL_walks 38 = .ok (.ldc 148, 2) := by decide +kernel
theorem dL_walks_40 : decode cL_walks 40 = .ok (.irem, 1) := by decide +kernel
theorem dL_walks_41 : decode cL_walks 41 = .ok (.iadd, 1) := by decide +kernel
theorem dL_walks_42 : decode cL_walks 42 = .ok (.istore 13, 2) := by decide +kernel
theorem dL_walks_44 : decode cL_walks 44 = .ok (.iload 12, 2) := by decide +kernel
theorem dL_walks_46 : decode cL_walks 46 = .ok (.bipush 12, 2) := by decide +kernel
theorem dL_walks_48 : decode cL_walks 48 = .ok (.if_icmp .eq 15, 3) := by decide +kernel
theorem dL_walks_51 : decode cL_walks 51 = .ok (.aload 5, 2) := by decide +kernel
theorem dL_walks_53 : decode cL_walks 53 = .ok (.iconst 4, 1) := by decide +kernel
theorem dL_walks_54 : decode cL_walks 54 = .ok (.iload 10, 2) := by decide +kernel
theorem dL_walks_56 : decode cL_walks 56 = .ok (.imul, 1) := by decide +kernel
theorem dL_walks_57 : decode cL_walks 57 = .ok (.iconst 2, 1) := by decide +kernel
theorem dL_walks_58 : decode cL_walks 58 = .ok (.iadd, 1) := by decide +kernel
theorem dL_walks_59 : decode cL_walks 59 = .ok (.iaload, 1) := by decide +kernel
theorem dL_walks_60 : decode cL_walks 60 = .ok (.ifCond .lt 24, 3) := by decide +kernel
theorem dL_walks_63 : decode cL_walks 63 = .ok (.aload_n 0, 1) := by decide +kernel
theorem dL_walks_64 : decode cL_walks 64 = .ok (.iload 10, 2) := by decide +kernel
theorem dL_walks_66 : decode cL_walks 66 = .ok (.iload 11, 2) := by decide +kernel
theorem dL_walks_68 : decode cL_walks 68 = .ok (.iload 13, 2) := by decide +kernel
theorem dL_walks_70 : decode cL_walks 70 = .ok (.invokestatic 149, 3) := by decide +kernel
theorem dL_walks_73 : decode cL_walks 73 = .ok (.ldc 23, 2) := by decide +kernel
theorem dL_walks_75 : decode cL_walks 75 = .ok (.if_icmp .ne 7, 3) := by decide +kernel
theorem dL_walks_78 : decode cL_walks 78 = .ok (.iconst 1, 1) := by decide +kernel
theorem dL_walks_79 : decode cL_walks 79 = .ok (.goto 4, 3) := by decide +kernel
theorem dL_walks_82 : decode cL_walks 82 = .ok (.iconst 0, 1) := by decide +kernel
theorem dL_walks_83 : decode cL_walks 83 = .ok (.ireturn, 1) := by decide +kernel
theorem dL_walks_84 : decode cL_walks 84 = .ok (.aload 6, 2) := by decide +kernel
theorem dL_walks_86 : decode cL_walks 86 = .ok (.bipush 12, 2) := by decide +kernel
theorem dL_walks_88 : decode cL_walks 88 = .ok (.iload 10, 2) := by decide +kernel
theorem dL_walks_90 : decode cL_walks 90 = .ok (.imul, 1) := by decide +kernel
theorem dL_walks_91 : decode cL_walks 91 = .ok (.iload 12, 2) := by decide +kernel
theorem dL_walks_93 : decode cL_walks 93 = .ok (.iadd, 1) := by decide +kernel
theorem dL_walks_94 : decode cL_walks 94 = .ok (.iload 11, 2) := by decide +kernel
theorem dL_walks_96 : decode cL_walks 96 = .ok (.iastore, 1) := by decide +kernel
theorem dL_walks_97 : decode cL_walks 97 = .ok (.aload 7, 2) := by decide +kernel
theorem dL_walks_99 : decode cL_walks 99 = .ok (.bipush 12, 2) := by decide +kernel
theorem dL_walks_101 : decode cL_walks 101 = .ok (.iload 10, 2) := by decide +kernel
theorem dL_walks_103 : decode cL_walks 103 = .ok (.imul, 1) := by decide +kernel
theorem dL_walks_104 : decode cL_walks 104 = .ok (.iload 12, 2) := by decide +kernel
theorem dL_walks_106 : decode cL_walks 106 = .ok (.iadd, 1) := by decide +kernel
theorem dL_walks_107 : decode cL_walks 107 = .ok (.iload 13, 2) := by decide +kernel
theorem dL_walks_109 : decode cL_walks 109 = .ok (.iastore, 1) := by decide +kernel
theorem dL_walks_110 : decode cL_walks 110 = .ok (.aload 5, 2) := by decide +kernel
theorem dL_walks_112 : decode cL_walks 112 = .ok (.iconst 4, 1) := by decide +kernel
theorem dL_walks_113 : decode cL_walks 113 = .ok (.iload 10, 2) := by decide +kernel
theorem dL_walks_115 : decode cL_walks 115 = .ok (.imul, 1) := by decide +kernel
theorem dL_walks_116 : decode cL_walks 116 = .ok (.iconst 1, 1) := by decide +kernel
theorem dL_walks_117 : decode cL_walks 117 = .ok (.iadd, 1) := by decide +kernel
theorem dL_walks_118 : decode cL_walks 118 = .ok (.dup2, 1) := by decide +kernel
theorem dL_walks_119 : decode cL_walks 119 = .ok (.iaload, 1) := by decide +kernel
theorem dL_walks_120 : decode cL_walks 120 = .ok (.iconst 1, 1) := by decide +kernel
theorem dL_walks_121 : decode cL_walks 121 = .ok (.iadd, 1) := by decide +kernel
theorem dL_walks_122 : decode cL_walks 122 = .ok (.iastore, 1) := by decide +kernel
theorem dL_walks_123 : decode cL_walks 123 = .ok (.aload_n 0, 1) := by decide +kernel
theorem dL_walks_124 : decode cL_walks 124 = .ok (.iload 10, 2) := by decide +kernel
theorem dL_walks_126 : decode cL_walks 126 = .ok (.iload 11, 2) := by decide +kernel
theorem dL_walks_128 : decode cL_walks 128 = .ok (.iload 13, 2) := by decide +kernel
theorem dL_walks_130 : decode cL_walks 130 = .ok (.invokestatic 149, 3) := by decide +kernel
theorem dL_walks_133 : decode cL_walks 133 = .ok (.iload 12, 2) := by decide +kernel
theorem dL_walks_135 : decode cL_walks 135 = .ok (.if_icmp .ne 7, 3) := by decide +kernel
theorem dL_walks_138 : decode cL_walks 138 = .ok (.iconst 1, 1) := by decide +kernel
theorem dL_walks_139 : decode cL_walks 139 = .ok (.goto 4, 3) := by decide +kernel
theorem dL_walks_142 : decode cL_walks 142 = .ok (.iconst 0, 1) := by decide +kernel
theorem dL_walks_143 : decode cL_walks 143 = .ok (.ireturn, 1) := by decide +kernel
theorem dL_walks_144 : decode cL_walks 144 = .ok (.iload 9, 2) := by decide +kernel
theorem dL_walks_146 : decode cL_walks 146 = .ok (.iconst 1, 1) := by decide +kernel
theorem dL_walks_147 : decode cL_walks 147 = .ok (.if_icmp .ne 67, 3) := by decide +kernel
theorem dL_walks_150 : decode cL_walks 150 = .ok (.iload 12, 2) := by decide +kernel
theorem dL_walks_152 : decode cL_walks 152 = .ok (.ifCond .ne 20, 3) := by decide +kernel
theorem dL_walks_155 : decode cL_walks 155 = .ok (.aload_n 0, 1) := by decide +kernel
theorem dL_walks_156 : decode cL_walks 156 = .ok (.iload 10, 2) := by decide +kernel
theorem dL_walks_158 : decode cL_walks 158 = .ok (.invokestatic 153, 3) := by decide +kernel
theorem dL_walks_161 : decode cL_walks 161 = .ok (.ldc 23, 2) := by decide +kernel
theorem dL_walks_163 : decode cL_walks 163 = .ok (.if_icmp .ne 7, 3) := by decide +kernel
theorem dL_walks_166 : decode cL_walks 166 = .ok (.iconst 1, 1) := by decide +kernel
theorem dL_walks_167 : decode cL_walks 167 = .ok (.goto 4, 3) := by decide +kernel
theorem dL_walks_170 : decode cL_walks 170 = .ok (.iconst 0, 1) := by decide +kernel
theorem dL_walks_171 : decode cL_walks 171 = .ok (.ireturn, 1) := by decide +kernel
theorem dL_walks_172 : decode cL_walks 172 = .ok (.aload 5, 2) := by decide +kernel
theorem dL_walks_174 : decode cL_walks 174 = .ok (.iconst 4, 1) := by decide +kernel
theorem dL_walks_175 : decode cL_walks 175 = .ok (.iload 10, 2) := by decide +kernel
theorem dL_walks_177 : decode cL_walks 177 = .ok (.imul, 1) := by decide +kernel
theorem dL_walks_178 : decode cL_walks 178 = .ok (.iconst 1, 1) := by decide +kernel
theorem dL_walks_179 : decode cL_walks 179 = .ok (.iadd, 1) := by decide +kernel
theorem dL_walks_180 : decode cL_walks 180 = .ok (.dup2, 1) := by decide +kernel
theorem dL_walks_181 : decode cL_walks 181 = .ok (.iaload, 1) := by decide +kernel
theorem dL_walks_182 : decode cL_walks 182 = .ok (.iconst 1, 1) := by decide +kernel
theorem dL_walks_183 : decode cL_walks 183 = .ok (.isub, 1) := by decide +kernel
theorem dL_walks_184 : decode cL_walks 184 = .ok (.iastore, 1) := by decide +kernel
theorem dL_walks_185 : decode cL_walks 185 = .ok (.aload 5, 2) := by decide +kernel
theorem dL_walks_187 : decode cL_walks 187 = .ok (.iconst 4, 1) := by decide +kernel
theorem dL_walks_188 : decode cL_walks 188 = .ok (.iload 10, 2) := by decide +kernel
theorem dL_walks_190 : decode cL_walks 190 = .ok (.imul, 1) := by decide +kernel
theorem dL_walks_191 : decode cL_walks 191 = .ok (.iconst 2, 1) := by decide +kernel
theorem dL_walks_192 : decode cL_walks 192 = .ok (.iadd, 1) := by decide +kernel
theorem dL_walks_193 : decode cL_walks 193 = .ok (.iconst (-1), 1) := by decide +kernel
theorem dL_walks_194 : decode cL_walks 194 = .ok (.iastore, 1) := by decide +kernel
theorem dL_walks_195 : decode cL_walks 195 = .ok (.aload_n 0, 1) := by decide +kernel
theorem dL_walks_196 : decode cL_walks 196 = .ok (.iload 10, 2) := by decide +kernel
theorem dL_walks_198 : decode cL_walks 198 = .ok (.invokestatic 153, 3) := by decide +kernel
theorem dL_walks_201 : decode cL_walks 201 = .ok (.iload 12, 2) := by decide +kernel
theorem dL_walks_203 : decode cL_walks 203 = .ok (.iconst 1, 1) := by decide +kernel
theorem dL_walks_204 : decode cL_walks 204 = .ok (.isub, 1) := by decide +kernel
theorem dL_walks_205 : decode cL_walks 205 = .ok (.if_icmp .ne 7, 3) := by decide +kernel
theorem dL_walks_208 : decode cL_walks 208 = .ok (.iconst 1, 1) := by decide +kernel
theorem dL_walks_209 : decode cL_walks 209 = .ok (.goto 4, 3) := by decide +kernel
theorem dL_walks_212 : decode cL_walks 212 = .ok (.iconst 0, 1) := by decide +kernel
theorem dL_walks_213 : decode cL_walks 213 = .ok (.ireturn, 1) := by decide +kernel
theorem dL_walks_214 : decode cL_walks 214 = .ok (.iload 9, 2) := by decide +kernel
theorem dL_walks_216 : decode cL_walks 216 = .ok (.iconst 2, 1) := by decide +kernel
theorem dL_walks_217 : decode cL_walks 217 = .ok (.if_icmp .ne 204, 3) := by decide +kernel
theorem dL_walks_220 : decode cL_walks 220 = .ok (.iload 8, 2) := by decide +kernel
theorem dL_walks_222 : decode cL_walks 222 = .ok (.iconst 4, 1) := by decide +kernel
theorem dL_walks_223 : decode cL_walks 223 = .ok (.idiv, 1) := by decide +kernel
theorem dL_walks_224 : decode cL_walks 224 = .ok (.aload_n 1, 1) := by decide +kernel
theorem dL_walks_225 : decode cL_walks 225 = .ok (.iconst 4, 1) := by decide +kernel
theorem dL_walks_226 : decode cL_walks 226 = .ok (.iaload, 1) := by decide +kernel
theorem dL_walks_227 : decode cL_walks 227 = .ok (.irem, 1) := by decide +kernel
theorem dL_walks_228 : decode cL_walks 228 = .ok (.istore 13, 2) := by decide +kernel
theorem dL_walks_230 : decode cL_walks 230 = .ok (.iload 13, 2) := by decide +kernel
theorem dL_walks_232 : decode cL_walks 232 = .ok (.aload 5, 2) := by decide +kernel
theorem dL_walks_234 : decode cL_walks 234 = .ok (.iconst 4, 1) := by decide +kernel
theorem dL_walks_235 : decode cL_walks 235 = .ok (.iload 10, 2) := by decide +kernel
theorem dL_walks_237 : decode cL_walks 237 = .ok (.imul, 1) := by decide +kernel
theorem dL_walks_238 : decode cL_walks 238 = .ok (.iaload, 1) := by decide +kernel
theorem dL_walks_239 : decode cL_walks 239 = .ok (.if_icmp .eq 8, 3) := by decide +kernel
theorem dL_walks_242 : decode cL_walks 242 = .ok (.iload 12, 2) := by decide +kernel
theorem dL_walks_244 : decode cL_walks 244 = .ok (.ifCond .ne 41, 3) := by decide +kernel
theorem dL_walks_247 : decode cL_walks 247 = .ok (.aload_n 0, 1) := by decide +kernel
theorem dL_walks_248 : decode cL_walks 248 = .ok (.iload 10, 2) := by decide +kernel
theorem dL_walks_250 : decode cL_walks 250 = .ok (.iload 13, 2) := by decide +kernel
theorem dL_walks_252 : decode cL_walks 252 = .ok (.iload 11, 2) := by decide +kernel
theorem dL_walks_254 : decode cL_walks 254 = .ok (.invokestatic 156, 3) := by decide +kernel
theorem dL_walks_257 : decode cL_walks 257 = .ok (.iload 13, 2) := by decide +kernel
theorem dL_walks_259 : decode cL_walks 259 = .ok (.aload 5, 2) := by decide +kernel
theorem dL_walks_261 : decode cL_walks 261 = .ok (.iconst 4, 1) := by decide +kernel
theorem dL_walks_262 : decode cL_walks 262 = .ok (.iload 10, 2) := by decide +kernel
theorem dL_walks_264 : decode cL_walks 264 = .ok (.imul, 1) := by decide +kernel
theorem dL_walks_265 : decode cL_walks 265 = .ok (.iaload, 1) := by decide +kernel
theorem dL_walks_266 : decode cL_walks 266 = .ok (.if_icmp .ne 8, 3) := by decide +kernel
theorem dL_walks_269 : decode cL_walks 269 = .ok (.ldc 17, 2) := by decide +kernel
theorem dL_walks_271 : decode cL_walks 271 = .ok (.goto 5, 3) := by decide +kernel
theorem dL_walks_274 : decode cL_walks 274 = .ok (.ldc 23, 2) := by decide +kernel
theorem dL_walks_276 : decode cL_walks 276 = .ok (.if_icmp .ne 7, 3) := by decide +kernel
theorem dL_walks_279 : decode cL_walks 279 = .ok (.iconst 1, 1) := by decide +kernel
theorem dL_walks_280 : decode cL_walks 280 = .ok (.goto 4, 3) := by decide +kernel
theorem dL_walks_283 : decode cL_walks 283 = .ok (.iconst 0, 1) := by decide +kernel
theorem dL_walks_284 : decode cL_walks 284 = .ok (.ireturn, 1) := by decide +kernel
theorem dL_walks_285 : decode cL_walks 285 = .ok (.aload 5, 2) := by decide +kernel
theorem dL_walks_287 : decode cL_walks 287 = .ok (.iconst 4, 1) := by decide +kernel
theorem dL_walks_288 : decode cL_walks 288 = .ok (.iload 10, 2) := by decide +kernel
theorem dL_walks_290 : decode cL_walks 290 = .ok (.imul, 1) := by decide +kernel
theorem dL_walks_291 : decode cL_walks 291 = .ok (.iconst 2, 1) := by decide +kernel
theorem dL_walks_292 : decode cL_walks 292 = .ok (.iadd, 1) := by decide +kernel
theorem dL_walks_293 : decode cL_walks 293 = .ok (.iload 13, 2) := by decide +kernel
theorem dL_walks_295 : decode cL_walks 295 = .ok (.iastore, 1) := by decide +kernel
theorem dL_walks_296 : decode cL_walks 296 = .ok (.aload 5, 2) := by decide +kernel
theorem dL_walks_298 : decode cL_walks 298 = .ok (.iconst 4, 1) := by decide +kernel
theorem dL_walks_299 : decode cL_walks 299 = .ok (.iload 10, 2) := by decide +kernel
theorem dL_walks_301 : decode cL_walks 301 = .ok (.imul, 1) := by decide +kernel
theorem dL_walks_302 : decode cL_walks 302 = .ok (.iconst 3, 1) := by decide +kernel
theorem dL_walks_303 : decode cL_walks 303 = .ok (.iadd, 1) := by decide +kernel
theorem dL_walks_304 : decode cL_walks 304 = .ok (.iload 11, 2) := by decide +kernel
theorem dL_walks_306 : decode cL_walks 306 = .ok (.iastore, 1) := by decide +kernel
theorem dL_walks_307 : decode cL_walks 307 = .ok (.iload 8, 2) := by decide +kernel
theorem dL_walks_309 : decode cL_walks 309 = .ok (.iconst 3, 1) := by decide +kernel
theorem dL_walks_310 : decode cL_walks 310 = .ok (.irem, 1) := by decide +kernel
theorem dL_walks_311 : decode cL_walks 311 = .ok (.ifCond .le 77, 3) := by decide +kernel
theorem dL_walks_314 : decode cL_walks 314 = .ok (.aload_n 1, 1) := by decide +kernel
theorem dL_walks_315 : decode cL_walks 315 = .ok (.aload_n 2, 1) := by decide +kernel
theorem dL_walks_316 : decode cL_walks 316 = .ok (.aload_n 3, 1) := by decide +kernel
theorem dL_walks_317 : decode cL_walks 317 = .ok (.aload 4, 2) := by decide +kernel
theorem dL_walks_319 : decode cL_walks 319 = .ok (.aload 5, 2) := by decide +kernel
theorem dL_walks_321 : decode cL_walks 321 = .ok (.iconst 4, 1) := by decide +kernel
theorem dL_walks_322 : decode cL_walks 322 = .ok (.iload 10, 2) := by decide +kernel
theorem dL_walks_324 : decode cL_walks 324 = .ok (.imul, 1) := by decide +kernel
theorem dL_walks_325 : decode cL_walks 325 = .ok (.iaload, 1) := by decide +kernel
theorem dL_walks_326 : decode cL_walks 326 = .ok (.invokestatic 105, 3) := by decide +kernel
theorem dL_walks_329 : decode cL_walks 329 = .ok (.aload_n 1, 1) := by decide +kernel
theorem dL_walks_330 : decode cL_walks 330 = .ok (.aload_n 2, 1) := by decide +kernel
theorem dL_walks_331 : decode cL_walks 331 = .ok (.aload_n 3, 1) := by decide +kernel
theorem dL_walks_332 : decode cL_walks 332 = .ok (.aload 4, 2) := by decide +kernel
theorem dL_walks_334 : decode cL_walks 334 = .ok (.iload 13, 2) := by decide +kernel
theorem dL_walks_336 : decode cL_walks 336 = .ok (.invokestatic 105, 3) := by decide +kernel
theorem dL_walks_339 : decode cL_walks 339 = .ok (.iadd, 1) := by decide +kernel
theorem dL_walks_340 : decode cL_walks 340 = .ok (.ifCond .ne 48, 3) := by decide +kernel
theorem dL_walks_343 : decode cL_walks 343 = .ok (.iload 11, 2) := by decide +kernel
theorem dL_walks_345 : decode cL_walks 345 = .ok (.aload_n 2, 1) := by decide +kernel
theorem dL_walks_346 : decode cL_walks 346 = .ok (.aload_n 3, 1) := by decide +kernel
theorem dL_walks_347 : decode cL_walks 347 = .ok (.aload 4, 2) := by decide +kernel
theorem dL_walks_349 : decode cL_walks 349 = .ok (.aload 5, 2) := by decide +kernel
theorem dL_walks_351 : decode cL_walks 351 = .ok (.aload 6, 2) := by decide +kernel
theorem dL_walks_353 : decode cL_walks 353 = .ok (.iload 10, 2) := by decide +kernel
theorem dL_walks_355 : decode cL_walks 355 = .ok (.invokestatic 108, 3) := by decide +kernel
theorem dL_walks_358 : decode cL_walks 358 = .ok (.isub, 1) := by decide +kernel
theorem dL_walks_359 : decode cL_walks 359 = .ok (.iload 8, 2) := by decide +kernel
theorem dL_walks_361 : decode cL_walks 361 = .ok (.iconst 5, 1) := by decide +kernel
theorem dL_walks_362 : decode cL_walks 362 = .ok (.idiv, 1) := by decide +kernel
theorem dL_walks_363 : decode cL_walks 363 = .ok (.bipush 120, 2) := by decide +kernel
theorem dL_walks_365 : decode cL_walks 365 = .ok (.irem, 1) := by decide +kernel
theorem dL_walks_366 : decode cL_walks 366 = .ok (.iadd, 1) := by decide +kernel
theorem dL_walks_367 : decode cL_walks 367 = .ok (.i2l, 1) := by decide +kernel
theorem dL_walks_368 : decode cL_walks 368 = .ok (.ldc2_w 159, 3) := by decide +kernel
theorem dL_walks_371 : decode cL_walks 371 = .ok (.lsub, 1) := by decide +kernel
theorem dL_walks_372 : decode cL_walks 372 = .ok (.invokestatic 61, 3) := by decide +kernel
theorem dL_walks_375 : decode cL_walks 375 = .ok (.istore 11, 2) := by decide +kernel
theorem dL_walks_377 : decode cL_walks 377 = .ok (.aload 5, 2) := by decide +kernel
theorem dL_walks_379 : decode cL_walks 379 = .ok (.iconst 4, 1) := by decide +kernel
theorem dL_walks_380 : decode cL_walks 380 = .ok (.iload 10, 2) := by decide +kernel
theorem dL_walks_382 : decode cL_walks 382 = .ok (.imul, 1) := by decide +kernel
theorem dL_walks_383 : decode cL_walks 383 = .ok (.iconst 3, 1) := by decide +kernel
theorem dL_walks_384 : decode cL_walks 384 = .ok (.iadd, 1) := by decide +kernel
theorem dL_walks_385 : decode cL_walks 385 = .ok (.iload 11, 2) := by decide +kernel
theorem dL_walks_387 : decode cL_walks 387 = .ok (.iastore, 1) := by decide +kernel
theorem dL_walks_388 : decode cL_walks 388 = .ok (.aload_n 0, 1) := by decide +kernel
theorem dL_walks_389 : decode cL_walks 389 = .ok (.iload 10, 2) := by decide +kernel
theorem dL_walks_391 : decode cL_walks 391 = .ok (.iload 13, 2) := by decide +kernel
theorem dL_walks_393 : decode cL_walks 393 = .ok (.iload 11, 2) := by decide +kernel
theorem dL_walks_395 : decode cL_walks 395 = .ok (.invokestatic 156, 3) := by decide +kernel
theorem dL_walks_398 : decode cL_walks 398 = .ok (.aload_n 1, 1) := by decide +kernel
theorem dL_walks_399 : decode cL_walks 399 = .ok (.aload_n 2, 1) := by decide +kernel
theorem dL_walks_400 : decode cL_walks 400 = .ok (.aload_n 3, 1) := by decide +kernel
theorem dL_walks_401 : decode cL_walks 401 = .ok (.aload 4, 2) := by decide +kernel
theorem dL_walks_403 : decode cL_walks 403 = .ok (.aload 5, 2) := by decide +kernel
theorem dL_walks_405 : decode cL_walks 405 = .ok (.aload 6, 2) := by decide +kernel
theorem dL_walks_407 : decode cL_walks 407 = .ok (.iload 10, 2) := by decide +kernel
theorem dL_walks_409 : decode cL_walks 409 = .ok (.invokestatic 123, 3) := by decide +kernel
theorem dL_walks_412 : decode cL_walks 412 = .ok (.if_icmp .ne 7, 3) := by decide +kernel
theorem dL_walks_415 : decode cL_walks 415 = .ok (.iconst 1, 1) := by decide +kernel
theorem dL_walks_416 : decode cL_walks 416 = .ok (.goto 4, 3) := by decide +kernel
theorem dL_walks_419 : decode cL_walks 419 = .ok (.iconst 0, 1) := by decide +kernel
theorem dL_walks_420 : decode cL_walks 420 = .ok (.ireturn, 1) := by decide +kernel
theorem dL_walks_421 : decode cL_walks 421 = .ok (.aload 5, 2) := by decide +kernel
theorem dL_walks_423 : decode cL_walks 423 = .ok (.iconst 4, 1) := by decide +kernel
theorem dL_walks_424 : decode cL_walks 424 = .ok (.iload 10, 2) := by decide +kernel
theorem dL_walks_426 : decode cL_walks 426 = .ok (.imul, 1) := by decide +kernel
theorem dL_walks_427 : decode cL_walks 427 = .ok (.iconst 2, 1) := by decide +kernel
theorem dL_walks_428 : decode cL_walks 428 = .ok (.iadd, 1) := by decide +kernel
theorem dL_walks_429 : decode cL_walks 429 = .ok (.iaload, 1) := by decide +kernel
theorem dL_walks_430 : decode cL_walks 430 = .ok (.ifCond .lt 20, 3) := by decide +kernel
theorem dL_walks_433 : decode cL_walks 433 = .ok (.aload_n 1, 1) := by decide +kernel
theorem dL_walks_434 : decode cL_walks 434 = .ok (.aload_n 2, 1) := by decide +kernel
theorem dL_walks_435 : decode cL_walks 435 = .ok (.aload_n 3, 1) := by decide +kernel
theorem dL_walks_436 : decode cL_walks 436 = .ok (.aload 4, 2) := by decide +kernel
theorem dL_walks_438 : decode cL_walks 438 = .ok (.aload 5, 2) := by decide +kernel
theorem dL_walks_440 : decode cL_walks 440 = .ok (.aload 6, 2) := by decide +kernel
theorem dL_walks_442 : decode cL_walks 442 = .ok (.iload 10, 2) := by decide +kernel
theorem dL_walks_444 : decode cL_walks 444 = .ok (.invokestatic 123, 3) := by decide +kernel
theorem dL_walks_447 : decode cL_walks 447 = .ok (.ifCond .le 20, 3) := by decide +kernel
theorem dL_walks_450 : decode cL_walks 450 = .ok (.aload_n 0, 1) := by decide +kernel
theorem dL_walks_451 : decode cL_walks 451 = .ok (.iload 10, 2) := by decide +kernel
theorem dL_walks_453 : decode cL_walks 453 = .ok (.invokestatic 161, 3) := by decide +kernel
theorem dL_walks_456 : decode cL_walks 456 = .ok (.ldc 23, 2) := by decide +kernel
theorem dL_walks_458 : decode cL_walks 458 = .ok (.if_icmp .ne 7, 3) := by decide +kernel
theorem dL_walks_461 : decode cL_walks 461 = .ok (.iconst 1, 1) := by decide +kernel
theorem dL_walks_462 : decode cL_walks 462 = .ok (.goto 4, 3) := by decide +kernel
theorem dL_walks_465 : decode cL_walks 465 = .ok (.iconst 0, 1) := by decide +kernel
theorem dL_walks_466 : decode cL_walks 466 = .ok (.ireturn, 1) := by decide +kernel
theorem dL_walks_467 : decode cL_walks 467 = .ok (.aload_n 0, 1) := by decide +kernel
theorem dL_walks_468 : decode cL_walks 468 = .ok (.iload 10, 2) := by decide +kernel
theorem dL_walks_470 : decode cL_walks 470 = .ok (.invokestatic 161, 3) := by decide +kernel
theorem dL_walks_473 : decode cL_walks 473 = .ok (.aload_n 2, 1) := by decide +kernel
theorem dL_walks_474 : decode cL_walks 474 = .ok (.aload_n 3, 1) := by decide +kernel
theorem dL_walks_475 : decode cL_walks 475 = .ok (.aload 4, 2) := by decide +kernel
theorem dL_walks_477 : decode cL_walks 477 = .ok (.aload 5, 2) := by decide +kernel
theorem dL_walks_479 : decode cL_walks 479 = .ok (.aload 6, 2) := by decide +kernel
theorem dL_walks_481 : decode cL_walks 481 = .ok (.aload 7, 2) := by decide +kernel
theorem dL_walks_483 : decode cL_walks 483 = .ok (.iload 10, 2) := by decide +kernel
theorem dL_walks_485 : decode cL_walks 485 = .ok (.invokestatic 164, 3) := by decide +kernel
theorem dL_walks_488 : decode cL_walks 488 = .ok (.if_icmp .ne 7, 3) := by decide +kernel
theorem dL_walks_491 : decode cL_walks 491 = .ok (.iconst 1, 1) := by decide +kernel
theorem dL_walks_492 : decode cL_walks 492 = .ok (.goto 4, 3) := by decide +kernel
theorem dL_walks_495 : decode cL_walks 495 = .ok (.iconst 0, 1) := by decide +kernel
theorem dL_walks_496 : decode cL_walks 496 = .ok (.ireturn, 1) := by decide +kernel
theorem dL_acts_0 : decode cL_acts 0 = .ok (.iload 9, 2) := by decide +kernel
theorem dL_acts_2 : decode cL_acts 2 = .ok (.iconst 5, 1) := by decide +kernel
theorem dL_acts_3 : decode cL_acts 3 = .ok (.ishr, 1) := by decide +kernel
theorem dL_acts_4 : decode cL_acts 4 = .ok (.ldc 166, 2) := by decide +kernel
theorem dL_acts_6 : decode cL_acts 6 = .ok (.invokestatic 167, 3) := by decide +kernel
theorem dL_acts_9 : decode cL_acts 9 = .ok (.istore 10, 2) := by decide +kernel
theorem dL_acts_11 : decode cL_acts 11 = .ok (.iload 9, 2) := by decide +kernel
theorem dL_acts_13 : decode cL_acts 13 = .ok (.bipush 28, 2) := by decide +kernel
theorem dL_acts_15 : decode cL_acts 15 = .ok (.invokestatic 167, 3) := by decide +kernel
theorem dL_acts_18 : decode cL_acts 18 = .ok (.istore 11, 2) := by decide +kernel
theorem dL_acts_20 : decode cL_acts 20 = .ok (.iload 11, 2) := by decide +kernel
theorem dL_acts_22 : decode cL_acts 22 = .ok (.iconst 2, 1) := by decide +kernel
theorem dL_acts_23 : decode cL_acts 23 = .ok (.if_icmp .ge 18, 3) := by decide +kernel
theorem dL_acts_26 : decode cL_acts 26 = .ok (.aload_n 0, 1) := by decide +kernel
theorem dL_acts_27 : decode cL_acts 27 = .ok (.aload_n 1, 1) := by decide +kernel
theorem dL_acts_28 : decode cL_acts 28 = .ok (.aload_n 2, 1) := by decide +kernel
theorem dL_acts_29 : decode cL_acts 29 = .ok (.aload_n 3, 1) := by decide +kernel
theorem dL_acts_30 : decode cL_acts 30 = .ok (.aload 4, 2) := by decide +kernel
theorem dL_acts_32 : decode cL_acts 32 = .ok (.aload 5, 2) := by decide +kernel
theorem dL_acts_34 : decode cL_acts 34 = .ok (.iload 10, 2) := by decide +kernel
theorem dL_acts_36 : decode cL_acts 36 = .ok (.iconst 0, 1) := by decide +kernel
theorem dL_acts_37 : decode cL_acts 37 = .ok (.invokestatic 170, 3) := by decide +kernel
theorem dL_acts_40 : decode cL_acts 40 = .ok (.ireturn, 1) := by decide +kernel
theorem dL_acts_41 : decode cL_acts 41 = .ok (.iload 11, 2) := by decide +kernel
theorem dL_acts_43 : decode cL_acts 43 = .ok (.bipush 10, 2) := by decide +kernel
theorem dL_acts_45 : decode cL_acts 45 = .ok (.if_icmp .ge 18, 3) := by decide +kernel
theorem dL_acts_48 : decode cL_acts 48 = .ok (.aload_n 0, 1) := by decide +kernel
theorem dL_acts_49 : decode cL_acts 49 = .ok (.aload_n 1, 1) := by decide +kernel
theorem dL_acts_50 : decode cL_acts 50 = .ok (.aload_n 2, 1) := by decide +kernel
theorem dL_acts_51 : decode cL_acts 51 = .ok (.aload_n 3, 1) := by decide +kernel
theorem dL_acts_52 : decode cL_acts 52 = .ok (.aload 4, 2) := by decide +kernel
theorem dL_acts_54 : decode cL_acts 54 = .ok (.aload 5, 2) := by decide +kernel
theorem dL_acts_56 : decode cL_acts 56 = .ok (.iload 10, 2) := by decide +kernel
theorem dL_acts_58 : decode cL_acts 58 = .ok (.iconst 1, 1) := by decide +kernel
theorem dL_acts_59 : decode cL_acts 59 = .ok (.invokestatic 170, 3) := by decide +kernel
theorem dL_acts_62 : decode cL_acts 62 = .ok (.ireturn, 1) := by decide +kernel
theorem dL_acts_63 : decode cL_acts 63 = .ok (.iload 11, 2) := by decide +kernel
theorem dL_acts_65 : decode cL_acts 65 = .ok (.bipush 13, 2) := by decide +kernel
theorem dL_acts_67 : decode cL_acts 67 = .ok (.if_icmp .ge 29, 3) := by decide +kernel
theorem dL_acts_70 : decode cL_acts 70 = .ok (.aload_n 0, 1) := by decide +kernel
theorem dL_acts_71 : decode cL_acts 71 = .ok (.aload_n 1, 1) := by decide +kernel
theorem dL_acts_72 : decode cL_acts 72 = .ok (.aload_n 2, 1) := by decide +kernel
theorem dL_acts_73 : decode cL_acts 73 = .ok (.aload_n 3, 1) := by decide +kernel
theorem dL_acts_74 : decode cL_acts 74 = .ok (.aload 4, 2) := by decide +kernel
theorem dL_acts_76 : decode cL_acts 76 = .ok (.aload 5, 2) := by decide +kernel
theorem dL_acts_78 : decode cL_acts 78 = .ok (.iload 10, 2) := by decide +kernel
theorem dL_acts_80 : decode cL_acts 80 = .ok (.iload 11, 2) := by decide +kernel
theorem dL_acts_82 : decode cL_acts 82 = .ok (.bipush 10, 2) := by decide +kernel
theorem dL_acts_84 : decode cL_acts 84 = .ok (.if_icmp .ne 7, 3) := by decide +kernel
theorem dL_acts_87 : decode cL_acts 87 = .ok (.iconst 2, 1) := by decide +kernel
theorem dL_acts_88 : decode cL_acts 88 = .ok (.goto 4, 3) := by decide +kernel
theorem dL_acts_91 : decode cL_acts 91 = .ok (.iconst 3, 1) := by decide +kernel
theorem dL_acts_92 : decode cL_acts 92 = .ok (.invokestatic 170, 3) := by decide +kernel
theorem dL_acts_95 : decode cL_acts 95 = .ok (.ireturn, 1) := by decide +kernel
theorem dL_acts_96 : decode cL_acts 96 = .ok (.iload 11, 2) := by decide +kernel
theorem dL_acts_98 : decode cL_acts 98 = .ok (.bipush 13, 2) := by decide +kernel
theorem dL_acts_100 : decode cL_acts 100 = .ok (.if_icmp .ne 81, 3) := by decide +kernel
theorem dL_acts_103 : decode cL_acts 103 = .ok (.iload 10, 2) := by decide +kernel
theorem dL_acts_105 : decode cL_acts 105 = .ok (.iconst 3, 1) := by decide +kernel
theorem dL_acts_106 : decode cL_acts 106 = .ok (.irem, 1) := by decide +kernel
theorem dL_acts_107 : decode cL_acts 107 = .ok (.istore 12, 2) := by decide +kernel
theorem dL_acts_109 : decode cL_acts 109 = .ok (.aload_n 1, 1) := by decide +kernel
theorem dL_acts_110 : decode cL_acts 110 = .ok (.iload 12, 2) := by decide +kernel
theorem dL_acts_112 : decode cL_acts 112 = .ok (.iaload, 1) := by decide +kernel
theorem dL_acts_113 : decode cL_acts 113 = .ok (.istore 13, 2) := by decide +kernel
theorem dL_acts_115 : decode cL_acts 115 = .ok (.aload_n 1, 1) := by decide +kernel
theorem dL_acts_116 : decode cL_acts 116 = .ok (.iload 12, 2) := by decide +kernel
theorem dL_acts_118 : decode cL_acts 118 = .ok (.iload 12, 2) := by decide +kernel
theorem dL_acts_120 : decode cL_acts 120 = .ok (.ifCond .ne 13, 3) := by decide +kernel
theorem dL_acts_123 : decode cL_acts 123 = .ok (.iload 10, 2) := by decide +kernel
theorem dL_acts_125 : decode cL_acts 125 = .ok (.iconst 3, 1) := by decide +kernel
theorem dL_acts_126 : decode cL_acts 126 = .ok (.idiv, 1) := by decide +kernel
theorem dL_acts_127 : decode cL_acts 127 = .ok (.bipush 60, 2) := by decide +kernel
theorem dL_acts_129 : decode cL_acts 129 = .ok (.irem, 1) := by decide +kernel
theorem dL_acts_130 : decode cL_acts 130 = .ok (.goto 29, 3) := by decide +kernel
theorem dL_acts_133 : decode cL_acts 133 = .ok (.iload 12, 2) := by decide +kernel
theorem dL_acts_135 : decode cL_acts 135 = .ok (.iconst 1, 1) := by decide +kernel
theorem dL_acts_136 : decode cL_acts 136 = .ok (.if_icmp .ne 16, 3) := by decide +kernel
theorem dL_acts_139 : decode cL_acts 139 = .ok (.iconst 1, 1) := by decide +kernel
theorem dL_acts_140 : decode cL_acts 140 = .ok (.iload 10, 2) := by decide +kernel
theorem dL_acts_142 : decode cL_acts 142 = .ok (.iconst 3, 1) := by decide +kernel
theorem dL_acts_143 : decode cL_acts 143 = .ok (.idiv, 1) := by decide +kernel
theorem dL_acts_144 : decode cL_acts 144 = .ok (.sipush 600, 3) := by decide +kernel
theorem dL_acts_147 : decode cL_acts 147 = .ok (.irem, 1) := by decide +kernel
theorem dL_acts_148 : decode cL_acts 148 = .ok (.iadd, 1) := by decide +kernel
theorem dL_acts_149 : decode cL_acts 149 = .ok (.goto 10, 3) := by decide +kernel
theorem dL_acts_152 : decode cL_acts 152 = .ok (.iload 10, 2) := by decide +kernel
theorem dL_acts_154 : decode cL_acts 154 = .ok (.iconst 3, 1) := by decide +kernel
theorem dL_acts_155 : decode cL_acts 155 = .ok (.idiv, 1) := by decide +kernel
theorem dL_acts_156 : decode cL_acts 156 = .ok (.ldc 174, 2) := by decide +kernel
theorem dL_acts_158 : decode cL_acts 158 = .ok (.irem, 1) := by decide +kernel
theorem dL_acts_159 : decode cL_acts 159 = .ok (.iastore, 1) := by decide +kernel
theorem dL_acts_160 : decode cL_acts 160 = .ok (.aload_n 0, 1) := by decide +kernel
theorem dL_acts_161 : decode cL_acts 161 = .ok (.iload 12, 2) := by decide +kernel
theorem dL_acts_163 : decode cL_acts 163 = .ok (.aload_n 1, 1) := by decide +kernel
theorem dL_acts_164 : decode cL_acts 164 = .ok (.iload 12, 2) := by decide +kernel
theorem dL_acts_166 : decode cL_acts 166 = .ok (.iaload, 1) := by decide +kernel
theorem dL_acts_167 : decode cL_acts 167 = .ok (.invokestatic 175, 3) := by decide +kernel
theorem dL_acts_170 : decode cL_acts 170 = .ok (.iload 13, 2) := by decide +kernel
theorem dL_acts_172 : decode cL_acts 172 = .ok (.if_icmp .ne 7, 3) := by decide +kernel
theorem dL_acts_175 : decode cL_acts 175 = .ok (.iconst 1, 1) := by decide +kernel
theorem dL_acts_176 : decode cL_acts 176 = .ok (.goto 4, 3) := by decide +kernel
theorem dL_acts_179 : decode cL_acts 179 = .ok (.iconst 0, 1) := by decide +kernel
theorem dL_acts_180 : decode cL_acts 180 = .ok (.ireturn, 1) := by decide +kernel
theorem dL_acts_181 : decode cL_acts 181 = .ok (.aload_n 1, 1) := by decide +kernel
theorem dL_acts_182 : decode cL_acts 182 = .ok (.iconst 4, 1) := by decide +kernel
theorem dL_acts_183 : decode cL_acts 183 = .ok (.iaload, 1) := by decide +kernel
theorem dL_acts_184 : decode cL_acts 184 = .ok (.ifCond .ne 30, 3) := by decide +kernel
theorem dL_acts_187 : decode cL_acts 187 = .ok (.aload_n 0, 1) := by decide +kernel
theorem dL_acts_188 : decode cL_acts 188 = .ok (.iconst 0, 1) := by decide +kernel
theorem dL_acts_189 : decode cL_acts 189 = .ok (.iconst 0, 1) := by decide +kernel
theorem dL_acts_190 : decode cL_acts 190 = .ok (.invokestatic 178, 3) := by decide +kernel
theorem dL_acts_193 : decode cL_acts 193 = .ok (.ldc 29, 2) := by decide +kernel
theorem dL_acts_195 : decode cL_acts 195 = .ok (.if_icmp .ne 17, 3) := by decide +kernel
theorem dL_acts_198 : decode cL_acts 198 = .ok (.aload_n 0, 1) := by decide +kernel
theorem dL_acts_199 : decode cL_acts 199 = .ok (.iconst 0, 1) := by decide +kernel
theorem dL_acts_200 : decode cL_acts 200 = .ok (.invokestatic 181, 3) := by decide +kernel
theorem dL_acts_203 : decode cL_acts 203 = .ok (.ldc 29, 2) := by decide +kernel
theorem dL_acts_205 : decode cL_acts 205 = .ok (.if_icmp .ne 7, 3) := by decide +kernel
theorem dL_acts_208 : decode cL_acts 208 = .ok (.iconst 1, 1) := by decide +kernel
theorem dL_acts_209 : decode cL_acts 209 = .ok (.goto 4, 3) := by decide +kernel
theorem dL_acts_212 : decode cL_acts 212 = .ok (.iconst 0, 1) := by decide +kernel
theorem dL_acts_213 : decode cL_acts 213 = .ok (.ireturn, 1) := by decide +kernel
theorem dL_acts_214 : decode cL_acts 214 = .ok (.iload 11, 2) := by decide +kernel
theorem dL_acts_216 : decode cL_acts 216 = .ok (.bipush 14, 2) := by decide +kernel
theorem dL_acts_218 : decode cL_acts 218 = .ok (.if_icmp .ne 72, 3) := by decide +kernel
theorem dL_acts_221 : decode cL_acts 221 = .ok (.iload 10, 2) := by decide +kernel
theorem dL_acts_223 : decode cL_acts 223 = .ok (.aload_n 1, 1) := by decide +kernel
theorem dL_acts_224 : decode cL_acts 224 = .ok (.iconst 4, 1) := by decide +kernel
theorem dL_acts_225 : decode cL_acts 225 = .ok (.iaload, 1) := by decide +kernel
theorem dL_acts_226 : decode cL_acts 226 = .ok (.irem, 1) := by decide +kernel
theorem dL_acts_227 : decode cL_acts 227 = .ok (.istore 12, 2) := by decide +kernel
theorem dL_acts_229 : decode cL_acts 229 = .ok (.aload 5, 2) := by decide +kernel
theorem dL_acts_231 : decode cL_acts 231 = .ok (.bipush 6, 2) := by decide +kernel
theorem dL_acts_233 : decode cL_acts 233 = .ok (.iload 12, 2) := by decide +kernel
theorem dL_acts_235 : decode cL_acts 235 = .ok (.imul, 1) := by decide +kernel
theorem dL_acts_236 : decode cL_acts 236 = .ok (.iconst 5, 1) := by decide +kernel
theorem dL_acts_237 : decode cL_acts 237 = .ok (.iadd, 1) := by decide +kernel
theorem dL_acts_238 : decode cL_acts 238 = .ok (.iaload, 1) := by decide +kernel
theorem dL_acts_239 : decode cL_acts 239 = .ok (.istore 13, 2) := by decide +kernel
theorem dL_acts_241 : decode cL_acts 241 = .ok (.aload 5, 2) := by decide +kernel
theorem dL_acts_243 : decode cL_acts 243 = .ok (.bipush 6, 2) := by decide +kernel
theorem dL_acts_245 : decode cL_acts 245 = .ok (.iload 12, 2) := by decide +kernel
theorem dL_acts_247 : decode cL_acts 247 = .ok (.imul, 1) := by decide +kernel
theorem dL_acts_248 : decode cL_acts 248 = .ok (.iconst 5, 1) := by decide +kernel
theorem dL_acts_249 : decode cL_acts 249 = .ok (.iadd, 1) := by decide +kernel
theorem dL_acts_250 : decode cL_acts 250 = .ok (.iload 10, 2) := by decide +kernel
theorem dL_acts_252 : decode cL_acts 252 = .ok (.iconst 4, 1) := by decide +kernel
theorem dL_acts_253 : decode cL_acts 253 = .ok (.idiv, 1) := by decide +kernel
theorem dL_acts_254 : decode cL_acts 254 = .ok (.sipush 7201, 3) := by decide +kernel
theorem dL_acts_257 : decode cL_acts 257 = .ok (.irem, 1) := by decide +kernel
theorem dL_acts_258 : decode cL_acts 258 = .ok (.sipush 3600, 3) := by decide +kernel
theorem dL_acts_261 : decode cL_acts 261 = .ok (.isub, 1) := by decide +kernel
theorem dL_acts_262 : decode cL_acts 262 = .ok (.iastore, 1) := by decide +kernel
theorem dL_acts_263 : decode cL_acts 263 = .ok (.aload_n 0, 1) := by decide +kernel
theorem dL_acts_264 : decode cL_acts 264 = .ok (.iload 12, 2) := by decide +kernel
theorem dL_acts_266 : decode cL_acts 266 = .ok (.aload 5, 2) := by decide +kernel
theorem dL_acts_268 : decode cL_acts 268 = .ok (.bipush 6, 2) := by decide +kernel
theorem dL_acts_270 : decode cL_acts 270 = .ok (.iload 12, 2) := by decide +kernel
theorem dL_acts_272 : decode cL_acts 272 = .ok (.imul, 1) := by decide +kernel
theorem dL_acts_273 : decode cL_acts 273 = .ok (.iconst 5, 1) := by decide +kernel
theorem dL_acts_274 : decode cL_acts 274 = .ok (.iadd, 1) := by decide +kernel
theorem dL_acts_275 : decode cL_acts 275 = .ok (.iaload, 1) := by decide +kernel
theorem dL_acts_276 : decode cL_acts 276 = .ok (.invokestatic 178, 3) := by decide +kernel
theorem dL_acts_279 : decode cL_acts 279 = .ok (.iload 13, 2) := by decide +kernel
theorem dL_acts_281 : decode cL_acts 281 = .ok (.if_icmp .ne 7, 3) := by decide +kernel
theorem dL_acts_284 : decode cL_acts 284 = .ok (.iconst 1, 1) := by decide +kernel
theorem dL_acts_285 : decode cL_acts 285 = .ok (.goto 4, 3) := by decide +kernel
theorem dL_acts_288 : decode cL_acts 288 = .ok (.iconst 0, 1) := by decide +kernel
theorem dL_acts_289 : decode cL_acts 289 = .ok (.ireturn, 1) := by decide +kernel
theorem dL_acts_290 : decode cL_acts 290 = .ok (.iload 11, 2) := by decide +kernel
theorem dL_acts_292 : decode cL_acts 292 = .ok (.bipush 17, 2) := by decide +kernel
theorem dL_acts_294 : decode cL_acts 294 = .ok (.if_icmp .ge 94, 3) := by decide +kernel
theorem dL_acts_297 : decode cL_acts 297 = .ok (.iload 10, 2) := by decide +kernel
theorem dL_acts_299 : decode cL_acts 299 = .ok (.aload_n 1, 1) := by decide +kernel
theorem dL_acts_300 : decode cL_acts 300 = .ok (.iconst 4, 1) := by decide +kernel
theorem dL_acts_301 : decode cL_acts 301 = .ok (.iaload, 1) := by decide +kernel
theorem dL_acts_302 : decode cL_acts 302 = .ok (.irem, 1) := by decide +kernel
theorem dL_acts_303 : decode cL_acts 303 = .ok (.istore 12, 2) := by decide +kernel
theorem dL_acts_305 : decode cL_acts 305 = .ok (.aload_n 1, 1) := by decide +kernel
theorem dL_acts_306 : decode cL_acts 306 = .ok (.iconst 5, 1) := by decide +kernel
theorem dL_acts_307 : decode cL_acts 307 = .ok (.iaload, 1) := by decide +kernel
theorem dL_acts_308 : decode cL_acts 308 = .ok (.iconst 4, 1) := by decide +kernel
theorem dL_acts_309 : decode cL_acts 309 = .ok (.if_icmp .ne 20, 3) := by decide +kernel
theorem dL_acts_312 : decode cL_acts 312 = .ok (.aload_n 0, 1) := by decide +kernel
theorem dL_acts_313 : decode cL_acts 313 = .ok (.iload 12, 2) := by decide +kernel
theorem dL_acts_315 : decode cL_acts 315 = .ok (.invokestatic 181, 3) := by decide +kernel
theorem dL_acts_318 : decode cL_acts 318 = .ok (.ldc 23, 2) := by decide +kernel
theorem dL_acts_320 : decode cL_acts 320 = .ok (.if_icmp .ne 7, 3) := by decide +kernel
theorem dL_acts_323 : decode cL_acts 323 = .ok (.iconst 1, 1) := by decide +kernel
theorem dL_acts_324 : decode cL_acts 324 = .ok (.goto 4, 3) := by decide +kernel
theorem dL_acts_327 : decode cL_acts 327 = .ok (.iconst 0, 1) := by decide +kernel
theorem dL_acts_328 : decode cL_acts 328 = .ok (.ireturn, 1) := by decide +kernel
theorem dL_acts_329 : decode cL_acts 329 = .ok (.aload 6, 2) := by decide +kernel
theorem dL_acts_331 : decode cL_acts 331 = .ok (.iconst 4, 1) := by decide +kernel
theorem dL_acts_332 : decode cL_acts 332 = .ok (.aload_n 1, 1) := by decide +kernel
theorem dL_acts_333 : decode cL_acts 333 = .ok (.iconst 5, 1) := by decide +kernel
theorem dL_acts_334 : decode cL_acts 334 = .ok (.iaload, 1) := by decide +kernel
theorem dL_acts_335 : decode cL_acts 335 = .ok (.imul, 1) := by decide +kernel
theorem dL_acts_336 : decode cL_acts 336 = .ok (.iload 12, 2) := by decide +kernel
theorem dL_acts_338 : decode cL_acts 338 = .ok (.iastore, 1) := by decide +kernel
theorem dL_acts_339 : decode cL_acts 339 = .ok (.aload 6, 2) := by decide +kernel
theorem dL_acts_341 : decode cL_acts 341 = .ok (.iconst 4, 1) := by decide +kernel
theorem dL_acts_342 : decode cL_acts 342 = .ok (.aload_n 1, 1) := by decide +kernel
theorem dL_acts_343 : decode cL_acts 343 = .ok (.iconst 5, 1) := by decide +kernel
theorem dL_acts_344 : decode cL_acts 344 = .ok (.iaload, 1) := by decide +kernel
theorem dL_acts_345 : decode cL_acts 345 = .ok (.imul, 1) := by decide +kernel
theorem dL_acts_346 : decode cL_acts 346 = .ok (.iconst 1, 1) := by decide +kernel
theorem dL_acts_347 : decode cL_acts 347 = .ok (.iadd, 1) := by decide +kernel
theorem dL_acts_348 : decode cL_acts 348 = .ok (.iconst 0, 1) := by decide +kernel
theorem dL_acts_349 : decode cL_acts 349 = .ok (.iastore, 1) := by decide +kernel
theorem dL_acts_350 : decode cL_acts 350 = .ok (.aload 6, 2) := by decide +kernel
theorem dL_acts_352 : decode cL_acts 352 = .ok (.iconst 4, 1) := by decide +kernel
theorem dL_acts_353 : decode cL_acts 353 = .ok (.aload_n 1, 1) := by decide +kernel
theorem dL_acts_354 : decode cL_acts 354 = .ok (.iconst 5, 1) := by decide +kernel
theorem dL_acts_355 : decode cL_acts 355 = .ok (.iaload, 1) := by decide +kernel
theorem dL_acts_356 : decode cL_acts 356 = .ok (.imul, 1) := by decide +kernel
theorem dL_acts_357 : decode cL_acts 357 = .ok (.iconst 2, 1) := by decide +kernel
theorem dL_acts_358 : decode cL_acts 358 = .ok (.iadd, 1) := by decide +kernel
theorem dL_acts_359 : decode cL_acts 359 = .ok (.iconst (-1), 1) := by decide +kernel
theorem dL_acts_360 : decode cL_acts 360 = .ok (.iastore, 1) := by decide +kernel
theorem dL_acts_361 : decode cL_acts 361 = .ok (.aload_n 1, 1) := by decide +kernel
theorem dL_acts_362 : decode cL_acts 362 = .ok (.iconst 5, 1) := by decide +kernel
theorem dL_acts_363 : decode cL_acts 363 = .ok (.dup2, 1) := by decide +kernel
theorem dL_acts_364 : decode cL_acts 364 = .ok (.iaload, 1) := by decide +kernel
theorem dL_acts_365 : decode cL_acts 365 = .ok (.iconst 1, 1) := by decide +kernel
theorem dL_acts_366 : decode cL_acts 366 = .ok (.iadd, 1) := by decide +kernel
theorem dL_acts_367 : decode cL_acts 367 = .ok (.iastore, 1) := by decide +kernel
theorem dL_acts_368 : decode cL_acts 368 = .ok (.aload_n 0, 1) := by decide +kernel
theorem dL_acts_369 : decode cL_acts 369 = .ok (.iload 12, 2) := by decide +kernel
theorem dL_acts_371 : decode cL_acts 371 = .ok (.invokestatic 181, 3) := by decide +kernel
theorem dL_acts_374 : decode cL_acts 374 = .ok (.aload_n 1, 1) := by decide +kernel
theorem dL_acts_375 : decode cL_acts 375 = .ok (.iconst 5, 1) := by decide +kernel
theorem dL_acts_376 : decode cL_acts 376 = .ok (.iaload, 1) := by decide +kernel
theorem dL_acts_377 : decode cL_acts 377 = .ok (.iconst 1, 1) := by decide +kernel
theorem dL_acts_378 : decode cL_acts 378 = .ok (.isub, 1) := by decide +kernel
theorem dL_acts_379 : decode cL_acts 379 = .ok (.if_icmp .ne 7, 3) := by decide +kernel
theorem dL_acts_382 : decode cL_acts 382 = .ok (.iconst 1, 1) := by decide +kernel
theorem dL_acts_383 : decode cL_acts 383 = .ok (.goto 4, 3) := by decide +kernel
theorem dL_acts_386 : decode cL_acts 386 = .ok (.iconst 0, 1) := by decide +kernel
theorem dL_acts_387 : decode cL_acts 387 = .ok (.ireturn, 1) := by decide +kernel
theorem dL_acts_388 : decode cL_acts 388 = .ok (.aload_n 1, 1) := by decide +kernel
theorem dL_acts_389 : decode cL_acts 389 = .ok (.iconst 5, 1) := by decide +kernel
theorem dL_acts_390 : decode cL_acts 390 = .ok (.iaload, 1) := by decide +kernel
theorem dL_acts_391 : decode cL_acts 391 = .ok (.ifCond .ne 53, 3) := by decide +kernel
theorem dL_acts_394 : decode cL_acts 394 = .ok (.aload_n 0, 1) := by decide +kernel
theorem dL_acts_395 : decode cL_acts 395 = .ok (.iconst 0, 1) := by decide +kernel
theorem dL_acts_396 : decode cL_acts 396 = .ok (.iconst 0, 1) := by decide +kernel
theorem dL_acts_397 : decode cL_acts 397 = .ok (.iconst 1, 1) := by decide +kernel
theorem dL_acts_398 : decode cL_acts 398 = .ok (.invokestatic 149, 3) := by decide +kernel
theorem dL_acts_401 : decode cL_acts 401 = .ok (.ldc 29, 2) := by decide +kernel
theorem dL_acts_403 : decode cL_acts 403 = .ok (.if_icmp .ne 39, 3) := by decide +kernel
theorem dL_acts_406 : decode cL_acts 406 = .ok (.aload_n 0, 1) := by decide +kernel
theorem dL_acts_407 : decode cL_acts 407 = .ok (.iconst 0, 1) := by decide +kernel
theorem dL_acts_408 : decode cL_acts 408 = .ok (.invokestatic 153, 3) := by decide +kernel
theorem dL_acts_411 : decode cL_acts 411 = .ok (.ldc 29, 2) := by decide +kernel
theorem dL_acts_413 : decode cL_acts 413 = .ok (.if_icmp .ne 29, 3) := by decide +kernel
theorem dL_acts_416 : decode cL_acts 416 = .ok (.aload_n 0, 1) := by decide +kernel
theorem dL_acts_417 : decode cL_acts 417 = .ok (.iconst 0, 1) := by decide +kernel
theorem dL_acts_418 : decode cL_acts 418 = .ok (.iconst 0, 1) := by decide +kernel
theorem dL_acts_419 : decode cL_acts 419 = .ok (.iconst 0, 1) := by decide +kernel
theorem dL_acts_420 : decode cL_acts 420 = .ok (.invokestatic 156, 3) := by decide +kernel
theorem dL_acts_423 : decode cL_acts 423 = .ok (.ldc 29, 2) := by decide +kernel
theorem dL_acts_425 : decode cL_acts 425 = .ok (.if_icmp .ne 17, 3) := by decide +kernel
theorem dL_acts_428 : decode cL_acts 428 = .ok (.aload_n 0, 1) := by decide +kernel
theorem dL_acts_429 : decode cL_acts 429 = .ok (.iconst 0, 1) := by decide +kernel
theorem dL_acts_430 : decode cL_acts 430 = .ok (.invokestatic 161, 3) := by decide +kernel
theorem dL_acts_433 : decode cL_acts 433 = .ok (.ldc 29, 2) := by decide +kernel
theorem dL_acts_435 : decode cL_acts 435 = .ok (.if_icmp .ne 7, 3) := by decide +kernel
theorem dL_acts_438 : decode cL_acts 438 = .ok (.iconst 1, 1) := by decide +kernel
theorem dL_acts_439 : decode cL_acts 439 = .ok (.goto 4, 3) := by decide +kernel
theorem dL_acts_442 : decode cL_acts 442 = .ok (.iconst 0, 1) := by decide +kernel
theorem dL_acts_443 : decode cL_acts 443 = .ok (.ireturn, 1) := by decide +kernel
theorem dL_acts_444 : decode cL_acts 444 = .ok (.aload_n 0, 1) := by decide +kernel
theorem dL_acts_445 : decode cL_acts 445 = .ok (.aload_n 1, 1) := by decide +kernel
theorem dL_acts_446 : decode cL_acts 446 = .ok (.aload_n 3, 1) := by decide +kernel
theorem dL_acts_447 : decode cL_acts 447 = .ok (.aload 4, 2) := by decide +kernel
theorem dL_acts_449 : decode cL_acts 449 = .ok (.aload 5, 2) := by decide +kernel
theorem dL_acts_451 : decode cL_acts 451 = .ok (.aload 6, 2) := by decide +kernel
theorem dL_acts_453 : decode cL_acts 453 = .ok (.aload 7, 2) := by decide +kernel
theorem dL_acts_455 : decode cL_acts 455 = .ok (.aload 8, 2) := by decide +kernel
theorem dL_acts_457 : decode cL_acts 457 = .ok (.iload 10, 2) := by decide +kernel
theorem dL_acts_459 : decode cL_acts 459 = .ok (.iload 11, 2) := by decide +kernel
theorem dL_acts_461 : decode cL_acts 461 = .ok (.bipush 22, 2) := by decide +kernel
theorem dL_acts_463 : decode cL_acts 463 = .ok (.if_icmp .ge 7, 3) := by decide +kernel
theorem dL_acts_466 : decode cL_acts 466 = .ok (.iconst 0, 1) := by decide +kernel
theorem dL_acts_467 : decode cL_acts 467 = .ok (.goto 26, 3) := by decide +kernel
theorem dL_acts_470 : decode cL_acts 470 = .ok (.iload 11, 2) := by decide +kernel
theorem dL_acts_472 : decode cL_acts 472 = .ok (.bipush 22, 2) := by decide +kernel
theorem dL_acts_474 : decode cL_acts 474 = .ok (.if_icmp .ne 7, 3) := by decide +kernel
theorem dL_acts_477 : decode cL_acts 477 = .ok (.iconst 1, 1) := by decide +kernel
theorem dL_acts_478 : decode cL_acts 478 = .ok (.goto 15, 3) := by decide +kernel
theorem dL_acts_481 : decode cL_acts 481 = .ok (.iload 11, 2) := by decide +kernel
theorem dL_acts_483 : decode cL_acts 483 = .ok (.bipush 26, 2) := by decide +kernel
theorem dL_acts_485 : decode cL_acts 485 = .ok (.if_icmp .ge 7, 3) := by decide +kernel
theorem dL_acts_488 : decode cL_acts 488 = .ok (.iconst 2, 1) := by decide +kernel
theorem dL_acts_489 : decode cL_acts 489 = .ok (.goto 4, 3) := by decide +kernel
theorem dL_acts_492 : decode cL_acts 492 = .ok (.iconst 3, 1) := by decide +kernel
theorem dL_acts_493 : decode cL_acts 493 = .ok (.invokestatic 184, 3) := by decide +kernel
theorem dL_acts_496 : decode cL_acts 496 = .ok (.ireturn, 1) := by decide +kernel
theorem dL_infoOf_0 : decode cL_infoOf 0 = .ok (.aload_n 0, 1) := by decide +kernel
theorem dL_infoOf_1 : decode cL_infoOf 1 = .ok (.iload_n 1, 1) := by decide +kernel
theorem dL_infoOf_2 : decode cL_infoOf 2 = .ok (.invokevirtual 188, 3) := by decide +kernel
theorem dL_infoOf_5 : decode cL_infoOf 5 = .ok (.ireturn, 1) := by decide +kernel
theorem dL_infoOf_6 : decode cL_infoOf 6 = .ok (.astore_n 2, 1) := by decide +kernel
theorem dL_infoOf_7 : decode cL_infoOf 7 = .ok (.ldc 17, 2) := by decide +kernel
theorem dL_infoOf_9 : decode cL_infoOf 9 = .ok (.ireturn, 1) := by decide +kernel
theorem dL_wireOf_0 : decode cL_wireOf 0 = .ok (.aload_n 0, 1) := by decide +kernel
theorem dL_wireOf_1 : decode cL_wireOf 1 = .ok (.iload_n 1, 1) := by decide +kernel
theorem dL_wireOf_2 : decode cL_wireOf 2 = .ok (.iload_n 2, 1) := by decide +kernel
theorem dL_wireOf_3 : decode cL_wireOf 3 = .ok (.invokevirtual 191, 3) := by decide +kernel
theorem dL_wireOf_6 : decode cL_wireOf 6 = .ok (.ireturn, 1) := by decide +kernel
theorem dL_wireOf_7 : decode cL_wireOf 7 = .ok (.astore_n 3, 1) := by decide +kernel
theorem dL_wireOf_8 : decode cL_wireOf 8 = .ok (.ldc 29, 2) := by decide +kernel
theorem dL_wireOf_10 : decode cL_wireOf 10 = .ok (.ireturn, 1) := by decide +kernel
theorem dL_wireOf_11 : decode cL_wireOf 11 = .ok (.astore_n 3, 1) := by decide +kernel
theorem dL_wireOf_12 : decode cL_wireOf 12 = .ok (.ldc 17, 2) := by decide +kernel
theorem dL_wireOf_14 : decode cL_wireOf 14 = .ok (.ireturn, 1) := by decide +kernel
theorem dL_joinOf_0 : decode cL_joinOf 0 = .ok (.aload_n 0, 1) := by decide +kernel
theorem dL_joinOf_1 : decode cL_joinOf 1 = .ok (.iload_n 1, 1) := by decide +kernel
theorem dL_joinOf_2 : decode cL_joinOf 2 = .ok (.iload_n 2, 1) := by decide +kernel
theorem dL_joinOf_3 : decode cL_joinOf 3 = .ok (.invokevirtual 194, 3) := by decide +kernel
theorem dL_joinOf_6 : decode cL_joinOf 6 = .ok (.ireturn, 1) := by decide +kernel
theorem dL_joinOf_7 : decode cL_joinOf 7 = .ok (.astore_n 3, 1) := by decide +kernel
theorem dL_joinOf_8 : decode cL_joinOf 8 = .ok (.ldc 29, 2) := by decide +kernel
theorem dL_joinOf_10 : decode cL_joinOf 10 = .ok (.ireturn, 1) := by decide +kernel
theorem dL_joinOf_11 : decode cL_joinOf 11 = .ok (.astore_n 3, 1) := by decide +kernel
theorem dL_joinOf_12 : decode cL_joinOf 12 = .ok (.ldc 17, 2) := by decide +kernel
theorem dL_joinOf_14 : decode cL_joinOf 14 = .ok (.ireturn, 1) := by decide +kernel
theorem dL_traverseOf_0 : decode cL_traverseOf 0 = .ok (.aload_n 0, 1) := by decide +kernel
theorem dL_traverseOf_1 : decode cL_traverseOf 1 = .ok (.iload_n 1, 1) := by decide +kernel
theorem dL_traverseOf_2 : decode cL_traverseOf 2 = .ok (.iload_n 2, 1) := by decide +kernel
theorem dL_traverseOf_3 : decode cL_traverseOf 3 = .ok (.invokevirtual 197, 3) := by decide +kernel
theorem dL_traverseOf_6 : decode cL_traverseOf 6 = .ok (.ireturn, 1) := by decide +kernel
theorem dL_traverseOf_7 : decode cL_traverseOf 7 = .ok (.astore_n 3, 1) := by decide +kernel
theorem dL_traverseOf_8 : decode cL_traverseOf 8 = .ok (.ldc 29, 2) := by decide +kernel
theorem dL_traverseOf_10 : decode cL_traverseOf 10 = .ok (.ireturn, 1) := by decide +kernel
theorem dL_traverseOf_11 : decode cL_traverseOf 11 = .ok (.astore_n 3, 1) := by decide +kernel
theorem dL_traverseOf_12 : decode cL_traverseOf 12 = .ok (.ldc 17, 2) := by decide +kernel
theorem dL_traverseOf_14 : decode cL_traverseOf 14 = .ok (.ireturn, 1) := by decide +kernel
theorem dL_legOf_0 : decode cL_legOf 0 = .ok (.aload_n 0, 1) := by decide +kernel
theorem dL_legOf_1 : decode cL_legOf 1 = .ok (.iload_n 1, 1) := by decide +kernel
theorem dL_legOf_2 : decode cL_legOf 2 = .ok (.iload_n 2, 1) := by decide +kernel
theorem dL_legOf_3 : decode cL_legOf 3 = .ok (.iload_n 3, 1) := by decide +kernel
theorem dL_legOf_4 : decode cL_legOf 4 = .ok (.invokevirtual 200, 3) := by decide +kernel
theorem dL_legOf_7 : decode cL_legOf 7 = .ok (.ireturn, 1) := by decide +kernel
theorem dL_legOf_8 : decode cL_legOf 8 = .ok (.astore 4, 2) := by decide +kernel
theorem dL_legOf_10 : decode cL_legOf 10 = .ok (.ldc 29, 2) := by decide +kernel
theorem dL_legOf_12 : decode cL_legOf 12 = .ok (.ireturn, 1) := by decide +kernel
theorem dL_legOf_13 : decode cL_legOf 13 = .ok (.astore 4, 2) := by decide +kernel
theorem dL_legOf_15 : decode cL_legOf 15 = .ok (.ldc 17, 2) := by decide +kernel
theorem dL_legOf_17 : decode cL_legOf 17 = .ok (.ireturn, 1) := by decide +kernel
theorem dL_troubleOf_0 : decode cL_troubleOf 0 = .ok (.aload_n 0, 1) := by decide +kernel
theorem dL_troubleOf_1 : decode cL_troubleOf 1 = .ok (.iload_n 1, 1) := by decide +kernel
theorem dL_troubleOf_2 : decode cL_troubleOf 2 = .ok (.iload_n 2, 1) := by decide +kernel
theorem dL_troubleOf_3 : decode cL_troubleOf 3 = .ok (.invokevirtual 203, 3) := by decide +kernel
theorem dL_troubleOf_6 : decode cL_troubleOf 6 = .ok (.ireturn, 1) := by decide +kernel
theorem dL_troubleOf_7 : decode cL_troubleOf 7 = .ok (.astore_n 3, 1) := by decide +kernel
theorem dL_troubleOf_8 : decode cL_troubleOf 8 = .ok (.ldc 29, 2) := by decide +kernel
theorem dL_troubleOf_10 : decode cL_troubleOf 10 = .ok (.ireturn, 1) := by decide +kernel
theorem dL_isLeg_0 : decode cL_isLeg 0 = .ok (.aload_n 0, 1) := by decide +kernel
theorem dL_isLeg_1 : decode cL_isLeg 1 = .ok (.iload 9, 2) := by decide +kernel
theorem dL_isLeg_3 : decode cL_isLeg 3 = .ok (.iload 10, 2) := by decide +kernel
theorem dL_isLeg_5 : decode cL_isLeg 5 = .ok (.iconst 0, 1) := by decide +kernel
theorem dL_isLeg_6 : decode cL_isLeg 6 = .ok (.invokestatic 205, 3) := by decide +kernel
theorem dL_isLeg_9 : decode cL_isLeg 9 = .ok (.aload 7, 2) := by decide +kernel
theorem dL_isLeg_11 : decode cL_isLeg 11 = .ok (.bipush 12, 2) := by decide +kernel
theorem dL_isLeg_13 : decode cL_isLeg 13 = .ok (.iload 9, 2) := by decide +kernel
theorem dL_isLeg_15 : decode cL_isLeg 15 = .ok (.imul, 1) := by decide +kernel
theorem dL_isLeg_16 : decode cL_isLeg 16 = .ok (.iload 10, 2) := by decide +kernel
theorem dL_isLeg_18 : decode cL_isLeg 18 = .ok (.iadd, 1) := by decide +kernel
theorem dL_isLeg_19 : decode cL_isLeg 19 = .ok (.iaload, 1) := by decide +kernel
theorem dL_isLeg_20 : decode cL_isLeg 20 = .ok (.if_icmp .ne 44, 3) := by decide +kernel
theorem dL_isLeg_23 : decode cL_isLeg 23 = .ok (.aload_n 0, 1) := by decide +kernel
theorem dL_isLeg_24 : decode cL_isLeg 24 = .ok (.iload 9, 2) := by decide +kernel
theorem dL_isLeg_26 : decode cL_isLeg 26 = .ok (.iload 10, 2) := by decide +kernel
theorem dL_isLeg_28 : decode cL_isLeg 28 = .ok (.iconst 1, 1) := by decide +kernel
theorem dL_isLeg_29 : decode cL_isLeg 29 = .ok (.invokestatic 205, 3) := by decide +kernel
theorem dL_isLeg_32 : decode cL_isLeg 32 = .ok (.aload 8, 2) := by decide +kernel
theorem dL_isLeg_34 : decode cL_isLeg 34 = .ok (.bipush 12, 2) := by decide +kernel
theorem dL_isLeg_36 : decode cL_isLeg 36 = .ok (.iload 9, 2) := by decide +kernel
theorem dL_isLeg_38 : decode cL_isLeg 38 = .ok (.imul, 1) := by decide +kernel
theorem dL_isLeg_39 : decode cL_isLeg 39 = .ok (.iload 10, 2) := by decide +kernel
theorem dL_isLeg_41 : decode cL_isLeg 41 = .ok (.iadd, 1) := by decide +kernel
theorem dL_isLeg_42 : decode cL_isLeg 42 = .ok (.iaload, 1) := by decide +kernel
theorem dL_isLeg_43 : decode cL_isLeg 43 = .ok (.if_icmp .ne 21, 3) := by decide +kernel
theorem dL_isLeg_46 : decode cL_isLeg 46 = .ok (.aload_n 0, 1) := by decide +kernel
theorem dL_isLeg_47 : decode cL_isLeg 47 = .ok (.iload 9, 2) := by decide +kernel
theorem dL_isLeg_49 : decode cL_isLeg 49 = .ok (.iload 10, 2) := by decide +kernel
theorem dL_isLeg_51 : decode cL_isLeg 51 = .ok (.iconst 5, 1) := by decide +kernel
theorem dL_isLeg_52 : decode cL_isLeg 52 = .ok (.invokestatic 205, 3) := by decide +kernel
theorem dL_isLeg_55 : decode cL_isLeg 55 = .ok (.ldc 17, 2) := by decide +kernel
theorem dL_isLeg_57 : decode cL_isLeg 57 = .ok (.if_icmp .ne 7, 3) := by decide +kernel
theorem dL_isLeg_60 : decode cL_isLeg 60 = .ok (.iconst 1, 1) := by decide +kernel
theorem dL_isLeg_61 : decode cL_isLeg 61 = .ok (.goto 4, 3) := by decide +kernel
theorem dL_isLeg_64 : decode cL_isLeg 64 = .ok (.iconst 0, 1) := by decide +kernel
theorem dL_isLeg_65 : decode cL_isLeg 65 = .ok (.istore 11, 2) := by decide +kernel
theorem dL_isLeg_67 : decode cL_isLeg 67 = .ok (.aload_n 1, 1) := by decide +kernel
theorem dL_isLeg_68 : decode cL_isLeg 68 = .ok (.aload_n 3, 1) := by decide +kernel
theorem dL_isLeg_69 : decode cL_isLeg 69 = .ok (.aload 4, 2) := by decide +kernel
theorem dL_isLeg_71 : decode cL_isLeg 71 = .ok (.aload 5, 2) := by decide +kernel
theorem dL_isLeg_73 : decode cL_isLeg 73 = .ok (.aload 6, 2) := by decide +kernel
theorem dL_isLeg_75 : decode cL_isLeg 75 = .ok (.iconst 4, 1) := by decide +kernel
theorem dL_isLeg_76 : decode cL_isLeg 76 = .ok (.iload 9, 2) := by decide +kernel
theorem dL_isLeg_78 : decode cL_isLeg 78 = .ok (.imul, 1) := by decide +kernel
theorem dL_isLeg_79 : decode cL_isLeg 79 = .ok (.iaload, 1) := by decide +kernel
theorem dL_isLeg_80 : decode cL_isLeg 80 = .ok (.invokestatic 105, 3) := by decide +kernel
theorem dL_isLeg_83 : decode cL_isLeg 83 = .ok (.ifCond .le 56, 3) := by decide +kernel
theorem dL_isLeg_86 : decode cL_isLeg 86 = .ok (.iload 11, 2) := by decide +kernel
theorem dL_isLeg_88 : decode cL_isLeg 88 = .ok (.ifCond .eq 49, 3) := by decide +kernel
theorem dL_isLeg_91 : decode cL_isLeg 91 = .ok (.aload_n 0, 1) := by decide +kernel
theorem dL_isLeg_92 : decode cL_isLeg 92 = .ok (.iload 9, 2) := by decide +kernel
theorem dL_isLeg_94 : decode cL_isLeg 94 = .ok (.iload 10, 2) := by decide +kernel
theorem dL_isLeg_96 : decode cL_isLeg 96 = .ok (.iconst 2, 1) := by decide +kernel
theorem dL_isLeg_97 : decode cL_isLeg 97 = .ok (.invokestatic 205, 3) := by decide +kernel
theorem dL_isLeg_100 : decode cL_isLeg 100 = .ok (.ldc 81, 2) := by decide +kernel
theorem dL_isLeg_102 : decode cL_isLeg 102 = .ok (.if_icmp .ne 35, 3) := by decide +kernel
theorem dL_isLeg_105 : decode cL_isLeg 105 = .ok (.aload_n 0, 1) := by decide +kernel
theorem dL_isLeg_106 : decode cL_isLeg 106 = .ok (.iload 9, 2) := by decide +kernel
theorem dL_isLeg_108 : decode cL_isLeg 108 = .ok (.iload 10, 2) := by decide +kernel
theorem dL_isLeg_110 : decode cL_isLeg 110 = .ok (.iconst 3, 1) := by decide +kernel
theorem dL_isLeg_111 : decode cL_isLeg 111 = .ok (.invokestatic 205, 3) := by decide +kernel
theorem dL_isLeg_114 : decode cL_isLeg 114 = .ok (.ldc 81, 2) := by decide +kernel
theorem dL_isLeg_116 : decode cL_isLeg 116 = .ok (.if_icmp .ne 21, 3) := by decide +kernel
theorem dL_isLeg_119 : decode cL_isLeg 119 = .ok (.aload_n 0, 1) := by decide +kernel
theorem dL_isLeg_120 : decode cL_isLeg 120 = .ok (.iload 9, 2) := by decide +kernel
theorem dL_isLeg_122 : decode cL_isLeg 122 = .ok (.iload 10, 2) := by decide +kernel
theorem dL_isLeg_124 : decode cL_isLeg 124 = .ok (.iconst 4, 1) := by decide +kernel
theorem dL_isLeg_125 : decode cL_isLeg 125 = .ok (.invokestatic 205, 3) := by decide +kernel
theorem dL_isLeg_128 : decode cL_isLeg 128 = .ok (.ldc 81, 2) := by decide +kernel
theorem dL_isLeg_130 : decode cL_isLeg 130 = .ok (.if_icmp .ne 7, 3) := by decide +kernel
theorem dL_isLeg_133 : decode cL_isLeg 133 = .ok (.iconst 1, 1) := by decide +kernel
theorem dL_isLeg_134 : decode cL_isLeg 134 = .ok (.goto 4, 3) := by decide +kernel
theorem dL_isLeg_137 : decode cL_isLeg 137 = .ok (.iconst 0, 1) := by decide +kernel
theorem dL_isLeg_138 : decode cL_isLeg 138 = .ok (.ireturn, 1) := by decide +kernel
theorem dL_isLeg_139 : decode cL_isLeg 139 = .ok (.iload 11, 2) := by decide +kernel
theorem dL_isLeg_141 : decode cL_isLeg 141 = .ok (.ifCond .eq 99, 3) := by decide +kernel
theorem dL_isLeg_144 : decode cL_isLeg 144 = .ok (.aload_n 0, 1) := by decide +kernel
theorem dL_isLeg_145 : decode cL_isLeg 145 = .ok (.iload 9, 2) := by decide +kernel
theorem dL_isLeg_147 : decode cL_isLeg 147 = .ok (.iload 10, 2) := by decide +kernel
theorem dL_isLeg_149 : decode cL_isLeg 149 = .ok (.iconst 2, 1) := by decide +kernel
theorem dL_isLeg_150 : decode cL_isLeg 150 = .ok (.invokestatic 205, 3) := by decide +kernel
theorem dL_isLeg_153 : decode cL_isLeg 153 = .ok (.aload_n 3, 1) := by decide +kernel
theorem dL_isLeg_154 : decode cL_isLeg 154 = .ok (.aload 4, 2) := by decide +kernel
theorem dL_isLeg_156 : decode cL_isLeg 156 = .ok (.aload 5, 2) := by decide +kernel
theorem dL_isLeg_158 : decode cL_isLeg 158 = .ok (.aload 6, 2) := by decide +kernel
theorem dL_isLeg_160 : decode cL_isLeg 160 = .ok (.aload 7, 2) := by decide +kernel
theorem dL_isLeg_162 : decode cL_isLeg 162 = .ok (.iload 9, 2) := by decide +kernel
theorem dL_isLeg_164 : decode cL_isLeg 164 = .ok (.iload 10, 2) := by decide +kernel
theorem dL_isLeg_166 : decode cL_isLeg 166 = .ok (.invokestatic 98, 3) := by decide +kernel
theorem dL_isLeg_169 : decode cL_isLeg 169 = .ok (.if_icmp .ne 71, 3) := by decide +kernel
theorem dL_isLeg_172 : decode cL_isLeg 172 = .ok (.aload_n 0, 1) := by decide +kernel
theorem dL_isLeg_173 : decode cL_isLeg 173 = .ok (.iload 9, 2) := by decide +kernel
theorem dL_isLeg_175 : decode cL_isLeg 175 = .ok (.iload 10, 2) := by decide +kernel
theorem dL_isLeg_177 : decode cL_isLeg 177 = .ok (.iconst 3, 1) := by decide +kernel
theorem dL_isLeg_178 : decode cL_isLeg 178 = .ok (.invokestatic 205, 3) := by decide +kernel
theorem dL_isLeg_181 : decode cL_isLeg 181 = .ok (.aload_n 2, 1) := by decide +kernel
theorem dL_isLeg_182 : decode cL_isLeg 182 = .ok (.aload_n 3, 1) := by decide +kernel
theorem dL_isLeg_183 : decode cL_isLeg 183 = .ok (.aload 4, 2) := by decide +kernel
theorem dL_isLeg_185 : decode cL_isLeg 185 = .ok (.aload 5, 2) := by decide +kernel
theorem dL_isLeg_187 : decode cL_isLeg 187 = .ok (.aload 6, 2) := by decide +kernel
theorem dL_isLeg_189 : decode cL_isLeg 189 = .ok (.aload 7, 2) := by decide +kernel
theorem dL_isLeg_191 : decode cL_isLeg 191 = .ok (.aload 8, 2) := by decide +kernel
theorem dL_isLeg_193 : decode cL_isLeg 193 = .ok (.iload 9, 2) := by decide +kernel
theorem dL_isLeg_195 : decode cL_isLeg 195 = .ok (.iload 10, 2) := by decide +kernel
theorem dL_isLeg_197 : decode cL_isLeg 197 = .ok (.iconst 0, 1) := by decide +kernel
theorem dL_isLeg_198 : decode cL_isLeg 198 = .ok (.invokestatic 127, 3) := by decide +kernel
theorem dL_isLeg_201 : decode cL_isLeg 201 = .ok (.if_icmp .ne 39, 3) := by decide +kernel
theorem dL_isLeg_204 : decode cL_isLeg 204 = .ok (.aload_n 0, 1) := by decide +kernel
theorem dL_isLeg_205 : decode cL_isLeg 205 = .ok (.iload 9, 2) := by decide +kernel
theorem dL_isLeg_207 : decode cL_isLeg 207 = .ok (.iload 10, 2) := by decide +kernel
theorem dL_isLeg_209 : decode cL_isLeg 209 = .ok (.iconst 4, 1) := by decide +kernel
theorem dL_isLeg_210 : decode cL_isLeg 210 = .ok (.invokestatic 205, 3) := by decide +kernel
theorem dL_isLeg_213 : decode cL_isLeg 213 = .ok (.aload_n 2, 1) := by decide +kernel
theorem dL_isLeg_214 : decode cL_isLeg 214 = .ok (.aload_n 3, 1) := by decide +kernel
theorem dL_isLeg_215 : decode cL_isLeg 215 = .ok (.aload 4, 2) := by decide +kernel
theorem dL_isLeg_217 : decode cL_isLeg 217 = .ok (.aload 5, 2) := by decide +kernel
theorem dL_isLeg_219 : decode cL_isLeg 219 = .ok (.aload 6, 2) := by decide +kernel
theorem dL_isLeg_221 : decode cL_isLeg 221 = .ok (.aload 7, 2) := by decide +kernel
theorem dL_isLeg_223 : decode cL_isLeg 223 = .ok (.aload 8, 2) := by decide +kernel
theorem dL_isLeg_225 : decode cL_isLeg 225 = .ok (.iload 9, 2) := by decide +kernel
theorem dL_isLeg_227 : decode cL_isLeg 227 = .ok (.iload 10, 2) := by decide +kernel
theorem dL_isLeg_229 : decode cL_isLeg 229 = .ok (.iconst 1, 1) := by decide +kernel
theorem dL_isLeg_230 : decode cL_isLeg 230 = .ok (.invokestatic 127, 3) := by decide +kernel
theorem dL_isLeg_233 : decode cL_isLeg 233 = .ok (.if_icmp .ne 7, 3) := by decide +kernel
theorem dL_isLeg_236 : decode cL_isLeg 236 = .ok (.iconst 1, 1) := by decide +kernel
theorem dL_isLeg_237 : decode cL_isLeg 237 = .ok (.goto 4, 3) := by decide +kernel
theorem dL_isLeg_240 : decode cL_isLeg 240 = .ok (.iconst 0, 1) := by decide +kernel
theorem dL_isLeg_241 : decode cL_isLeg 241 = .ok (.ireturn, 1) := by decide +kernel
theorem dL_isTraverse_0 : decode cL_isTraverse 0 = .ok (.ldc 81, 2) := by decide +kernel
theorem dL_isTraverse_2 : decode cL_isTraverse 2 = .ok (.istore 10, 2) := by decide +kernel
theorem dL_isTraverse_4 : decode cL_isTraverse 4 = .ok (.iconst 0, 1) := by decide +kernel
theorem dL_isTraverse_5 : decode cL_isTraverse 5 = .ok (.istore 11, 2) := by decide +kernel
theorem dL_isTraverse_7 : decode cL_isTraverse 7 = .ok (.iconst 1, 1) := by decide +kernel
theorem dL_isTraverse_8 : decode cL_isTraverse 8 = .ok (.istore 12, 2) := by decide +kernel
theorem dL_isTraverse_10 : decode cL_isTraverse 10 = .ok (.iconst 0, 1) := by decide +kernel
theorem dL_isTraverse_11 : decode cL_isTraverse 11 = .ok (.istore 13, 2) := by decide +kernel
theorem dL_isTraverse_13 : decode cL_isTraverse 13 = .ok (.iload 13, 2) := by decide +kernel
theorem dL_isTraverse_15 : decode cL_isTraverse 15 = .ok (.aload 6, 2) := by decide +kernel
theorem dL_isTraverse_17 : decode cL_isTraverse 17 = .ok (.iconst 4, 1) := by decide +kernel
theorem dL_isTraverse_18 : decode cL_isTraverse 18 = .ok (.iload 9, 2) := by decide +kernel
theorem dL_isTraverse_20 : decode cL_isTraverse 20 = .ok (.imul, 1) := by decide +kernel
theorem dL_isTraverse_21 : decode cL_isTraverse 21 = .ok (.iconst 1, 1) := by decide +kernel
theorem dL_isTraverse_22 : decode cL_isTraverse 22 = .ok (.iadd, 1) := by decide +kernel
theorem dL_isTraverse_23 : decode cL_isTraverse 23 = .ok (.iaload, 1) := by decide +kernel
theorem dL_isTraverse_24 : decode cL_isTraverse 24 = .ok (.if_icmp .ge 53, 3) := by decide +kernel
theorem dL_isTraverse_27 : decode cL_isTraverse 27 = .ok (.iload 12, 2) := by decide +kernel
theorem dL_isTraverse_29 : decode cL_isTraverse 29 = .ok (.ifCond .eq 48, 3) := by decide +kernel
theorem dL_isTraverse_32 : decode cL_isTraverse 32 = .ok (.iload 11, 2) := by decide +kernel
theorem dL_isTraverse_34 : decode cL_isTraverse 34 = .ok (.aload 8, 2) := by decide +kernel
theorem dL_isTraverse_36 : decode cL_isTraverse 36 = .ok (.bipush 12, 2) := by decide +kernel
theorem dL_isTraverse_38 : decode cL_isTraverse 38 = .ok (.iload 9, 2) := by decide +kernel
theorem dL_isTraverse_40 : decode cL_isTraverse 40 = .ok (.imul, 1) := by decide +kernel
theorem dL_isTraverse_41 : decode cL_isTraverse 41 = .ok (.iload 13, 2) := by decide +kernel
theorem dL_isTraverse_43 : decode cL_isTraverse 43 = .ok (.iadd, 1) := by decide +kernel
theorem dL_isTraverse_44 : decode cL_isTraverse 44 = .ok (.iaload, 1) := by decide +kernel
theorem dL_isTraverse_45 : decode cL_isTraverse 45 = .ok (.iadd, 1) := by decide +kernel
theorem dL_isTraverse_46 : decode cL_isTraverse 46 = .ok (.istore 11, 2) := by decide +kernel
theorem dL_isTraverse_48 : decode cL_isTraverse 48 = .ok (.aload_n 0, 1) := by decide +kernel
theorem dL_isTraverse_49 : decode cL_isTraverse 49 = .ok (.aload_n 1, 1) := by decide +kernel
theorem dL_isTraverse_50 : decode cL_isTraverse 50 = .ok (.aload_n 2, 1) := by decide +kernel
theorem dL_isTraverse_51 : decode cL_isTraverse 51 = .ok (.aload_n 3, 1) := by decide +kernel
theorem dL_isTraverse_52 : decode cL_isTraverse 52 = .ok (.aload 4, 2) := by decide +kernel
theorem dL_isTraverse_54 : decode cL_isTraverse 54 = .ok (.aload 5, 2) := by decide +kernel
theorem dL_isTraverse_56 : decode cL_isTraverse 56 = .ok (.aload 6, 2) := by decide +kernel
theorem dL_isTraverse_58 : decode cL_isTraverse 58 = .ok (.aload 7, 2) := by decide +kernel
theorem dL_isTraverse_60 : decode cL_isTraverse 60 = .ok (.aload 8, 2) := by decide +kernel
theorem dL_isTraverse_62 : decode cL_isTraverse 62 = .ok (.iload 9, 2) := by decide +kernel
theorem dL_isTraverse_64 : decode cL_isTraverse 64 = .ok (.iload 13, 2) := by decide +kernel
theorem dL_isTraverse_66 : decode cL_isTraverse 66 = .ok (.invokestatic 208, 3) := by decide +kernel
theorem dL_isTraverse_69 : decode cL_isTraverse 69 = .ok (.istore 12, 2) := by decide +kernel
theorem dL_isTraverse_71 : decode cL_isTraverse 71 = .ok (.iinc 13 1, 3) := by decide +kernel
theorem dL_isTraverse_74 : decode cL_isTraverse 74 = .ok (.goto (-61), 3) := by decide +kernel
theorem dL_isTraverse_77 : decode cL_isTraverse 77 = .ok (.aload_n 1, 1) := by decide +kernel
theorem dL_isTraverse_78 : decode cL_isTraverse 78 = .ok (.aload_n 3, 1) := by decide +kernel
theorem dL_isTraverse_79 : decode cL_isTraverse 79 = .ok (.aload 4, 2) := by decide +kernel
theorem dL_isTraverse_81 : decode cL_isTraverse 81 = .ok (.aload 5, 2) := by decide +kernel
theorem dL_isTraverse_83 : decode cL_isTraverse 83 = .ok (.aload 6, 2) := by decide +kernel
theorem dL_isTraverse_85 : decode cL_isTraverse 85 = .ok (.aload 7, 2) := by decide +kernel
theorem dL_isTraverse_87 : decode cL_isTraverse 87 = .ok (.iload 9, 2) := by decide +kernel
theorem dL_isTraverse_89 : decode cL_isTraverse 89 = .ok (.invokestatic 123, 3) := by decide +kernel
theorem dL_isTraverse_92 : decode cL_isTraverse 92 = .ok (.istore 13, 2) := by decide +kernel
theorem dL_isTraverse_94 : decode cL_isTraverse 94 = .ok (.aload 6, 2) := by decide +kernel
theorem dL_isTraverse_96 : decode cL_isTraverse 96 = .ok (.iconst 4, 1) := by decide +kernel
theorem dL_isTraverse_97 : decode cL_isTraverse 97 = .ok (.iload 9, 2) := by decide +kernel
theorem dL_isTraverse_99 : decode cL_isTraverse 99 = .ok (.imul, 1) := by decide +kernel
theorem dL_isTraverse_100 : decode cL_isTraverse 100 = .ok (.iconst 2, 1) := by decide +kernel
theorem dL_isTraverse_101 : decode cL_isTraverse 101 = .ok (.iadd, 1) := by decide +kernel
theorem dL_isTraverse_102 : decode cL_isTraverse 102 = .ok (.iaload, 1) := by decide +kernel
theorem dL_isTraverse_103 : decode cL_isTraverse 103 = .ok (.ifCond .lt 7, 3) := by decide +kernel
theorem dL_isTraverse_106 : decode cL_isTraverse 106 = .ok (.iconst 1, 1) := by decide +kernel
theorem dL_isTraverse_107 : decode cL_isTraverse 107 = .ok (.goto 4, 3) := by decide +kernel
theorem dL_isTraverse_110 : decode cL_isTraverse 110 = .ok (.iconst 0, 1) := by decide +kernel
theorem dL_isTraverse_111 : decode cL_isTraverse 111 = .ok (.istore 14, 2) := by decide +kernel
theorem dL_isTraverse_113 : decode cL_isTraverse 113 = .ok (.aload_n 1, 1) := by decide +kernel
theorem dL_isTraverse_114 : decode cL_isTraverse 114 = .ok (.aload_n 3, 1) := by decide +kernel
theorem dL_isTraverse_115 : decode cL_isTraverse 115 = .ok (.aload 4, 2) := by decide +kernel
theorem dL_isTraverse_117 : decode cL_isTraverse 117 = .ok (.aload 5, 2) := by decide +kernel
theorem dL_isTraverse_119 : decode cL_isTraverse 119 = .ok (.aload 6, 2) := by decide +kernel
theorem dL_isTraverse_121 : decode cL_isTraverse 121 = .ok (.aload 7, 2) := by decide +kernel
theorem dL_isTraverse_123 : decode cL_isTraverse 123 = .ok (.iload 9, 2) := by decide +kernel
theorem dL_isTraverse_125 : decode cL_isTraverse 125 = .ok (.invokestatic 212, 3) := by decide +kernel
theorem dL_isTraverse_128 : decode cL_isTraverse 128 = .ok (.istore 15, 2) := by decide +kernel
theorem dL_isTraverse_130 : decode cL_isTraverse 130 = .ok (.iload 13, 2) := by decide +kernel
theorem dL_isTraverse_132 : decode cL_isTraverse 132 = .ok (.bipush 6, 2) := by decide +kernel
theorem dL_isTraverse_134 : decode cL_isTraverse 134 = .ok (.if_icmp .ne 13, 3) := by decide +kernel
theorem dL_isTraverse_137 : decode cL_isTraverse 137 = .ok (.aload 6, 2) := by decide +kernel
theorem dL_isTraverse_139 : decode cL_isTraverse 139 = .ok (.iconst 4, 1) := by decide +kernel
theorem dL_isTraverse_140 : decode cL_isTraverse 140 = .ok (.iload 9, 2) := by decide +kernel
theorem dL_isTraverse_142 : decode cL_isTraverse 142 = .ok (.imul, 1) := by decide +kernel
theorem dL_isTraverse_143 : decode cL_isTraverse 143 = .ok (.iaload, 1) := by decide +kernel
theorem dL_isTraverse_144 : decode cL_isTraverse 144 = .ok (.goto 12, 3) := by decide +kernel
theorem dL_isTraverse_147 : decode cL_isTraverse 147 = .ok (.aload 6, 2) := by decide +kernel
theorem dL_isTraverse_149 : decode cL_isTraverse 149 = .ok (.iconst 4, 1) := by decide +kernel
theorem dL_isTraverse_150 : decode cL_isTraverse 150 = .ok (.iload 9, 2) := by decide +kernel
theorem dL_isTraverse_152 : decode cL_isTraverse 152 = .ok (.imul, 1) := by decide +kernel
theorem dL_isTraverse_153 : decode cL_isTraverse 153 = .ok (.iconst 2, 1) := by decide +kernel
theorem dL_isTraverse_154 : decode cL_isTraverse 154 = .ok (.iadd, 1) := by decide +kernel
theorem dL_isTraverse_155 : decode cL_isTraverse 155 = .ok (.iaload, 1) := by decide +kernel
theorem dL_isTraverse_156 : decode cL_isTraverse 156 = .ok (.istore 16, 2) := by decide +kernel
theorem dL_isTraverse_158 : decode cL_isTraverse 158 = .ok (.iload 13, 2) := by decide +kernel
theorem dL_isTraverse_160 : decode cL_isTraverse 160 = .ok (.bipush 6, 2) := by decide +kernel
theorem dL_isTraverse_162 : decode cL_isTraverse 162 = .ok (.if_icmp .eq 10, 3) := by decide +kernel
theorem dL_isTraverse_165 : decode cL_isTraverse 165 = .ok (.iload 13, 2) := by decide +kernel
theorem dL_isTraverse_167 : decode cL_isTraverse 167 = .ok (.bipush 7, 2) := by decide +kernel
theorem dL_isTraverse_169 : decode cL_isTraverse 169 = .ok (.if_icmp .ne 17, 3) := by decide +kernel
theorem dL_isTraverse_172 : decode cL_isTraverse 172 = .ok (.aload_n 1, 1) := by decide +kernel
theorem dL_isTraverse_173 : decode cL_isTraverse 173 = .ok (.aload_n 3, 1) := by decide +kernel
theorem dL_isTraverse_174 : decode cL_isTraverse 174 = .ok (.aload 4, 2) := by decide +kernel
theorem dL_isTraverse_176 : decode cL_isTraverse 176 = .ok (.aload 5, 2) := by decide +kernel
theorem dL_isTraverse_178 : decode cL_isTraverse 178 = .ok (.iload 16, 2) := by decide +kernel
theorem dL_isTraverse_180 : decode cL_isTraverse 180 = .ok (.invokestatic 105, 3) := by decide +kernel
theorem dL_isTraverse_183 : decode cL_isTraverse 183 = .ok (.goto 5, 3) := by decide +kernel
theorem dL_isTraverse_186 : decode cL_isTraverse 186 = .ok (.iload 10, 2) := by decide +kernel
theorem dL_isTraverse_188 : decode cL_isTraverse 188 = .ok (.istore 17, 2) := by decide +kernel
theorem dL_isTraverse_190 : decode cL_isTraverse 190 = .ok (.iload 17, 2) := by decide +kernel
theorem dL_isTraverse_192 : decode cL_isTraverse 192 = .ok (.iconst 3, 1) := by decide +kernel
theorem dL_isTraverse_193 : decode cL_isTraverse 193 = .ok (.if_icmp .ne 17, 3) := by decide +kernel
theorem dL_isTraverse_196 : decode cL_isTraverse 196 = .ok (.aload_n 1, 1) := by decide +kernel
theorem dL_isTraverse_197 : decode cL_isTraverse 197 = .ok (.aload_n 3, 1) := by decide +kernel
theorem dL_isTraverse_198 : decode cL_isTraverse 198 = .ok (.aload 4, 2) := by decide +kernel
theorem dL_isTraverse_200 : decode cL_isTraverse 200 = .ok (.aload 5, 2) := by decide +kernel
theorem dL_isTraverse_202 : decode cL_isTraverse 202 = .ok (.iload 16, 2) := by decide +kernel
theorem dL_isTraverse_204 : decode cL_isTraverse 204 = .ok (.invokestatic 86, 3) := by decide +kernel
theorem dL_isTraverse_207 : decode cL_isTraverse 207 = .ok (.goto 5, 3) := by decide +kernel
theorem dL_isTraverse_210 : decode cL_isTraverse 210 = .ok (.iload 10, 2) := by decide +kernel
theorem dL_isTraverse_212 : decode cL_isTraverse 212 = .ok (.istore 18, 2) := by decide +kernel
theorem dL_isTraverse_214 : decode cL_isTraverse 214 = .ok (.iload 12, 2) := by decide +kernel
theorem dL_isTraverse_216 : decode cL_isTraverse 216 = .ok (.ifCond .eq 181, 3) := by decide +kernel
theorem dL_isTraverse_219 : decode cL_isTraverse 219 = .ok (.aload_n 0, 1) := by decide +kernel
theorem dL_isTraverse_220 : decode cL_isTraverse 220 = .ok (.iload 9, 2) := by decide +kernel
theorem dL_isTraverse_222 : decode cL_isTraverse 222 = .ok (.aload 6, 2) := by decide +kernel
theorem dL_isTraverse_224 : decode cL_isTraverse 224 = .ok (.iconst 4, 1) := by decide +kernel
theorem dL_isTraverse_225 : decode cL_isTraverse 225 = .ok (.iload 9, 2) := by decide +kernel
theorem dL_isTraverse_227 : decode cL_isTraverse 227 = .ok (.imul, 1) := by decide +kernel
theorem dL_isTraverse_228 : decode cL_isTraverse 228 = .ok (.iconst 1, 1) := by decide +kernel
theorem dL_isTraverse_229 : decode cL_isTraverse 229 = .ok (.iadd, 1) := by decide +kernel
theorem dL_isTraverse_230 : decode cL_isTraverse 230 = .ok (.iaload, 1) := by decide +kernel
theorem dL_isTraverse_231 : decode cL_isTraverse 231 = .ok (.iconst 0, 1) := by decide +kernel
theorem dL_isTraverse_232 : decode cL_isTraverse 232 = .ok (.invokestatic 205, 3) := by decide +kernel
theorem dL_isTraverse_235 : decode cL_isTraverse 235 = .ok (.ldc 29, 2) := by decide +kernel
theorem dL_isTraverse_237 : decode cL_isTraverse 237 = .ok (.if_icmp .ne 160, 3) := by decide +kernel
theorem dL_isTraverse_240 : decode cL_isTraverse 240 = .ok (.aload_n 0, 1) := by decide +kernel
theorem dL_isTraverse_241 : decode cL_isTraverse 241 = .ok (.iload 9, 2) := by decide +kernel
theorem dL_isTraverse_243 : decode cL_isTraverse 243 = .ok (.iconst 0, 1) := by decide +kernel
theorem dL_isTraverse_244 : decode cL_isTraverse 244 = .ok (.invokestatic 216, 3) := by decide +kernel
theorem dL_isTraverse_247 : decode cL_isTraverse 247 = .ok (.aload 6, 2) := by decide +kernel
theorem dL_isTraverse_249 : decode cL_isTraverse 249 = .ok (.iconst 4, 1) := by decide +kernel
theorem dL_isTraverse_250 : decode cL_isTraverse 250 = .ok (.iload 9, 2) := by decide +kernel
theorem dL_isTraverse_252 : decode cL_isTraverse 252 = .ok (.imul, 1) := by decide +kernel
theorem dL_isTraverse_253 : decode cL_isTraverse 253 = .ok (.iaload, 1) := by decide +kernel
theorem dL_isTraverse_254 : decode cL_isTraverse 254 = .ok (.if_icmp .ne 143, 3) := by decide +kernel
theorem dL_isTraverse_257 : decode cL_isTraverse 257 = .ok (.aload_n 0, 1) := by decide +kernel
theorem dL_isTraverse_258 : decode cL_isTraverse 258 = .ok (.iload 9, 2) := by decide +kernel
theorem dL_isTraverse_260 : decode cL_isTraverse 260 = .ok (.iconst 1, 1) := by decide +kernel
theorem dL_isTraverse_261 : decode cL_isTraverse 261 = .ok (.invokestatic 216, 3) := by decide +kernel
theorem dL_isTraverse_264 : decode cL_isTraverse 264 = .ok (.aload 6, 2) := by decide +kernel
theorem dL_isTraverse_266 : decode cL_isTraverse 266 = .ok (.iconst 4, 1) := by decide +kernel
theorem dL_isTraverse_267 : decode cL_isTraverse 267 = .ok (.iload 9, 2) := by decide +kernel
theorem dL_isTraverse_269 : decode cL_isTraverse 269 = .ok (.imul, 1) := by decide +kernel
theorem dL_isTraverse_270 : decode cL_isTraverse 270 = .ok (.iconst 1, 1) := by decide +kernel
theorem dL_isTraverse_271 : decode cL_isTraverse 271 = .ok (.iadd, 1) := by decide +kernel
theorem dL_isTraverse_272 : decode cL_isTraverse 272 = .ok (.iaload, 1) := by decide +kernel
theorem dL_isTraverse_273 : decode cL_isTraverse 273 = .ok (.if_icmp .ne 124, 3) := by decide +kernel
theorem dL_isTraverse_276 : decode cL_isTraverse 276 = .ok (.aload_n 0, 1) := by decide +kernel
theorem dL_isTraverse_277 : decode cL_isTraverse 277 = .ok (.iload 9, 2) := by decide +kernel
theorem dL_isTraverse_279 : decode cL_isTraverse 279 = .ok (.iconst 2, 1) := by decide +kernel
theorem dL_isTraverse_280 : decode cL_isTraverse 280 = .ok (.invokestatic 216, 3) := by decide +kernel
theorem dL_isTraverse_283 : decode cL_isTraverse 283 = .ok (.iload 14, 2) := by decide +kernel
theorem dL_isTraverse_285 : decode cL_isTraverse 285 = .ok (.ifCond .eq 15, 3) := by decide +kernel
theorem dL_isTraverse_288 : decode cL_isTraverse 288 = .ok (.aload 6, 2) := by decide +kernel
theorem dL_isTraverse_290 : decode cL_isTraverse 290 = .ok (.iconst 4, 1) := by decide +kernel
theorem dL_isTraverse_291 : decode cL_isTraverse 291 = .ok (.iload 9, 2) := by decide +kernel
theorem dL_isTraverse_293 : decode cL_isTraverse 293 = .ok (.imul, 1) := by decide +kernel
theorem dL_isTraverse_294 : decode cL_isTraverse 294 = .ok (.iconst 2, 1) := by decide +kernel
theorem dL_isTraverse_295 : decode cL_isTraverse 295 = .ok (.iadd, 1) := by decide +kernel
theorem dL_isTraverse_296 : decode cL_isTraverse 296 = .ok (.iaload, 1) := by decide +kernel
theorem dL_isTraverse_297 : decode cL_isTraverse 297 = .ok (.goto 5, 3) := by decide +kernel
theorem dL_isTraverse_300 : decode cL_isTraverse 300 = .ok (.iload 10, 2) := by decide +kernel
theorem dL_isTraverse_302 : decode cL_isTraverse 302 = .ok (.if_icmp .ne 95, 3) := by decide +kernel
theorem dL_isTraverse_305 : decode cL_isTraverse 305 = .ok (.aload_n 0, 1) := by decide +kernel
theorem dL_isTraverse_306 : decode cL_isTraverse 306 = .ok (.iload 9, 2) := by decide +kernel
theorem dL_isTraverse_308 : decode cL_isTraverse 308 = .ok (.iconst 3, 1) := by decide +kernel
theorem dL_isTraverse_309 : decode cL_isTraverse 309 = .ok (.invokestatic 216, 3) := by decide +kernel
theorem dL_isTraverse_312 : decode cL_isTraverse 312 = .ok (.iload 14, 2) := by decide +kernel
theorem dL_isTraverse_314 : decode cL_isTraverse 314 = .ok (.ifCond .eq 15, 3) := by decide +kernel
theorem dL_isTraverse_317 : decode cL_isTraverse 317 = .ok (.aload 6, 2) := by decide +kernel
theorem dL_isTraverse_319 : decode cL_isTraverse 319 = .ok (.iconst 4, 1) := by decide +kernel
theorem dL_isTraverse_320 : decode cL_isTraverse 320 = .ok (.iload 9, 2) := by decide +kernel
theorem dL_isTraverse_322 : decode cL_isTraverse 322 = .ok (.imul, 1) := by decide +kernel
theorem dL_isTraverse_323 : decode cL_isTraverse 323 = .ok (.iconst 3, 1) := by decide +kernel
theorem dL_isTraverse_324 : decode cL_isTraverse 324 = .ok (.iadd, 1) := by decide +kernel
theorem dL_isTraverse_325 : decode cL_isTraverse 325 = .ok (.iaload, 1) := by decide +kernel
theorem dL_isTraverse_326 : decode cL_isTraverse 326 = .ok (.goto 5, 3) := by decide +kernel
theorem dL_isTraverse_329 : decode cL_isTraverse 329 = .ok (.iload 10, 2) := by decide +kernel
theorem dL_isTraverse_331 : decode cL_isTraverse 331 = .ok (.if_icmp .ne 66, 3) := by decide +kernel
theorem dL_isTraverse_334 : decode cL_isTraverse 334 = .ok (.aload_n 0, 1) := by decide +kernel
theorem dL_isTraverse_335 : decode cL_isTraverse 335 = .ok (.iload 9, 2) := by decide +kernel
theorem dL_isTraverse_337 : decode cL_isTraverse 337 = .ok (.iconst 4, 1) := by decide +kernel
theorem dL_isTraverse_338 : decode cL_isTraverse 338 = .ok (.invokestatic 216, 3) := by decide +kernel
theorem dL_isTraverse_341 : decode cL_isTraverse 341 = .ok (.iload 13, 2) := by decide +kernel
theorem dL_isTraverse_343 : decode cL_isTraverse 343 = .ok (.if_icmp .ne 54, 3) := by decide +kernel
theorem dL_isTraverse_346 : decode cL_isTraverse 346 = .ok (.aload_n 0, 1) := by decide +kernel
theorem dL_isTraverse_347 : decode cL_isTraverse 347 = .ok (.iload 9, 2) := by decide +kernel
theorem dL_isTraverse_349 : decode cL_isTraverse 349 = .ok (.iconst 5, 1) := by decide +kernel
theorem dL_isTraverse_350 : decode cL_isTraverse 350 = .ok (.invokestatic 216, 3) := by decide +kernel
theorem dL_isTraverse_353 : decode cL_isTraverse 353 = .ok (.iload 15, 2) := by decide +kernel
theorem dL_isTraverse_355 : decode cL_isTraverse 355 = .ok (.ifCond .eq 20, 3) := by decide +kernel
theorem dL_isTraverse_358 : decode cL_isTraverse 358 = .ok (.aload_n 3, 1) := by decide +kernel
theorem dL_isTraverse_359 : decode cL_isTraverse 359 = .ok (.aload 4, 2) := by decide +kernel
theorem dL_isTraverse_361 : decode cL_isTraverse 361 = .ok (.aload 5, 2) := by decide +kernel
theorem dL_isTraverse_363 : decode cL_isTraverse 363 = .ok (.aload 6, 2) := by decide +kernel
theorem dL_isTraverse_365 : decode cL_isTraverse 365 = .ok (.aload 7, 2) := by decide +kernel
theorem dL_isTraverse_367 : decode cL_isTraverse 367 = .ok (.iload 9, 2) := by decide +kernel
theorem dL_isTraverse_369 : decode cL_isTraverse 369 = .ok (.invokestatic 108, 3) := by decide +kernel
theorem dL_isTraverse_372 : decode cL_isTraverse 372 = .ok (.goto 5, 3) := by decide +kernel
theorem dL_isTraverse_375 : decode cL_isTraverse 375 = .ok (.iload 10, 2) := by decide +kernel
theorem dL_isTraverse_377 : decode cL_isTraverse 377 = .ok (.if_icmp .ne 20, 3) := by decide +kernel
theorem dL_isTraverse_380 : decode cL_isTraverse 380 = .ok (.aload_n 0, 1) := by decide +kernel
theorem dL_isTraverse_381 : decode cL_isTraverse 381 = .ok (.iload 9, 2) := by decide +kernel
theorem dL_isTraverse_383 : decode cL_isTraverse 383 = .ok (.bipush 6, 2) := by decide +kernel
theorem dL_isTraverse_385 : decode cL_isTraverse 385 = .ok (.invokestatic 216, 3) := by decide +kernel
theorem dL_isTraverse_388 : decode cL_isTraverse 388 = .ok (.iload 11, 2) := by decide +kernel
theorem dL_isTraverse_390 : decode cL_isTraverse 390 = .ok (.if_icmp .ne 7, 3) := by decide +kernel
theorem dL_isTraverse_393 : decode cL_isTraverse 393 = .ok (.iconst 1, 1) := by decide +kernel
theorem dL_isTraverse_394 : decode cL_isTraverse 394 = .ok (.goto 4, 3) := by decide +kernel
theorem dL_isTraverse_397 : decode cL_isTraverse 397 = .ok (.iconst 0, 1) := by decide +kernel
theorem dL_isTraverse_398 : decode cL_isTraverse 398 = .ok (.istore 12, 2) := by decide +kernel
theorem dL_isTraverse_400 : decode cL_isTraverse 400 = .ok (.iload 15, 2) := by decide +kernel
theorem dL_isTraverse_402 : decode cL_isTraverse 402 = .ok (.ifCond .eq 25, 3) := by decide +kernel
theorem dL_isTraverse_405 : decode cL_isTraverse 405 = .ok (.aload_n 2, 1) := by decide +kernel
theorem dL_isTraverse_406 : decode cL_isTraverse 406 = .ok (.aload_n 3, 1) := by decide +kernel
theorem dL_isTraverse_407 : decode cL_isTraverse 407 = .ok (.aload 4, 2) := by decide +kernel
theorem dL_isTraverse_409 : decode cL_isTraverse 409 = .ok (.aload 5, 2) := by decide +kernel
theorem dL_isTraverse_411 : decode cL_isTraverse 411 = .ok (.aload 6, 2) := by decide +kernel
theorem dL_isTraverse_413 : decode cL_isTraverse 413 = .ok (.aload 7, 2) := by decide +kernel
theorem dL_isTraverse_415 : decode cL_isTraverse 415 = .ok (.aload 8, 2) := by decide +kernel
theorem dL_isTraverse_417 : decode cL_isTraverse 417 = .ok (.iload 9, 2) := by decide +kernel
theorem dL_isTraverse_419 : decode cL_isTraverse 419 = .ok (.iconst 0, 1) := by decide +kernel
theorem dL_isTraverse_420 : decode cL_isTraverse 420 = .ok (.invokestatic 219, 3) := by decide +kernel
theorem dL_isTraverse_423 : decode cL_isTraverse 423 = .ok (.i2l, 1) := by decide +kernel
theorem dL_isTraverse_424 : decode cL_isTraverse 424 = .ok (.goto 6, 3) := by decide +kernel
theorem dL_isTraverse_427 : decode cL_isTraverse 427 = .ok (.iload 10, 2) := by decide +kernel
theorem dL_isTraverse_429 : decode cL_isTraverse 429 = .ok (.i2l, 1) := by decide +kernel
theorem dL_isTraverse_430 : decode cL_isTraverse 430 = .ok (.lstore 19, 2) := by decide +kernel
theorem dL_isTraverse_432 : decode cL_isTraverse 432 = .ok (.iload 15, 2) := by decide +kernel
theorem dL_isTraverse_434 : decode cL_isTraverse 434 = .ok (.ifCond .eq 25, 3) := by decide +kernel
theorem dL_isTraverse_437 : decode cL_isTraverse 437 = .ok (.aload_n 2, 1) := by decide +kernel
theorem dL_isTraverse_438 : decode cL_isTraverse 438 = .ok (.aload_n 3, 1) := by decide +kernel
theorem dL_isTraverse_439 : decode cL_isTraverse 439 = .ok (.aload 4, 2) := by decide +kernel
theorem dL_isTraverse_441 : decode cL_isTraverse 441 = .ok (.aload 5, 2) := by decide +kernel
theorem dL_isTraverse_443 : decode cL_isTraverse 443 = .ok (.aload 6, 2) := by decide +kernel
theorem dL_isTraverse_445 : decode cL_isTraverse 445 = .ok (.aload 7, 2) := by decide +kernel
theorem dL_isTraverse_447 : decode cL_isTraverse 447 = .ok (.aload 8, 2) := by decide +kernel
theorem dL_isTraverse_449 : decode cL_isTraverse 449 = .ok (.iload 9, 2) := by decide +kernel
theorem dL_isTraverse_451 : decode cL_isTraverse 451 = .ok (.iconst 1, 1) := by decide +kernel
theorem dL_isTraverse_452 : decode cL_isTraverse 452 = .ok (.invokestatic 219, 3) := by decide +kernel
theorem dL_isTraverse_455 : decode cL_isTraverse 455 = .ok (.i2l, 1) := by decide +kernel
theorem dL_isTraverse_456 : decode cL_isTraverse 456 = .ok (.goto 6, 3) := by decide +kernel
theorem dL_isTraverse_459 : decode cL_isTraverse 459 = .ok (.iload 10, 2) := by decide +kernel
theorem dL_isTraverse_461 : decode cL_isTraverse 461 = .ok (.i2l, 1) := by decide +kernel
theorem dL_isTraverse_462 : decode cL_isTraverse 462 = .ok (.lstore 21, 2) := by decide +kernel
theorem dL_isTraverse_464 : decode cL_isTraverse 464 = .ok (.iload 12, 2) := by decide +kernel
theorem dL_isTraverse_466 : decode cL_isTraverse 466 = .ok (.ifCond .eq 85, 3) := by decide +kernel
theorem dL_isTraverse_469 : decode cL_isTraverse 469 = .ok (.aload_n 0, 1) := by decide +kernel
theorem dL_isTraverse_470 : decode cL_isTraverse 470 = .ok (.iload 9, 2) := by decide +kernel
theorem dL_isTraverse_472 : decode cL_isTraverse 472 = .ok (.bipush 7, 2) := by decide +kernel
theorem dL_isTraverse_474 : decode cL_isTraverse 474 = .ok (.invokestatic 216, 3) := by decide +kernel
theorem dL_isTraverse_477 : decode cL_isTraverse 477 = .ok (.i2l, 1) := by decide +kernel
theorem dL_isTraverse_478 : decode cL_isTraverse 478 = .ok (.lload 19, 2) := by decide +kernel
theorem dL_isTraverse_480 : decode cL_isTraverse 480 = .ok (.lcmp, 1) := by decide +kernel
theorem dL_isTraverse_481 : decode cL_isTraverse 481 = .ok (.ifCond .ne 70, 3) := by decide +kernel
theorem dL_isTraverse_484 : decode cL_isTraverse 484 = .ok (.aload_n 0, 1) := by decide +kernel
theorem dL_isTraverse_485 : decode cL_isTraverse 485 = .ok (.iload 9, 2) := by decide +kernel
theorem dL_isTraverse_487 : decode cL_isTraverse 487 = .ok (.bipush 8, 2) := by decide +kernel
theorem dL_isTraverse_489 : decode cL_isTraverse 489 = .ok (.invokestatic 216, 3) := by decide +kernel
theorem dL_isTraverse_492 : decode cL_isTraverse 492 = .ok (.i2l, 1) := by decide +kernel
theorem dL_isTraverse_493 : decode cL_isTraverse 493 = .ok (.lload 21, 2) := by decide +kernel
theorem dL_isTraverse_495 : decode cL_isTraverse 495 = .ok (.lcmp, 1) := by decide +kernel
theorem dL_isTraverse_496 : decode cL_isTraverse 496 = .ok (.ifCond .ne 55, 3) := by decide +kernel
theorem dL_isTraverse_499 : decode cL_isTraverse 499 = .ok (.aload_n 0, 1) := by decide +kernel
theorem dL_isTraverse_500 : decode cL_isTraverse 500 = .ok (.iload 9, 2) := by decide +kernel
theorem dL_isTraverse_502 : decode cL_isTraverse 502 = .ok (.bipush 9, 2) := by decide +kernel
theorem dL_isTraverse_504 : decode cL_isTraverse 504 = .ok (.invokestatic 216, 3) := by decide +kernel
theorem dL_isTraverse_507 : decode cL_isTraverse 507 = .ok (.iload 15, 2) := by decide +kernel
theorem dL_isTraverse_509 : decode cL_isTraverse 509 = .ok (.ifCond .eq 20, 3) := by decide +kernel
theorem dL_isTraverse_512 : decode cL_isTraverse 512 = .ok (.lload 19, 2) := by decide +kernel
theorem dL_isTraverse_514 : decode cL_isTraverse 514 = .ok (.lload 19, 2) := by decide +kernel
theorem dL_isTraverse_516 : decode cL_isTraverse 516 = .ok (.lmul, 1) := by decide +kernel
theorem dL_isTraverse_517 : decode cL_isTraverse 517 = .ok (.lload 21, 2) := by decide +kernel
theorem dL_isTraverse_519 : decode cL_isTraverse 519 = .ok (.lload 21, 2) := by decide +kernel
theorem dL_isTraverse_521 : decode cL_isTraverse 521 = .ok (.lmul, 1) := by decide +kernel
theorem dL_isTraverse_522 : decode cL_isTraverse 522 = .ok (.ladd, 1) := by decide +kernel
theorem dL_isTraverse_523 : decode cL_isTraverse 523 = .ok (.invokestatic 112, 3) := by decide +kernel
theorem dL_isTraverse_526 : decode cL_isTraverse 526 = .ok (.goto 5, 3) := by decide +kernel
theorem dL_isTraverse_529 : decode cL_isTraverse 529 = .ok (.iload 10, 2) := by decide +kernel
theorem dL_isTraverse_531 : decode cL_isTraverse 531 = .ok (.if_icmp .ne 20, 3) := by decide +kernel
theorem dL_isTraverse_534 : decode cL_isTraverse 534 = .ok (.aload_n 0, 1) := by decide +kernel
theorem dL_isTraverse_535 : decode cL_isTraverse 535 = .ok (.iload 9, 2) := by decide +kernel
theorem dL_isTraverse_537 : decode cL_isTraverse 537 = .ok (.bipush 10, 2) := by decide +kernel
theorem dL_isTraverse_539 : decode cL_isTraverse 539 = .ok (.invokestatic 216, 3) := by decide +kernel
theorem dL_isTraverse_542 : decode cL_isTraverse 542 = .ok (.ldc 17, 2) := by decide +kernel
theorem dL_isTraverse_544 : decode cL_isTraverse 544 = .ok (.if_icmp .ne 7, 3) := by decide +kernel
theorem dL_isTraverse_547 : decode cL_isTraverse 547 = .ok (.iconst 1, 1) := by decide +kernel
theorem dL_isTraverse_548 : decode cL_isTraverse 548 = .ok (.goto 4, 3) := by decide +kernel
theorem dL_isTraverse_551 : decode cL_isTraverse 551 = .ok (.iconst 0, 1) := by decide +kernel
theorem dL_isTraverse_552 : decode cL_isTraverse 552 = .ok (.istore 12, 2) := by decide +kernel
theorem dL_isTraverse_554 : decode cL_isTraverse 554 = .ok (.iload 12, 2) := by decide +kernel
theorem dL_isTraverse_556 : decode cL_isTraverse 556 = .ok (.ifCond .eq 77, 3) := by decide +kernel
theorem dL_isTraverse_559 : decode cL_isTraverse 559 = .ok (.aload_n 0, 1) := by decide +kernel
theorem dL_isTraverse_560 : decode cL_isTraverse 560 = .ok (.iload 9, 2) := by decide +kernel
theorem dL_isTraverse_562 : decode cL_isTraverse 562 = .ok (.iconst 0, 1) := by decide +kernel
theorem dL_isTraverse_563 : decode cL_isTraverse 563 = .ok (.invokestatic 223, 3) := by decide +kernel
theorem dL_isTraverse_566 : decode cL_isTraverse 566 = .ok (.iload 13, 2) := by decide +kernel
theorem dL_isTraverse_568 : decode cL_isTraverse 568 = .ok (.ifCond .le 8, 3) := by decide +kernel
theorem dL_isTraverse_571 : decode cL_isTraverse 571 = .ok (.iload 13, 2) := by decide +kernel
theorem dL_isTraverse_573 : decode cL_isTraverse 573 = .ok (.goto 5, 3) := by decide +kernel
theorem dL_isTraverse_576 : decode cL_isTraverse 576 = .ok (.iload 10, 2) := by decide +kernel
theorem dL_isTraverse_578 : decode cL_isTraverse 578 = .ok (.if_icmp .ne 55, 3) := by decide +kernel
theorem dL_isTraverse_581 : decode cL_isTraverse 581 = .ok (.aload_n 0, 1) := by decide +kernel
theorem dL_isTraverse_582 : decode cL_isTraverse 582 = .ok (.iload 9, 2) := by decide +kernel
theorem dL_isTraverse_584 : decode cL_isTraverse 584 = .ok (.iconst 1, 1) := by decide +kernel
theorem dL_isTraverse_585 : decode cL_isTraverse 585 = .ok (.invokestatic 223, 3) := by decide +kernel
theorem dL_isTraverse_588 : decode cL_isTraverse 588 = .ok (.iload 17, 2) := by decide +kernel
theorem dL_isTraverse_590 : decode cL_isTraverse 590 = .ok (.if_icmp .ne 43, 3) := by decide +kernel
theorem dL_isTraverse_593 : decode cL_isTraverse 593 = .ok (.aload_n 0, 1) := by decide +kernel
theorem dL_isTraverse_594 : decode cL_isTraverse 594 = .ok (.iload 9, 2) := by decide +kernel
theorem dL_isTraverse_596 : decode cL_isTraverse 596 = .ok (.iconst 2, 1) := by decide +kernel
theorem dL_isTraverse_597 : decode cL_isTraverse 597 = .ok (.invokestatic 223, 3) := by decide +kernel
theorem dL_isTraverse_600 : decode cL_isTraverse 600 = .ok (.iload 18, 2) := by decide +kernel
theorem dL_isTraverse_602 : decode cL_isTraverse 602 = .ok (.if_icmp .ne 31, 3) := by decide +kernel
theorem dL_isTraverse_605 : decode cL_isTraverse 605 = .ok (.aload_n 0, 1) := by decide +kernel
theorem dL_isTraverse_606 : decode cL_isTraverse 606 = .ok (.iload 9, 2) := by decide +kernel
theorem dL_isTraverse_608 : decode cL_isTraverse 608 = .ok (.iconst 3, 1) := by decide +kernel
theorem dL_isTraverse_609 : decode cL_isTraverse 609 = .ok (.invokestatic 223, 3) := by decide +kernel
theorem dL_isTraverse_612 : decode cL_isTraverse 612 = .ok (.iload 10, 2) := by decide +kernel
theorem dL_isTraverse_614 : decode cL_isTraverse 614 = .ok (.if_icmp .ne 19, 3) := by decide +kernel
theorem dL_isTraverse_617 : decode cL_isTraverse 617 = .ok (.aload_n 0, 1) := by decide +kernel
theorem dL_isTraverse_618 : decode cL_isTraverse 618 = .ok (.iload 9, 2) := by decide +kernel
theorem dL_isTraverse_620 : decode cL_isTraverse 620 = .ok (.iconst (-1), 1) := by decide +kernel
theorem dL_isTraverse_621 : decode cL_isTraverse 621 = .ok (.invokestatic 223, 3) := by decide +kernel
theorem dL_isTraverse_624 : decode cL_isTraverse 624 = .ok (.iload 10, 2) := by decide +kernel
theorem dL_isTraverse_626 : decode cL_isTraverse 626 = .ok (.if_icmp .ne 7, 3) := by decide +kernel
theorem dL_isTraverse_629 : decode cL_isTraverse 629 = .ok (.iconst 1, 1) := by decide +kernel
theorem dL_isTraverse_630 : decode cL_isTraverse 630 = .ok (.goto 4, 3) := by decide +kernel
theorem dL_isTraverse_633 : decode cL_isTraverse 633 = .ok (.iconst 0, 1) := by decide +kernel
theorem dL_isTraverse_634 : decode cL_isTraverse 634 = .ok (.ireturn, 1) := by decide +kernel
theorem dL_isSo_0 : decode cL_isSo 0 = .ok (.iconst 0, 1) := by decide +kernel
theorem dL_isSo_1 : decode cL_isSo 1 = .ok (.istore 9, 2) := by decide +kernel
theorem dL_isSo_3 : decode cL_isSo 3 = .ok (.iconst 0, 1) := by decide +kernel
theorem dL_isSo_4 : decode cL_isSo 4 = .ok (.istore 10, 2) := by decide +kernel
theorem dL_isSo_6 : decode cL_isSo 6 = .ok (.iconst 1, 1) := by decide +kernel
theorem dL_isSo_7 : decode cL_isSo 7 = .ok (.istore 11, 2) := by decide +kernel
theorem dL_isSo_9 : decode cL_isSo 9 = .ok (.iconst 0, 1) := by decide +kernel
theorem dL_isSo_10 : decode cL_isSo 10 = .ok (.istore 12, 2) := by decide +kernel
theorem dL_isSo_12 : decode cL_isSo 12 = .ok (.iload 12, 2) := by decide +kernel
theorem dL_isSo_14 : decode cL_isSo 14 = .ok (.aload_n 1, 1) := by decide +kernel
theorem dL_isSo_15 : decode cL_isSo 15 = .ok (.iconst 3, 1) := by decide +kernel
theorem dL_isSo_16 : decode cL_isSo 16 = .ok (.iaload, 1) := by decide +kernel
theorem dL_isSo_17 : decode cL_isSo 17 = .ok (.if_icmp .ge 146, 3) := by decide +kernel
theorem dL_isSo_20 : decode cL_isSo 20 = .ok (.iload 11, 2) := by decide +kernel
theorem dL_isSo_22 : decode cL_isSo 22 = .ok (.ifCond .eq 141, 3) := by decide +kernel
theorem dL_isSo_25 : decode cL_isSo 25 = .ok (.iload 9, 2) := by decide +kernel
theorem dL_isSo_27 : decode cL_isSo 27 = .ok (.aload_n 3, 1) := by decide +kernel
theorem dL_isSo_28 : decode cL_isSo 28 = .ok (.iload 12, 2) := by decide +kernel
theorem dL_isSo_30 : decode cL_isSo 30 = .ok (.iaload, 1) := by decide +kernel
theorem dL_isSo_31 : decode cL_isSo 31 = .ok (.iadd, 1) := by decide +kernel
theorem dL_isSo_32 : decode cL_isSo 32 = .ok (.istore 9, 2) := by decide +kernel
theorem dL_isSo_34 : decode cL_isSo 34 = .ok (.aload_n 0, 1) := by decide +kernel
theorem dL_isSo_35 : decode cL_isSo 35 = .ok (.iload 12, 2) := by decide +kernel
theorem dL_isSo_37 : decode cL_isSo 37 = .ok (.iconst 0, 1) := by decide +kernel
theorem dL_isSo_38 : decode cL_isSo 38 = .ok (.invokestatic 226, 3) := by decide +kernel
theorem dL_isSo_41 : decode cL_isSo 41 = .ok (.aload_n 2, 1) := by decide +kernel
theorem dL_isSo_42 : decode cL_isSo 42 = .ok (.iconst 2, 1) := by decide +kernel
theorem dL_isSo_43 : decode cL_isSo 43 = .ok (.iload 12, 2) := by decide +kernel
theorem dL_isSo_45 : decode cL_isSo 45 = .ok (.imul, 1) := by decide +kernel
theorem dL_isSo_46 : decode cL_isSo 46 = .ok (.iaload, 1) := by decide +kernel
theorem dL_isSo_47 : decode cL_isSo 47 = .ok (.if_icmp .ne 107, 3) := by decide +kernel
theorem dL_isSo_50 : decode cL_isSo 50 = .ok (.aload_n 0, 1) := by decide +kernel
theorem dL_isSo_51 : decode cL_isSo 51 = .ok (.iload 12, 2) := by decide +kernel
theorem dL_isSo_53 : decode cL_isSo 53 = .ok (.iconst 1, 1) := by decide +kernel
theorem dL_isSo_54 : decode cL_isSo 54 = .ok (.invokestatic 226, 3) := by decide +kernel
theorem dL_isSo_57 : decode cL_isSo 57 = .ok (.aload_n 2, 1) := by decide +kernel
theorem dL_isSo_58 : decode cL_isSo 58 = .ok (.iconst 2, 1) := by decide +kernel
theorem dL_isSo_59 : decode cL_isSo 59 = .ok (.iload 12, 2) := by decide +kernel
theorem dL_isSo_61 : decode cL_isSo 61 = .ok (.imul, 1) := by decide +kernel
theorem dL_isSo_62 : decode cL_isSo 62 = .ok (.iconst 1, 1) := by decide +kernel
theorem dL_isSo_63 : decode cL_isSo 63 = .ok (.iadd, 1) := by decide +kernel
theorem dL_isSo_64 : decode cL_isSo 64 = .ok (.iaload, 1) := by decide +kernel
theorem dL_isSo_65 : decode cL_isSo 65 = .ok (.if_icmp .ne 89, 3) := by decide +kernel
theorem dL_isSo_68 : decode cL_isSo 68 = .ok (.aload_n 0, 1) := by decide +kernel
theorem dL_isSo_69 : decode cL_isSo 69 = .ok (.iload 12, 2) := by decide +kernel
theorem dL_isSo_71 : decode cL_isSo 71 = .ok (.iconst 2, 1) := by decide +kernel
theorem dL_isSo_72 : decode cL_isSo 72 = .ok (.invokestatic 226, 3) := by decide +kernel
theorem dL_isSo_75 : decode cL_isSo 75 = .ok (.aload_n 3, 1) := by decide +kernel
theorem dL_isSo_76 : decode cL_isSo 76 = .ok (.iload 12, 2) := by decide +kernel
theorem dL_isSo_78 : decode cL_isSo 78 = .ok (.iaload, 1) := by decide +kernel
theorem dL_isSo_79 : decode cL_isSo 79 = .ok (.if_icmp .ne 75, 3) := by decide +kernel
theorem dL_isSo_82 : decode cL_isSo 82 = .ok (.aload_n 0, 1) := by decide +kernel
theorem dL_isSo_83 : decode cL_isSo 83 = .ok (.iload 12, 2) := by decide +kernel
theorem dL_isSo_85 : decode cL_isSo 85 = .ok (.iconst 3, 1) := by decide +kernel
theorem dL_isSo_86 : decode cL_isSo 86 = .ok (.invokestatic 226, 3) := by decide +kernel
theorem dL_isSo_89 : decode cL_isSo 89 = .ok (.aload_n 3, 1) := by decide +kernel
theorem dL_isSo_90 : decode cL_isSo 90 = .ok (.aload 4, 2) := by decide +kernel
theorem dL_isSo_92 : decode cL_isSo 92 = .ok (.iload 12, 2) := by decide +kernel
theorem dL_isSo_94 : decode cL_isSo 94 = .ok (.invokestatic 90, 3) := by decide +kernel
theorem dL_isSo_97 : decode cL_isSo 97 = .ok (.if_icmp .ne 57, 3) := by decide +kernel
theorem dL_isSo_100 : decode cL_isSo 100 = .ok (.aload_n 0, 1) := by decide +kernel
theorem dL_isSo_101 : decode cL_isSo 101 = .ok (.iload 12, 2) := by decide +kernel
theorem dL_isSo_103 : decode cL_isSo 103 = .ok (.iconst 4, 1) := by decide +kernel
theorem dL_isSo_104 : decode cL_isSo 104 = .ok (.invokestatic 226, 3) := by decide +kernel
theorem dL_isSo_107 : decode cL_isSo 107 = .ok (.aload_n 1, 1) := by decide +kernel
theorem dL_isSo_108 : decode cL_isSo 108 = .ok (.aload_n 3, 1) := by decide +kernel
theorem dL_isSo_109 : decode cL_isSo 109 = .ok (.aload 4, 2) := by decide +kernel
theorem dL_isSo_111 : decode cL_isSo 111 = .ok (.iload 12, 2) := by decide +kernel
theorem dL_isSo_113 : decode cL_isSo 113 = .ok (.invokestatic 82, 3) := by decide +kernel
theorem dL_isSo_116 : decode cL_isSo 116 = .ok (.if_icmp .ne 38, 3) := by decide +kernel
theorem dL_isSo_119 : decode cL_isSo 119 = .ok (.aload_n 0, 1) := by decide +kernel
theorem dL_isSo_120 : decode cL_isSo 120 = .ok (.iload 12, 2) := by decide +kernel
theorem dL_isSo_122 : decode cL_isSo 122 = .ok (.iconst 5, 1) := by decide +kernel
theorem dL_isSo_123 : decode cL_isSo 123 = .ok (.invokestatic 226, 3) := by decide +kernel
theorem dL_isSo_126 : decode cL_isSo 126 = .ok (.aload_n 3, 1) := by decide +kernel
theorem dL_isSo_127 : decode cL_isSo 127 = .ok (.aload 4, 2) := by decide +kernel
theorem dL_isSo_129 : decode cL_isSo 129 = .ok (.iload 12, 2) := by decide +kernel
theorem dL_isSo_131 : decode cL_isSo 131 = .ok (.invokestatic 77, 3) := by decide +kernel
theorem dL_isSo_134 : decode cL_isSo 134 = .ok (.if_icmp .ne 20, 3) := by decide +kernel
theorem dL_isSo_137 : decode cL_isSo 137 = .ok (.aload_n 0, 1) := by decide +kernel
theorem dL_isSo_138 : decode cL_isSo 138 = .ok (.iload 12, 2) := by decide +kernel
theorem dL_isSo_140 : decode cL_isSo 140 = .ok (.bipush 6, 2) := by decide +kernel
theorem dL_isSo_142 : decode cL_isSo 142 = .ok (.invokestatic 226, 3) := by decide +kernel
theorem dL_isSo_145 : decode cL_isSo 145 = .ok (.ldc 17, 2) := by decide +kernel
theorem dL_isSo_147 : decode cL_isSo 147 = .ok (.if_icmp .ne 7, 3) := by decide +kernel
theorem dL_isSo_150 : decode cL_isSo 150 = .ok (.iconst 1, 1) := by decide +kernel
theorem dL_isSo_151 : decode cL_isSo 151 = .ok (.goto 4, 3) := by decide +kernel
theorem dL_isSo_154 : decode cL_isSo 154 = .ok (.iconst 0, 1) := by decide +kernel
theorem dL_isSo_155 : decode cL_isSo 155 = .ok (.istore 11, 2) := by decide +kernel
theorem dL_isSo_157 : decode cL_isSo 157 = .ok (.iinc 12 1, 3) := by decide +kernel
theorem dL_isSo_160 : decode cL_isSo 160 = .ok (.goto (-148), 3) := by decide +kernel
theorem dL_isSo_163 : decode cL_isSo 163 = .ok (.iconst 0, 1) := by decide +kernel
theorem dL_isSo_164 : decode cL_isSo 164 = .ok (.istore 12, 2) := by decide +kernel
theorem dL_isSo_166 : decode cL_isSo 166 = .ok (.iload 12, 2) := by decide +kernel
theorem dL_isSo_168 : decode cL_isSo 168 = .ok (.aload_n 1, 1) := by decide +kernel
theorem dL_isSo_169 : decode cL_isSo 169 = .ok (.iconst 4, 1) := by decide +kernel
theorem dL_isSo_170 : decode cL_isSo 170 = .ok (.iaload, 1) := by decide +kernel
theorem dL_isSo_171 : decode cL_isSo 171 = .ok (.if_icmp .ge 141, 3) := by decide +kernel
theorem dL_isSo_174 : decode cL_isSo 174 = .ok (.iload 11, 2) := by decide +kernel
theorem dL_isSo_176 : decode cL_isSo 176 = .ok (.ifCond .eq 136, 3) := by decide +kernel
theorem dL_isSo_179 : decode cL_isSo 179 = .ok (.aload_n 1, 1) := by decide +kernel
theorem dL_isSo_180 : decode cL_isSo 180 = .ok (.aload_n 3, 1) := by decide +kernel
theorem dL_isSo_181 : decode cL_isSo 181 = .ok (.aload 4, 2) := by decide +kernel
theorem dL_isSo_183 : decode cL_isSo 183 = .ok (.aload 5, 2) := by decide +kernel
theorem dL_isSo_185 : decode cL_isSo 185 = .ok (.iload 12, 2) := by decide +kernel
theorem dL_isSo_187 : decode cL_isSo 187 = .ok (.invokestatic 105, 3) := by decide +kernel
theorem dL_isSo_190 : decode cL_isSo 190 = .ok (.istore 13, 2) := by decide +kernel
theorem dL_isSo_192 : decode cL_isSo 192 = .ok (.aload_n 0, 1) := by decide +kernel
theorem dL_isSo_193 : decode cL_isSo 193 = .ok (.iload 12, 2) := by decide +kernel
theorem dL_isSo_195 : decode cL_isSo 195 = .ok (.bipush 6, 2) := by decide +kernel
theorem dL_isSo_197 : decode cL_isSo 197 = .ok (.invokestatic 229, 3) := by decide +kernel
theorem dL_isSo_200 : decode cL_isSo 200 = .ok (.iload 13, 2) := by decide +kernel
theorem dL_isSo_202 : decode cL_isSo 202 = .ok (.if_icmp .ne 51, 3) := by decide +kernel
theorem dL_isSo_205 : decode cL_isSo 205 = .ok (.aload_n 0, 1) := by decide +kernel
theorem dL_isSo_206 : decode cL_isSo 206 = .ok (.iload 12, 2) := by decide +kernel
theorem dL_isSo_208 : decode cL_isSo 208 = .ok (.bipush 7, 2) := by decide +kernel
theorem dL_isSo_210 : decode cL_isSo 210 = .ok (.invokestatic 229, 3) := by decide +kernel
theorem dL_isSo_213 : decode cL_isSo 213 = .ok (.iload 13, 2) := by decide +kernel
theorem dL_isSo_215 : decode cL_isSo 215 = .ok (.ifCond .le 8, 3) := by decide +kernel
theorem dL_isSo_218 : decode cL_isSo 218 = .ok (.ldc 81, 2) := by decide +kernel
theorem dL_isSo_220 : decode cL_isSo 220 = .ok (.goto 13, 3) := by decide +kernel
theorem dL_isSo_223 : decode cL_isSo 223 = .ok (.aload_n 3, 1) := by decide +kernel
theorem dL_isSo_224 : decode cL_isSo 224 = .ok (.aload 4, 2) := by decide +kernel
theorem dL_isSo_226 : decode cL_isSo 226 = .ok (.aload 5, 2) := by decide +kernel
theorem dL_isSo_228 : decode cL_isSo 228 = .ok (.iload 12, 2) := by decide +kernel
theorem dL_isSo_230 : decode cL_isSo 230 = .ok (.invokestatic 95, 3) := by decide +kernel
theorem dL_isSo_233 : decode cL_isSo 233 = .ok (.if_icmp .ne 20, 3) := by decide +kernel
theorem dL_isSo_236 : decode cL_isSo 236 = .ok (.aload_n 0, 1) := by decide +kernel
theorem dL_isSo_237 : decode cL_isSo 237 = .ok (.iload 12, 2) := by decide +kernel
theorem dL_isSo_239 : decode cL_isSo 239 = .ok (.bipush 8, 2) := by decide +kernel
theorem dL_isSo_241 : decode cL_isSo 241 = .ok (.invokestatic 229, 3) := by decide +kernel
theorem dL_isSo_244 : decode cL_isSo 244 = .ok (.ldc 17, 2) := by decide +kernel
theorem dL_isSo_246 : decode cL_isSo 246 = .ok (.if_icmp .ne 7, 3) := by decide +kernel
theorem dL_isSo_249 : decode cL_isSo 249 = .ok (.iconst 1, 1) := by decide +kernel
theorem dL_isSo_250 : decode cL_isSo 250 = .ok (.goto 4, 3) := by decide +kernel
theorem dL_isSo_253 : decode cL_isSo 253 = .ok (.iconst 0, 1) := by decide +kernel
theorem dL_isSo_254 : decode cL_isSo 254 = .ok (.istore 11, 2) := by decide +kernel
theorem dL_isSo_256 : decode cL_isSo 256 = .ok (.iconst 0, 1) := by decide +kernel
theorem dL_isSo_257 : decode cL_isSo 257 = .ok (.istore 14, 2) := by decide +kernel
theorem dL_isSo_259 : decode cL_isSo 259 = .ok (.iload 14, 2) := by decide +kernel
theorem dL_isSo_261 : decode cL_isSo 261 = .ok (.bipush 6, 2) := by decide +kernel
theorem dL_isSo_263 : decode cL_isSo 263 = .ok (.if_icmp .ge 43, 3) := by decide +kernel
theorem dL_isSo_266 : decode cL_isSo 266 = .ok (.iload 11, 2) := by decide +kernel
theorem dL_isSo_268 : decode cL_isSo 268 = .ok (.ifCond .eq 38, 3) := by decide +kernel
theorem dL_isSo_271 : decode cL_isSo 271 = .ok (.aload_n 0, 1) := by decide +kernel
theorem dL_isSo_272 : decode cL_isSo 272 = .ok (.iload 12, 2) := by decide +kernel
theorem dL_isSo_274 : decode cL_isSo 274 = .ok (.iload 14, 2) := by decide +kernel
theorem dL_isSo_276 : decode cL_isSo 276 = .ok (.invokestatic 229, 3) := by decide +kernel
theorem dL_isSo_279 : decode cL_isSo 279 = .ok (.aload 5, 2) := by decide +kernel
theorem dL_isSo_281 : decode cL_isSo 281 = .ok (.bipush 6, 2) := by decide +kernel
theorem dL_isSo_283 : decode cL_isSo 283 = .ok (.iload 12, 2) := by decide +kernel
theorem dL_isSo_285 : decode cL_isSo 285 = .ok (.imul, 1) := by decide +kernel
theorem dL_isSo_286 : decode cL_isSo 286 = .ok (.iload 14, 2) := by decide +kernel
theorem dL_isSo_288 : decode cL_isSo 288 = .ok (.iadd, 1) := by decide +kernel
theorem dL_isSo_289 : decode cL_isSo 289 = .ok (.iaload, 1) := by decide +kernel
theorem dL_isSo_290 : decode cL_isSo 290 = .ok (.if_icmp .ne 7, 3) := by decide +kernel
theorem dL_isSo_293 : decode cL_isSo 293 = .ok (.iconst 1, 1) := by decide +kernel
theorem dL_isSo_294 : decode cL_isSo 294 = .ok (.goto 4, 3) := by decide +kernel
theorem dL_isSo_297 : decode cL_isSo 297 = .ok (.iconst 0, 1) := by decide +kernel
theorem dL_isSo_298 : decode cL_isSo 298 = .ok (.istore 11, 2) := by decide +kernel
theorem dL_isSo_300 : decode cL_isSo 300 = .ok (.iinc 14 1, 3) := by decide +kernel
theorem dL_isSo_303 : decode cL_isSo 303 = .ok (.goto (-44), 3) := by decide +kernel
theorem dL_isSo_306 : decode cL_isSo 306 = .ok (.iinc 12 1, 3) := by decide +kernel
theorem dL_isSo_309 : decode cL_isSo 309 = .ok (.goto (-143), 3) := by decide +kernel
theorem dL_isSo_312 : decode cL_isSo 312 = .ok (.iconst 0, 1) := by decide +kernel
theorem dL_isSo_313 : decode cL_isSo 313 = .ok (.istore 12, 2) := by decide +kernel
theorem dL_isSo_315 : decode cL_isSo 315 = .ok (.iload 12, 2) := by decide +kernel
theorem dL_isSo_317 : decode cL_isSo 317 = .ok (.aload_n 1, 1) := by decide +kernel
theorem dL_isSo_318 : decode cL_isSo 318 = .ok (.iconst 5, 1) := by decide +kernel
theorem dL_isSo_319 : decode cL_isSo 319 = .ok (.iaload, 1) := by decide +kernel
theorem dL_isSo_320 : decode cL_isSo 320 = .ok (.if_icmp .ge 49, 3) := by decide +kernel
theorem dL_isSo_323 : decode cL_isSo 323 = .ok (.iload 11, 2) := by decide +kernel
theorem dL_isSo_325 : decode cL_isSo 325 = .ok (.ifCond .eq 44, 3) := by decide +kernel
theorem dL_isSo_328 : decode cL_isSo 328 = .ok (.iload 10, 2) := by decide +kernel
theorem dL_isSo_330 : decode cL_isSo 330 = .ok (.aload 6, 2) := by decide +kernel
theorem dL_isSo_332 : decode cL_isSo 332 = .ok (.iconst 4, 1) := by decide +kernel
theorem dL_isSo_333 : decode cL_isSo 333 = .ok (.iload 12, 2) := by decide +kernel
theorem dL_isSo_335 : decode cL_isSo 335 = .ok (.imul, 1) := by decide +kernel
theorem dL_isSo_336 : decode cL_isSo 336 = .ok (.iconst 1, 1) := by decide +kernel
theorem dL_isSo_337 : decode cL_isSo 337 = .ok (.iadd, 1) := by decide +kernel
theorem dL_isSo_338 : decode cL_isSo 338 = .ok (.iaload, 1) := by decide +kernel
theorem dL_isSo_339 : decode cL_isSo 339 = .ok (.iadd, 1) := by decide +kernel
theorem dL_isSo_340 : decode cL_isSo 340 = .ok (.istore 10, 2) := by decide +kernel
theorem dL_isSo_342 : decode cL_isSo 342 = .ok (.aload_n 0, 1) := by decide +kernel
theorem dL_isSo_343 : decode cL_isSo 343 = .ok (.aload_n 1, 1) := by decide +kernel
theorem dL_isSo_344 : decode cL_isSo 344 = .ok (.aload_n 2, 1) := by decide +kernel
theorem dL_isSo_345 : decode cL_isSo 345 = .ok (.aload_n 3, 1) := by decide +kernel
theorem dL_isSo_346 : decode cL_isSo 346 = .ok (.aload 4, 2) := by decide +kernel
theorem dL_isSo_348 : decode cL_isSo 348 = .ok (.aload 5, 2) := by decide +kernel
theorem dL_isSo_350 : decode cL_isSo 350 = .ok (.aload 6, 2) := by decide +kernel
theorem dL_isSo_352 : decode cL_isSo 352 = .ok (.aload 7, 2) := by decide +kernel
theorem dL_isSo_354 : decode cL_isSo 354 = .ok (.aload 8, 2) := by decide +kernel
theorem dL_isSo_356 : decode cL_isSo 356 = .ok (.iload 12, 2) := by decide +kernel
theorem dL_isSo_358 : decode cL_isSo 358 = .ok (.invokestatic 231, 3) := by decide +kernel
theorem dL_isSo_361 : decode cL_isSo 361 = .ok (.istore 11, 2) := by decide +kernel
theorem dL_isSo_363 : decode cL_isSo 363 = .ok (.iinc 12 1, 3) := by decide +kernel
theorem dL_isSo_366 : decode cL_isSo 366 = .ok (.goto (-51), 3) := by decide +kernel
theorem dL_isSo_369 : decode cL_isSo 369 = .ok (.iconst 0, 1) := by decide +kernel
theorem dL_isSo_370 : decode cL_isSo 370 = .ok (.istore 12, 2) := by decide +kernel
theorem dL_isSo_372 : decode cL_isSo 372 = .ok (.iload 12, 2) := by decide +kernel
theorem dL_isSo_374 : decode cL_isSo 374 = .ok (.bipush 6, 2) := by decide +kernel
theorem dL_isSo_376 : decode cL_isSo 376 = .ok (.if_icmp .ge 34, 3) := by decide +kernel
theorem dL_isSo_379 : decode cL_isSo 379 = .ok (.iload 11, 2) := by decide +kernel
theorem dL_isSo_381 : decode cL_isSo 381 = .ok (.ifCond .eq 29, 3) := by decide +kernel
theorem dL_isSo_384 : decode cL_isSo 384 = .ok (.aload_n 0, 1) := by decide +kernel
theorem dL_isSo_385 : decode cL_isSo 385 = .ok (.iload 12, 2) := by decide +kernel
theorem dL_isSo_387 : decode cL_isSo 387 = .ok (.invokestatic 235, 3) := by decide +kernel
theorem dL_isSo_390 : decode cL_isSo 390 = .ok (.aload_n 1, 1) := by decide +kernel
theorem dL_isSo_391 : decode cL_isSo 391 = .ok (.iload 12, 2) := by decide +kernel
theorem dL_isSo_393 : decode cL_isSo 393 = .ok (.iaload, 1) := by decide +kernel
theorem dL_isSo_394 : decode cL_isSo 394 = .ok (.if_icmp .ne 7, 3) := by decide +kernel
theorem dL_isSo_397 : decode cL_isSo 397 = .ok (.iconst 1, 1) := by decide +kernel
theorem dL_isSo_398 : decode cL_isSo 398 = .ok (.goto 4, 3) := by decide +kernel
theorem dL_isSo_401 : decode cL_isSo 401 = .ok (.iconst 0, 1) := by decide +kernel
theorem dL_isSo_402 : decode cL_isSo 402 = .ok (.istore 11, 2) := by decide +kernel
theorem dL_isSo_404 : decode cL_isSo 404 = .ok (.iinc 12 1, 3) := by decide +kernel
theorem dL_isSo_407 : decode cL_isSo 407 = .ok (.goto (-35), 3) := by decide +kernel
theorem dL_isSo_410 : decode cL_isSo 410 = .ok (.iload 11, 2) := by decide +kernel
theorem dL_isSo_412 : decode cL_isSo 412 = .ok (.ifCond .eq 29, 3) := by decide +kernel
theorem dL_isSo_415 : decode cL_isSo 415 = .ok (.aload_n 0, 1) := by decide +kernel
theorem dL_isSo_416 : decode cL_isSo 416 = .ok (.bipush 6, 2) := by decide +kernel
theorem dL_isSo_418 : decode cL_isSo 418 = .ok (.invokestatic 235, 3) := by decide +kernel
theorem dL_isSo_421 : decode cL_isSo 421 = .ok (.iload 10, 2) := by decide +kernel
theorem dL_isSo_423 : decode cL_isSo 423 = .ok (.if_icmp .ne 18, 3) := by decide +kernel
theorem dL_isSo_426 : decode cL_isSo 426 = .ok (.aload_n 0, 1) := by decide +kernel
theorem dL_isSo_427 : decode cL_isSo 427 = .ok (.bipush 7, 2) := by decide +kernel
theorem dL_isSo_429 : decode cL_isSo 429 = .ok (.invokestatic 235, 3) := by decide +kernel
theorem dL_isSo_432 : decode cL_isSo 432 = .ok (.iload 9, 2) := by decide +kernel
theorem dL_isSo_434 : decode cL_isSo 434 = .ok (.if_icmp .ne 7, 3) := by decide +kernel
theorem dL_isSo_437 : decode cL_isSo 437 = .ok (.iconst 1, 1) := by decide +kernel
theorem dL_isSo_438 : decode cL_isSo 438 = .ok (.goto 4, 3) := by decide +kernel
theorem dL_isSo_441 : decode cL_isSo 441 = .ok (.iconst 0, 1) := by decide +kernel
theorem dL_isSo_442 : decode cL_isSo 442 = .ok (.ireturn, 1) := by decide +kernel
theorem dL_law_0 : decode cL_law 0 = .ok (.new 10, 3) := by decide +kernel
theorem dL_law_3 : decode cL_law 3 = .ok (.dup, 1) := by decide +kernel
theorem dL_law_4 : decode cL_law 4 = .ok (.invokespecial 238, 3) := by decide +kernel
theorem dL_law_7 : decode cL_law 7 = .ok (.astore_n 1, 1) := by decide +kernel
theorem dL_law_8 : decode cL_law 8 = .ok (.bipush 6, 2) := by decide +kernel
theorem dL_law_10 : decode cL_law 10 = .ok (.newarray .int, 2) := by decide +kernel
theorem dL_law_12 : decode cL_law 12 = .ok (.astore_n 2, 1) := by decide +kernel
theorem dL_law_13 : decode cL_law 13 = .ok (.bipush 12, 2) := by decide +kernel
theorem dL_law_15 : decode cL_law 15 = .ok (.newarray .int, 2) := by decide +kernel
theorem dL_law_17 : decode cL_law 17 = .ok (.astore_n 3, 1) := by decide +kernel
theorem dL_law_18 : decode cL_law 18 = .ok (.bipush 6, 2) := by decide +kernel
theorem dL_law_20 : decode cL_law 20 = .ok (.newarray .int, 2) := by decide +kernel
theorem dL_law_22 : decode cL_law 22 = .ok (.astore 4, 2) := by decide +kernel
theorem dL_law_24 : decode cL_law 24 = .ok (.bipush 54, 2) := by decide +kernel
theorem dL_law_26 : decode cL_law 26 = .ok (.newarray .int, 2) := by decide +kernel
theorem dL_law_28 : decode cL_law 28 = .ok (.astore 5, 2) := by decide +kernel
theorem dL_law_30 : decode cL_law 30 = .ok (.bipush 24, 2) := by decide +kernel
theorem dL_law_32 : decode cL_law 32 = .ok (.newarray .int, 2) := by decide +kernel
theorem dL_law_34 : decode cL_law 34 = .ok (.astore 6, 2) := by decide +kernel
theorem dL_law_36 : decode cL_law 36 = .ok (.bipush 16, 2) := by decide +kernel
theorem dL_law_38 : decode cL_law 38 = .ok (.newarray .int, 2) := by decide +kernel
theorem dL_law_40 : decode cL_law 40 = .ok (.astore 7, 2) := by decide +kernel
theorem dL_law_42 : decode cL_law 42 = .ok (.bipush 48, 2) := by decide +kernel
theorem dL_law_44 : decode cL_law 44 = .ok (.newarray .int, 2) := by decide +kernel
theorem dL_law_46 : decode cL_law 46 = .ok (.astore 8, 2) := by decide +kernel
theorem dL_law_48 : decode cL_law 48 = .ok (.bipush 48, 2) := by decide +kernel
theorem dL_law_50 : decode cL_law 50 = .ok (.newarray .int, 2) := by decide +kernel
theorem dL_law_52 : decode cL_law 52 = .ok (.astore 9, 2) := by decide +kernel
theorem dL_law_54 : decode cL_law 54 = .ok (.aload_n 2, 1) := by decide +kernel
theorem dL_law_55 : decode cL_law 55 = .ok (.iconst 0, 1) := by decide +kernel
theorem dL_law_56 : decode cL_law 56 = .ok (.bipush 20, 2) := by decide +kernel
theorem dL_law_58 : decode cL_law 58 = .ok (.iastore, 1) := by decide +kernel
theorem dL_law_59 : decode cL_law 59 = .ok (.aload_n 2, 1) := by decide +kernel
theorem dL_law_60 : decode cL_law 60 = .ok (.iconst 1, 1) := by decide +kernel
theorem dL_law_61 : decode cL_law 61 = .ok (.bipush 30, 2) := by decide +kernel
theorem dL_law_63 : decode cL_law 63 = .ok (.iastore, 1) := by decide +kernel
theorem dL_law_64 : decode cL_law 64 = .ok (.aload_n 2, 1) := by decide +kernel
theorem dL_law_65 : decode cL_law 65 = .ok (.iconst 2, 1) := by decide +kernel
theorem dL_law_66 : decode cL_law 66 = .ok (.sipush 500, 3) := by decide +kernel
theorem dL_law_69 : decode cL_law 69 = .ok (.iastore, 1) := by decide +kernel
theorem dL_law_70 : decode cL_law 70 = .ok (.aload_n 1, 1) := by decide +kernel
theorem dL_law_71 : decode cL_law 71 = .ok (.aload_n 2, 1) := by decide +kernel
theorem dL_law_72 : decode cL_law 72 = .ok (.aload_n 3, 1) := by decide +kernel
theorem dL_law_73 : decode cL_law 73 = .ok (.aload 4, 2) := by decide +kernel
theorem dL_law_75 : decode cL_law 75 = .ok (.aload 5, 2) := by decide +kernel
theorem dL_law_77 : decode cL_law 77 = .ok (.aload 6, 2) := by decide +kernel
theorem dL_law_79 : decode cL_law 79 = .ok (.aload 7, 2) := by decide +kernel
theorem dL_law_81 : decode cL_law 81 = .ok (.aload 8, 2) := by decide +kernel
theorem dL_law_83 : decode cL_law 83 = .ok (.aload 9, 2) := by decide +kernel
theorem dL_law_85 : decode cL_law 85 = .ok (.invokestatic 239, 3) := by decide +kernel
theorem dL_law_88 : decode cL_law 88 = .ok (.istore 10, 2) := by decide +kernel
theorem dL_law_90 : decode cL_law 90 = .ok (.iconst 0, 1) := by decide +kernel
theorem dL_law_91 : decode cL_law 91 = .ok (.istore 11, 2) := by decide +kernel
theorem dL_law_93 : decode cL_law 93 = .ok (.iload 11, 2) := by decide +kernel
theorem dL_law_95 : decode cL_law 95 = .ok (.bipush 20, 2) := by decide +kernel
theorem dL_law_97 : decode cL_law 97 = .ok (.if_icmp .ge 148, 3) := by decide +kernel
theorem dL_law_100 : decode cL_law 100 = .ok (.iload 10, 2) := by decide +kernel
theorem dL_law_102 : decode cL_law 102 = .ok (.ifCond .eq 143, 3) := by decide +kernel
theorem dL_law_105 : decode cL_law 105 = .ok (.aload_n 0, 1) := by decide +kernel
theorem dL_law_106 : decode cL_law 106 = .ok (.iconst 1, 1) := by decide +kernel
theorem dL_law_107 : decode cL_law 107 = .ok (.iload 11, 2) := by decide +kernel
theorem dL_law_109 : decode cL_law 109 = .ok (.iadd, 1) := by decide +kernel
theorem dL_law_110 : decode cL_law 110 = .ok (.invokestatic 243, 3) := by decide +kernel
theorem dL_law_113 : decode cL_law 113 = .ok (.ldc 8, 2) := by decide +kernel
theorem dL_law_115 : decode cL_law 115 = .ok (.iand, 1) := by decide +kernel
theorem dL_law_116 : decode cL_law 116 = .ok (.sipush 896, 3) := by decide +kernel
theorem dL_law_119 : decode cL_law 119 = .ok (.idiv, 1) := by decide +kernel
theorem dL_law_120 : decode cL_law 120 = .ok (.istore 12, 2) := by decide +kernel
theorem dL_law_122 : decode cL_law 122 = .ok (.iload 11, 2) := by decide +kernel
theorem dL_law_124 : decode cL_law 124 = .ok (.iconst 3, 1) := by decide +kernel
theorem dL_law_125 : decode cL_law 125 = .ok (.if_icmp .ge 21, 3) := by decide +kernel
theorem dL_law_128 : decode cL_law 128 = .ok (.aload_n 1, 1) := by decide +kernel
theorem dL_law_129 : decode cL_law 129 = .ok (.aload_n 2, 1) := by decide +kernel
theorem dL_law_130 : decode cL_law 130 = .ok (.aload_n 3, 1) := by decide +kernel
theorem dL_law_131 : decode cL_law 131 = .ok (.aload 4, 2) := by decide +kernel
theorem dL_law_133 : decode cL_law 133 = .ok (.aload 5, 2) := by decide +kernel
theorem dL_law_135 : decode cL_law 135 = .ok (.aload 6, 2) := by decide +kernel
theorem dL_law_137 : decode cL_law 137 = .ok (.iload 12, 2) := by decide +kernel
theorem dL_law_139 : decode cL_law 139 = .ok (.iconst 0, 1) := by decide +kernel
theorem dL_law_140 : decode cL_law 140 = .ok (.invokestatic 170, 3) := by decide +kernel
theorem dL_law_143 : decode cL_law 143 = .ok (.goto 94, 3) := by decide +kernel
theorem dL_law_146 : decode cL_law 146 = .ok (.iload 11, 2) := by decide +kernel
theorem dL_law_148 : decode cL_law 148 = .ok (.bipush 15, 2) := by decide +kernel
theorem dL_law_150 : decode cL_law 150 = .ok (.if_icmp .ge 35, 3) := by decide +kernel
theorem dL_law_153 : decode cL_law 153 = .ok (.aload_n 1, 1) := by decide +kernel
theorem dL_law_154 : decode cL_law 154 = .ok (.aload_n 2, 1) := by decide +kernel
theorem dL_law_155 : decode cL_law 155 = .ok (.aload_n 3, 1) := by decide +kernel
theorem dL_law_156 : decode cL_law 156 = .ok (.aload 4, 2) := by decide +kernel
theorem dL_law_158 : decode cL_law 158 = .ok (.aload 5, 2) := by decide +kernel
theorem dL_law_160 : decode cL_law 160 = .ok (.aload 6, 2) := by decide +kernel
theorem dL_law_162 : decode cL_law 162 = .ok (.iload 12, 2) := by decide +kernel
theorem dL_law_164 : decode cL_law 164 = .ok (.bipush 6, 2) := by decide +kernel
theorem dL_law_166 : decode cL_law 166 = .ok (.idiv, 1) := by decide +kernel
theorem dL_law_167 : decode cL_law 167 = .ok (.ldc 148, 2) := by decide +kernel
theorem dL_law_169 : decode cL_law 169 = .ok (.irem, 1) := by decide +kernel
theorem dL_law_170 : decode cL_law 170 = .ok (.bipush 6, 2) := by decide +kernel
theorem dL_law_172 : decode cL_law 172 = .ok (.imul, 1) := by decide +kernel
theorem dL_law_173 : decode cL_law 173 = .ok (.iload 11, 2) := by decide +kernel
theorem dL_law_175 : decode cL_law 175 = .ok (.iconst 3, 1) := by decide +kernel
theorem dL_law_176 : decode cL_law 176 = .ok (.irem, 1) := by decide +kernel
theorem dL_law_177 : decode cL_law 177 = .ok (.iadd, 1) := by decide +kernel
theorem dL_law_178 : decode cL_law 178 = .ok (.iconst 1, 1) := by decide +kernel
theorem dL_law_179 : decode cL_law 179 = .ok (.invokestatic 170, 3) := by decide +kernel
theorem dL_law_182 : decode cL_law 182 = .ok (.goto 55, 3) := by decide +kernel
theorem dL_law_185 : decode cL_law 185 = .ok (.iload 11, 2) := by decide +kernel
theorem dL_law_187 : decode cL_law 187 = .ok (.bipush 18, 2) := by decide +kernel
theorem dL_law_189 : decode cL_law 189 = .ok (.if_icmp .ge 21, 3) := by decide +kernel
theorem dL_law_192 : decode cL_law 192 = .ok (.aload_n 1, 1) := by decide +kernel
theorem dL_law_193 : decode cL_law 193 = .ok (.aload_n 2, 1) := by decide +kernel
theorem dL_law_194 : decode cL_law 194 = .ok (.aload_n 3, 1) := by decide +kernel
theorem dL_law_195 : decode cL_law 195 = .ok (.aload 4, 2) := by decide +kernel
theorem dL_law_197 : decode cL_law 197 = .ok (.aload 5, 2) := by decide +kernel
theorem dL_law_199 : decode cL_law 199 = .ok (.aload 6, 2) := by decide +kernel
theorem dL_law_201 : decode cL_law 201 = .ok (.iload 12, 2) := by decide +kernel
theorem dL_law_203 : decode cL_law 203 = .ok (.iconst 3, 1) := by decide +kernel
theorem dL_law_204 : decode cL_law 204 = .ok (.invokestatic 170, 3) := by decide +kernel
theorem dL_law_207 : decode cL_law 207 = .ok (.goto 30, 3) := by decide +kernel
theorem dL_law_210 : decode cL_law 210 = .ok (.aload_n 1, 1) := by decide +kernel
theorem dL_law_211 : decode cL_law 211 = .ok (.aload_n 2, 1) := by decide +kernel
theorem dL_law_212 : decode cL_law 212 = .ok (.aload_n 3, 1) := by decide +kernel
theorem dL_law_213 : decode cL_law 213 = .ok (.aload 4, 2) := by decide +kernel
theorem dL_law_215 : decode cL_law 215 = .ok (.aload 5, 2) := by decide +kernel
theorem dL_law_217 : decode cL_law 217 = .ok (.aload 6, 2) := by decide +kernel
theorem dL_law_219 : decode cL_law 219 = .ok (.aload 7, 2) := by decide +kernel
theorem dL_law_221 : decode cL_law 221 = .ok (.aload 8, 2) := by decide +kernel
theorem dL_law_223 : decode cL_law 223 = .ok (.aload 9, 2) := by decide +kernel
theorem dL_law_225 : decode cL_law 225 = .ok (.iload 12, 2) := by decide +kernel
theorem dL_law_227 : decode cL_law 227 = .ok (.sipush 896, 3) := by decide +kernel
theorem dL_law_230 : decode cL_law 230 = .ok (.imul, 1) := by decide +kernel
theorem dL_law_231 : decode cL_law 231 = .ok (.bipush 15, 2) := by decide +kernel
theorem dL_law_233 : decode cL_law 233 = .ok (.iadd, 1) := by decide +kernel
theorem dL_law_234 : decode cL_law 234 = .ok (.invokestatic 247, 3) := by decide +kernel
theorem dL_law_237 : decode cL_law 237 = .ok (.istore 10, 2) := by decide +kernel
theorem dL_law_239 : decode cL_law 239 = .ok (.iinc 11 1, 3) := by decide +kernel
theorem dL_law_242 : decode cL_law 242 = .ok (.goto (-149), 3) := by decide +kernel
theorem dL_law_245 : decode cL_law 245 = .ok (.bipush 8, 2) := by decide +kernel
theorem dL_law_247 : decode cL_law 247 = .ok (.aload_n 0, 1) := by decide +kernel
theorem dL_law_248 : decode cL_law 248 = .ok (.iconst 0, 1) := by decide +kernel
theorem dL_law_249 : decode cL_law 249 = .ok (.invokestatic 243, 3) := by decide +kernel
theorem dL_law_252 : decode cL_law 252 = .ok (.bipush 36, 2) := by decide +kernel
theorem dL_law_254 : decode cL_law 254 = .ok (.invokestatic 167, 3) := by decide +kernel
theorem dL_law_257 : decode cL_law 257 = .ok (.iadd, 1) := by decide +kernel
theorem dL_law_258 : decode cL_law 258 = .ok (.istore 11, 2) := by decide +kernel
theorem dL_law_260 : decode cL_law 260 = .ok (.iconst 0, 1) := by decide +kernel
theorem dL_law_261 : decode cL_law 261 = .ok (.istore 12, 2) := by decide +kernel
theorem dL_law_263 : decode cL_law 263 = .ok (.iload 12, 2) := by decide +kernel
theorem dL_law_265 : decode cL_law 265 = .ok (.iload 11, 2) := by decide +kernel
theorem dL_law_267 : decode cL_law 267 = .ok (.if_icmp .ge 168, 3) := by decide +kernel
theorem dL_law_270 : decode cL_law 270 = .ok (.iload 10, 2) := by decide +kernel
theorem dL_law_272 : decode cL_law 272 = .ok (.ifCond .eq 163, 3) := by decide +kernel
theorem dL_law_275 : decode cL_law 275 = .ok (.aload_n 0, 1) := by decide +kernel
theorem dL_law_276 : decode cL_law 276 = .ok (.bipush 21, 2) := by decide +kernel
theorem dL_law_278 : decode cL_law 278 = .ok (.iload 12, 2) := by decide +kernel
theorem dL_law_280 : decode cL_law 280 = .ok (.iadd, 1) := by decide +kernel
theorem dL_law_281 : decode cL_law 281 = .ok (.invokestatic 243, 3) := by decide +kernel
theorem dL_law_284 : decode cL_law 284 = .ok (.sipush 7919, 3) := by decide +kernel
theorem dL_law_287 : decode cL_law 287 = .ok (.iload 12, 2) := by decide +kernel
theorem dL_law_289 : decode cL_law 289 = .ok (.imul, 1) := by decide +kernel
theorem dL_law_290 : decode cL_law 290 = .ok (.ixor, 1) := by decide +kernel
theorem dL_law_291 : decode cL_law 291 = .ok (.istore 13, 2) := by decide +kernel
theorem dL_law_293 : decode cL_law 293 = .ok (.aload_n 1, 1) := by decide +kernel
theorem dL_law_294 : decode cL_law 294 = .ok (.aload_n 2, 1) := by decide +kernel
theorem dL_law_295 : decode cL_law 295 = .ok (.aload_n 3, 1) := by decide +kernel
theorem dL_law_296 : decode cL_law 296 = .ok (.aload 4, 2) := by decide +kernel
theorem dL_law_298 : decode cL_law 298 = .ok (.aload 5, 2) := by decide +kernel
theorem dL_law_300 : decode cL_law 300 = .ok (.aload 6, 2) := by decide +kernel
theorem dL_law_302 : decode cL_law 302 = .ok (.aload 7, 2) := by decide +kernel
theorem dL_law_304 : decode cL_law 304 = .ok (.aload 8, 2) := by decide +kernel
theorem dL_law_306 : decode cL_law 306 = .ok (.aload 9, 2) := by decide +kernel
theorem dL_law_308 : decode cL_law 308 = .ok (.iload 13, 2) := by decide +kernel
theorem dL_law_310 : decode cL_law 310 = .ok (.invokestatic 247, 3) := by decide +kernel
theorem dL_law_313 : decode cL_law 313 = .ok (.ifCond .eq 28, 3) := by decide +kernel
theorem dL_law_316 : decode cL_law 316 = .ok (.aload_n 1, 1) := by decide +kernel
theorem dL_law_317 : decode cL_law 317 = .ok (.aload_n 2, 1) := by decide +kernel
theorem dL_law_318 : decode cL_law 318 = .ok (.aload_n 3, 1) := by decide +kernel
theorem dL_law_319 : decode cL_law 319 = .ok (.aload 4, 2) := by decide +kernel
theorem dL_law_321 : decode cL_law 321 = .ok (.aload 5, 2) := by decide +kernel
theorem dL_law_323 : decode cL_law 323 = .ok (.aload 6, 2) := by decide +kernel
theorem dL_law_325 : decode cL_law 325 = .ok (.aload 7, 2) := by decide +kernel
theorem dL_law_327 : decode cL_law 327 = .ok (.aload 8, 2) := by decide +kernel
theorem dL_law_329 : decode cL_law 329 = .ok (.aload 9, 2) := by decide +kernel
theorem dL_law_331 : decode cL_law 331 = .ok (.invokestatic 239, 3) := by decide +kernel
theorem dL_law_334 : decode cL_law 334 = .ok (.ifCond .eq 7, 3) := by decide +kernel
theorem dL_law_337 : decode cL_law 337 = .ok (.iconst 1, 1) := by decide +kernel
theorem dL_law_338 : decode cL_law 338 = .ok (.goto 4, 3) := by decide +kernel
theorem dL_law_341 : decode cL_law 341 = .ok (.iconst 0, 1) := by decide +kernel
theorem dL_law_342 : decode cL_law 342 = .ok (.istore 10, 2) := by decide +kernel
theorem dL_law_344 : decode cL_law 344 = .ok (.iload 13, 2) := by decide +kernel
theorem dL_law_346 : decode cL_law 346 = .ok (.iconst 5, 1) := by decide +kernel
theorem dL_law_347 : decode cL_law 347 = .ok (.ishr, 1) := by decide +kernel
theorem dL_law_348 : decode cL_law 348 = .ok (.ldc 166, 2) := by decide +kernel
theorem dL_law_350 : decode cL_law 350 = .ok (.invokestatic 167, 3) := by decide +kernel
theorem dL_law_353 : decode cL_law 353 = .ok (.aload_n 2, 1) := by decide +kernel
theorem dL_law_354 : decode cL_law 354 = .ok (.iconst 5, 1) := by decide +kernel
theorem dL_law_355 : decode cL_law 355 = .ok (.iaload, 1) := by decide +kernel
theorem dL_law_356 : decode cL_law 356 = .ok (.ifCond .ne 7, 3) := by decide +kernel
theorem dL_law_359 : decode cL_law 359 = .ok (.iconst 1, 1) := by decide +kernel
theorem dL_law_360 : decode cL_law 360 = .ok (.goto 6, 3) := by decide +kernel
theorem dL_law_363 : decode cL_law 363 = .ok (.aload_n 2, 1) := by decide +kernel
theorem dL_law_364 : decode cL_law 364 = .ok (.iconst 5, 1) := by decide +kernel
theorem dL_law_365 : decode cL_law 365 = .ok (.iaload, 1) := by decide +kernel
theorem dL_law_366 : decode cL_law 366 = .ok (.irem, 1) := by decide +kernel
theorem dL_law_367 : decode cL_law 367 = .ok (.istore 14, 2) := by decide +kernel
theorem dL_law_369 : decode cL_law 369 = .ok (.iload 10, 2) := by decide +kernel
theorem dL_law_371 : decode cL_law 371 = .ok (.ifCond .eq 55, 3) := by decide +kernel
theorem dL_law_374 : decode cL_law 374 = .ok (.iload 13, 2) := by decide +kernel
theorem dL_law_376 : decode cL_law 376 = .ok (.bipush 28, 2) := by decide +kernel
theorem dL_law_378 : decode cL_law 378 = .ok (.invokestatic 167, 3) := by decide +kernel
theorem dL_law_381 : decode cL_law 381 = .ok (.bipush 26, 2) := by decide +kernel
theorem dL_law_383 : decode cL_law 383 = .ok (.if_icmp .lt 39, 3) := by decide +kernel
theorem dL_law_386 : decode cL_law 386 = .ok (.aload_n 2, 1) := by decide +kernel
theorem dL_law_387 : decode cL_law 387 = .ok (.iconst 5, 1) := by decide +kernel
theorem dL_law_388 : decode cL_law 388 = .ok (.iaload, 1) := by decide +kernel
theorem dL_law_389 : decode cL_law 389 = .ok (.ifCond .eq 33, 3) := by decide +kernel
theorem dL_law_392 : decode cL_law 392 = .ok (.aload_n 1, 1) := by decide +kernel
theorem dL_law_393 : decode cL_law 393 = .ok (.iload 14, 2) := by decide +kernel
theorem dL_law_395 : decode cL_law 395 = .ok (.iconst 4, 1) := by decide +kernel
theorem dL_law_396 : decode cL_law 396 = .ok (.invokestatic 216, 3) := by decide +kernel
theorem dL_law_399 : decode cL_law 399 = .ok (.ifCond .gt 23, 3) := by decide +kernel
theorem dL_law_402 : decode cL_law 402 = .ok (.aload_n 1, 1) := by decide +kernel
theorem dL_law_403 : decode cL_law 403 = .ok (.iload 14, 2) := by decide +kernel
theorem dL_law_405 : decode cL_law 405 = .ok (.iconst 2, 1) := by decide +kernel
theorem dL_law_406 : decode cL_law 406 = .ok (.invokestatic 216, 3) := by decide +kernel
theorem dL_law_409 : decode cL_law 409 = .ok (.ifCond .lt 13, 3) := by decide +kernel
theorem dL_law_412 : decode cL_law 412 = .ok (.aload_n 1, 1) := by decide +kernel
theorem dL_law_413 : decode cL_law 413 = .ok (.iload 14, 2) := by decide +kernel
theorem dL_law_415 : decode cL_law 415 = .ok (.iconst 5, 1) := by decide +kernel
theorem dL_law_416 : decode cL_law 416 = .ok (.invokestatic 216, 3) := by decide +kernel
theorem dL_law_419 : decode cL_law 419 = .ok (.ifCond .ne 7, 3) := by decide +kernel
theorem dL_law_422 : decode cL_law 422 = .ok (.iconst 1, 1) := by decide +kernel
theorem dL_law_423 : decode cL_law 423 = .ok (.goto 4, 3) := by decide +kernel
theorem dL_law_426 : decode cL_law 426 = .ok (.iconst 0, 1) := by decide +kernel
theorem dL_law_427 : decode cL_law 427 = .ok (.istore 10, 2) := by decide +kernel
theorem dL_law_429 : decode cL_law 429 = .ok (.iinc 12 1, 3) := by decide +kernel
theorem dL_law_432 : decode cL_law 432 = .ok (.goto (-169), 3) := by decide +kernel
theorem dL_law_435 : decode cL_law 435 = .ok (.iload 10, 2) := by decide +kernel
theorem dL_law_437 : decode cL_law 437 = .ok (.ifCond .eq 94, 3) := by decide +kernel
theorem dL_law_440 : decode cL_law 440 = .ok (.aload_n 1, 1) := by decide +kernel
theorem dL_law_441 : decode cL_law 441 = .ok (.bipush 8, 2) := by decide +kernel
theorem dL_law_443 : decode cL_law 443 = .ok (.invokestatic 235, 3) := by decide +kernel
theorem dL_law_446 : decode cL_law 446 = .ok (.ldc 17, 2) := by decide +kernel
theorem dL_law_448 : decode cL_law 448 = .ok (.if_icmp .ne 83, 3) := by decide +kernel
theorem dL_law_451 : decode cL_law 451 = .ok (.aload_n 1, 1) := by decide +kernel
theorem dL_law_452 : decode cL_law 452 = .ok (.iconst (-1), 1) := by decide +kernel
theorem dL_law_453 : decode cL_law 453 = .ok (.invokestatic 235, 3) := by decide +kernel
theorem dL_law_456 : decode cL_law 456 = .ok (.ldc 17, 2) := by decide +kernel
theorem dL_law_458 : decode cL_law 458 = .ok (.if_icmp .ne 73, 3) := by decide +kernel
theorem dL_law_461 : decode cL_law 461 = .ok (.aload_n 1, 1) := by decide +kernel
theorem dL_law_462 : decode cL_law 462 = .ok (.aload_n 2, 1) := by decide +kernel
theorem dL_law_463 : decode cL_law 463 = .ok (.iconst 3, 1) := by decide +kernel
theorem dL_law_464 : decode cL_law 464 = .ok (.iaload, 1) := by decide +kernel
theorem dL_law_465 : decode cL_law 465 = .ok (.iconst 0, 1) := by decide +kernel
theorem dL_law_466 : decode cL_law 466 = .ok (.invokestatic 226, 3) := by decide +kernel
theorem dL_law_469 : decode cL_law 469 = .ok (.ldc 29, 2) := by decide +kernel
theorem dL_law_471 : decode cL_law 471 = .ok (.if_icmp .ne 60, 3) := by decide +kernel
theorem dL_law_474 : decode cL_law 474 = .ok (.aload_n 1, 1) := by decide +kernel
theorem dL_law_475 : decode cL_law 475 = .ok (.aload_n 2, 1) := by decide +kernel
theorem dL_law_476 : decode cL_law 476 = .ok (.iconst 4, 1) := by decide +kernel
theorem dL_law_477 : decode cL_law 477 = .ok (.iaload, 1) := by decide +kernel
theorem dL_law_478 : decode cL_law 478 = .ok (.iconst 0, 1) := by decide +kernel
theorem dL_law_479 : decode cL_law 479 = .ok (.invokestatic 229, 3) := by decide +kernel
theorem dL_law_482 : decode cL_law 482 = .ok (.ldc 29, 2) := by decide +kernel
theorem dL_law_484 : decode cL_law 484 = .ok (.if_icmp .ne 47, 3) := by decide +kernel
theorem dL_law_487 : decode cL_law 487 = .ok (.aload_n 1, 1) := by decide +kernel
theorem dL_law_488 : decode cL_law 488 = .ok (.aload_n 2, 1) := by decide +kernel
theorem dL_law_489 : decode cL_law 489 = .ok (.iconst 5, 1) := by decide +kernel
theorem dL_law_490 : decode cL_law 490 = .ok (.iaload, 1) := by decide +kernel
theorem dL_law_491 : decode cL_law 491 = .ok (.iconst 0, 1) := by decide +kernel
theorem dL_law_492 : decode cL_law 492 = .ok (.invokestatic 216, 3) := by decide +kernel
theorem dL_law_495 : decode cL_law 495 = .ok (.ldc 29, 2) := by decide +kernel
theorem dL_law_497 : decode cL_law 497 = .ok (.if_icmp .ne 34, 3) := by decide +kernel
theorem dL_law_500 : decode cL_law 500 = .ok (.aload_n 1, 1) := by decide +kernel
theorem dL_law_501 : decode cL_law 501 = .ok (.aload_n 2, 1) := by decide +kernel
theorem dL_law_502 : decode cL_law 502 = .ok (.iconst 5, 1) := by decide +kernel
theorem dL_law_503 : decode cL_law 503 = .ok (.iaload, 1) := by decide +kernel
theorem dL_law_504 : decode cL_law 504 = .ok (.iconst 0, 1) := by decide +kernel
theorem dL_law_505 : decode cL_law 505 = .ok (.iconst 0, 1) := by decide +kernel
theorem dL_law_506 : decode cL_law 506 = .ok (.invokestatic 205, 3) := by decide +kernel
theorem dL_law_509 : decode cL_law 509 = .ok (.ldc 29, 2) := by decide +kernel
theorem dL_law_511 : decode cL_law 511 = .ok (.if_icmp .ne 20, 3) := by decide +kernel
theorem dL_law_514 : decode cL_law 514 = .ok (.aload_n 1, 1) := by decide +kernel
theorem dL_law_515 : decode cL_law 515 = .ok (.aload_n 2, 1) := by decide +kernel
theorem dL_law_516 : decode cL_law 516 = .ok (.iconst 5, 1) := by decide +kernel
theorem dL_law_517 : decode cL_law 517 = .ok (.iaload, 1) := by decide +kernel
theorem dL_law_518 : decode cL_law 518 = .ok (.iconst 0, 1) := by decide +kernel
theorem dL_law_519 : decode cL_law 519 = .ok (.invokestatic 223, 3) := by decide +kernel
theorem dL_law_522 : decode cL_law 522 = .ok (.ldc 29, 2) := by decide +kernel
theorem dL_law_524 : decode cL_law 524 = .ok (.if_icmp .ne 7, 3) := by decide +kernel
theorem dL_law_527 : decode cL_law 527 = .ok (.iconst 1, 1) := by decide +kernel
theorem dL_law_528 : decode cL_law 528 = .ok (.goto 4, 3) := by decide +kernel
theorem dL_law_531 : decode cL_law 531 = .ok (.iconst 0, 1) := by decide +kernel
theorem dL_law_532 : decode cL_law 532 = .ok (.ireturn, 1) := by decide +kernel
