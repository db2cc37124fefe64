theorem dX4_solve_348 : decode cX4_solve 348 = .ok (.bipush 8, 2) := by decide +kernel
theorem dX4_solve_350 : decode cX4_solve 350 = .ok (.iload 4, 2) := by decide +kernel
theorem dX4_solve_352 : decode cX4_solve 352 = .ok (.imul, 1) := by decide +kernel
theorem dX4_solve_353 : decode cX4_solve 353 = .ok (.iload 4, 2) := by decide +kernel
theorem dX4_solve_355 : decode cX4_solve 355 = .ok (.iadd, 1) := by decide +kernel
theorem dX4_solve_356 : decode cX4_solve 356 = .ok (.laload, 1) := by decide +kernel
theorem dX4_solve_357 : decode cX4_solve 357 = .ok (.lstore 8, 2) := by decide +kernel
theorem dX4_solve_359 : decode cX4_solve 359 = .ok (.lload 6, 2) := by decide +kernel
theorem dX4_solve_361 : decode cX4_solve 361 = .ok (.lload 8, 2) := by decide +kernel
theorem dX4_solve_363 : decode cX4_solve 363 = .ok (.invokestatic 128, 3) := by decide +kernel
theorem dX4_solve_366 : decode cX4_solve 366 = .ok (.lstore 10, 2) := by decide +kernel
theorem dX4_solve_368 : decode cX4_solve 368 = .ok (.aload_n 0, 1) := by decide +kernel
theorem dX4_solve_369 : decode cX4_solve 369 = .ok (.getfield 41, 3) := by decide +kernel
theorem dX4_solve_372 : decode cX4_solve 372 = .ok (.iload 5, 2) := by decide +kernel
theorem dX4_solve_374 : decode cX4_solve 374 = .ok (.lload 8, 2) := by decide +kernel
theorem dX4_solve_376 : decode cX4_solve 376 = .ok (.lconst 0, 1) := by decide +kernel
theorem dX4_solve_377 : decode cX4_solve 377 = .ok (.lcmp, 1) := by decide +kernel
theorem dX4_solve_378 : decode cX4_solve 378 = .ok (.ifCond .ge 12, 3) := by decide +kernel
theorem dX4_solve_381 : decode cX4_solve 381 = .ok (.lload 6, 2) := by decide +kernel
theorem dX4_solve_383 : decode cX4_solve 383 = .ok (.lneg, 1) := by decide +kernel
theorem dX4_solve_384 : decode cX4_solve 384 = .ok (.lload 10, 2) := by decide +kernel
theorem dX4_solve_386 : decode cX4_solve 386 = .ok (.ldiv, 1) := by decide +kernel
theorem dX4_solve_387 : decode cX4_solve 387 = .ok (.goto 8, 3) := by decide +kernel
theorem dX4_solve_390 : decode cX4_solve 390 = .ok (.lload 6, 2) := by decide +kernel
theorem dX4_solve_392 : decode cX4_solve 392 = .ok (.lload 10, 2) := by decide +kernel
theorem dX4_solve_394 : decode cX4_solve 394 = .ok (.ldiv, 1) := by decide +kernel
theorem dX4_solve_395 : decode cX4_solve 395 = .ok (.lastore, 1) := by decide +kernel
theorem dX4_solve_396 : decode cX4_solve 396 = .ok (.aload_n 0, 1) := by decide +kernel
theorem dX4_solve_397 : decode cX4_solve 397 = .ok (.getfield 44, 3) := by decide +kernel
theorem dX4_solve_400 : decode cX4_solve 400 = .ok (.iload 5, 2) := by decide +kernel
theorem dX4_solve_402 : decode cX4_solve 402 = .ok (.lload 8, 2) := by decide +kernel
theorem dX4_solve_404 : decode cX4_solve 404 = .ok (.invokestatic 119, 3) := by decide +kernel
theorem dX4_solve_407 : decode cX4_solve 407 = .ok (.lload 10, 2) := by decide +kernel
theorem dX4_solve_409 : decode cX4_solve 409 = .ok (.ldiv, 1) := by decide +kernel
theorem dX4_solve_410 : decode cX4_solve 410 = .ok (.lastore, 1) := by decide +kernel
theorem dX4_solve_411 : decode cX4_solve 411 = .ok (.iinc 4 1, 3) := by decide +kernel
theorem dX4_solve_414 : decode cX4_solve 414 = .ok (.iinc 5 1, 3) := by decide +kernel
theorem dX4_solve_417 : decode cX4_solve 417 = .ok (.goto (-126), 3) := by decide +kernel
theorem dX4_solve_420 : decode cX4_solve 420 = .ok (.iconst 1, 1) := by decide +kernel
theorem dX4_solve_421 : decode cX4_solve 421 = .ok (.ireturn, 1) := by decide +kernel
set_option maxRecDepth 20000 in
theorem ggX4_takeOff_X4_common : GoodIn wsX4_takeOff wsX4_common := goodIn_r _ [5, 6, 7, 8, 9] (by decide +kernel) (by decide +kernel)
set_option maxRecDepth 20000 in
theorem gX4_takeOff_X4_common : GoodIn wsX4_takeOff (va_wsS RX4 128 yX4_common wsX4_common) := goodIn_app (goodIn_of _ (by decide +kernel)) ggX4_takeOff_X4_common
theorem dX4_takeOff_0 : decode cX4_takeOff 0 = .ok (.aload_n 0, 1) := by decide +kernel
theorem dX4_takeOff_1 : decode cX4_takeOff 1 = .ok (.getfield 37, 3) := by decide +kernel
theorem dX4_takeOff_4 : decode cX4_takeOff 4 = .ok (.bipush 8, 2) := by decide +kernel
theorem dX4_takeOff_6 : decode cX4_takeOff 6 = .ok (.iload_n 2, 1) := by decide +kernel
theorem dX4_takeOff_7 : decode cX4_takeOff 7 = .ok (.imul, 1) := by decide +kernel
theorem dX4_takeOff_8 : decode cX4_takeOff 8 = .ok (.iload_n 2, 1) := by decide +kernel
theorem dX4_takeOff_9 : decode cX4_takeOff 9 = .ok (.iadd, 1) := by decide +kernel
theorem dX4_takeOff_10 : decode cX4_takeOff 10 = .ok (.laload, 1) := by decide +kernel
theorem dX4_takeOff_11 : decode cX4_takeOff 11 = .ok (.lstore_n 3, 1) := by decide +kernel
theorem dX4_takeOff_12 : decode cX4_takeOff 12 = .ok (.aload_n 0, 1) := by decide +kernel
theorem dX4_takeOff_13 : decode cX4_takeOff 13 = .ok (.getfield 37, 3) := by decide +kernel
theorem dX4_takeOff_16 : decode cX4_takeOff 16 = .ok (.bipush 8, 2) := by decide +kernel
theorem dX4_takeOff_18 : decode cX4_takeOff 18 = .ok (.iload_n 1, 1) := by decide +kernel
theorem dX4_takeOff_19 : decode cX4_takeOff 19 = .ok (.imul, 1) := by decide +kernel
theorem dX4_takeOff_20 : decode cX4_takeOff 20 = .ok (.iload_n 2, 1) := by decide +kernel
theorem dX4_takeOff_21 : decode cX4_takeOff 21 = .ok (.iadd, 1) := by decide +kernel
theorem dX4_takeOff_22 : decode cX4_takeOff 22 = .ok (.laload, 1) := by decide +kernel
theorem dX4_takeOff_23 : decode cX4_takeOff 23 = .ok (.lstore 5, 2) := by decide +kernel
theorem dX4_takeOff_25 : decode cX4_takeOff 25 = .ok (.lconst 0, 1) := by decide +kernel
theorem dX4_takeOff_26 : decode cX4_takeOff 26 = .ok (.lstore 7, 2) := by decide +kernel
theorem dX4_takeOff_28 : decode cX4_takeOff 28 = .ok (.iconst 0, 1) := by decide +kernel
theorem dX4_takeOff_29 : decode cX4_takeOff 29 = .ok (.istore 9, 2) := by decide +kernel
theorem dX4_takeOff_31 : decode cX4_takeOff 31 = .ok (.iload 9, 2) := by decide +kernel
theorem dX4_takeOff_33 : decode cX4_takeOff 33 = .ok (.bipush 8, 2) := by decide +kernel
theorem dX4_takeOff_35 : decode cX4_takeOff 35 = .ok (.if_icmp .ge 70, 3) := by decide +kernel
theorem dX4_takeOff_38 : decode cX4_takeOff 38 = .ok (.aload_n 0, 1) := by decide +kernel
theorem dX4_takeOff_39 : decode cX4_takeOff 39 = .ok (.getfield 37, 3) := by decide +kernel
theorem dX4_takeOff_42 : decode cX4_takeOff 42 = .ok (.bipush 8, 2) := by decide +kernel
theorem dX4_takeOff_44 : decode cX4_takeOff 44 = .ok (.iload_n 1, 1) := by decide +kernel
theorem dX4_takeOff_45 : decode cX4_takeOff 45 = .ok (.imul, 1) := by decide +kernel
theorem dX4_takeOff_46 : decode cX4_takeOff 46 = .ok (.iload 9, 2) := by decide +kernel
theorem dX4_takeOff_48 : decode cX4_takeOff 48 = .ok (.iadd, 1) := by decide +kernel
theorem dX4_takeOff_49 : decode cX4_takeOff 49 = .ok (.lload_n 3, 1) := by decide +kernel
theorem dX4_takeOff_50 : decode cX4_takeOff 50 = .ok (.aload_n 0, 1) := by decide +kernel
theorem dX4_takeOff_51 : decode cX4_takeOff 51 = .ok (.getfield 37, 3) := by decide +kernel
theorem dX4_takeOff_54 : decode cX4_takeOff 54 = .ok (.bipush 8, 2) := by decide +kernel
theorem dX4_takeOff_56 : decode cX4_takeOff 56 = .ok (.iload_n 1, 1) := by decide +kernel
theorem dX4_takeOff_57 : decode cX4_takeOff 57 = .ok (.imul, 1) := by decide +kernel
theorem dX4_takeOff_58 : decode cX4_takeOff 58 = .ok (.iload 9, 2) := by decide +kernel
theorem dX4_takeOff_60 : decode cX4_takeOff 60 = .ok (.iadd, 1) := by decide +kernel
theorem dX4_takeOff_61 : decode cX4_takeOff 61 = .ok (.laload, 1) := by decide +kernel
theorem dX4_takeOff_62 : decode cX4_takeOff 62 = .ok (.lmul, 1) := by decide +kernel
theorem dX4_takeOff_63 : decode cX4_takeOff 63 = .ok (.lload 5, 2) := by decide +kernel
theorem dX4_takeOff_65 : decode cX4_takeOff 65 = .ok (.aload_n 0, 1) := by decide +kernel
theorem dX4_takeOff_66 : decode cX4_takeOff 66 = .ok (.getfield 37, 3) := by decide +kernel
theorem dX4_takeOff_69 : decode cX4_takeOff 69 = .ok (.bipush 8, 2) := by decide +kernel
theorem dX4_takeOff_71 : decode cX4_takeOff 71 = .ok (.iload_n 2, 1) := by decide +kernel
theorem dX4_takeOff_72 : decode cX4_takeOff 72 = .ok (.imul, 1) := by decide +kernel
theorem dX4_takeOff_73 : decode cX4_takeOff 73 = .ok (.iload 9, 2) := by decide +kernel
theorem dX4_takeOff_75 : decode cX4_takeOff 75 = .ok (.iadd, 1) := by decide +kernel
theorem dX4_takeOff_76 : decode cX4_takeOff 76 = .ok (.laload, 1) := by decide +kernel
theorem dX4_takeOff_77 : decode cX4_takeOff 77 = .ok (.lmul, 1) := by decide +kernel
theorem dX4_takeOff_78 : decode cX4_takeOff 78 = .ok (.lsub, 1) := by decide +kernel
theorem dX4_takeOff_79 : decode cX4_takeOff 79 = .ok (.lastore, 1) := by decide +kernel
theorem dX4_takeOff_80 : decode cX4_takeOff 80 = .ok (.lload 7, 2) := by decide +kernel
theorem dX4_takeOff_82 : decode cX4_takeOff 82 = .ok (.aload_n 0, 1) := by decide +kernel
theorem dX4_takeOff_83 : decode cX4_takeOff 83 = .ok (.getfield 37, 3) := by decide +kernel
theorem dX4_takeOff_86 : decode cX4_takeOff 86 = .ok (.bipush 8, 2) := by decide +kernel
theorem dX4_takeOff_88 : decode cX4_takeOff 88 = .ok (.iload_n 1, 1) := by decide +kernel
theorem dX4_takeOff_89 : decode cX4_takeOff 89 = .ok (.imul, 1) := by decide +kernel
theorem dX4_takeOff_90 : decode cX4_takeOff 90 = .ok (.iload 9, 2) := by decide +kernel
theorem dX4_takeOff_92 : decode cX4_takeOff 92 = .ok (.iadd, 1) := by decide +kernel
theorem dX4_takeOff_93 : decode cX4_takeOff 93 = .ok (.laload, 1) := by decide +kernel
theorem dX4_takeOff_94 : decode cX4_takeOff 94 = .ok (.invokestatic 128, 3) := by decide +kernel
theorem dX4_takeOff_97 : decode cX4_takeOff 97 = .ok (.lstore 7, 2) := by decide +kernel
theorem dX4_takeOff_99 : decode cX4_takeOff 99 = .ok (.iinc 9 1, 3) := by decide +kernel
theorem dX4_takeOff_102 : decode cX4_takeOff 102 = .ok (.goto (-71), 3) := by decide +kernel
theorem dX4_takeOff_105 : decode cX4_takeOff 105 = .ok (.iconst 0, 1) := by decide +kernel
theorem dX4_takeOff_106 : decode cX4_takeOff 106 = .ok (.istore 9, 2) := by decide +kernel
theorem dX4_takeOff_108 : decode cX4_takeOff 108 = .ok (.iload 9, 2) := by decide +kernel
theorem dX4_takeOff_110 : decode cX4_takeOff 110 = .ok (.bipush 8, 2) := by decide +kernel
theorem dX4_takeOff_112 : decode cX4_takeOff 112 = .ok (.if_icmp .ge 33, 3) := by decide +kernel
theorem dX4_takeOff_115 : decode cX4_takeOff 115 = .ok (.lload 7, 2) := by decide +kernel
theorem dX4_takeOff_117 : decode cX4_takeOff 117 = .ok (.lconst 1, 1) := by decide +kernel
theorem dX4_takeOff_118 : decode cX4_takeOff 118 = .ok (.lcmp, 1) := by decide +kernel
theorem dX4_takeOff_119 : decode cX4_takeOff 119 = .ok (.ifCond .le 26, 3) := by decide +kernel
theorem dX4_takeOff_122 : decode cX4_takeOff 122 = .ok (.aload_n 0, 1) := by decide +kernel
theorem dX4_takeOff_123 : decode cX4_takeOff 123 = .ok (.getfield 37, 3) := by decide +kernel
theorem dX4_takeOff_126 : decode cX4_takeOff 126 = .ok (.bipush 8, 2) := by decide +kernel
theorem dX4_takeOff_128 : decode cX4_takeOff 128 = .ok (.iload_n 1, 1) := by decide +kernel
theorem dX4_takeOff_129 : decode cX4_takeOff 129 = .ok (.imul, 1) := by decide +kernel
theorem dX4_takeOff_130 : decode cX4_takeOff 130 = .ok (.iload 9, 2) := by decide +kernel
theorem dX4_takeOff_132 : decode cX4_takeOff 132 = .ok (.iadd, 1) := by decide +kernel
theorem dX4_takeOff_133 : decode cX4_takeOff 133 = .ok (.dup2, 1) := by decide +kernel
theorem dX4_takeOff_134 : decode cX4_takeOff 134 = .ok (.laload, 1) := by decide +kernel
theorem dX4_takeOff_135 : decode cX4_takeOff 135 = .ok (.lload 7, 2) := by decide +kernel
theorem dX4_takeOff_137 : decode cX4_takeOff 137 = .ok (.ldiv, 1) := by decide +kernel
theorem dX4_takeOff_138 : decode cX4_takeOff 138 = .ok (.lastore, 1) := by decide +kernel
theorem dX4_takeOff_139 : decode cX4_takeOff 139 = .ok (.iinc 9 1, 3) := by decide +kernel
theorem dX4_takeOff_142 : decode cX4_takeOff 142 = .ok (.goto (-34), 3) := by decide +kernel
theorem dX4_takeOff_145 : decode cX4_takeOff 145 = .ok (.return_, 1) := by decide +kernel
set_option maxRecDepth 20000 in
theorem ggX4_prove_X4_isLaw : GoodIn wsX4_prove wsX4_isLaw := goodIn_r _ [8, 9, 10, 7, 11] (by decide +kernel) (by decide +kernel)
set_option maxRecDepth 20000 in
theorem gX4_prove_X4_isLaw : GoodIn wsX4_prove (va_wsS RX4 65 yX4_isLaw wsX4_isLaw) := goodIn_app (goodIn_of _ (by decide +kernel)) ggX4_prove_X4_isLaw
set_option maxRecDepth 20000 in
theorem ggX4_prove_X4_solve : GoodIn wsX4_prove wsX4_solve := goodIn_r _ [15, 16, 17, 1, 3, 18, 19, 20, 21, 22, 23, 7, 24, 25, 26, 27, 28, 29, 30, 31, 32, 33, 34, 35, 36, 37, 38, 39, 40, 41, 42, 43, 44, 45, 46, 47, 48, 49] (by decide +kernel) (by decide +kernel)
set_option maxRecDepth 20000 in
theorem gX4_prove_X4_solve : GoodIn wsX4_prove (wsV RX4 132 RX4 yX4_solve wsX4_solve) := goodIn_app (goodIn_of _ (by decide +kernel)) ggX4_prove_X4_solve
theorem dX4_prove_0 : decode cX4_prove 0 = .ok (.iload_n 1, 1) := by decide +kernel
theorem dX4_prove_1 : decode cX4_prove 1 = .ok (.invokestatic 65, 3) := by decide +kernel
theorem dX4_prove_4 : decode cX4_prove 4 = .ok (.ifCond .ne 5, 3) := by decide +kernel
theorem dX4_prove_7 : decode cX4_prove 7 = .ok (.iconst 0, 1) := by decide +kernel
theorem dX4_prove_8 : decode cX4_prove 8 = .ok (.ireturn, 1) := by decide +kernel
theorem dX4_prove_9 : decode cX4_prove 9 = .ok (.iconst 0, 1) := by decide +kernel
theorem dX4_prove_10 : decode cX4_prove 10 = .ok (.istore_n 2, 1) := by decide +kernel
theorem dX4_prove_11 : decode cX4_prove 11 = .ok (.iload_n 2, 1) := by decide +kernel
theorem dX4_prove_12 : decode cX4_prove 12 = .ok (.bipush 9, 2) := by decide +kernel
theorem dX4_prove_14 : decode cX4_prove 14 = .ok (.if_icmp .ge 143, 3) := by decide +kernel
theorem dX4_prove_17 : decode cX4_prove 17 = .ok (.iload_n 2, 1) := by decide +kernel
theorem dX4_prove_18 : decode cX4_prove 18 = .ok (.iconst 1, 1) := by decide +kernel
theorem dX4_prove_19 : decode cX4_prove 19 = .ok (.iadd, 1) := by decide +kernel
theorem dX4_prove_20 : decode cX4_prove 20 = .ok (.istore_n 3, 1) := by decide +kernel
theorem dX4_prove_21 : decode cX4_prove 21 = .ok (.iload_n 3, 1) := by decide +kernel
theorem dX4_prove_22 : decode cX4_prove 22 = .ok (.bipush 9, 2) := by decide +kernel
theorem dX4_prove_24 : decode cX4_prove 24 = .ok (.if_icmp .ge 127, 3) := by decide +kernel
theorem dX4_prove_27 : decode cX4_prove 27 = .ok (.aload_n 0, 1) := by decide +kernel
theorem dX4_prove_28 : decode cX4_prove 28 = .ok (.iload_n 1, 1) := by decide +kernel
theorem dX4_prove_29 : decode cX4_prove 29 = .ok (.iload_n 2, 1) := by decide +kernel
theorem dX4_prove_30 : decode cX4_prove 30 = .ok (.iload_n 3, 1) := by decide +kernel
theorem dX4_prove_31 : decode cX4_prove 31 = .ok (.invokevirtual 132, 3) := by decide +kernel
theorem dX4_prove_34 : decode cX4_prove 34 = .ok (.ifCond .ne 6, 3) := by decide +kernel
theorem dX4_prove_37 : decode cX4_prove 37 = .ok (.goto 108, 3) := by decide +kernel
theorem dX4_prove_40 : decode cX4_prove 40 = .ok (.iconst 1, 1) := by decide +kernel
theorem dX4_prove_41 : decode cX4_prove 41 = .ok (.istore 4, 2) := by decide +kernel
theorem dX4_prove_43 : decode cX4_prove 43 = .ok (.iconst 0, 1) := by decide +kernel
theorem dX4_prove_44 : decode cX4_prove 44 = .ok (.istore 5, 2) := by decide +kernel
theorem dX4_prove_46 : decode cX4_prove 46 = .ok (.iload 5, 2) := by decide +kernel
theorem dX4_prove_48 : decode cX4_prove 48 = .ok (.bipush 9, 2) := by decide +kernel
theorem dX4_prove_50 : decode cX4_prove 50 = .ok (.if_icmp .ge 33, 3) := by decide +kernel
theorem dX4_prove_53 : decode cX4_prove 53 = .ok (.iload 4, 2) := by decide +kernel
theorem dX4_prove_55 : decode cX4_prove 55 = .ok (.ifCond .eq 19, 3) := by decide +kernel
theorem dX4_prove_58 : decode cX4_prove 58 = .ok (.aload_n 0, 1) := by decide +kernel
theorem dX4_prove_59 : decode cX4_prove 59 = .ok (.getfield 41, 3) := by decide +kernel
theorem dX4_prove_62 : decode cX4_prove 62 = .ok (.iload 5, 2) := by decide +kernel
theorem dX4_prove_64 : decode cX4_prove 64 = .ok (.laload, 1) := by decide +kernel
theorem dX4_prove_65 : decode cX4_prove 65 = .ok (.lconst 0, 1) := by decide +kernel
theorem dX4_prove_66 : decode cX4_prove 66 = .ok (.lcmp, 1) := by decide +kernel
theorem dX4_prove_67 : decode cX4_prove 67 = .ok (.ifCond .lt 7, 3) := by decide +kernel
theorem dX4_prove_70 : decode cX4_prove 70 = .ok (.iconst 1, 1) := by decide +kernel
theorem dX4_prove_71 : decode cX4_prove 71 = .ok (.goto 4, 3) := by decide +kernel
theorem dX4_prove_74 : decode cX4_prove 74 = .ok (.iconst 0, 1) := by decide +kernel
theorem dX4_prove_75 : decode cX4_prove 75 = .ok (.istore 4, 2) := by decide +kernel
theorem dX4_prove_77 : decode cX4_prove 77 = .ok (.iinc 5 1, 3) := by decide +kernel
theorem dX4_prove_80 : decode cX4_prove 80 = .ok (.goto (-34), 3) := by decide +kernel
theorem dX4_prove_83 : decode cX4_prove 83 = .ok (.iload 4, 2) := by decide +kernel
theorem dX4_prove_85 : decode cX4_prove 85 = .ok (.ifCond .ne 6, 3) := by decide +kernel
theorem dX4_prove_88 : decode cX4_prove 88 = .ok (.goto 57, 3) := by decide +kernel
theorem dX4_prove_91 : decode cX4_prove 91 = .ok (.iconst 0, 1) := by decide +kernel
theorem dX4_prove_92 : decode cX4_prove 92 = .ok (.istore 5, 2) := by decide +kernel
theorem dX4_prove_94 : decode cX4_prove 94 = .ok (.iload 5, 2) := by decide +kernel
theorem dX4_prove_96 : decode cX4_prove 96 = .ok (.bipush 9, 2) := by decide +kernel
theorem dX4_prove_98 : decode cX4_prove 98 = .ok (.if_icmp .ge 40, 3) := by decide +kernel
theorem dX4_prove_101 : decode cX4_prove 101 = .ok (.aload_n 0, 1) := by decide +kernel
theorem dX4_prove_102 : decode cX4_prove 102 = .ok (.getfield 47, 3) := by decide +kernel
theorem dX4_prove_105 : decode cX4_prove 105 = .ok (.iload 5, 2) := by decide +kernel
theorem dX4_prove_107 : decode cX4_prove 107 = .ok (.aload_n 0, 1) := by decide +kernel
theorem dX4_prove_108 : decode cX4_prove 108 = .ok (.getfield 41, 3) := by decide +kernel
theorem dX4_prove_111 : decode cX4_prove 111 = .ok (.iload 5, 2) := by decide +kernel
theorem dX4_prove_113 : decode cX4_prove 113 = .ok (.laload, 1) := by decide +kernel
theorem dX4_prove_114 : decode cX4_prove 114 = .ok (.lastore, 1) := by decide +kernel
theorem dX4_prove_115 : decode cX4_prove 115 = .ok (.aload_n 0, 1) := by decide +kernel
theorem dX4_prove_116 : decode cX4_prove 116 = .ok (.getfield 47, 3) := by decide +kernel
theorem dX4_prove_119 : decode cX4_prove 119 = .ok (.bipush 9, 2) := by decide +kernel
theorem dX4_prove_121 : decode cX4_prove 121 = .ok (.iload 5, 2) := by decide +kernel
theorem dX4_prove_123 : decode cX4_prove 123 = .ok (.iadd, 1) := by decide +kernel
theorem dX4_prove_124 : decode cX4_prove 124 = .ok (.aload_n 0, 1) := by decide +kernel
theorem dX4_prove_125 : decode cX4_prove 125 = .ok (.getfield 44, 3) := by decide +kernel
theorem dX4_prove_128 : decode cX4_prove 128 = .ok (.iload 5, 2) := by decide +kernel
theorem dX4_prove_130 : decode cX4_prove 130 = .ok (.laload, 1) := by decide +kernel
theorem dX4_prove_131 : decode cX4_prove 131 = .ok (.lastore, 1) := by decide +kernel
theorem dX4_prove_132 : decode cX4_prove 132 = .ok (.iinc 5 1, 3) := by decide +kernel
theorem dX4_prove_135 : decode cX4_prove 135 = .ok (.goto (-41), 3) := by decide +kernel
theorem dX4_prove_138 : decode cX4_prove 138 = .ok (.aload_n 0, 1) := by decide +kernel
theorem dX4_prove_139 : decode cX4_prove 139 = .ok (.iconst 1, 1) := by decide +kernel
theorem dX4_prove_140 : decode cX4_prove 140 = .ok (.putfield 135, 3) := by decide +kernel
theorem dX4_prove_143 : decode cX4_prove 143 = .ok (.iconst 1, 1) := by decide +kernel
theorem dX4_prove_144 : decode cX4_prove 144 = .ok (.ireturn, 1) := by decide +kernel
theorem dX4_prove_145 : decode cX4_prove 145 = .ok (.iinc 3 1, 3) := by decide +kernel
theorem dX4_prove_148 : decode cX4_prove 148 = .ok (.goto (-127), 3) := by decide +kernel
theorem dX4_prove_151 : decode cX4_prove 151 = .ok (.iinc 2 1, 3) := by decide +kernel
theorem dX4_prove_154 : decode cX4_prove 154 = .ok (.goto (-143), 3) := by decide +kernel
theorem dX4_prove_157 : decode cX4_prove 157 = .ok (.iconst 0, 1) := by decide +kernel
theorem dX4_prove_158 : decode cX4_prove 158 = .ok (.ireturn, 1) := by decide +kernel
set_option maxRecDepth 20000 in
theorem ggX4_share_X4_isIn : GoodIn wsX4_share wsX4_isIn := goodIn_r _ [6] (by decide +kernel) (by decide +kernel)
set_option maxRecDepth 20000 in
theorem gX4_share_X4_isIn : GoodIn wsX4_share (va_wsS RX4 50 yX4_isIn wsX4_isIn) := goodIn_app (goodIn_of _ (by decide +kernel)) ggX4_share_X4_isIn
theorem dX4_share_0 : decode cX4_share 0 = .ok (.aload_n 0, 1) := by decide +kernel
theorem dX4_share_1 : decode cX4_share 1 = .ok (.getfield 135, 3) := by decide +kernel
theorem dX4_share_4 : decode cX4_share 4 = .ok (.ifCond .eq 37, 3) := by decide +kernel
theorem dX4_share_7 : decode cX4_share 7 = .ok (.iload_n 1, 1) := by decide +kernel
theorem dX4_share_8 : decode cX4_share 8 = .ok (.iconst 0, 1) := by decide +kernel
theorem dX4_share_9 : decode cX4_share 9 = .ok (.bipush 8, 2) := by decide +kernel
theorem dX4_share_11 : decode cX4_share 11 = .ok (.invokestatic 50, 3) := by decide +kernel
theorem dX4_share_14 : decode cX4_share 14 = .ok (.ifCond .eq 27, 3) := by decide +kernel
theorem dX4_share_17 : decode cX4_share 17 = .ok (.iload_n 2, 1) := by decide +kernel
theorem dX4_share_18 : decode cX4_share 18 = .ok (.iconst 0, 1) := by decide +kernel
theorem dX4_share_19 : decode cX4_share 19 = .ok (.iconst 1, 1) := by decide +kernel
theorem dX4_share_20 : decode cX4_share 20 = .ok (.invokestatic 50, 3) := by decide +kernel
theorem dX4_share_23 : decode cX4_share 23 = .ok (.ifCond .eq 18, 3) := by decide +kernel
theorem dX4_share_26 : decode cX4_share 26 = .ok (.aload_n 0, 1) := by decide +kernel
theorem dX4_share_27 : decode cX4_share 27 = .ok (.getfield 47, 3) := by decide +kernel
theorem dX4_share_30 : decode cX4_share 30 = .ok (.bipush 9, 2) := by decide +kernel
theorem dX4_share_32 : decode cX4_share 32 = .ok (.iload_n 2, 1) := by decide +kernel
theorem dX4_share_33 : decode cX4_share 33 = .ok (.imul, 1) := by decide +kernel
theorem dX4_share_34 : decode cX4_share 34 = .ok (.iload_n 1, 1) := by decide +kernel
theorem dX4_share_35 : decode cX4_share 35 = .ok (.iadd, 1) := by decide +kernel
theorem dX4_share_36 : decode cX4_share 36 = .ok (.laload, 1) := by decide +kernel
theorem dX4_share_37 : decode cX4_share 37 = .ok (.l2i, 1) := by decide +kernel
theorem dX4_share_38 : decode cX4_share 38 = .ok (.goto 4, 3) := by decide +kernel
theorem dX4_share_41 : decode cX4_share 41 = .ok (.iconst (-1), 1) := by decide +kernel
theorem dX4_share_42 : decode cX4_share 42 = .ok (.ireturn, 1) := by decide +kernel
set_option maxRecDepth 20000 in
theorem ggX4_mean_X4_isMade : GoodIn wsX4_mean wsX4_isMade := goodIn_r _ [6, 7, 8, 9, 5, 10, 11, 12, 13, 27, 28, 29, 30, 31, 32, 33, 34, 35, 36, 37, 38, 39, 40, 41] (by decide +kernel) (by decide +kernel)
set_option maxRecDepth 20000 in
theorem gX4_mean_X4_isMade : GoodIn wsX4_mean (wsV RX4 62 RX4 yX4_isMade wsX4_isMade) := goodIn_app (goodIn_of _ (by decide +kernel)) ggX4_mean_X4_isMade
set_option maxRecDepth 20000 in
theorem ggX4_mean_X4_isIn : GoodIn wsX4_mean wsX4_isIn := goodIn_r _ [13] (by decide +kernel) (by decide +kernel)
set_option maxRecDepth 20000 in
theorem gX4_mean_X4_isIn : GoodIn wsX4_mean (va_wsS RX4 50 yX4_isIn wsX4_isIn) := goodIn_app (goodIn_of _ (by decide +kernel)) ggX4_mean_X4_isIn
set_option maxRecDepth 20000 in
theorem ggX4_mean_X4_settings : GoodIn wsX4_mean wsX4_settings := goodIn_r _ [17, 1, 18, 27, 28, 29, 30, 31, 32, 33, 34, 35, 36, 37, 38, 39, 40, 41] (by decide +kernel) (by decide +kernel)
set_option maxRecDepth 20000 in
theorem gX4_mean_X4_settings : GoodIn wsX4_mean (wsV RX4 75 RX4 yX4_settings wsX4_settings) := goodIn_app (goodIn_of _ (by decide +kernel)) ggX4_mean_X4_settings
set_option maxRecDepth 20000 in
theorem ggX4_mean_X4_leastOf : GoodIn wsX4_mean wsX4_leastOf := goodIn_r _ [22, 23, 24, 25, 5, 26, 1, 27, 28, 29, 30, 31, 32, 33, 34, 35, 36, 37, 38, 39, 40, 41] (by decide +kernel) (by decide +kernel)
set_option maxRecDepth 20000 in
theorem gX4_mean_X4_leastOf : GoodIn wsX4_mean (wsV RX4 139 RX4 yX4_leastOf wsX4_leastOf) := goodIn_app (goodIn_of _ (by decide +kernel)) ggX4_mean_X4_leastOf
set_option maxRecDepth 20000 in
theorem ggX4_mean_X4_secondOf : GoodIn wsX4_mean wsX4_secondOf := goodIn_r _ [26, 1, 27, 28, 29, 30, 31, 32, 33, 34, 35, 36, 37, 38, 39, 40, 41] (by decide +kernel) (by decide +kernel)
set_option maxRecDepth 20000 in
theorem gX4_mean_X4_secondOf : GoodIn wsX4_mean (wsV RX4 142 RX4 yX4_secondOf wsX4_secondOf) := goodIn_app (goodIn_of _ (by decide +kernel)) ggX4_mean_X4_secondOf
theorem dX4_mean_0 : decode cX4_mean 0 = .ok (.aload_n 0, 1) := by decide +kernel
theorem dX4_mean_1 : decode cX4_mean 1 = .ok (.iload_n 1, 1) := by decide +kernel
theorem dX4_mean_2 : decode cX4_mean 2 = .ok (.invokevirtual 62, 3) := by decide +kernel
theorem dX4_mean_5 : decode cX4_mean 5 = .ok (.ifCond .eq 13, 3) := by decide +kernel
theorem dX4_mean_8 : decode cX4_mean 8 = .ok (.iload_n 2, 1) := by decide +kernel
theorem dX4_mean_9 : decode cX4_mean 9 = .ok (.iconst 1, 1) := by decide +kernel
theorem dX4_mean_10 : decode cX4_mean 10 = .ok (.bipush 7, 2) := by decide +kernel
theorem dX4_mean_12 : decode cX4_mean 12 = .ok (.invokestatic 50, 3) := by decide +kernel
theorem dX4_mean_15 : decode cX4_mean 15 = .ok (.ifCond .ne 5, 3) := by decide +kernel
theorem dX4_mean_18 : decode cX4_mean 18 = .ok (.iconst (-1), 1) := by decide +kernel
theorem dX4_mean_19 : decode cX4_mean 19 = .ok (.ireturn, 1) := by decide +kernel
theorem dX4_mean_20 : decode cX4_mean 20 = .ok (.aload_n 0, 1) := by decide +kernel
theorem dX4_mean_21 : decode cX4_mean 21 = .ok (.iload_n 1, 1) := by decide +kernel
theorem dX4_mean_22 : decode cX4_mean 22 = .ok (.iload_n 2, 1) := by decide +kernel
theorem dX4_mean_23 : decode cX4_mean 23 = .ok (.invokevirtual 75, 3) := by decide +kernel
theorem dX4_mean_26 : decode cX4_mean 26 = .ok (.iconst 0, 1) := by decide +kernel
theorem dX4_mean_27 : decode cX4_mean 27 = .ok (.istore_n 3, 1) := by decide +kernel
theorem dX4_mean_28 : decode cX4_mean 28 = .ok (.aload_n 0, 1) := by decide +kernel
theorem dX4_mean_29 : decode cX4_mean 29 = .ok (.invokevirtual 139, 3) := by decide +kernel
theorem dX4_mean_32 : decode cX4_mean 32 = .ok (.istore 4, 2) := by decide +kernel
theorem dX4_mean_34 : decode cX4_mean 34 = .ok (.iload 4, 2) := by decide +kernel
theorem dX4_mean_36 : decode cX4_mean 36 = .ok (.iconst (-1), 1) := by decide +kernel
theorem dX4_mean_37 : decode cX4_mean 37 = .ok (.if_icmp .ne 7, 3) := by decide +kernel
theorem dX4_mean_40 : decode cX4_mean 40 = .ok (.iconst (-1), 1) := by decide +kernel
theorem dX4_mean_41 : decode cX4_mean 41 = .ok (.goto 9, 3) := by decide +kernel
theorem dX4_mean_44 : decode cX4_mean 44 = .ok (.aload_n 0, 1) := by decide +kernel
theorem dX4_mean_45 : decode cX4_mean 45 = .ok (.iload 4, 2) := by decide +kernel
theorem dX4_mean_47 : decode cX4_mean 47 = .ok (.invokevirtual 142, 3) := by decide +kernel
theorem dX4_mean_50 : decode cX4_mean 50 = .ok (.istore 5, 2) := by decide +kernel
theorem dX4_mean_52 : decode cX4_mean 52 = .ok (.iload 5, 2) := by decide +kernel
theorem dX4_mean_54 : decode cX4_mean 54 = .ok (.iconst (-1), 1) := by decide +kernel
theorem dX4_mean_55 : decode cX4_mean 55 = .ok (.if_icmp .eq 55, 3) := by decide +kernel
theorem dX4_mean_58 : decode cX4_mean 58 = .ok (.aload_n 0, 1) := by decide +kernel
theorem dX4_mean_59 : decode cX4_mean 59 = .ok (.getfield 28, 3) := by decide +kernel
theorem dX4_mean_62 : decode cX4_mean 62 = .ok (.iload 4, 2) := by decide +kernel
theorem dX4_mean_64 : decode cX4_mean 64 = .ok (.dup2, 1) := by decide +kernel
theorem dX4_mean_65 : decode cX4_mean 65 = .ok (.iaload, 1) := by decide +kernel
theorem dX4_mean_66 : decode cX4_mean 66 = .ok (.aload_n 0, 1) := by decide +kernel
theorem dX4_mean_67 : decode cX4_mean 67 = .ok (.getfield 28, 3) := by decide +kernel
theorem dX4_mean_70 : decode cX4_mean 70 = .ok (.iload 5, 2) := by decide +kernel
theorem dX4_mean_72 : decode cX4_mean 72 = .ok (.iaload, 1) := by decide +kernel
theorem dX4_mean_73 : decode cX4_mean 73 = .ok (.iadd, 1) := by decide +kernel
theorem dX4_mean_74 : decode cX4_mean 74 = .ok (.iastore, 1) := by decide +kernel
theorem dX4_mean_75 : decode cX4_mean 75 = .ok (.iload_n 3, 1) := by decide +kernel
theorem dX4_mean_76 : decode cX4_mean 76 = .ok (.aload_n 0, 1) := by decide +kernel
theorem dX4_mean_77 : decode cX4_mean 77 = .ok (.getfield 28, 3) := by decide +kernel
theorem dX4_mean_80 : decode cX4_mean 80 = .ok (.iload 4, 2) := by decide +kernel
theorem dX4_mean_82 : decode cX4_mean 82 = .ok (.iaload, 1) := by decide +kernel
theorem dX4_mean_83 : decode cX4_mean 83 = .ok (.iadd, 1) := by decide +kernel
theorem dX4_mean_84 : decode cX4_mean 84 = .ok (.istore_n 3, 1) := by decide +kernel
theorem dX4_mean_85 : decode cX4_mean 85 = .ok (.aload_n 0, 1) := by decide +kernel
theorem dX4_mean_86 : decode cX4_mean 86 = .ok (.getfield 28, 3) := by decide +kernel
theorem dX4_mean_89 : decode cX4_mean 89 = .ok (.iload 5, 2) := by decide +kernel
theorem dX4_mean_91 : decode cX4_mean 91 = .ok (.iconst 0, 1) := by decide +kernel
theorem dX4_mean_92 : decode cX4_mean 92 = .ok (.iastore, 1) := by decide +kernel
theorem dX4_mean_93 : decode cX4_mean 93 = .ok (.aload_n 0, 1) := by decide +kernel
theorem dX4_mean_94 : decode cX4_mean 94 = .ok (.invokevirtual 139, 3) := by decide +kernel
theorem dX4_mean_97 : decode cX4_mean 97 = .ok (.istore 4, 2) := by decide +kernel
theorem dX4_mean_99 : decode cX4_mean 99 = .ok (.aload_n 0, 1) := by decide +kernel
theorem dX4_mean_100 : decode cX4_mean 100 = .ok (.iload 4, 2) := by decide +kernel
theorem dX4_mean_102 : decode cX4_mean 102 = .ok (.invokevirtual 142, 3) := by decide +kernel
theorem dX4_mean_105 : decode cX4_mean 105 = .ok (.istore 5, 2) := by decide +kernel
theorem dX4_mean_107 : decode cX4_mean 107 = .ok (.goto (-55), 3) := by decide +kernel
theorem dX4_mean_110 : decode cX4_mean 110 = .ok (.iload_n 3, 1) := by decide +kernel
theorem dX4_mean_111 : decode cX4_mean 111 = .ok (.ireturn, 1) := by decide +kernel
set_option maxRecDepth 20000 in
theorem ggX4_leastOf_X4_secondOf : GoodIn wsX4_leastOf wsX4_secondOf := goodIn_r _ [5, 6, 7, 8, 9, 10, 11, 12, 13, 14, 15, 16, 17, 18, 19, 20, 21] (by decide +kernel) (by decide +kernel)
set_option maxRecDepth 20000 in
theorem gX4_leastOf_X4_secondOf : GoodIn wsX4_leastOf (wsV RX4 142 RX4 yX4_secondOf wsX4_secondOf) := goodIn_app (goodIn_of _ (by decide +kernel)) ggX4_leastOf_X4_secondOf
theorem dX4_leastOf_0 : decode cX4_leastOf 0 = .ok (.aload_n 0, 1) := by decide +kernel
theorem dX4_leastOf_1 : decode cX4_leastOf 1 = .ok (.iconst (-1), 1) := by decide +kernel
theorem dX4_leastOf_2 : decode cX4_leastOf 2 = .ok (.invokevirtual 142, 3) := by decide +kernel
theorem dX4_leastOf_5 : decode cX4_leastOf 5 = .ok (.ireturn, 1) := by decide +kernel
theorem dX4_secondOf_0 : decode cX4_secondOf 0 = .ok (.iconst (-1), 1) := by decide +kernel
theorem dX4_secondOf_1 : decode cX4_secondOf 1 = .ok (.istore_n 2, 1) := by decide +kernel
theorem dX4_secondOf_2 : decode cX4_secondOf 2 = .ok (.iconst 0, 1) := by decide +kernel
theorem dX4_secondOf_3 : decode cX4_secondOf 3 = .ok (.istore_n 3, 1) := by decide +kernel
theorem dX4_secondOf_4 : decode cX4_secondOf 4 = .ok (.iload_n 3, 1) := by decide +kernel
theorem dX4_secondOf_5 : decode cX4_secondOf 5 = .ok (.bipush 27, 2) := by decide +kernel
theorem dX4_secondOf_7 : decode cX4_secondOf 7 = .ok (.if_icmp .ge 45, 3) := by decide +kernel
theorem dX4_secondOf_10 : decode cX4_secondOf 10 = .ok (.iload_n 3, 1) := by decide +kernel
theorem dX4_secondOf_11 : decode cX4_secondOf 11 = .ok (.iload_n 1, 1) := by decide +kernel
theorem dX4_secondOf_12 : decode cX4_secondOf 12 = .ok (.if_icmp .eq 34, 3) := by decide +kernel
theorem dX4_secondOf_15 : decode cX4_secondOf 15 = .ok (.aload_n 0, 1) := by decide +kernel
theorem dX4_secondOf_16 : decode cX4_secondOf 16 = .ok (.getfield 28, 3) := by decide +kernel
theorem dX4_secondOf_19 : decode cX4_secondOf 19 = .ok (.iload_n 3, 1) := by decide +kernel
theorem dX4_secondOf_20 : decode cX4_secondOf 20 = .ok (.iaload, 1) := by decide +kernel
theorem dX4_secondOf_21 : decode cX4_secondOf 21 = .ok (.ifCond .le 25, 3) := by decide +kernel
theorem dX4_secondOf_24 : decode cX4_secondOf 24 = .ok (.iload_n 2, 1) := by decide +kernel
theorem dX4_secondOf_25 : decode cX4_secondOf 25 = .ok (.iconst (-1), 1) := by decide +kernel
theorem dX4_secondOf_26 : decode cX4_secondOf 26 = .ok (.if_icmp .eq 18, 3) := by decide +kernel
theorem dX4_secondOf_29 : decode cX4_secondOf 29 = .ok (.aload_n 0, 1) := by decide +kernel
theorem dX4_secondOf_30 : decode cX4_secondOf 30 = .ok (.getfield 28, 3) := by decide +kernel
theorem dX4_secondOf_33 : decode cX4_secondOf 33 = .ok (.iload_n 3, 1) := by decide +kernel
theorem dX4_secondOf_34 : decode cX4_secondOf 34 = .ok (.iaload, 1) := by decide +kernel
theorem dX4_secondOf_35 : decode cX4_secondOf 35 = .ok (.aload_n 0, 1) := by decide +kernel
theorem dX4_secondOf_36 : decode cX4_secondOf 36 = .ok (.getfield 28, 3) := by decide +kernel
theorem dX4_secondOf_39 : decode cX4_secondOf 39 = .ok (.iload_n 2, 1) := by decide +kernel
theorem dX4_secondOf_40 : decode cX4_secondOf 40 = .ok (.iaload, 1) := by decide +kernel
theorem dX4_secondOf_41 : decode cX4_secondOf 41 = .ok (.if_icmp .ge 5, 3) := by decide +kernel
theorem dX4_secondOf_44 : decode cX4_secondOf 44 = .ok (.iload_n 3, 1) := by decide +kernel
theorem dX4_secondOf_45 : decode cX4_secondOf 45 = .ok (.istore_n 2, 1) := by decide +kernel
theorem dX4_secondOf_46 : decode cX4_secondOf 46 = .ok (.iinc 3 1, 3) := by decide +kernel
theorem dX4_secondOf_49 : decode cX4_secondOf 49 = .ok (.goto (-45), 3) := by decide +kernel
theorem dX4_secondOf_52 : decode cX4_secondOf 52 = .ok (.iload_n 2, 1) := by decide +kernel
theorem dX4_secondOf_53 : decode cX4_secondOf 53 = .ok (.ireturn, 1) := by decide +kernel
set_option maxRecDepth 20000 in
theorem ggX4_words_X4_isIn : GoodIn wsX4_words wsX4_isIn := goodIn_r _ [4] (by decide +kernel) (by decide +kernel)
set_option maxRecDepth 20000 in
theorem gX4_words_X4_isIn : GoodIn wsX4_words (va_wsS RX4 50 yX4_isIn wsX4_isIn) := goodIn_app (goodIn_of _ (by decide +kernel)) ggX4_words_X4_isIn
theorem dX4_words_0 : decode cX4_words 0 = .ok (.iload_n 1, 1) := by decide +kernel
theorem dX4_words_1 : decode cX4_words 1 = .ok (.iconst 1, 1) := by decide +kernel
theorem dX4_words_2 : decode cX4_words 2 = .ok (.bipush 8, 2) := by decide +kernel
theorem dX4_words_4 : decode cX4_words 4 = .ok (.invokestatic 50, 3) := by decide +kernel
theorem dX4_words_7 : decode cX4_words 7 = .ok (.ifCond .eq 7, 3) := by decide +kernel
theorem dX4_words_10 : decode cX4_words 10 = .ok (.iload_n 2, 1) := by decide +kernel
theorem dX4_words_11 : decode cX4_words 11 = .ok (.ifCond .ge 5, 3) := by decide +kernel
theorem dX4_words_14 : decode cX4_words 14 = .ok (.iconst 0, 1) := by decide +kernel
theorem dX4_words_15 : decode cX4_words 15 = .ok (.ireturn, 1) := by decide +kernel
theorem dX4_words_16 : decode cX4_words 16 = .ok (.iload_n 2, 1) := by decide +kernel
theorem dX4_words_17 : decode cX4_words 17 = .ok (.istore_n 3, 1) := by decide +kernel
theorem dX4_words_18 : decode cX4_words 18 = .ok (.iconst 0, 1) := by decide +kernel
theorem dX4_words_19 : decode cX4_words 19 = .ok (.istore 4, 2) := by decide +kernel
theorem dX4_words_21 : decode cX4_words 21 = .ok (.iconst 0, 1) := by decide +kernel
theorem dX4_words_22 : decode cX4_words 22 = .ok (.istore 5, 2) := by decide +kernel
theorem dX4_words_24 : decode cX4_words 24 = .ok (.iload 5, 2) := by decide +kernel
theorem dX4_words_26 : decode cX4_words 26 = .ok (.iload_n 1, 1) := by decide +kernel
theorem dX4_words_27 : decode cX4_words 27 = .ok (.if_icmp .ge 27, 3) := by decide +kernel
theorem dX4_words_30 : decode cX4_words 30 = .ok (.iload 4, 2) := by decide +kernel
theorem dX4_words_32 : decode cX4_words 32 = .ok (.sipush 512, 3) := by decide +kernel
theorem dX4_words_35 : decode cX4_words 35 = .ok (.iload_n 3, 1) := by decide +kernel
theorem dX4_words_36 : decode cX4_words 36 = .ok (.bipush 10, 2) := by decide +kernel
theorem dX4_words_38 : decode cX4_words 38 = .ok (.irem, 1) := by decide +kernel
theorem dX4_words_39 : decode cX4_words 39 = .ok (.ishr, 1) := by decide +kernel
theorem dX4_words_40 : decode cX4_words 40 = .ok (.iadd, 1) := by decide +kernel
theorem dX4_words_41 : decode cX4_words 41 = .ok (.istore 4, 2) := by decide +kernel
theorem dX4_words_43 : decode cX4_words 43 = .ok (.iload_n 3, 1) := by decide +kernel
theorem dX4_words_44 : decode cX4_words 44 = .ok (.bipush 10, 2) := by decide +kernel
theorem dX4_words_46 : decode cX4_words 46 = .ok (.idiv, 1) := by decide +kernel
theorem dX4_words_47 : decode cX4_words 47 = .ok (.istore_n 3, 1) := by decide +kernel
theorem dX4_words_48 : decode cX4_words 48 = .ok (.iinc 5 1, 3) := by decide +kernel
theorem dX4_words_51 : decode cX4_words 51 = .ok (.goto (-27), 3) := by decide +kernel
theorem dX4_words_54 : decode cX4_words 54 = .ok (.iload 4, 2) := by decide +kernel
theorem dX4_words_56 : decode cX4_words 56 = .ok (.sipush 512, 3) := by decide +kernel
theorem dX4_words_59 : decode cX4_words 59 = .ok (.if_icmp .gt 7, 3) := by decide +kernel
theorem dX4_words_62 : decode cX4_words 62 = .ok (.iconst 1, 1) := by decide +kernel
theorem dX4_words_63 : decode cX4_words 63 = .ok (.goto 4, 3) := by decide +kernel
theorem dX4_words_66 : decode cX4_words 66 = .ok (.iconst 0, 1) := by decide +kernel
theorem dX4_words_67 : decode cX4_words 67 = .ok (.ireturn, 1) := by decide +kernel
set_option maxRecDepth 20000 in
theorem ggX4_secret_X4_isMade : GoodIn wsX4_secret wsX4_isMade := goodIn_r _ [5, 6, 7, 8, 4, 9, 10, 11, 12, 50, 51, 52, 53, 54, 55, 56, 57, 58, 59, 60, 61, 62, 63, 64] (by decide +kernel) (by decide +kernel)
set_option maxRecDepth 20000 in
theorem gX4_secret_X4_isMade : GoodIn wsX4_secret (wsV RX4 62 RX4 yX4_isMade wsX4_isMade) := goodIn_app (goodIn_of _ (by decide +kernel)) ggX4_secret_X4_isMade
set_option maxRecDepth 20000 in
theorem ggX4_secret_X4_clear : GoodIn wsX4_secret wsX4_clear := goodIn_r _ [16, 17, 50, 51, 52, 53, 54, 55, 56, 57, 58, 59, 60, 61, 62, 63, 64] (by decide +kernel) (by decide +kernel)
set_option maxRecDepth 20000 in
theorem gX4_secret_X4_clear : GoodIn wsX4_secret (wsV RX4 99 RX4 yX4_clear wsX4_clear) := goodIn_app (goodIn_of _ (by decide +kernel)) ggX4_secret_X4_clear
set_option maxRecDepth 20000 in
theorem ggX4_secret_X4_doubt : GoodIn wsX4_secret wsX4_doubt := goodIn_r _ [21, 6, 22, 23, 24, 25, 4, 26, 27, 28, 29, 30, 31, 32, 17, 50, 51, 52, 53, 54, 55, 56, 57, 58, 59, 60, 61, 62, 63, 64] (by decide +kernel) (by decide +kernel)
set_option maxRecDepth 20000 in
theorem gX4_secret_X4_doubt : GoodIn wsX4_secret (wsV RX4 82 RX4 yX4_doubt wsX4_doubt) := goodIn_app (goodIn_of _ (by decide +kernel)) ggX4_secret_X4_doubt
set_option maxRecDepth 20000 in
theorem ggX4_secret_X4_signOf : GoodIn wsX4_secret wsX4_signOf := goodIn_r _ [36, 17, 37, 38, 39, 40, 41, 4, 42, 43, 32, 44, 45, 46, 47, 48, 49, 50, 51, 52, 53, 54, 55, 56, 57, 58, 59, 60, 61, 62, 63, 64] (by decide +kernel) (by decide +kernel)
set_option maxRecDepth 20000 in
theorem gX4_secret_X4_signOf : GoodIn wsX4_secret (wsV RX4 105 RX4 yX4_signOf wsX4_signOf) := goodIn_app (goodIn_of _ (by decide +kernel)) ggX4_secret_X4_signOf
theorem dX4_secret_0 : decode cX4_secret 0 = .ok (.aload_n 0, 1) := by decide +kernel
theorem dX4_secret_1 : decode cX4_secret 1 = .ok (.iload_n 1, 1) := by decide +kernel
theorem dX4_secret_2 : decode cX4_secret 2 = .ok (.invokevirtual 62, 3) := by decide +kernel
theorem dX4_secret_5 : decode cX4_secret 5 = .ok (.ifCond .eq 19, 3) := by decide +kernel
theorem dX4_secret_8 : decode cX4_secret 8 = .ok (.iload_n 2, 1) := by decide +kernel
theorem dX4_secret_9 : decode cX4_secret 9 = .ok (.iconst 2, 1) := by decide +kernel
theorem dX4_secret_10 : decode cX4_secret 10 = .ok (.if_icmp .eq 16, 3) := by decide +kernel
theorem dX4_secret_13 : decode cX4_secret 13 = .ok (.iload_n 2, 1) := by decide +kernel
theorem dX4_secret_14 : decode cX4_secret 14 = .ok (.iconst 4, 1) := by decide +kernel
theorem dX4_secret_15 : decode cX4_secret 15 = .ok (.if_icmp .eq 11, 3) := by decide +kernel
theorem dX4_secret_18 : decode cX4_secret 18 = .ok (.iload_n 2, 1) := by decide +kernel
theorem dX4_secret_19 : decode cX4_secret 19 = .ok (.bipush 6, 2) := by decide +kernel
theorem dX4_secret_21 : decode cX4_secret 21 = .ok (.if_icmp .eq 5, 3) := by decide +kernel
theorem dX4_secret_24 : decode cX4_secret 24 = .ok (.iconst (-1), 1) := by decide +kernel
theorem dX4_secret_25 : decode cX4_secret 25 = .ok (.ireturn, 1) := by decide +kernel
theorem dX4_secret_26 : decode cX4_secret 26 = .ok (.aload_n 0, 1) := by decide +kernel
theorem dX4_secret_27 : decode cX4_secret 27 = .ok (.invokevirtual 99, 3) := by decide +kernel
theorem dX4_secret_30 : decode cX4_secret 30 = .ok (.aload_n 0, 1) := by decide +kernel
theorem dX4_secret_31 : decode cX4_secret 31 = .ok (.iload_n 1, 1) := by decide +kernel
theorem dX4_secret_32 : decode cX4_secret 32 = .ok (.iload_n 2, 1) := by decide +kernel
theorem dX4_secret_33 : decode cX4_secret 33 = .ok (.iconst 1, 1) := by decide +kernel
theorem dX4_secret_34 : decode cX4_secret 34 = .ok (.iadd, 1) := by decide +kernel
theorem dX4_secret_35 : decode cX4_secret 35 = .ok (.iconst 1, 1) := by decide +kernel
theorem dX4_secret_36 : decode cX4_secret 36 = .ok (.invokevirtual 82, 3) := by decide +kernel
theorem dX4_secret_39 : decode cX4_secret 39 = .ok (.aload_n 0, 1) := by decide +kernel
theorem dX4_secret_40 : decode cX4_secret 40 = .ok (.iload_n 1, 1) := by decide +kernel
theorem dX4_secret_41 : decode cX4_secret 41 = .ok (.iload_n 2, 1) := by decide +kernel
theorem dX4_secret_42 : decode cX4_secret 42 = .ok (.iconst (-1), 1) := by decide +kernel
theorem dX4_secret_43 : decode cX4_secret 43 = .ok (.invokevirtual 82, 3) := by decide +kernel
theorem dX4_secret_46 : decode cX4_secret 46 = .ok (.aload_n 0, 1) := by decide +kernel
theorem dX4_secret_47 : decode cX4_secret 47 = .ok (.invokevirtual 105, 3) := by decide +kernel
theorem dX4_secret_50 : decode cX4_secret 50 = .ok (.ifCond .ne 5, 3) := by decide +kernel
theorem dX4_secret_53 : decode cX4_secret 53 = .ok (.iconst 1, 1) := by decide +kernel
theorem dX4_secret_54 : decode cX4_secret 54 = .ok (.ireturn, 1) := by decide +kernel
theorem dX4_secret_55 : decode cX4_secret 55 = .ok (.aload_n 0, 1) := by decide +kernel
theorem dX4_secret_56 : decode cX4_secret 56 = .ok (.invokevirtual 99, 3) := by decide +kernel
theorem dX4_secret_59 : decode cX4_secret 59 = .ok (.aload_n 0, 1) := by decide +kernel
theorem dX4_secret_60 : decode cX4_secret 60 = .ok (.iload_n 1, 1) := by decide +kernel
