theorem dX4_secret_61 : decode cX4_secret 61 = .ok (.iconst 1, 1) := by decide +kernel
theorem dX4_secret_62 : decode cX4_secret 62 = .ok (.iconst 1, 1) := by decide +kernel
theorem dX4_secret_63 : decode cX4_secret 63 = .ok (.invokevirtual 82, 3) := by decide +kernel
theorem dX4_secret_66 : decode cX4_secret 66 = .ok (.aload_n 0, 1) := by decide +kernel
theorem dX4_secret_67 : decode cX4_secret 67 = .ok (.iload_n 1, 1) := by decide +kernel
theorem dX4_secret_68 : decode cX4_secret 68 = .ok (.iload_n 2, 1) := by decide +kernel
theorem dX4_secret_69 : decode cX4_secret 69 = .ok (.iconst 1, 1) := by decide +kernel
theorem dX4_secret_70 : decode cX4_secret 70 = .ok (.invokevirtual 82, 3) := by decide +kernel
theorem dX4_secret_73 : decode cX4_secret 73 = .ok (.aload_n 0, 1) := by decide +kernel
theorem dX4_secret_74 : decode cX4_secret 74 = .ok (.iload_n 1, 1) := by decide +kernel
theorem dX4_secret_75 : decode cX4_secret 75 = .ok (.iload_n 2, 1) := by decide +kernel
theorem dX4_secret_76 : decode cX4_secret 76 = .ok (.iconst 1, 1) := by decide +kernel
theorem dX4_secret_77 : decode cX4_secret 77 = .ok (.iadd, 1) := by decide +kernel
theorem dX4_secret_78 : decode cX4_secret 78 = .ok (.iconst (-1), 1) := by decide +kernel
theorem dX4_secret_79 : decode cX4_secret 79 = .ok (.invokevirtual 82, 3) := by decide +kernel
theorem dX4_secret_82 : decode cX4_secret 82 = .ok (.aload_n 0, 1) := by decide +kernel
theorem dX4_secret_83 : decode cX4_secret 83 = .ok (.invokevirtual 105, 3) := by decide +kernel
theorem dX4_secret_86 : decode cX4_secret 86 = .ok (.ifCond .ne 7, 3) := by decide +kernel
theorem dX4_secret_89 : decode cX4_secret 89 = .ok (.iconst 0, 1) := by decide +kernel
theorem dX4_secret_90 : decode cX4_secret 90 = .ok (.goto 4, 3) := by decide +kernel
theorem dX4_secret_93 : decode cX4_secret 93 = .ok (.iconst 2, 1) := by decide +kernel
theorem dX4_secret_94 : decode cX4_secret 94 = .ok (.ireturn, 1) := by decide +kernel
theorem dJ9_abs_0f7a4_0 : decode cJ9_abs_0f7a4 0 = .ok (.iload_n 0, 1) := by decide +kernel
theorem dJ9_abs_0f7a4_1 : decode cJ9_abs_0f7a4 1 = .ok (.ifCond .ge 8, 3) := by decide +kernel
theorem dJ9_abs_0f7a4_4 : decode cJ9_abs_0f7a4 4 = .ok (.iload_n 0, 1) := by decide +kernel
theorem dJ9_abs_0f7a4_5 : decode cJ9_abs_0f7a4 5 = .ok (.ineg, 1) := by decide +kernel
theorem dJ9_abs_0f7a4_6 : decode cJ9_abs_0f7a4 6 = .ok (.goto 4, 3) := by decide +kernel
theorem dJ9_abs_0f7a4_9 : decode cJ9_abs_0f7a4 9 = .ok (.iload_n 0, 1) := by decide +kernel
theorem dJ9_abs_0f7a4_10 : decode cJ9_abs_0f7a4 10 = .ok (.ireturn, 1) := by decide +kernel
theorem dJ9_abs_067f4_0 : decode cJ9_abs_067f4 0 = .ok (.lload_n 0, 1) := by decide +kernel
theorem dJ9_abs_067f4_1 : decode cJ9_abs_067f4 1 = .ok (.lconst 0, 1) := by decide +kernel
theorem dJ9_abs_067f4_2 : decode cJ9_abs_067f4 2 = .ok (.lcmp, 1) := by decide +kernel
theorem dJ9_abs_067f4_3 : decode cJ9_abs_067f4 3 = .ok (.ifCond .ge 8, 3) := by decide +kernel
theorem dJ9_abs_067f4_6 : decode cJ9_abs_067f4 6 = .ok (.lload_n 0, 1) := by decide +kernel
theorem dJ9_abs_067f4_7 : decode cJ9_abs_067f4 7 = .ok (.lneg, 1) := by decide +kernel
theorem dJ9_abs_067f4_8 : decode cJ9_abs_067f4 8 = .ok (.goto 4, 3) := by decide +kernel
theorem dJ9_abs_067f4_11 : decode cJ9_abs_067f4 11 = .ok (.lload_n 0, 1) := by decide +kernel
theorem dJ9_abs_067f4_12 : decode cJ9_abs_067f4 12 = .ok (.lreturn, 1) := by decide +kernel
theorem dJ7_fill_53178_0 : decode cJ7_fill_53178 0 = .ok (.iconst 0, 1) := by decide +kernel
theorem dJ7_fill_53178_1 : decode cJ7_fill_53178 1 = .ok (.istore_n 2, 1) := by decide +kernel
theorem dJ7_fill_53178_2 : decode cJ7_fill_53178 2 = .ok (.aload_n 0, 1) := by decide +kernel
theorem dJ7_fill_53178_3 : decode cJ7_fill_53178 3 = .ok (.arraylength, 1) := by decide +kernel
theorem dJ7_fill_53178_4 : decode cJ7_fill_53178 4 = .ok (.istore_n 3, 1) := by decide +kernel
theorem dJ7_fill_53178_5 : decode cJ7_fill_53178 5 = .ok (.iload_n 2, 1) := by decide +kernel
theorem dJ7_fill_53178_6 : decode cJ7_fill_53178 6 = .ok (.iload_n 3, 1) := by decide +kernel
theorem dJ7_fill_53178_7 : decode cJ7_fill_53178 7 = .ok (.if_icmp .ge 13, 3) := by decide +kernel
theorem dJ7_fill_53178_10 : decode cJ7_fill_53178 10 = .ok (.aload_n 0, 1) := by decide +kernel
theorem dJ7_fill_53178_11 : decode cJ7_fill_53178 11 = .ok (.iload_n 2, 1) := by decide +kernel
theorem dJ7_fill_53178_12 : decode cJ7_fill_53178 12 = .ok (.iload_n 1, 1) := by decide +kernel
theorem dJ7_fill_53178_13 : decode cJ7_fill_53178 13 = .ok (.iastore, 1) := by decide +kernel
theorem dJ7_fill_53178_14 : decode cJ7_fill_53178 14 = .ok (.iinc 2 1, 3) := by decide +kernel
theorem dJ7_fill_53178_17 : decode cJ7_fill_53178 17 = .ok (.goto (-12), 3) := by decide +kernel
theorem dJ7_fill_53178_20 : decode cJ7_fill_53178 20 = .ok (.return_, 1) := by decide +kernel
abbrev vwCl : List vw_C := [(RX0, TX0, 3), (RX1, TX1, 2), (RX2, TX2, 3), (RX3, TX3, 8), (RX4, TX4, 15)]
