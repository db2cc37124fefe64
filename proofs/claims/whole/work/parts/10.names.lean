theorem dX4_near_22 : decode cX4_near 22 = .ok (.istore_n 3, 1) := by decide +kernel
theorem dX4_near_23 : decode cX4_near 23 = .ok (.sipush 1000, 3) := by decide +kernel
theorem dX4_near_26 : decode cX4_near 26 = .ok (.istore 4, 2) := by decide +kernel
theorem dX4_near_28 : decode cX4_near 28 = .ok (.iload 4, 2) := by decide +kernel
theorem dX4_near_30 : decode cX4_near 30 = .ok (.iload_n 3, 1) := by decide +kernel
theorem dX4_near_31 : decode cX4_near 31 = .ok (.isub, 1) := by decide +kernel
theorem dX4_near_32 : decode cX4_near 32 = .ok (.iconst 1, 1) := by decide +kernel
theorem dX4_near_33 : decode cX4_near 33 = .ok (.if_icmp .le 63, 3) := by decide +kernel
theorem dX4_near_36 : decode cX4_near 36 = .ok (.iload_n 3, 1) := by decide +kernel
theorem dX4_near_37 : decode cX4_near 37 = .ok (.iload 4, 2) := by decide +kernel
theorem dX4_near_39 : decode cX4_near 39 = .ok (.iload_n 3, 1) := by decide +kernel
theorem dX4_near_40 : decode cX4_near 40 = .ok (.isub, 1) := by decide +kernel
theorem dX4_near_41 : decode cX4_near 41 = .ok (.iconst 2, 1) := by decide +kernel
theorem dX4_near_42 : decode cX4_near 42 = .ok (.idiv, 1) := by decide +kernel
theorem dX4_near_43 : decode cX4_near 43 = .ok (.iadd, 1) := by decide +kernel
theorem dX4_near_44 : decode cX4_near 44 = .ok (.istore 5, 2) := by decide +kernel
theorem dX4_near_46 : decode cX4_near 46 = .ok (.aload_n 0, 1) := by decide +kernel
theorem dX4_near_47 : decode cX4_near 47 = .ok (.invokevirtual 99, 3) := by decide +kernel
theorem dX4_near_50 : decode cX4_near 50 = .ok (.aload_n 0, 1) := by decide +kernel
theorem dX4_near_51 : decode cX4_near 51 = .ok (.iload_n 1, 1) := by decide +kernel
theorem dX4_near_52 : decode cX4_near 52 = .ok (.iload_n 2, 1) := by decide +kernel
theorem dX4_near_53 : decode cX4_near 53 = .ok (.bipush 16, 2) := by decide +kernel
theorem dX4_near_55 : decode cX4_near 55 = .ok (.invokevirtual 102, 3) := by decide +kernel
theorem dX4_near_58 : decode cX4_near 58 = .ok (.aload_n 0, 1) := by decide +kernel
theorem dX4_near_59 : decode cX4_near 59 = .ok (.getfield 25, 3) := by decide +kernel
theorem dX4_near_62 : decode cX4_near 62 = .ok (.iconst 0, 1) := by decide +kernel
theorem dX4_near_63 : decode cX4_near 63 = .ok (.dup2, 1) := by decide +kernel
theorem dX4_near_64 : decode cX4_near 64 = .ok (.iaload, 1) := by decide +kernel
theorem dX4_near_65 : decode cX4_near 65 = .ok (.iload 5, 2) := by decide +kernel
theorem dX4_near_67 : decode cX4_near 67 = .ok (.aload_n 0, 1) := by decide +kernel
theorem dX4_near_68 : decode cX4_near 68 = .ok (.getfield 16, 3) := by decide +kernel
theorem dX4_near_71 : decode cX4_near 71 = .ok (.iload_n 1, 1) := by decide +kernel
theorem dX4_near_72 : decode cX4_near 72 = .ok (.iaload, 1) := by decide +kernel
theorem dX4_near_73 : decode cX4_near 73 = .ok (.imul, 1) := by decide +kernel
theorem dX4_near_74 : decode cX4_near 74 = .ok (.isub, 1) := by decide +kernel
theorem dX4_near_75 : decode cX4_near 75 = .ok (.iastore, 1) := by decide +kernel
theorem dX4_near_76 : decode cX4_near 76 = .ok (.aload_n 0, 1) := by decide +kernel
theorem dX4_near_77 : decode cX4_near 77 = .ok (.invokevirtual 105, 3) := by decide +kernel
theorem dX4_near_80 : decode cX4_near 80 = .ok (.ifCond .lt 9, 3) := by decide +kernel
theorem dX4_near_83 : decode cX4_near 83 = .ok (.iload 5, 2) := by decide +kernel
theorem dX4_near_85 : decode cX4_near 85 = .ok (.istore_n 3, 1) := by decide +kernel
theorem dX4_near_86 : decode cX4_near 86 = .ok (.goto 7, 3) := by decide +kernel
theorem dX4_near_89 : decode cX4_near 89 = .ok (.iload 5, 2) := by decide +kernel
theorem dX4_near_91 : decode cX4_near 91 = .ok (.istore 4, 2) := by decide +kernel
theorem dX4_near_93 : decode cX4_near 93 = .ok (.goto (-65), 3) := by decide +kernel
theorem dX4_near_96 : decode cX4_near 96 = .ok (.iload_n 3, 1) := by decide +kernel
theorem dX4_near_97 : decode cX4_near 97 = .ok (.ireturn, 1) := by decide +kernel
theorem dX4_rowOf_0 : decode cX4_rowOf 0 = .ok (.iload_n 0, 1) := by decide +kernel
theorem dX4_rowOf_1 : decode cX4_rowOf 1 = .ok (.iconst 3, 1) := by decide +kernel
theorem dX4_rowOf_2 : decode cX4_rowOf 2 = .ok (.if_icmp .ge 9, 3) := by decide +kernel
theorem dX4_rowOf_5 : decode cX4_rowOf 5 = .ok (.iload_n 1, 1) := by decide +kernel
theorem dX4_rowOf_6 : decode cX4_rowOf 6 = .ok (.iload_n 0, 1) := by decide +kernel
theorem dX4_rowOf_7 : decode cX4_rowOf 7 = .ok (.ishr, 1) := by decide +kernel
theorem dX4_rowOf_8 : decode cX4_rowOf 8 = .ok (.iconst 1, 1) := by decide +kernel
theorem dX4_rowOf_9 : decode cX4_rowOf 9 = .ok (.iand, 1) := by decide +kernel
theorem dX4_rowOf_10 : decode cX4_rowOf 10 = .ok (.ireturn, 1) := by decide +kernel
theorem dX4_rowOf_11 : decode cX4_rowOf 11 = .ok (.iload_n 0, 1) := by decide +kernel
theorem dX4_rowOf_12 : decode cX4_rowOf 12 = .ok (.iconst 3, 1) := by decide +kernel
theorem dX4_rowOf_13 : decode cX4_rowOf 13 = .ok (.if_icmp .ne 7, 3) := by decide +kernel
theorem dX4_rowOf_16 : decode cX4_rowOf 16 = .ok (.iconst 3, 1) := by decide +kernel
theorem dX4_rowOf_17 : decode cX4_rowOf 17 = .ok (.goto 14, 3) := by decide +kernel
theorem dX4_rowOf_20 : decode cX4_rowOf 20 = .ok (.iload_n 0, 1) := by decide +kernel
theorem dX4_rowOf_21 : decode cX4_rowOf 21 = .ok (.iconst 4, 1) := by decide +kernel
theorem dX4_rowOf_22 : decode cX4_rowOf 22 = .ok (.if_icmp .ne 7, 3) := by decide +kernel
theorem dX4_rowOf_25 : decode cX4_rowOf 25 = .ok (.iconst 5, 1) := by decide +kernel
theorem dX4_rowOf_26 : decode cX4_rowOf 26 = .ok (.goto 5, 3) := by decide +kernel
theorem dX4_rowOf_29 : decode cX4_rowOf 29 = .ok (.bipush 6, 2) := by decide +kernel
theorem dX4_rowOf_31 : decode cX4_rowOf 31 = .ok (.istore_n 2, 1) := by decide +kernel
theorem dX4_rowOf_32 : decode cX4_rowOf 32 = .ok (.iload_n 0, 1) := by decide +kernel
theorem dX4_rowOf_33 : decode cX4_rowOf 33 = .ok (.bipush 6, 2) := by decide +kernel
theorem dX4_rowOf_35 : decode cX4_rowOf 35 = .ok (.if_icmp .ge 15, 3) := by decide +kernel
theorem dX4_rowOf_38 : decode cX4_rowOf 38 = .ok (.iload_n 1, 1) := by decide +kernel
theorem dX4_rowOf_39 : decode cX4_rowOf 39 = .ok (.iload_n 2, 1) := by decide +kernel
theorem dX4_rowOf_40 : decode cX4_rowOf 40 = .ok (.iand, 1) := by decide +kernel
theorem dX4_rowOf_41 : decode cX4_rowOf 41 = .ok (.ifCond .eq 7, 3) := by decide +kernel
theorem dX4_rowOf_44 : decode cX4_rowOf 44 = .ok (.iconst 1, 1) := by decide +kernel
theorem dX4_rowOf_45 : decode cX4_rowOf 45 = .ok (.goto 4, 3) := by decide +kernel
theorem dX4_rowOf_48 : decode cX4_rowOf 48 = .ok (.iconst 0, 1) := by decide +kernel
theorem dX4_rowOf_49 : decode cX4_rowOf 49 = .ok (.ireturn, 1) := by decide +kernel
theorem dX4_rowOf_50 : decode cX4_rowOf 50 = .ok (.iload_n 0, 1) := by decide +kernel
theorem dX4_rowOf_51 : decode cX4_rowOf 51 = .ok (.bipush 6, 2) := by decide +kernel
theorem dX4_rowOf_53 : decode cX4_rowOf 53 = .ok (.if_icmp .eq 18, 3) := by decide +kernel
theorem dX4_rowOf_56 : decode cX4_rowOf 56 = .ok (.iload_n 1, 1) := by decide +kernel
theorem dX4_rowOf_57 : decode cX4_rowOf 57 = .ok (.iconst 1, 1) := by decide +kernel
theorem dX4_rowOf_58 : decode cX4_rowOf 58 = .ok (.if_icmp .eq 13, 3) := by decide +kernel
theorem dX4_rowOf_61 : decode cX4_rowOf 61 = .ok (.iload_n 1, 1) := by decide +kernel
theorem dX4_rowOf_62 : decode cX4_rowOf 62 = .ok (.iconst 2, 1) := by decide +kernel
theorem dX4_rowOf_63 : decode cX4_rowOf 63 = .ok (.if_icmp .eq 8, 3) := by decide +kernel
theorem dX4_rowOf_66 : decode cX4_rowOf 66 = .ok (.iload_n 1, 1) := by decide +kernel
theorem dX4_rowOf_67 : decode cX4_rowOf 67 = .ok (.iconst 4, 1) := by decide +kernel
theorem dX4_rowOf_68 : decode cX4_rowOf 68 = .ok (.if_icmp .ne 7, 3) := by decide +kernel
theorem dX4_rowOf_71 : decode cX4_rowOf 71 = .ok (.iconst 1, 1) := by decide +kernel
theorem dX4_rowOf_72 : decode cX4_rowOf 72 = .ok (.goto 4, 3) := by decide +kernel
theorem dX4_rowOf_75 : decode cX4_rowOf 75 = .ok (.iconst 2, 1) := by decide +kernel
theorem dX4_rowOf_76 : decode cX4_rowOf 76 = .ok (.ireturn, 1) := by decide +kernel
set_option maxRecDepth 20000 in
theorem ggX4_isGiven_X4_plainOf : GoodIn wsX4_isGiven wsX4_plainOf := goodIn_r _ [4, 5, 6, 3, 7] (by decide +kernel) (by decide +kernel)
set_option maxRecDepth 20000 in
theorem gX4_isGiven_X4_plainOf : GoodIn wsX4_isGiven (va_wsS RX4 72 yX4_plainOf wsX4_plainOf) := goodIn_app (goodIn_of _ (by decide +kernel)) ggX4_isGiven_X4_plainOf
set_option maxRecDepth 20000 in
theorem ggX4_isGiven_X4_rowOf : GoodIn wsX4_isGiven wsX4_rowOf := goodIn_r _ [10] (by decide +kernel) (by decide +kernel)
set_option maxRecDepth 20000 in
theorem gX4_isGiven_X4_rowOf : GoodIn wsX4_isGiven (va_wsS RX4 109 yX4_rowOf wsX4_rowOf) := goodIn_app (goodIn_of _ (by decide +kernel)) ggX4_isGiven_X4_rowOf
theorem dX4_isGiven_0 : decode cX4_isGiven 0 = .ok (.iconst 1, 1) := by decide +kernel
theorem dX4_isGiven_1 : decode cX4_isGiven 1 = .ok (.istore_n 3, 1) := by decide +kernel
theorem dX4_isGiven_2 : decode cX4_isGiven 2 = .ok (.iconst 0, 1) := by decide +kernel
theorem dX4_isGiven_3 : decode cX4_isGiven 3 = .ok (.istore 4, 2) := by decide +kernel
theorem dX4_isGiven_5 : decode cX4_isGiven 5 = .ok (.iload 4, 2) := by decide +kernel
theorem dX4_isGiven_7 : decode cX4_isGiven 7 = .ok (.bipush 9, 2) := by decide +kernel
theorem dX4_isGiven_9 : decode cX4_isGiven 9 = .ok (.if_icmp .ge 71, 3) := by decide +kernel
theorem dX4_isGiven_12 : decode cX4_isGiven 12 = .ok (.iconst 0, 1) := by decide +kernel
theorem dX4_isGiven_13 : decode cX4_isGiven 13 = .ok (.istore 5, 2) := by decide +kernel
theorem dX4_isGiven_15 : decode cX4_isGiven 15 = .ok (.iconst 1, 1) := by decide +kernel
theorem dX4_isGiven_16 : decode cX4_isGiven 16 = .ok (.istore 6, 2) := by decide +kernel
theorem dX4_isGiven_18 : decode cX4_isGiven 18 = .ok (.iload 6, 2) := by decide +kernel
theorem dX4_isGiven_20 : decode cX4_isGiven 20 = .ok (.bipush 8, 2) := by decide +kernel
theorem dX4_isGiven_22 : decode cX4_isGiven 22 = .ok (.if_icmp .ge 28, 3) := by decide +kernel
theorem dX4_isGiven_25 : decode cX4_isGiven 25 = .ok (.iload 5, 2) := by decide +kernel
theorem dX4_isGiven_27 : decode cX4_isGiven 27 = .ok (.iload 4, 2) := by decide +kernel
theorem dX4_isGiven_29 : decode cX4_isGiven 29 = .ok (.iload 6, 2) := by decide +kernel
theorem dX4_isGiven_31 : decode cX4_isGiven 31 = .ok (.invokestatic 72, 3) := by decide +kernel
theorem dX4_isGiven_34 : decode cX4_isGiven 34 = .ok (.iload_n 1, 1) := by decide +kernel
theorem dX4_isGiven_35 : decode cX4_isGiven 35 = .ok (.iload 6, 2) := by decide +kernel
theorem dX4_isGiven_37 : decode cX4_isGiven 37 = .ok (.invokestatic 109, 3) := by decide +kernel
theorem dX4_isGiven_40 : decode cX4_isGiven 40 = .ok (.imul, 1) := by decide +kernel
theorem dX4_isGiven_41 : decode cX4_isGiven 41 = .ok (.iadd, 1) := by decide +kernel
theorem dX4_isGiven_42 : decode cX4_isGiven 42 = .ok (.istore 5, 2) := by decide +kernel
theorem dX4_isGiven_44 : decode cX4_isGiven 44 = .ok (.iinc 6 1, 3) := by decide +kernel
theorem dX4_isGiven_47 : decode cX4_isGiven 47 = .ok (.goto (-29), 3) := by decide +kernel
theorem dX4_isGiven_50 : decode cX4_isGiven 50 = .ok (.iload_n 3, 1) := by decide +kernel
theorem dX4_isGiven_51 : decode cX4_isGiven 51 = .ok (.ifCond .eq 21, 3) := by decide +kernel
theorem dX4_isGiven_54 : decode cX4_isGiven 54 = .ok (.iload_n 2, 1) := by decide +kernel
theorem dX4_isGiven_55 : decode cX4_isGiven 55 = .ok (.iload 4, 2) := by decide +kernel
theorem dX4_isGiven_57 : decode cX4_isGiven 57 = .ok (.ishr, 1) := by decide +kernel
theorem dX4_isGiven_58 : decode cX4_isGiven 58 = .ok (.iconst 1, 1) := by decide +kernel
theorem dX4_isGiven_59 : decode cX4_isGiven 59 = .ok (.iand, 1) := by decide +kernel
theorem dX4_isGiven_60 : decode cX4_isGiven 60 = .ok (.ifCond .eq 8, 3) := by decide +kernel
theorem dX4_isGiven_63 : decode cX4_isGiven 63 = .ok (.iload 5, 2) := by decide +kernel
theorem dX4_isGiven_65 : decode cX4_isGiven 65 = .ok (.ifCond .ne 7, 3) := by decide +kernel
theorem dX4_isGiven_68 : decode cX4_isGiven 68 = .ok (.iconst 1, 1) := by decide +kernel
theorem dX4_isGiven_69 : decode cX4_isGiven 69 = .ok (.goto 4, 3) := by decide +kernel
theorem dX4_isGiven_72 : decode cX4_isGiven 72 = .ok (.iconst 0, 1) := by decide +kernel
theorem dX4_isGiven_73 : decode cX4_isGiven 73 = .ok (.istore_n 3, 1) := by decide +kernel
theorem dX4_isGiven_74 : decode cX4_isGiven 74 = .ok (.iinc 4 1, 3) := by decide +kernel
theorem dX4_isGiven_77 : decode cX4_isGiven 77 = .ok (.goto (-72), 3) := by decide +kernel
theorem dX4_isGiven_80 : decode cX4_isGiven 80 = .ok (.iload_n 3, 1) := by decide +kernel
theorem dX4_isGiven_81 : decode cX4_isGiven 81 = .ok (.ireturn, 1) := by decide +kernel
set_option maxRecDepth 20000 in
theorem ggX4_always_X4_isLaw : GoodIn wsX4_always wsX4_isLaw := goodIn_r _ [4, 5, 6, 3, 7] (by decide +kernel) (by decide +kernel)
set_option maxRecDepth 20000 in
theorem gX4_always_X4_isLaw : GoodIn wsX4_always (va_wsS RX4 65 yX4_isLaw wsX4_isLaw) := goodIn_app (goodIn_of _ (by decide +kernel)) ggX4_always_X4_isLaw
set_option maxRecDepth 20000 in
theorem ggX4_always_X4_isIn : GoodIn wsX4_always wsX4_isIn := goodIn_r _ [7] (by decide +kernel) (by decide +kernel)
set_option maxRecDepth 20000 in
theorem gX4_always_X4_isIn : GoodIn wsX4_always (va_wsS RX4 50 yX4_isIn wsX4_isIn) := goodIn_app (goodIn_of _ (by decide +kernel)) ggX4_always_X4_isIn
set_option maxRecDepth 20000 in
theorem ggX4_always_X4_breaks : GoodIn wsX4_always wsX4_breaks := goodIn_r _ [11, 12, 1, 2, 3, 4, 5, 6, 7, 13, 14, 15, 16, 17, 18, 19, 20, 21, 22, 23, 24, 25, 26, 27, 28, 29, 30, 31, 32, 33, 34, 35, 36, 37, 38, 39, 40] (by decide +kernel) (by decide +kernel)
set_option maxRecDepth 20000 in
theorem gX4_always_X4_breaks : GoodIn wsX4_always (wsV RX4 112 RX4 yX4_breaks wsX4_breaks) := goodIn_app (goodIn_of _ (by decide +kernel)) ggX4_always_X4_breaks
theorem dX4_always_0 : decode cX4_always 0 = .ok (.iload_n 1, 1) := by decide +kernel
theorem dX4_always_1 : decode cX4_always 1 = .ok (.invokestatic 65, 3) := by decide +kernel
theorem dX4_always_4 : decode cX4_always 4 = .ok (.ifCond .eq 14, 3) := by decide +kernel
theorem dX4_always_7 : decode cX4_always 7 = .ok (.iload_n 2, 1) := by decide +kernel
theorem dX4_always_8 : decode cX4_always 8 = .ok (.iconst 0, 1) := by decide +kernel
theorem dX4_always_9 : decode cX4_always 9 = .ok (.sipush 511, 3) := by decide +kernel
theorem dX4_always_12 : decode cX4_always 12 = .ok (.invokestatic 50, 3) := by decide +kernel
theorem dX4_always_15 : decode cX4_always 15 = .ok (.ifCond .ne 7, 3) := by decide +kernel
theorem dX4_always_18 : decode cX4_always 18 = .ok (.iconst (-1), 1) := by decide +kernel
theorem dX4_always_19 : decode cX4_always 19 = .ok (.goto 18, 3) := by decide +kernel
theorem dX4_always_22 : decode cX4_always 22 = .ok (.aload_n 0, 1) := by decide +kernel
theorem dX4_always_23 : decode cX4_always 23 = .ok (.iload_n 1, 1) := by decide +kernel
theorem dX4_always_24 : decode cX4_always 24 = .ok (.iload_n 2, 1) := by decide +kernel
theorem dX4_always_25 : decode cX4_always 25 = .ok (.invokevirtual 112, 3) := by decide +kernel
theorem dX4_always_28 : decode cX4_always 28 = .ok (.iconst (-1), 1) := by decide +kernel
theorem dX4_always_29 : decode cX4_always 29 = .ok (.if_icmp .ne 7, 3) := by decide +kernel
theorem dX4_always_32 : decode cX4_always 32 = .ok (.iconst 1, 1) := by decide +kernel
theorem dX4_always_33 : decode cX4_always 33 = .ok (.goto 4, 3) := by decide +kernel
theorem dX4_always_36 : decode cX4_always 36 = .ok (.iconst 0, 1) := by decide +kernel
theorem dX4_always_37 : decode cX4_always 37 = .ok (.ireturn, 1) := by decide +kernel
set_option maxRecDepth 20000 in
theorem ggX4_breaks_X4_isLaw : GoodIn wsX4_breaks wsX4_isLaw := goodIn_r _ [5, 6, 7, 4, 8] (by decide +kernel) (by decide +kernel)
set_option maxRecDepth 20000 in
theorem gX4_breaks_X4_isLaw : GoodIn wsX4_breaks (va_wsS RX4 65 yX4_isLaw wsX4_isLaw) := goodIn_app (goodIn_of _ (by decide +kernel)) ggX4_breaks_X4_isLaw
set_option maxRecDepth 20000 in
theorem ggX4_breaks_X4_isIn : GoodIn wsX4_breaks wsX4_isIn := goodIn_r _ [8] (by decide +kernel) (by decide +kernel)
set_option maxRecDepth 20000 in
theorem gX4_breaks_X4_isIn : GoodIn wsX4_breaks (va_wsS RX4 50 yX4_isIn wsX4_isIn) := goodIn_app (goodIn_of _ (by decide +kernel)) ggX4_breaks_X4_isIn
set_option maxRecDepth 20000 in
theorem ggX4_breaks_X4_rowOf : GoodIn wsX4_breaks wsX4_rowOf := goodIn_r _ [11] (by decide +kernel) (by decide +kernel)
set_option maxRecDepth 20000 in
theorem gX4_breaks_X4_rowOf : GoodIn wsX4_breaks (va_wsS RX4 109 yX4_rowOf wsX4_rowOf) := goodIn_app (goodIn_of _ (by decide +kernel)) ggX4_breaks_X4_rowOf
set_option maxRecDepth 20000 in
theorem ggX4_breaks_X4_isGiven : GoodIn wsX4_breaks wsX4_isGiven := goodIn_r _ [15, 16, 17, 4, 18, 19, 20, 21, 9, 10, 11] (by decide +kernel) (by decide +kernel)
set_option maxRecDepth 20000 in
theorem gX4_breaks_X4_isGiven : GoodIn wsX4_breaks (wsV RX4 115 RX4 yX4_isGiven wsX4_isGiven) := goodIn_app (goodIn_of _ (by decide +kernel)) ggX4_breaks_X4_isGiven
theorem dX4_breaks_0 : decode cX4_breaks 0 = .ok (.iload_n 1, 1) := by decide +kernel
theorem dX4_breaks_1 : decode cX4_breaks 1 = .ok (.invokestatic 65, 3) := by decide +kernel
theorem dX4_breaks_4 : decode cX4_breaks 4 = .ok (.ifCond .eq 14, 3) := by decide +kernel
theorem dX4_breaks_7 : decode cX4_breaks 7 = .ok (.iload_n 2, 1) := by decide +kernel
theorem dX4_breaks_8 : decode cX4_breaks 8 = .ok (.iconst 0, 1) := by decide +kernel
theorem dX4_breaks_9 : decode cX4_breaks 9 = .ok (.sipush 511, 3) := by decide +kernel
theorem dX4_breaks_12 : decode cX4_breaks 12 = .ok (.invokestatic 50, 3) := by decide +kernel
theorem dX4_breaks_15 : decode cX4_breaks 15 = .ok (.ifCond .ne 5, 3) := by decide +kernel
theorem dX4_breaks_18 : decode cX4_breaks 18 = .ok (.iconst (-1), 1) := by decide +kernel
theorem dX4_breaks_19 : decode cX4_breaks 19 = .ok (.ireturn, 1) := by decide +kernel
theorem dX4_breaks_20 : decode cX4_breaks 20 = .ok (.iconst 0, 1) := by decide +kernel
theorem dX4_breaks_21 : decode cX4_breaks 21 = .ok (.istore_n 3, 1) := by decide +kernel
theorem dX4_breaks_22 : decode cX4_breaks 22 = .ok (.iload_n 3, 1) := by decide +kernel
theorem dX4_breaks_23 : decode cX4_breaks 23 = .ok (.bipush 8, 2) := by decide +kernel
theorem dX4_breaks_25 : decode cX4_breaks 25 = .ok (.if_icmp .ge 68, 3) := by decide +kernel
theorem dX4_breaks_28 : decode cX4_breaks 28 = .ok (.iconst 0, 1) := by decide +kernel
theorem dX4_breaks_29 : decode cX4_breaks 29 = .ok (.istore 4, 2) := by decide +kernel
theorem dX4_breaks_31 : decode cX4_breaks 31 = .ok (.iconst 1, 1) := by decide +kernel
theorem dX4_breaks_32 : decode cX4_breaks 32 = .ok (.istore 5, 2) := by decide +kernel
theorem dX4_breaks_34 : decode cX4_breaks 34 = .ok (.iload 5, 2) := by decide +kernel
theorem dX4_breaks_36 : decode cX4_breaks 36 = .ok (.bipush 8, 2) := by decide +kernel
theorem dX4_breaks_38 : decode cX4_breaks 38 = .ok (.if_icmp .ge 33, 3) := by decide +kernel
theorem dX4_breaks_41 : decode cX4_breaks 41 = .ok (.iload 4, 2) := by decide +kernel
theorem dX4_breaks_43 : decode cX4_breaks 43 = .ok (.aload_n 0, 1) := by decide +kernel
theorem dX4_breaks_44 : decode cX4_breaks 44 = .ok (.getfield 19, 3) := by decide +kernel
theorem dX4_breaks_47 : decode cX4_breaks 47 = .ok (.bipush 8, 2) := by decide +kernel
theorem dX4_breaks_49 : decode cX4_breaks 49 = .ok (.iload_n 1, 1) := by decide +kernel
theorem dX4_breaks_50 : decode cX4_breaks 50 = .ok (.imul, 1) := by decide +kernel
theorem dX4_breaks_51 : decode cX4_breaks 51 = .ok (.iload 5, 2) := by decide +kernel
theorem dX4_breaks_53 : decode cX4_breaks 53 = .ok (.iadd, 1) := by decide +kernel
theorem dX4_breaks_54 : decode cX4_breaks 54 = .ok (.iaload, 1) := by decide +kernel
theorem dX4_breaks_55 : decode cX4_breaks 55 = .ok (.iload_n 3, 1) := by decide +kernel
theorem dX4_breaks_56 : decode cX4_breaks 56 = .ok (.iload 5, 2) := by decide +kernel
theorem dX4_breaks_58 : decode cX4_breaks 58 = .ok (.invokestatic 109, 3) := by decide +kernel
theorem dX4_breaks_61 : decode cX4_breaks 61 = .ok (.imul, 1) := by decide +kernel
theorem dX4_breaks_62 : decode cX4_breaks 62 = .ok (.iadd, 1) := by decide +kernel
theorem dX4_breaks_63 : decode cX4_breaks 63 = .ok (.istore 4, 2) := by decide +kernel
theorem dX4_breaks_65 : decode cX4_breaks 65 = .ok (.iinc 5 1, 3) := by decide +kernel
theorem dX4_breaks_68 : decode cX4_breaks 68 = .ok (.goto (-34), 3) := by decide +kernel
theorem dX4_breaks_71 : decode cX4_breaks 71 = .ok (.iload 4, 2) := by decide +kernel
theorem dX4_breaks_73 : decode cX4_breaks 73 = .ok (.ifCond .ge 14, 3) := by decide +kernel
theorem dX4_breaks_76 : decode cX4_breaks 76 = .ok (.aload_n 0, 1) := by decide +kernel
theorem dX4_breaks_77 : decode cX4_breaks 77 = .ok (.iload_n 3, 1) := by decide +kernel
theorem dX4_breaks_78 : decode cX4_breaks 78 = .ok (.iload_n 2, 1) := by decide +kernel
theorem dX4_breaks_79 : decode cX4_breaks 79 = .ok (.invokevirtual 115, 3) := by decide +kernel
theorem dX4_breaks_82 : decode cX4_breaks 82 = .ok (.ifCond .eq 5, 3) := by decide +kernel
theorem dX4_breaks_85 : decode cX4_breaks 85 = .ok (.iload_n 3, 1) := by decide +kernel
theorem dX4_breaks_86 : decode cX4_breaks 86 = .ok (.ireturn, 1) := by decide +kernel
theorem dX4_breaks_87 : decode cX4_breaks 87 = .ok (.iinc 3 1, 3) := by decide +kernel
theorem dX4_breaks_90 : decode cX4_breaks 90 = .ok (.goto (-68), 3) := by decide +kernel
theorem dX4_breaks_93 : decode cX4_breaks 93 = .ok (.iconst (-1), 1) := by decide +kernel
theorem dX4_breaks_94 : decode cX4_breaks 94 = .ok (.ireturn, 1) := by decide +kernel
theorem dX4_common_0 : decode cX4_common 0 = .ok (.lload_n 0, 1) := by decide +kernel
theorem dX4_common_1 : decode cX4_common 1 = .ok (.invokestatic 119, 3) := by decide +kernel
theorem dX4_common_4 : decode cX4_common 4 = .ok (.lstore 4, 2) := by decide +kernel
theorem dX4_common_6 : decode cX4_common 6 = .ok (.lload_n 2, 1) := by decide +kernel
theorem dX4_common_7 : decode cX4_common 7 = .ok (.invokestatic 119, 3) := by decide +kernel
theorem dX4_common_10 : decode cX4_common 10 = .ok (.lstore 6, 2) := by decide +kernel
theorem dX4_common_12 : decode cX4_common 12 = .ok (.lload 6, 2) := by decide +kernel
theorem dX4_common_14 : decode cX4_common 14 = .ok (.lconst 0, 1) := by decide +kernel
theorem dX4_common_15 : decode cX4_common 15 = .ok (.lcmp, 1) := by decide +kernel
theorem dX4_common_16 : decode cX4_common 16 = .ok (.ifCond .eq 21, 3) := by decide +kernel
theorem dX4_common_19 : decode cX4_common 19 = .ok (.lload 4, 2) := by decide +kernel
theorem dX4_common_21 : decode cX4_common 21 = .ok (.lload 6, 2) := by decide +kernel
theorem dX4_common_23 : decode cX4_common 23 = .ok (.lrem, 1) := by decide +kernel
theorem dX4_common_24 : decode cX4_common 24 = .ok (.lstore 8, 2) := by decide +kernel
theorem dX4_common_26 : decode cX4_common 26 = .ok (.lload 6, 2) := by decide +kernel
theorem dX4_common_28 : decode cX4_common 28 = .ok (.lstore 4, 2) := by decide +kernel
theorem dX4_common_30 : decode cX4_common 30 = .ok (.lload 8, 2) := by decide +kernel
theorem dX4_common_32 : decode cX4_common 32 = .ok (.lstore 6, 2) := by decide +kernel
theorem dX4_common_34 : decode cX4_common 34 = .ok (.goto (-22), 3) := by decide +kernel
theorem dX4_common_37 : decode cX4_common 37 = .ok (.lload 4, 2) := by decide +kernel
theorem dX4_common_39 : decode cX4_common 39 = .ok (.lreturn, 1) := by decide +kernel
set_option maxRecDepth 20000 in
theorem ggX4_solve_X4_plainOf : GoodIn wsX4_solve wsX4_plainOf := goodIn_r _ [12, 13, 14, 11, 15] (by decide +kernel) (by decide +kernel)
set_option maxRecDepth 20000 in
theorem gX4_solve_X4_plainOf : GoodIn wsX4_solve (va_wsS RX4 72 yX4_plainOf wsX4_plainOf) := goodIn_app (goodIn_of _ (by decide +kernel)) ggX4_solve_X4_plainOf
set_option maxRecDepth 20000 in
theorem ggX4_solve_X4_takeOff : GoodIn wsX4_solve wsX4_takeOff := goodIn_r _ [19, 1, 20, 21, 11, 22, 5, 6, 7, 8, 23, 24, 25, 26, 27, 28, 29, 30, 31, 32, 33, 34, 35, 36, 37] (by decide +kernel) (by decide +kernel)
set_option maxRecDepth 20000 in
theorem gX4_solve_X4_takeOff : GoodIn wsX4_solve (wsV RX4 125 RX4 yX4_takeOff wsX4_takeOff) := goodIn_app (goodIn_of _ (by decide +kernel)) ggX4_solve_X4_takeOff
set_option maxRecDepth 20000 in
theorem ggX4_solve_X4_common : GoodIn wsX4_solve wsX4_common := goodIn_r _ [22, 5, 6, 7, 8] (by decide +kernel) (by decide +kernel)
set_option maxRecDepth 20000 in
theorem gX4_solve_X4_common : GoodIn wsX4_solve (va_wsS RX4 128 yX4_common wsX4_common) := goodIn_app (goodIn_of _ (by decide +kernel)) ggX4_solve_X4_common
theorem dX4_solve_0 : decode cX4_solve 0 = .ok (.iconst 1, 1) := by decide +kernel
theorem dX4_solve_1 : decode cX4_solve 1 = .ok (.istore 4, 2) := by decide +kernel
theorem dX4_solve_3 : decode cX4_solve 3 = .ok (.iload 4, 2) := by decide +kernel
theorem dX4_solve_5 : decode cX4_solve 5 = .ok (.bipush 8, 2) := by decide +kernel
theorem dX4_solve_7 : decode cX4_solve 7 = .ok (.if_icmp .ge 97, 3) := by decide +kernel
theorem dX4_solve_10 : decode cX4_solve 10 = .ok (.iconst 0, 1) := by decide +kernel
theorem dX4_solve_11 : decode cX4_solve 11 = .ok (.istore 5, 2) := by decide +kernel
theorem dX4_solve_13 : decode cX4_solve 13 = .ok (.iconst 0, 1) := by decide +kernel
theorem dX4_solve_14 : decode cX4_solve 14 = .ok (.istore 6, 2) := by decide +kernel
theorem dX4_solve_16 : decode cX4_solve 16 = .ok (.iload 6, 2) := by decide +kernel
theorem dX4_solve_18 : decode cX4_solve 18 = .ok (.bipush 9, 2) := by decide +kernel
theorem dX4_solve_20 : decode cX4_solve 20 = .ok (.if_icmp .ge 50, 3) := by decide +kernel
theorem dX4_solve_23 : decode cX4_solve 23 = .ok (.iload 6, 2) := by decide +kernel
theorem dX4_solve_25 : decode cX4_solve 25 = .ok (.iload_n 2, 1) := by decide +kernel
theorem dX4_solve_26 : decode cX4_solve 26 = .ok (.if_icmp .eq 38, 3) := by decide +kernel
theorem dX4_solve_29 : decode cX4_solve 29 = .ok (.iload 6, 2) := by decide +kernel
theorem dX4_solve_31 : decode cX4_solve 31 = .ok (.iload_n 3, 1) := by decide +kernel
theorem dX4_solve_32 : decode cX4_solve 32 = .ok (.if_icmp .ne 6, 3) := by decide +kernel
theorem dX4_solve_35 : decode cX4_solve 35 = .ok (.goto 29, 3) := by decide +kernel
theorem dX4_solve_38 : decode cX4_solve 38 = .ok (.aload_n 0, 1) := by decide +kernel
theorem dX4_solve_39 : decode cX4_solve 39 = .ok (.getfield 37, 3) := by decide +kernel
theorem dX4_solve_42 : decode cX4_solve 42 = .ok (.bipush 8, 2) := by decide +kernel
theorem dX4_solve_44 : decode cX4_solve 44 = .ok (.iload 4, 2) := by decide +kernel
theorem dX4_solve_46 : decode cX4_solve 46 = .ok (.iconst 1, 1) := by decide +kernel
theorem dX4_solve_47 : decode cX4_solve 47 = .ok (.isub, 1) := by decide +kernel
theorem dX4_solve_48 : decode cX4_solve 48 = .ok (.imul, 1) := by decide +kernel
theorem dX4_solve_49 : decode cX4_solve 49 = .ok (.iload 5, 2) := by decide +kernel
theorem dX4_solve_51 : decode cX4_solve 51 = .ok (.iadd, 1) := by decide +kernel
theorem dX4_solve_52 : decode cX4_solve 52 = .ok (.iload 6, 2) := by decide +kernel
theorem dX4_solve_54 : decode cX4_solve 54 = .ok (.iload 4, 2) := by decide +kernel
theorem dX4_solve_56 : decode cX4_solve 56 = .ok (.invokestatic 72, 3) := by decide +kernel
theorem dX4_solve_59 : decode cX4_solve 59 = .ok (.i2l, 1) := by decide +kernel
theorem dX4_solve_60 : decode cX4_solve 60 = .ok (.lastore, 1) := by decide +kernel
theorem dX4_solve_61 : decode cX4_solve 61 = .ok (.iinc 5 1, 3) := by decide +kernel
theorem dX4_solve_64 : decode cX4_solve 64 = .ok (.iinc 6 1, 3) := by decide +kernel
theorem dX4_solve_67 : decode cX4_solve 67 = .ok (.goto (-51), 3) := by decide +kernel
theorem dX4_solve_70 : decode cX4_solve 70 = .ok (.aload_n 0, 1) := by decide +kernel
theorem dX4_solve_71 : decode cX4_solve 71 = .ok (.getfield 37, 3) := by decide +kernel
theorem dX4_solve_74 : decode cX4_solve 74 = .ok (.bipush 8, 2) := by decide +kernel
theorem dX4_solve_76 : decode cX4_solve 76 = .ok (.iload 4, 2) := by decide +kernel
theorem dX4_solve_78 : decode cX4_solve 78 = .ok (.iconst 1, 1) := by decide +kernel
theorem dX4_solve_79 : decode cX4_solve 79 = .ok (.isub, 1) := by decide +kernel
theorem dX4_solve_80 : decode cX4_solve 80 = .ok (.imul, 1) := by decide +kernel
theorem dX4_solve_81 : decode cX4_solve 81 = .ok (.bipush 7, 2) := by decide +kernel
theorem dX4_solve_83 : decode cX4_solve 83 = .ok (.iadd, 1) := by decide +kernel
theorem dX4_solve_84 : decode cX4_solve 84 = .ok (.aload_n 0, 1) := by decide +kernel
theorem dX4_solve_85 : decode cX4_solve 85 = .ok (.getfield 19, 3) := by decide +kernel
theorem dX4_solve_88 : decode cX4_solve 88 = .ok (.bipush 8, 2) := by decide +kernel
theorem dX4_solve_90 : decode cX4_solve 90 = .ok (.iload_n 1, 1) := by decide +kernel
theorem dX4_solve_91 : decode cX4_solve 91 = .ok (.imul, 1) := by decide +kernel
theorem dX4_solve_92 : decode cX4_solve 92 = .ok (.iload 4, 2) := by decide +kernel
theorem dX4_solve_94 : decode cX4_solve 94 = .ok (.iadd, 1) := by decide +kernel
theorem dX4_solve_95 : decode cX4_solve 95 = .ok (.iaload, 1) := by decide +kernel
theorem dX4_solve_96 : decode cX4_solve 96 = .ok (.i2l, 1) := by decide +kernel
theorem dX4_solve_97 : decode cX4_solve 97 = .ok (.lastore, 1) := by decide +kernel
theorem dX4_solve_98 : decode cX4_solve 98 = .ok (.iinc 4 1, 3) := by decide +kernel
theorem dX4_solve_101 : decode cX4_solve 101 = .ok (.goto (-98), 3) := by decide +kernel
theorem dX4_solve_104 : decode cX4_solve 104 = .ok (.iconst 0, 1) := by decide +kernel
theorem dX4_solve_105 : decode cX4_solve 105 = .ok (.istore 4, 2) := by decide +kernel
theorem dX4_solve_107 : decode cX4_solve 107 = .ok (.iload 4, 2) := by decide +kernel
theorem dX4_solve_109 : decode cX4_solve 109 = .ok (.bipush 7, 2) := by decide +kernel
theorem dX4_solve_111 : decode cX4_solve 111 = .ok (.if_icmp .ge 174, 3) := by decide +kernel
theorem dX4_solve_114 : decode cX4_solve 114 = .ok (.iload 4, 2) := by decide +kernel
theorem dX4_solve_116 : decode cX4_solve 116 = .ok (.istore 5, 2) := by decide +kernel
theorem dX4_solve_118 : decode cX4_solve 118 = .ok (.iload 5, 2) := by decide +kernel
theorem dX4_solve_120 : decode cX4_solve 120 = .ok (.bipush 7, 2) := by decide +kernel
theorem dX4_solve_122 : decode cX4_solve 122 = .ok (.if_icmp .ge 27, 3) := by decide +kernel
theorem dX4_solve_125 : decode cX4_solve 125 = .ok (.aload_n 0, 1) := by decide +kernel
theorem dX4_solve_126 : decode cX4_solve 126 = .ok (.getfield 37, 3) := by decide +kernel
theorem dX4_solve_129 : decode cX4_solve 129 = .ok (.bipush 8, 2) := by decide +kernel
theorem dX4_solve_131 : decode cX4_solve 131 = .ok (.iload 5, 2) := by decide +kernel
theorem dX4_solve_133 : decode cX4_solve 133 = .ok (.imul, 1) := by decide +kernel
theorem dX4_solve_134 : decode cX4_solve 134 = .ok (.iload 4, 2) := by decide +kernel
theorem dX4_solve_136 : decode cX4_solve 136 = .ok (.iadd, 1) := by decide +kernel
theorem dX4_solve_137 : decode cX4_solve 137 = .ok (.laload, 1) := by decide +kernel
theorem dX4_solve_138 : decode cX4_solve 138 = .ok (.lconst 0, 1) := by decide +kernel
theorem dX4_solve_139 : decode cX4_solve 139 = .ok (.lcmp, 1) := by decide +kernel
theorem dX4_solve_140 : decode cX4_solve 140 = .ok (.ifCond .ne 9, 3) := by decide +kernel
theorem dX4_solve_143 : decode cX4_solve 143 = .ok (.iinc 5 1, 3) := by decide +kernel
theorem dX4_solve_146 : decode cX4_solve 146 = .ok (.goto (-28), 3) := by decide +kernel
theorem dX4_solve_149 : decode cX4_solve 149 = .ok (.iload 5, 2) := by decide +kernel
theorem dX4_solve_151 : decode cX4_solve 151 = .ok (.bipush 7, 2) := by decide +kernel
theorem dX4_solve_153 : decode cX4_solve 153 = .ok (.if_icmp .ne 5, 3) := by decide +kernel
theorem dX4_solve_156 : decode cX4_solve 156 = .ok (.iconst 0, 1) := by decide +kernel
theorem dX4_solve_157 : decode cX4_solve 157 = .ok (.ireturn, 1) := by decide +kernel
theorem dX4_solve_158 : decode cX4_solve 158 = .ok (.iconst 0, 1) := by decide +kernel
theorem dX4_solve_159 : decode cX4_solve 159 = .ok (.istore 6, 2) := by decide +kernel
theorem dX4_solve_161 : decode cX4_solve 161 = .ok (.iload 6, 2) := by decide +kernel
theorem dX4_solve_163 : decode cX4_solve 163 = .ok (.bipush 8, 2) := by decide +kernel
theorem dX4_solve_165 : decode cX4_solve 165 = .ok (.if_icmp .ge 65, 3) := by decide +kernel
theorem dX4_solve_168 : decode cX4_solve 168 = .ok (.aload_n 0, 1) := by decide +kernel
theorem dX4_solve_169 : decode cX4_solve 169 = .ok (.getfield 37, 3) := by decide +kernel
theorem dX4_solve_172 : decode cX4_solve 172 = .ok (.bipush 8, 2) := by decide +kernel
theorem dX4_solve_174 : decode cX4_solve 174 = .ok (.iload 4, 2) := by decide +kernel
theorem dX4_solve_176 : decode cX4_solve 176 = .ok (.imul, 1) := by decide +kernel
theorem dX4_solve_177 : decode cX4_solve 177 = .ok (.iload 6, 2) := by decide +kernel
theorem dX4_solve_179 : decode cX4_solve 179 = .ok (.iadd, 1) := by decide +kernel
theorem dX4_solve_180 : decode cX4_solve 180 = .ok (.laload, 1) := by decide +kernel
theorem dX4_solve_181 : decode cX4_solve 181 = .ok (.lstore 7, 2) := by decide +kernel
theorem dX4_solve_183 : decode cX4_solve 183 = .ok (.aload_n 0, 1) := by decide +kernel
theorem dX4_solve_184 : decode cX4_solve 184 = .ok (.getfield 37, 3) := by decide +kernel
theorem dX4_solve_187 : decode cX4_solve 187 = .ok (.bipush 8, 2) := by decide +kernel
theorem dX4_solve_189 : decode cX4_solve 189 = .ok (.iload 4, 2) := by decide +kernel
theorem dX4_solve_191 : decode cX4_solve 191 = .ok (.imul, 1) := by decide +kernel
theorem dX4_solve_192 : decode cX4_solve 192 = .ok (.iload 6, 2) := by decide +kernel
theorem dX4_solve_194 : decode cX4_solve 194 = .ok (.iadd, 1) := by decide +kernel
theorem dX4_solve_195 : decode cX4_solve 195 = .ok (.aload_n 0, 1) := by decide +kernel
theorem dX4_solve_196 : decode cX4_solve 196 = .ok (.getfield 37, 3) := by decide +kernel
theorem dX4_solve_199 : decode cX4_solve 199 = .ok (.bipush 8, 2) := by decide +kernel
theorem dX4_solve_201 : decode cX4_solve 201 = .ok (.iload 5, 2) := by decide +kernel
theorem dX4_solve_203 : decode cX4_solve 203 = .ok (.imul, 1) := by decide +kernel
theorem dX4_solve_204 : decode cX4_solve 204 = .ok (.iload 6, 2) := by decide +kernel
theorem dX4_solve_206 : decode cX4_solve 206 = .ok (.iadd, 1) := by decide +kernel
theorem dX4_solve_207 : decode cX4_solve 207 = .ok (.laload, 1) := by decide +kernel
theorem dX4_solve_208 : decode cX4_solve 208 = .ok (.lastore, 1) := by decide +kernel
theorem dX4_solve_209 : decode cX4_solve 209 = .ok (.aload_n 0, 1) := by decide +kernel
theorem dX4_solve_210 : decode cX4_solve 210 = .ok (.getfield 37, 3) := by decide +kernel
theorem dX4_solve_213 : decode cX4_solve 213 = .ok (.bipush 8, 2) := by decide +kernel
theorem dX4_solve_215 : decode cX4_solve 215 = .ok (.iload 5, 2) := by decide +kernel
theorem dX4_solve_217 : decode cX4_solve 217 = .ok (.imul, 1) := by decide +kernel
theorem dX4_solve_218 : decode cX4_solve 218 = .ok (.iload 6, 2) := by decide +kernel
theorem dX4_solve_220 : decode cX4_solve 220 = .ok (.iadd, 1) := by decide +kernel
theorem dX4_solve_221 : decode cX4_solve 221 = .ok (.lload 7, 2) := by decide +kernel
theorem dX4_solve_223 : decode cX4_solve 223 = .ok (.lastore, 1) := by decide +kernel
theorem dX4_solve_224 : decode cX4_solve 224 = .ok (.iinc 6 1, 3) := by decide +kernel
theorem dX4_solve_227 : decode cX4_solve 227 = .ok (.goto (-66), 3) := by decide +kernel
theorem dX4_solve_230 : decode cX4_solve 230 = .ok (.iconst 0, 1) := by decide +kernel
theorem dX4_solve_231 : decode cX4_solve 231 = .ok (.istore 6, 2) := by decide +kernel
theorem dX4_solve_233 : decode cX4_solve 233 = .ok (.iload 6, 2) := by decide +kernel
theorem dX4_solve_235 : decode cX4_solve 235 = .ok (.bipush 7, 2) := by decide +kernel
theorem dX4_solve_237 : decode cX4_solve 237 = .ok (.if_icmp .ge 42, 3) := by decide +kernel
theorem dX4_solve_240 : decode cX4_solve 240 = .ok (.iload 6, 2) := by decide +kernel
theorem dX4_solve_242 : decode cX4_solve 242 = .ok (.iload 4, 2) := by decide +kernel
theorem dX4_solve_244 : decode cX4_solve 244 = .ok (.if_icmp .eq 29, 3) := by decide +kernel
theorem dX4_solve_247 : decode cX4_solve 247 = .ok (.aload_n 0, 1) := by decide +kernel
theorem dX4_solve_248 : decode cX4_solve 248 = .ok (.getfield 37, 3) := by decide +kernel
theorem dX4_solve_251 : decode cX4_solve 251 = .ok (.bipush 8, 2) := by decide +kernel
theorem dX4_solve_253 : decode cX4_solve 253 = .ok (.iload 6, 2) := by decide +kernel
theorem dX4_solve_255 : decode cX4_solve 255 = .ok (.imul, 1) := by decide +kernel
theorem dX4_solve_256 : decode cX4_solve 256 = .ok (.iload 4, 2) := by decide +kernel
theorem dX4_solve_258 : decode cX4_solve 258 = .ok (.iadd, 1) := by decide +kernel
theorem dX4_solve_259 : decode cX4_solve 259 = .ok (.laload, 1) := by decide +kernel
theorem dX4_solve_260 : decode cX4_solve 260 = .ok (.lconst 0, 1) := by decide +kernel
theorem dX4_solve_261 : decode cX4_solve 261 = .ok (.lcmp, 1) := by decide +kernel
theorem dX4_solve_262 : decode cX4_solve 262 = .ok (.ifCond .eq 11, 3) := by decide +kernel
theorem dX4_solve_265 : decode cX4_solve 265 = .ok (.aload_n 0, 1) := by decide +kernel
theorem dX4_solve_266 : decode cX4_solve 266 = .ok (.iload 6, 2) := by decide +kernel
theorem dX4_solve_268 : decode cX4_solve 268 = .ok (.iload 4, 2) := by decide +kernel
theorem dX4_solve_270 : decode cX4_solve 270 = .ok (.invokevirtual 125, 3) := by decide +kernel
theorem dX4_solve_273 : decode cX4_solve 273 = .ok (.iinc 6 1, 3) := by decide +kernel
theorem dX4_solve_276 : decode cX4_solve 276 = .ok (.goto (-43), 3) := by decide +kernel
theorem dX4_solve_279 : decode cX4_solve 279 = .ok (.iinc 4 1, 3) := by decide +kernel
theorem dX4_solve_282 : decode cX4_solve 282 = .ok (.goto (-175), 3) := by decide +kernel
theorem dX4_solve_285 : decode cX4_solve 285 = .ok (.iconst 0, 1) := by decide +kernel
theorem dX4_solve_286 : decode cX4_solve 286 = .ok (.istore 4, 2) := by decide +kernel
theorem dX4_solve_288 : decode cX4_solve 288 = .ok (.iconst 0, 1) := by decide +kernel
theorem dX4_solve_289 : decode cX4_solve 289 = .ok (.istore 5, 2) := by decide +kernel
theorem dX4_solve_291 : decode cX4_solve 291 = .ok (.iload 5, 2) := by decide +kernel
theorem dX4_solve_293 : decode cX4_solve 293 = .ok (.bipush 9, 2) := by decide +kernel
theorem dX4_solve_295 : decode cX4_solve 295 = .ok (.if_icmp .ge 125, 3) := by decide +kernel
theorem dX4_solve_298 : decode cX4_solve 298 = .ok (.aload_n 0, 1) := by decide +kernel
theorem dX4_solve_299 : decode cX4_solve 299 = .ok (.getfield 41, 3) := by decide +kernel
theorem dX4_solve_302 : decode cX4_solve 302 = .ok (.iload 5, 2) := by decide +kernel
theorem dX4_solve_304 : decode cX4_solve 304 = .ok (.lconst 0, 1) := by decide +kernel
theorem dX4_solve_305 : decode cX4_solve 305 = .ok (.lastore, 1) := by decide +kernel
theorem dX4_solve_306 : decode cX4_solve 306 = .ok (.aload_n 0, 1) := by decide +kernel
theorem dX4_solve_307 : decode cX4_solve 307 = .ok (.getfield 44, 3) := by decide +kernel
theorem dX4_solve_310 : decode cX4_solve 310 = .ok (.iload 5, 2) := by decide +kernel
theorem dX4_solve_312 : decode cX4_solve 312 = .ok (.lconst 1, 1) := by decide +kernel
theorem dX4_solve_313 : decode cX4_solve 313 = .ok (.lastore, 1) := by decide +kernel
theorem dX4_solve_314 : decode cX4_solve 314 = .ok (.iload 5, 2) := by decide +kernel
theorem dX4_solve_316 : decode cX4_solve 316 = .ok (.iload_n 2, 1) := by decide +kernel
theorem dX4_solve_317 : decode cX4_solve 317 = .ok (.if_icmp .eq 97, 3) := by decide +kernel
theorem dX4_solve_320 : decode cX4_solve 320 = .ok (.iload 5, 2) := by decide +kernel
theorem dX4_solve_322 : decode cX4_solve 322 = .ok (.iload_n 3, 1) := by decide +kernel
theorem dX4_solve_323 : decode cX4_solve 323 = .ok (.if_icmp .ne 6, 3) := by decide +kernel
theorem dX4_solve_326 : decode cX4_solve 326 = .ok (.goto 88, 3) := by decide +kernel
theorem dX4_solve_329 : decode cX4_solve 329 = .ok (.aload_n 0, 1) := by decide +kernel
theorem dX4_solve_330 : decode cX4_solve 330 = .ok (.getfield 37, 3) := by decide +kernel
theorem dX4_solve_333 : decode cX4_solve 333 = .ok (.bipush 8, 2) := by decide +kernel
theorem dX4_solve_335 : decode cX4_solve 335 = .ok (.iload 4, 2) := by decide +kernel
theorem dX4_solve_337 : decode cX4_solve 337 = .ok (.imul, 1) := by decide +kernel
theorem dX4_solve_338 : decode cX4_solve 338 = .ok (.bipush 7, 2) := by decide +kernel
theorem dX4_solve_340 : decode cX4_solve 340 = .ok (.iadd, 1) := by decide +kernel
theorem dX4_solve_341 : decode cX4_solve 341 = .ok (.laload, 1) := by decide +kernel
theorem dX4_solve_342 : decode cX4_solve 342 = .ok (.lstore 6, 2) := by decide +kernel
theorem dX4_solve_344 : decode cX4_solve 344 = .ok (.aload_n 0, 1) := by decide +kernel
theorem dX4_solve_345 : decode cX4_solve 345 = .ok (.getfield 37, 3) := by decide +kernel
