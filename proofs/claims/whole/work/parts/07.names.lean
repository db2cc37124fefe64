theorem dX3_keepAboveNought_29 : decode cX3_keepAboveNought 29 = .ok (.iaload, 1) := by decide +kernel
theorem dX3_keepAboveNought_30 : decode cX3_keepAboveNought 30 = .ok (.iastore, 1) := by decide +kernel
theorem dX3_keepAboveNought_31 : decode cX3_keepAboveNought 31 = .ok (.iinc 1 1, 3) := by decide +kernel
theorem dX3_keepAboveNought_34 : decode cX3_keepAboveNought 34 = .ok (.iinc 2 1, 3) := by decide +kernel
theorem dX3_keepAboveNought_37 : decode cX3_keepAboveNought 37 = .ok (.goto (-33), 3) := by decide +kernel
theorem dX3_keepAboveNought_40 : decode cX3_keepAboveNought 40 = .ok (.iload_n 1, 1) := by decide +kernel
theorem dX3_keepAboveNought_41 : decode cX3_keepAboveNought 41 = .ok (.ireturn, 1) := by decide +kernel
set_option maxRecDepth 20000 in
theorem ggX3_leastMean_X3_moveLeastToEnd : GoodIn wsX3_leastMean wsX3_moveLeastToEnd := goodIn_r _ [6, 1, 7, 8, 9, 10, 11, 12, 13, 14] (by decide +kernel) (by decide +kernel)
set_option maxRecDepth 20000 in
theorem gX3_leastMean_X3_moveLeastToEnd : GoodIn wsX3_leastMean (wsV RX3 179 RX3 yX3_moveLeastToEnd wsX3_moveLeastToEnd) := goodIn_app (goodIn_of _ (by decide +kernel)) ggX3_leastMean_X3_moveLeastToEnd
theorem dX3_leastMean_0 : decode cX3_leastMean 0 = .ok (.iconst 0, 1) := by decide +kernel
theorem dX3_leastMean_1 : decode cX3_leastMean 1 = .ok (.istore_n 2, 1) := by decide +kernel
theorem dX3_leastMean_2 : decode cX3_leastMean 2 = .ok (.iload_n 1, 1) := by decide +kernel
theorem dX3_leastMean_3 : decode cX3_leastMean 3 = .ok (.istore_n 3, 1) := by decide +kernel
theorem dX3_leastMean_4 : decode cX3_leastMean 4 = .ok (.iload_n 3, 1) := by decide +kernel
theorem dX3_leastMean_5 : decode cX3_leastMean 5 = .ok (.iconst 1, 1) := by decide +kernel
theorem dX3_leastMean_6 : decode cX3_leastMean 6 = .ok (.if_icmp .le 51, 3) := by decide +kernel
theorem dX3_leastMean_9 : decode cX3_leastMean 9 = .ok (.aload_n 0, 1) := by decide +kernel
theorem dX3_leastMean_10 : decode cX3_leastMean 10 = .ok (.iload_n 3, 1) := by decide +kernel
theorem dX3_leastMean_11 : decode cX3_leastMean 11 = .ok (.invokevirtual 179, 3) := by decide +kernel
theorem dX3_leastMean_14 : decode cX3_leastMean 14 = .ok (.aload_n 0, 1) := by decide +kernel
theorem dX3_leastMean_15 : decode cX3_leastMean 15 = .ok (.iload_n 3, 1) := by decide +kernel
theorem dX3_leastMean_16 : decode cX3_leastMean 16 = .ok (.iconst 1, 1) := by decide +kernel
theorem dX3_leastMean_17 : decode cX3_leastMean 17 = .ok (.isub, 1) := by decide +kernel
theorem dX3_leastMean_18 : decode cX3_leastMean 18 = .ok (.invokevirtual 179, 3) := by decide +kernel
theorem dX3_leastMean_21 : decode cX3_leastMean 21 = .ok (.aload_n 0, 1) := by decide +kernel
theorem dX3_leastMean_22 : decode cX3_leastMean 22 = .ok (.getfield 27, 3) := by decide +kernel
theorem dX3_leastMean_25 : decode cX3_leastMean 25 = .ok (.iload_n 3, 1) := by decide +kernel
theorem dX3_leastMean_26 : decode cX3_leastMean 26 = .ok (.iconst 2, 1) := by decide +kernel
theorem dX3_leastMean_27 : decode cX3_leastMean 27 = .ok (.isub, 1) := by decide +kernel
theorem dX3_leastMean_28 : decode cX3_leastMean 28 = .ok (.dup2, 1) := by decide +kernel
theorem dX3_leastMean_29 : decode cX3_leastMean 29 = .ok (.iaload, 1) := by decide +kernel
theorem dX3_leastMean_30 : decode cX3_leastMean 30 = .ok (.aload_n 0, 1) := by decide +kernel
theorem dX3_leastMean_31 : decode cX3_leastMean 31 = .ok (.getfield 27, 3) := by decide +kernel
theorem dX3_leastMean_34 : decode cX3_leastMean 34 = .ok (.iload_n 3, 1) := by decide +kernel
theorem dX3_leastMean_35 : decode cX3_leastMean 35 = .ok (.iconst 1, 1) := by decide +kernel
theorem dX3_leastMean_36 : decode cX3_leastMean 36 = .ok (.isub, 1) := by decide +kernel
theorem dX3_leastMean_37 : decode cX3_leastMean 37 = .ok (.iaload, 1) := by decide +kernel
theorem dX3_leastMean_38 : decode cX3_leastMean 38 = .ok (.iadd, 1) := by decide +kernel
theorem dX3_leastMean_39 : decode cX3_leastMean 39 = .ok (.iastore, 1) := by decide +kernel
theorem dX3_leastMean_40 : decode cX3_leastMean 40 = .ok (.iload_n 2, 1) := by decide +kernel
theorem dX3_leastMean_41 : decode cX3_leastMean 41 = .ok (.aload_n 0, 1) := by decide +kernel
theorem dX3_leastMean_42 : decode cX3_leastMean 42 = .ok (.getfield 27, 3) := by decide +kernel
theorem dX3_leastMean_45 : decode cX3_leastMean 45 = .ok (.iload_n 3, 1) := by decide +kernel
theorem dX3_leastMean_46 : decode cX3_leastMean 46 = .ok (.iconst 2, 1) := by decide +kernel
theorem dX3_leastMean_47 : decode cX3_leastMean 47 = .ok (.isub, 1) := by decide +kernel
theorem dX3_leastMean_48 : decode cX3_leastMean 48 = .ok (.iaload, 1) := by decide +kernel
theorem dX3_leastMean_49 : decode cX3_leastMean 49 = .ok (.iadd, 1) := by decide +kernel
theorem dX3_leastMean_50 : decode cX3_leastMean 50 = .ok (.istore_n 2, 1) := by decide +kernel
theorem dX3_leastMean_51 : decode cX3_leastMean 51 = .ok (.iinc 3 (-1), 3) := by decide +kernel
theorem dX3_leastMean_54 : decode cX3_leastMean 54 = .ok (.goto (-50), 3) := by decide +kernel
theorem dX3_leastMean_57 : decode cX3_leastMean 57 = .ok (.iload_n 2, 1) := by decide +kernel
theorem dX3_leastMean_58 : decode cX3_leastMean 58 = .ok (.ireturn, 1) := by decide +kernel
theorem dX3_moveLeastToEnd_0 : decode cX3_moveLeastToEnd 0 = .ok (.iconst 0, 1) := by decide +kernel
theorem dX3_moveLeastToEnd_1 : decode cX3_moveLeastToEnd 1 = .ok (.istore_n 2, 1) := by decide +kernel
theorem dX3_moveLeastToEnd_2 : decode cX3_moveLeastToEnd 2 = .ok (.iconst 1, 1) := by decide +kernel
theorem dX3_moveLeastToEnd_3 : decode cX3_moveLeastToEnd 3 = .ok (.istore_n 3, 1) := by decide +kernel
theorem dX3_moveLeastToEnd_4 : decode cX3_moveLeastToEnd 4 = .ok (.iload_n 3, 1) := by decide +kernel
theorem dX3_moveLeastToEnd_5 : decode cX3_moveLeastToEnd 5 = .ok (.iload_n 1, 1) := by decide +kernel
theorem dX3_moveLeastToEnd_6 : decode cX3_moveLeastToEnd 6 = .ok (.if_icmp .ge 26, 3) := by decide +kernel
theorem dX3_moveLeastToEnd_9 : decode cX3_moveLeastToEnd 9 = .ok (.aload_n 0, 1) := by decide +kernel
theorem dX3_moveLeastToEnd_10 : decode cX3_moveLeastToEnd 10 = .ok (.getfield 27, 3) := by decide +kernel
theorem dX3_moveLeastToEnd_13 : decode cX3_moveLeastToEnd 13 = .ok (.iload_n 3, 1) := by decide +kernel
theorem dX3_moveLeastToEnd_14 : decode cX3_moveLeastToEnd 14 = .ok (.iaload, 1) := by decide +kernel
theorem dX3_moveLeastToEnd_15 : decode cX3_moveLeastToEnd 15 = .ok (.aload_n 0, 1) := by decide +kernel
theorem dX3_moveLeastToEnd_16 : decode cX3_moveLeastToEnd 16 = .ok (.getfield 27, 3) := by decide +kernel
theorem dX3_moveLeastToEnd_19 : decode cX3_moveLeastToEnd 19 = .ok (.iload_n 2, 1) := by decide +kernel
theorem dX3_moveLeastToEnd_20 : decode cX3_moveLeastToEnd 20 = .ok (.iaload, 1) := by decide +kernel
theorem dX3_moveLeastToEnd_21 : decode cX3_moveLeastToEnd 21 = .ok (.if_icmp .ge 5, 3) := by decide +kernel
theorem dX3_moveLeastToEnd_24 : decode cX3_moveLeastToEnd 24 = .ok (.iload_n 3, 1) := by decide +kernel
theorem dX3_moveLeastToEnd_25 : decode cX3_moveLeastToEnd 25 = .ok (.istore_n 2, 1) := by decide +kernel
theorem dX3_moveLeastToEnd_26 : decode cX3_moveLeastToEnd 26 = .ok (.iinc 3 1, 3) := by decide +kernel
theorem dX3_moveLeastToEnd_29 : decode cX3_moveLeastToEnd 29 = .ok (.goto (-25), 3) := by decide +kernel
theorem dX3_moveLeastToEnd_32 : decode cX3_moveLeastToEnd 32 = .ok (.aload_n 0, 1) := by decide +kernel
theorem dX3_moveLeastToEnd_33 : decode cX3_moveLeastToEnd 33 = .ok (.getfield 27, 3) := by decide +kernel
theorem dX3_moveLeastToEnd_36 : decode cX3_moveLeastToEnd 36 = .ok (.iload_n 2, 1) := by decide +kernel
theorem dX3_moveLeastToEnd_37 : decode cX3_moveLeastToEnd 37 = .ok (.iaload, 1) := by decide +kernel
theorem dX3_moveLeastToEnd_38 : decode cX3_moveLeastToEnd 38 = .ok (.istore_n 3, 1) := by decide +kernel
theorem dX3_moveLeastToEnd_39 : decode cX3_moveLeastToEnd 39 = .ok (.aload_n 0, 1) := by decide +kernel
theorem dX3_moveLeastToEnd_40 : decode cX3_moveLeastToEnd 40 = .ok (.getfield 27, 3) := by decide +kernel
theorem dX3_moveLeastToEnd_43 : decode cX3_moveLeastToEnd 43 = .ok (.iload_n 2, 1) := by decide +kernel
theorem dX3_moveLeastToEnd_44 : decode cX3_moveLeastToEnd 44 = .ok (.aload_n 0, 1) := by decide +kernel
theorem dX3_moveLeastToEnd_45 : decode cX3_moveLeastToEnd 45 = .ok (.getfield 27, 3) := by decide +kernel
theorem dX3_moveLeastToEnd_48 : decode cX3_moveLeastToEnd 48 = .ok (.iload_n 1, 1) := by decide +kernel
theorem dX3_moveLeastToEnd_49 : decode cX3_moveLeastToEnd 49 = .ok (.iconst 1, 1) := by decide +kernel
theorem dX3_moveLeastToEnd_50 : decode cX3_moveLeastToEnd 50 = .ok (.isub, 1) := by decide +kernel
theorem dX3_moveLeastToEnd_51 : decode cX3_moveLeastToEnd 51 = .ok (.iaload, 1) := by decide +kernel
theorem dX3_moveLeastToEnd_52 : decode cX3_moveLeastToEnd 52 = .ok (.iastore, 1) := by decide +kernel
theorem dX3_moveLeastToEnd_53 : decode cX3_moveLeastToEnd 53 = .ok (.aload_n 0, 1) := by decide +kernel
theorem dX3_moveLeastToEnd_54 : decode cX3_moveLeastToEnd 54 = .ok (.getfield 27, 3) := by decide +kernel
theorem dX3_moveLeastToEnd_57 : decode cX3_moveLeastToEnd 57 = .ok (.iload_n 1, 1) := by decide +kernel
theorem dX3_moveLeastToEnd_58 : decode cX3_moveLeastToEnd 58 = .ok (.iconst 1, 1) := by decide +kernel
theorem dX3_moveLeastToEnd_59 : decode cX3_moveLeastToEnd 59 = .ok (.isub, 1) := by decide +kernel
theorem dX3_moveLeastToEnd_60 : decode cX3_moveLeastToEnd 60 = .ok (.iload_n 3, 1) := by decide +kernel
theorem dX3_moveLeastToEnd_61 : decode cX3_moveLeastToEnd 61 = .ok (.iastore, 1) := by decide +kernel
theorem dX3_moveLeastToEnd_62 : decode cX3_moveLeastToEnd 62 = .ok (.return_, 1) := by decide +kernel
theorem dX4_init_0 : decode cX4_init 0 = .ok (.aload_n 0, 1) := by decide +kernel
theorem dX4_init_1 : decode cX4_init 1 = .ok (.invokespecial 1, 3) := by decide +kernel
theorem dX4_init_4 : decode cX4_init 4 = .ok (.aload_n 0, 1) := by decide +kernel
theorem dX4_init_5 : decode cX4_init 5 = .ok (.bipush 12, 2) := by decide +kernel
theorem dX4_init_7 : decode cX4_init 7 = .ok (.newarray .int, 2) := by decide +kernel
theorem dX4_init_9 : decode cX4_init 9 = .ok (.putfield 7, 3) := by decide +kernel
theorem dX4_init_12 : decode cX4_init 12 = .ok (.aload_n 0, 1) := by decide +kernel
theorem dX4_init_13 : decode cX4_init 13 = .ok (.bipush 108, 2) := by decide +kernel
theorem dX4_init_15 : decode cX4_init 15 = .ok (.newarray .int, 2) := by decide +kernel
theorem dX4_init_17 : decode cX4_init 17 = .ok (.putfield 13, 3) := by decide +kernel
theorem dX4_init_20 : decode cX4_init 20 = .ok (.aload_n 0, 1) := by decide +kernel
theorem dX4_init_21 : decode cX4_init 21 = .ok (.iconst 4, 1) := by decide +kernel
theorem dX4_init_22 : decode cX4_init 22 = .ok (.newarray .int, 2) := by decide +kernel
theorem dX4_init_24 : decode cX4_init 24 = .ok (.putfield 16, 3) := by decide +kernel
theorem dX4_init_27 : decode cX4_init 27 = .ok (.aload_n 0, 1) := by decide +kernel
theorem dX4_init_28 : decode cX4_init 28 = .ok (.bipush 80, 2) := by decide +kernel
theorem dX4_init_30 : decode cX4_init 30 = .ok (.newarray .int, 2) := by decide +kernel
theorem dX4_init_32 : decode cX4_init 32 = .ok (.putfield 19, 3) := by decide +kernel
theorem dX4_init_35 : decode cX4_init 35 = .ok (.aload_n 0, 1) := by decide +kernel
theorem dX4_init_36 : decode cX4_init 36 = .ok (.bipush 6, 2) := by decide +kernel
theorem dX4_init_38 : decode cX4_init 38 = .ok (.newarray .int, 2) := by decide +kernel
theorem dX4_init_40 : decode cX4_init 40 = .ok (.dup, 1) := by decide +kernel
theorem dX4_init_41 : decode cX4_init 41 = .ok (.iconst 0, 1) := by decide +kernel
theorem dX4_init_42 : decode cX4_init 42 = .ok (.iconst 2, 1) := by decide +kernel
theorem dX4_init_43 : decode cX4_init 43 = .ok (.iastore, 1) := by decide +kernel
theorem dX4_init_44 : decode cX4_init 44 = .ok (.dup, 1) := by decide +kernel
theorem dX4_init_45 : decode cX4_init 45 = .ok (.iconst 1, 1) := by decide +kernel
theorem dX4_init_46 : decode cX4_init 46 = .ok (.iconst 3, 1) := by decide +kernel
theorem dX4_init_47 : decode cX4_init 47 = .ok (.iastore, 1) := by decide +kernel
theorem dX4_init_48 : decode cX4_init 48 = .ok (.dup, 1) := by decide +kernel
theorem dX4_init_49 : decode cX4_init 49 = .ok (.iconst 2, 1) := by decide +kernel
theorem dX4_init_50 : decode cX4_init 50 = .ok (.iconst 5, 1) := by decide +kernel
theorem dX4_init_51 : decode cX4_init 51 = .ok (.iastore, 1) := by decide +kernel
theorem dX4_init_52 : decode cX4_init 52 = .ok (.dup, 1) := by decide +kernel
theorem dX4_init_53 : decode cX4_init 53 = .ok (.iconst 3, 1) := by decide +kernel
theorem dX4_init_54 : decode cX4_init 54 = .ok (.bipush 7, 2) := by decide +kernel
theorem dX4_init_56 : decode cX4_init 56 = .ok (.iastore, 1) := by decide +kernel
theorem dX4_init_57 : decode cX4_init 57 = .ok (.dup, 1) := by decide +kernel
theorem dX4_init_58 : decode cX4_init 58 = .ok (.iconst 4, 1) := by decide +kernel
theorem dX4_init_59 : decode cX4_init 59 = .ok (.bipush 11, 2) := by decide +kernel
theorem dX4_init_61 : decode cX4_init 61 = .ok (.iastore, 1) := by decide +kernel
theorem dX4_init_62 : decode cX4_init 62 = .ok (.dup, 1) := by decide +kernel
theorem dX4_init_63 : decode cX4_init 63 = .ok (.iconst 5, 1) := by decide +kernel
theorem dX4_init_64 : decode cX4_init 64 = .ok (.bipush 13, 2) := by decide +kernel
theorem dX4_init_66 : decode cX4_init 66 = .ok (.iastore, 1) := by decide +kernel
theorem dX4_init_67 : decode cX4_init 67 = .ok (.putfield 22, 3) := by decide +kernel
theorem dX4_init_70 : decode cX4_init 70 = .ok (.aload_n 0, 1) := by decide +kernel
theorem dX4_init_71 : decode cX4_init 71 = .ok (.bipush 6, 2) := by decide +kernel
theorem dX4_init_73 : decode cX4_init 73 = .ok (.newarray .int, 2) := by decide +kernel
theorem dX4_init_75 : decode cX4_init 75 = .ok (.putfield 25, 3) := by decide +kernel
theorem dX4_init_78 : decode cX4_init 78 = .ok (.aload_n 0, 1) := by decide +kernel
theorem dX4_init_79 : decode cX4_init 79 = .ok (.bipush 27, 2) := by decide +kernel
theorem dX4_init_81 : decode cX4_init 81 = .ok (.newarray .int, 2) := by decide +kernel
theorem dX4_init_83 : decode cX4_init 83 = .ok (.putfield 28, 3) := by decide +kernel
theorem dX4_init_86 : decode cX4_init 86 = .ok (.aload_n 0, 1) := by decide +kernel
theorem dX4_init_87 : decode cX4_init 87 = .ok (.sipush 4000, 3) := by decide +kernel
theorem dX4_init_90 : decode cX4_init 90 = .ok (.newarray .int, 2) := by decide +kernel
theorem dX4_init_92 : decode cX4_init 92 = .ok (.putfield 31, 3) := by decide +kernel
theorem dX4_init_95 : decode cX4_init 95 = .ok (.aload_n 0, 1) := by decide +kernel
theorem dX4_init_96 : decode cX4_init 96 = .ok (.sipush 4000, 3) := by decide +kernel
theorem dX4_init_99 : decode cX4_init 99 = .ok (.newarray .int, 2) := by decide +kernel
theorem dX4_init_101 : decode cX4_init 101 = .ok (.putfield 34, 3) := by decide +kernel
theorem dX4_init_104 : decode cX4_init 104 = .ok (.aload_n 0, 1) := by decide +kernel
theorem dX4_init_105 : decode cX4_init 105 = .ok (.bipush 56, 2) := by decide +kernel
theorem dX4_init_107 : decode cX4_init 107 = .ok (.newarray .long, 2) := by decide +kernel
theorem dX4_init_109 : decode cX4_init 109 = .ok (.putfield 37, 3) := by decide +kernel
theorem dX4_init_112 : decode cX4_init 112 = .ok (.aload_n 0, 1) := by decide +kernel
theorem dX4_init_113 : decode cX4_init 113 = .ok (.bipush 9, 2) := by decide +kernel
theorem dX4_init_115 : decode cX4_init 115 = .ok (.newarray .long, 2) := by decide +kernel
theorem dX4_init_117 : decode cX4_init 117 = .ok (.putfield 41, 3) := by decide +kernel
theorem dX4_init_120 : decode cX4_init 120 = .ok (.aload_n 0, 1) := by decide +kernel
theorem dX4_init_121 : decode cX4_init 121 = .ok (.bipush 9, 2) := by decide +kernel
theorem dX4_init_123 : decode cX4_init 123 = .ok (.newarray .long, 2) := by decide +kernel
theorem dX4_init_125 : decode cX4_init 125 = .ok (.putfield 44, 3) := by decide +kernel
theorem dX4_init_128 : decode cX4_init 128 = .ok (.aload_n 0, 1) := by decide +kernel
theorem dX4_init_129 : decode cX4_init 129 = .ok (.bipush 18, 2) := by decide +kernel
theorem dX4_init_131 : decode cX4_init 131 = .ok (.newarray .long, 2) := by decide +kernel
theorem dX4_init_133 : decode cX4_init 133 = .ok (.putfield 47, 3) := by decide +kernel
theorem dX4_init_136 : decode cX4_init 136 = .ok (.return_, 1) := by decide +kernel
theorem dX4_isIn_0 : decode cX4_isIn 0 = .ok (.iload_n 0, 1) := by decide +kernel
theorem dX4_isIn_1 : decode cX4_isIn 1 = .ok (.iload_n 1, 1) := by decide +kernel
theorem dX4_isIn_2 : decode cX4_isIn 2 = .ok (.if_icmp .lt 12, 3) := by decide +kernel
theorem dX4_isIn_5 : decode cX4_isIn 5 = .ok (.iload_n 0, 1) := by decide +kernel
theorem dX4_isIn_6 : decode cX4_isIn 6 = .ok (.iload_n 2, 1) := by decide +kernel
theorem dX4_isIn_7 : decode cX4_isIn 7 = .ok (.if_icmp .gt 7, 3) := by decide +kernel
theorem dX4_isIn_10 : decode cX4_isIn 10 = .ok (.iconst 1, 1) := by decide +kernel
theorem dX4_isIn_11 : decode cX4_isIn 11 = .ok (.goto 4, 3) := by decide +kernel
theorem dX4_isIn_14 : decode cX4_isIn 14 = .ok (.iconst 0, 1) := by decide +kernel
theorem dX4_isIn_15 : decode cX4_isIn 15 = .ok (.ireturn, 1) := by decide +kernel
set_option maxRecDepth 20000 in
theorem ggX4_isPlace_X4_isIn : GoodIn wsX4_isPlace wsX4_isIn := goodIn_r _ [4] (by decide +kernel) (by decide +kernel)
set_option maxRecDepth 20000 in
theorem gX4_isPlace_X4_isIn : GoodIn wsX4_isPlace (va_wsS RX4 50 yX4_isIn wsX4_isIn) := goodIn_app (goodIn_of _ (by decide +kernel)) ggX4_isPlace_X4_isIn
theorem dX4_isPlace_0 : decode cX4_isPlace 0 = .ok (.iload_n 0, 1) := by decide +kernel
theorem dX4_isPlace_1 : decode cX4_isPlace 1 = .ok (.iconst 0, 1) := by decide +kernel
theorem dX4_isPlace_2 : decode cX4_isPlace 2 = .ok (.iconst 3, 1) := by decide +kernel
theorem dX4_isPlace_3 : decode cX4_isPlace 3 = .ok (.invokestatic 50, 3) := by decide +kernel
theorem dX4_isPlace_6 : decode cX4_isPlace 6 = .ok (.ireturn, 1) := by decide +kernel
set_option maxRecDepth 20000 in
theorem ggX4_isMade_X4_isPlace : GoodIn wsX4_isMade wsX4_isPlace := goodIn_r _ [5, 6, 7, 4, 8] (by decide +kernel) (by decide +kernel)
set_option maxRecDepth 20000 in
theorem gX4_isMade_X4_isPlace : GoodIn wsX4_isMade (va_wsS RX4 54 yX4_isPlace wsX4_isPlace) := goodIn_app (goodIn_of _ (by decide +kernel)) ggX4_isMade_X4_isPlace
theorem dX4_isMade_0 : decode cX4_isMade 0 = .ok (.iload_n 1, 1) := by decide +kernel
theorem dX4_isMade_1 : decode cX4_isMade 1 = .ok (.invokestatic 54, 3) := by decide +kernel
theorem dX4_isMade_4 : decode cX4_isMade 4 = .ok (.ifCond .eq 16, 3) := by decide +kernel
theorem dX4_isMade_7 : decode cX4_isMade 7 = .ok (.aload_n 0, 1) := by decide +kernel
theorem dX4_isMade_8 : decode cX4_isMade 8 = .ok (.getfield 16, 3) := by decide +kernel
theorem dX4_isMade_11 : decode cX4_isMade 11 = .ok (.iload_n 1, 1) := by decide +kernel
theorem dX4_isMade_12 : decode cX4_isMade 12 = .ok (.iaload, 1) := by decide +kernel
theorem dX4_isMade_13 : decode cX4_isMade 13 = .ok (.ifCond .le 7, 3) := by decide +kernel
theorem dX4_isMade_16 : decode cX4_isMade 16 = .ok (.iconst 1, 1) := by decide +kernel
theorem dX4_isMade_17 : decode cX4_isMade 17 = .ok (.goto 4, 3) := by decide +kernel
theorem dX4_isMade_20 : decode cX4_isMade 20 = .ok (.iconst 0, 1) := by decide +kernel
theorem dX4_isMade_21 : decode cX4_isMade 21 = .ok (.ireturn, 1) := by decide +kernel
set_option maxRecDepth 20000 in
theorem ggX4_isLaw_X4_isIn : GoodIn wsX4_isLaw wsX4_isIn := goodIn_r _ [4] (by decide +kernel) (by decide +kernel)
set_option maxRecDepth 20000 in
theorem gX4_isLaw_X4_isIn : GoodIn wsX4_isLaw (va_wsS RX4 50 yX4_isIn wsX4_isIn) := goodIn_app (goodIn_of _ (by decide +kernel)) ggX4_isLaw_X4_isIn
theorem dX4_isLaw_0 : decode cX4_isLaw 0 = .ok (.iload_n 0, 1) := by decide +kernel
theorem dX4_isLaw_1 : decode cX4_isLaw 1 = .ok (.iconst 0, 1) := by decide +kernel
theorem dX4_isLaw_2 : decode cX4_isLaw 2 = .ok (.bipush 9, 2) := by decide +kernel
theorem dX4_isLaw_4 : decode cX4_isLaw 4 = .ok (.invokestatic 50, 3) := by decide +kernel
theorem dX4_isLaw_7 : decode cX4_isLaw 7 = .ok (.ireturn, 1) := by decide +kernel
set_option maxRecDepth 20000 in
theorem ggX4_world_X4_isPlace : GoodIn wsX4_world wsX4_isPlace := goodIn_r _ [7, 8, 9, 6, 10] (by decide +kernel) (by decide +kernel)
set_option maxRecDepth 20000 in
theorem gX4_world_X4_isPlace : GoodIn wsX4_world (va_wsS RX4 54 yX4_isPlace wsX4_isPlace) := goodIn_app (goodIn_of _ (by decide +kernel)) ggX4_world_X4_isPlace
set_option maxRecDepth 20000 in
theorem ggX4_world_X4_isIn : GoodIn wsX4_world wsX4_isIn := goodIn_r _ [10] (by decide +kernel) (by decide +kernel)
set_option maxRecDepth 20000 in
theorem gX4_world_X4_isIn : GoodIn wsX4_world (va_wsS RX4 50 yX4_isIn wsX4_isIn) := goodIn_app (goodIn_of _ (by decide +kernel)) ggX4_world_X4_isIn
theorem dX4_world_0 : decode cX4_world 0 = .ok (.iload_n 1, 1) := by decide +kernel
theorem dX4_world_1 : decode cX4_world 1 = .ok (.invokestatic 54, 3) := by decide +kernel
theorem dX4_world_4 : decode cX4_world 4 = .ok (.ifCond .eq 31, 3) := by decide +kernel
theorem dX4_world_7 : decode cX4_world 7 = .ok (.iload_n 2, 1) := by decide +kernel
theorem dX4_world_8 : decode cX4_world 8 = .ok (.iconst 1, 1) := by decide +kernel
theorem dX4_world_9 : decode cX4_world 9 = .ok (.iconst 3, 1) := by decide +kernel
theorem dX4_world_10 : decode cX4_world 10 = .ok (.invokestatic 50, 3) := by decide +kernel
theorem dX4_world_13 : decode cX4_world 13 = .ok (.ifCond .eq 22, 3) := by decide +kernel
theorem dX4_world_16 : decode cX4_world 16 = .ok (.iload_n 3, 1) := by decide +kernel
theorem dX4_world_17 : decode cX4_world 17 = .ok (.iconst 1, 1) := by decide +kernel
theorem dX4_world_18 : decode cX4_world 18 = .ok (.iconst 3, 1) := by decide +kernel
theorem dX4_world_19 : decode cX4_world 19 = .ok (.invokestatic 50, 3) := by decide +kernel
theorem dX4_world_22 : decode cX4_world 22 = .ok (.ifCond .eq 13, 3) := by decide +kernel
theorem dX4_world_25 : decode cX4_world 25 = .ok (.iload 4, 2) := by decide +kernel
theorem dX4_world_27 : decode cX4_world 27 = .ok (.iconst 1, 1) := by decide +kernel
theorem dX4_world_28 : decode cX4_world 28 = .ok (.iconst 3, 1) := by decide +kernel
theorem dX4_world_29 : decode cX4_world 29 = .ok (.invokestatic 50, 3) := by decide +kernel
theorem dX4_world_32 : decode cX4_world 32 = .ok (.ifCond .ne 5, 3) := by decide +kernel
theorem dX4_world_35 : decode cX4_world 35 = .ok (.iconst 0, 1) := by decide +kernel
theorem dX4_world_36 : decode cX4_world 36 = .ok (.ireturn, 1) := by decide +kernel
theorem dX4_world_37 : decode cX4_world 37 = .ok (.aload_n 0, 1) := by decide +kernel
theorem dX4_world_38 : decode cX4_world 38 = .ok (.getfield 7, 3) := by decide +kernel
theorem dX4_world_41 : decode cX4_world 41 = .ok (.iconst 3, 1) := by decide +kernel
theorem dX4_world_42 : decode cX4_world 42 = .ok (.iload_n 1, 1) := by decide +kernel
theorem dX4_world_43 : decode cX4_world 43 = .ok (.imul, 1) := by decide +kernel
theorem dX4_world_44 : decode cX4_world 44 = .ok (.iload_n 2, 1) := by decide +kernel
theorem dX4_world_45 : decode cX4_world 45 = .ok (.iastore, 1) := by decide +kernel
theorem dX4_world_46 : decode cX4_world 46 = .ok (.aload_n 0, 1) := by decide +kernel
theorem dX4_world_47 : decode cX4_world 47 = .ok (.getfield 7, 3) := by decide +kernel
theorem dX4_world_50 : decode cX4_world 50 = .ok (.iconst 3, 1) := by decide +kernel
theorem dX4_world_51 : decode cX4_world 51 = .ok (.iload_n 1, 1) := by decide +kernel
theorem dX4_world_52 : decode cX4_world 52 = .ok (.imul, 1) := by decide +kernel
theorem dX4_world_53 : decode cX4_world 53 = .ok (.iconst 1, 1) := by decide +kernel
theorem dX4_world_54 : decode cX4_world 54 = .ok (.iadd, 1) := by decide +kernel
theorem dX4_world_55 : decode cX4_world 55 = .ok (.iload_n 3, 1) := by decide +kernel
theorem dX4_world_56 : decode cX4_world 56 = .ok (.iastore, 1) := by decide +kernel
theorem dX4_world_57 : decode cX4_world 57 = .ok (.aload_n 0, 1) := by decide +kernel
theorem dX4_world_58 : decode cX4_world 58 = .ok (.getfield 7, 3) := by decide +kernel
theorem dX4_world_61 : decode cX4_world 61 = .ok (.iconst 3, 1) := by decide +kernel
theorem dX4_world_62 : decode cX4_world 62 = .ok (.iload_n 1, 1) := by decide +kernel
theorem dX4_world_63 : decode cX4_world 63 = .ok (.imul, 1) := by decide +kernel
theorem dX4_world_64 : decode cX4_world 64 = .ok (.iconst 2, 1) := by decide +kernel
theorem dX4_world_65 : decode cX4_world 65 = .ok (.iadd, 1) := by decide +kernel
theorem dX4_world_66 : decode cX4_world 66 = .ok (.iload 4, 2) := by decide +kernel
theorem dX4_world_68 : decode cX4_world 68 = .ok (.iastore, 1) := by decide +kernel
theorem dX4_world_69 : decode cX4_world 69 = .ok (.iconst 0, 1) := by decide +kernel
theorem dX4_world_70 : decode cX4_world 70 = .ok (.istore 5, 2) := by decide +kernel
theorem dX4_world_72 : decode cX4_world 72 = .ok (.iload 5, 2) := by decide +kernel
theorem dX4_world_74 : decode cX4_world 74 = .ok (.bipush 27, 2) := by decide +kernel
theorem dX4_world_76 : decode cX4_world 76 = .ok (.if_icmp .ge 22, 3) := by decide +kernel
theorem dX4_world_79 : decode cX4_world 79 = .ok (.aload_n 0, 1) := by decide +kernel
theorem dX4_world_80 : decode cX4_world 80 = .ok (.getfield 13, 3) := by decide +kernel
theorem dX4_world_83 : decode cX4_world 83 = .ok (.bipush 27, 2) := by decide +kernel
theorem dX4_world_85 : decode cX4_world 85 = .ok (.iload_n 1, 1) := by decide +kernel
theorem dX4_world_86 : decode cX4_world 86 = .ok (.imul, 1) := by decide +kernel
theorem dX4_world_87 : decode cX4_world 87 = .ok (.iload 5, 2) := by decide +kernel
theorem dX4_world_89 : decode cX4_world 89 = .ok (.iadd, 1) := by decide +kernel
theorem dX4_world_90 : decode cX4_world 90 = .ok (.iconst 0, 1) := by decide +kernel
theorem dX4_world_91 : decode cX4_world 91 = .ok (.iastore, 1) := by decide +kernel
theorem dX4_world_92 : decode cX4_world 92 = .ok (.iinc 5 1, 3) := by decide +kernel
theorem dX4_world_95 : decode cX4_world 95 = .ok (.goto (-23), 3) := by decide +kernel
theorem dX4_world_98 : decode cX4_world 98 = .ok (.aload_n 0, 1) := by decide +kernel
theorem dX4_world_99 : decode cX4_world 99 = .ok (.getfield 16, 3) := by decide +kernel
theorem dX4_world_102 : decode cX4_world 102 = .ok (.iload_n 1, 1) := by decide +kernel
theorem dX4_world_103 : decode cX4_world 103 = .ok (.iconst 0, 1) := by decide +kernel
theorem dX4_world_104 : decode cX4_world 104 = .ok (.iastore, 1) := by decide +kernel
theorem dX4_world_105 : decode cX4_world 105 = .ok (.iconst 1, 1) := by decide +kernel
theorem dX4_world_106 : decode cX4_world 106 = .ok (.ireturn, 1) := by decide +kernel
set_option maxRecDepth 20000 in
theorem ggX4_isSetting_X4_isPlace : GoodIn wsX4_isSetting wsX4_isPlace := goodIn_r _ [5, 6, 7, 4, 8] (by decide +kernel) (by decide +kernel)
set_option maxRecDepth 20000 in
theorem gX4_isSetting_X4_isPlace : GoodIn wsX4_isSetting (va_wsS RX4 54 yX4_isPlace wsX4_isPlace) := goodIn_app (goodIn_of _ (by decide +kernel)) ggX4_isSetting_X4_isPlace
theorem dX4_isSetting_0 : decode cX4_isSetting 0 = .ok (.iload_n 1, 1) := by decide +kernel
theorem dX4_isSetting_1 : decode cX4_isSetting 1 = .ok (.invokestatic 54, 3) := by decide +kernel
theorem dX4_isSetting_4 : decode cX4_isSetting 4 = .ok (.ifCond .eq 61, 3) := by decide +kernel
theorem dX4_isSetting_7 : decode cX4_isSetting 7 = .ok (.iload_n 2, 1) := by decide +kernel
theorem dX4_isSetting_8 : decode cX4_isSetting 8 = .ok (.ifCond .lt 57, 3) := by decide +kernel
theorem dX4_isSetting_11 : decode cX4_isSetting 11 = .ok (.iload_n 3, 1) := by decide +kernel
theorem dX4_isSetting_12 : decode cX4_isSetting 12 = .ok (.ifCond .lt 53, 3) := by decide +kernel
theorem dX4_isSetting_15 : decode cX4_isSetting 15 = .ok (.iload 4, 2) := by decide +kernel
theorem dX4_isSetting_17 : decode cX4_isSetting 17 = .ok (.ifCond .lt 48, 3) := by decide +kernel
theorem dX4_isSetting_20 : decode cX4_isSetting 20 = .ok (.iload_n 2, 1) := by decide +kernel
theorem dX4_isSetting_21 : decode cX4_isSetting 21 = .ok (.aload_n 0, 1) := by decide +kernel
theorem dX4_isSetting_22 : decode cX4_isSetting 22 = .ok (.getfield 7, 3) := by decide +kernel
theorem dX4_isSetting_25 : decode cX4_isSetting 25 = .ok (.iconst 3, 1) := by decide +kernel
theorem dX4_isSetting_26 : decode cX4_isSetting 26 = .ok (.iload_n 1, 1) := by decide +kernel
theorem dX4_isSetting_27 : decode cX4_isSetting 27 = .ok (.imul, 1) := by decide +kernel
theorem dX4_isSetting_28 : decode cX4_isSetting 28 = .ok (.iaload, 1) := by decide +kernel
theorem dX4_isSetting_29 : decode cX4_isSetting 29 = .ok (.if_icmp .ge 36, 3) := by decide +kernel
theorem dX4_isSetting_32 : decode cX4_isSetting 32 = .ok (.iload_n 3, 1) := by decide +kernel
theorem dX4_isSetting_33 : decode cX4_isSetting 33 = .ok (.aload_n 0, 1) := by decide +kernel
theorem dX4_isSetting_34 : decode cX4_isSetting 34 = .ok (.getfield 7, 3) := by decide +kernel
theorem dX4_isSetting_37 : decode cX4_isSetting 37 = .ok (.iconst 3, 1) := by decide +kernel
theorem dX4_isSetting_38 : decode cX4_isSetting 38 = .ok (.iload_n 1, 1) := by decide +kernel
theorem dX4_isSetting_39 : decode cX4_isSetting 39 = .ok (.imul, 1) := by decide +kernel
theorem dX4_isSetting_40 : decode cX4_isSetting 40 = .ok (.iconst 1, 1) := by decide +kernel
theorem dX4_isSetting_41 : decode cX4_isSetting 41 = .ok (.iadd, 1) := by decide +kernel
theorem dX4_isSetting_42 : decode cX4_isSetting 42 = .ok (.iaload, 1) := by decide +kernel
theorem dX4_isSetting_43 : decode cX4_isSetting 43 = .ok (.if_icmp .ge 22, 3) := by decide +kernel
theorem dX4_isSetting_46 : decode cX4_isSetting 46 = .ok (.iload 4, 2) := by decide +kernel
theorem dX4_isSetting_48 : decode cX4_isSetting 48 = .ok (.aload_n 0, 1) := by decide +kernel
theorem dX4_isSetting_49 : decode cX4_isSetting 49 = .ok (.getfield 7, 3) := by decide +kernel
theorem dX4_isSetting_52 : decode cX4_isSetting 52 = .ok (.iconst 3, 1) := by decide +kernel
theorem dX4_isSetting_53 : decode cX4_isSetting 53 = .ok (.iload_n 1, 1) := by decide +kernel
theorem dX4_isSetting_54 : decode cX4_isSetting 54 = .ok (.imul, 1) := by decide +kernel
theorem dX4_isSetting_55 : decode cX4_isSetting 55 = .ok (.iconst 2, 1) := by decide +kernel
theorem dX4_isSetting_56 : decode cX4_isSetting 56 = .ok (.iadd, 1) := by decide +kernel
theorem dX4_isSetting_57 : decode cX4_isSetting 57 = .ok (.iaload, 1) := by decide +kernel
theorem dX4_isSetting_58 : decode cX4_isSetting 58 = .ok (.if_icmp .ge 7, 3) := by decide +kernel
theorem dX4_isSetting_61 : decode cX4_isSetting 61 = .ok (.iconst 1, 1) := by decide +kernel
theorem dX4_isSetting_62 : decode cX4_isSetting 62 = .ok (.goto 4, 3) := by decide +kernel
theorem dX4_isSetting_65 : decode cX4_isSetting 65 = .ok (.iconst 0, 1) := by decide +kernel
theorem dX4_isSetting_66 : decode cX4_isSetting 66 = .ok (.ireturn, 1) := by decide +kernel
set_option maxRecDepth 20000 in
theorem ggX4_weight_X4_isSetting : GoodIn wsX4_weight wsX4_isSetting := goodIn_r _ [7, 8, 9, 10, 6, 11, 12, 13, 14, 15, 16, 17, 18, 19, 20, 21, 22, 23, 24, 25, 26, 27, 28, 29] (by decide +kernel) (by decide +kernel)
set_option maxRecDepth 20000 in
theorem gX4_weight_X4_isSetting : GoodIn wsX4_weight (wsV RX4 58 RX4 yX4_isSetting wsX4_isSetting) := goodIn_app (goodIn_of _ (by decide +kernel)) ggX4_weight_X4_isSetting
set_option maxRecDepth 20000 in
theorem ggX4_weight_X4_isIn : GoodIn wsX4_weight wsX4_isIn := goodIn_r _ [14] (by decide +kernel) (by decide +kernel)
set_option maxRecDepth 20000 in
theorem gX4_weight_X4_isIn : GoodIn wsX4_weight (va_wsS RX4 50 yX4_isIn wsX4_isIn) := goodIn_app (goodIn_of _ (by decide +kernel)) ggX4_weight_X4_isIn
theorem dX4_weight_0 : decode cX4_weight 0 = .ok (.aload_n 0, 1) := by decide +kernel
theorem dX4_weight_1 : decode cX4_weight 1 = .ok (.iload_n 1, 1) := by decide +kernel
theorem dX4_weight_2 : decode cX4_weight 2 = .ok (.iload_n 2, 1) := by decide +kernel
theorem dX4_weight_3 : decode cX4_weight 3 = .ok (.iload_n 3, 1) := by decide +kernel
theorem dX4_weight_4 : decode cX4_weight 4 = .ok (.iload 4, 2) := by decide +kernel
theorem dX4_weight_6 : decode cX4_weight 6 = .ok (.invokevirtual 58, 3) := by decide +kernel
theorem dX4_weight_9 : decode cX4_weight 9 = .ok (.ifCond .eq 14, 3) := by decide +kernel
theorem dX4_weight_12 : decode cX4_weight 12 = .ok (.iload 5, 2) := by decide +kernel
theorem dX4_weight_14 : decode cX4_weight 14 = .ok (.iconst 0, 1) := by decide +kernel
theorem dX4_weight_15 : decode cX4_weight 15 = .ok (.bipush 16, 2) := by decide +kernel
theorem dX4_weight_17 : decode cX4_weight 17 = .ok (.invokestatic 50, 3) := by decide +kernel
theorem dX4_weight_20 : decode cX4_weight 20 = .ok (.ifCond .ne 5, 3) := by decide +kernel
theorem dX4_weight_23 : decode cX4_weight 23 = .ok (.iconst 0, 1) := by decide +kernel
theorem dX4_weight_24 : decode cX4_weight 24 = .ok (.ireturn, 1) := by decide +kernel
theorem dX4_weight_25 : decode cX4_weight 25 = .ok (.bipush 27, 2) := by decide +kernel
theorem dX4_weight_27 : decode cX4_weight 27 = .ok (.iload_n 1, 1) := by decide +kernel
theorem dX4_weight_28 : decode cX4_weight 28 = .ok (.imul, 1) := by decide +kernel
theorem dX4_weight_29 : decode cX4_weight 29 = .ok (.iload_n 2, 1) := by decide +kernel
theorem dX4_weight_30 : decode cX4_weight 30 = .ok (.iadd, 1) := by decide +kernel
theorem dX4_weight_31 : decode cX4_weight 31 = .ok (.iconst 3, 1) := by decide +kernel
theorem dX4_weight_32 : decode cX4_weight 32 = .ok (.iload_n 3, 1) := by decide +kernel
theorem dX4_weight_33 : decode cX4_weight 33 = .ok (.imul, 1) := by decide +kernel
theorem dX4_weight_34 : decode cX4_weight 34 = .ok (.iadd, 1) := by decide +kernel
theorem dX4_weight_35 : decode cX4_weight 35 = .ok (.bipush 9, 2) := by decide +kernel
theorem dX4_weight_37 : decode cX4_weight 37 = .ok (.iload 4, 2) := by decide +kernel
theorem dX4_weight_39 : decode cX4_weight 39 = .ok (.imul, 1) := by decide +kernel
theorem dX4_weight_40 : decode cX4_weight 40 = .ok (.iadd, 1) := by decide +kernel
theorem dX4_weight_41 : decode cX4_weight 41 = .ok (.istore 6, 2) := by decide +kernel
theorem dX4_weight_43 : decode cX4_weight 43 = .ok (.aload_n 0, 1) := by decide +kernel
theorem dX4_weight_44 : decode cX4_weight 44 = .ok (.getfield 16, 3) := by decide +kernel
theorem dX4_weight_47 : decode cX4_weight 47 = .ok (.iload_n 1, 1) := by decide +kernel
theorem dX4_weight_48 : decode cX4_weight 48 = .ok (.iaload, 1) := by decide +kernel
theorem dX4_weight_49 : decode cX4_weight 49 = .ok (.aload_n 0, 1) := by decide +kernel
theorem dX4_weight_50 : decode cX4_weight 50 = .ok (.getfield 13, 3) := by decide +kernel
theorem dX4_weight_53 : decode cX4_weight 53 = .ok (.iload 6, 2) := by decide +kernel
theorem dX4_weight_55 : decode cX4_weight 55 = .ok (.iaload, 1) := by decide +kernel
theorem dX4_weight_56 : decode cX4_weight 56 = .ok (.isub, 1) := by decide +kernel
theorem dX4_weight_57 : decode cX4_weight 57 = .ok (.iload 5, 2) := by decide +kernel
theorem dX4_weight_59 : decode cX4_weight 59 = .ok (.iadd, 1) := by decide +kernel
theorem dX4_weight_60 : decode cX4_weight 60 = .ok (.istore 7, 2) := by decide +kernel
theorem dX4_weight_62 : decode cX4_weight 62 = .ok (.iload 7, 2) := by decide +kernel
theorem dX4_weight_64 : decode cX4_weight 64 = .ok (.bipush 16, 2) := by decide +kernel
theorem dX4_weight_66 : decode cX4_weight 66 = .ok (.if_icmp .le 5, 3) := by decide +kernel
theorem dX4_weight_69 : decode cX4_weight 69 = .ok (.iconst 0, 1) := by decide +kernel
theorem dX4_weight_70 : decode cX4_weight 70 = .ok (.ireturn, 1) := by decide +kernel
theorem dX4_weight_71 : decode cX4_weight 71 = .ok (.aload_n 0, 1) := by decide +kernel
theorem dX4_weight_72 : decode cX4_weight 72 = .ok (.getfield 13, 3) := by decide +kernel
theorem dX4_weight_75 : decode cX4_weight 75 = .ok (.iload 6, 2) := by decide +kernel
theorem dX4_weight_77 : decode cX4_weight 77 = .ok (.iload 5, 2) := by decide +kernel
theorem dX4_weight_79 : decode cX4_weight 79 = .ok (.iastore, 1) := by decide +kernel
theorem dX4_weight_80 : decode cX4_weight 80 = .ok (.aload_n 0, 1) := by decide +kernel
theorem dX4_weight_81 : decode cX4_weight 81 = .ok (.getfield 16, 3) := by decide +kernel
theorem dX4_weight_84 : decode cX4_weight 84 = .ok (.iload_n 1, 1) := by decide +kernel
theorem dX4_weight_85 : decode cX4_weight 85 = .ok (.iload 7, 2) := by decide +kernel
theorem dX4_weight_87 : decode cX4_weight 87 = .ok (.iastore, 1) := by decide +kernel
theorem dX4_weight_88 : decode cX4_weight 88 = .ok (.iconst 1, 1) := by decide +kernel
theorem dX4_weight_89 : decode cX4_weight 89 = .ok (.ireturn, 1) := by decide +kernel
set_option maxRecDepth 20000 in
theorem ggX4_told_X4_isPlace : GoodIn wsX4_told wsX4_isPlace := goodIn_r _ [7, 8, 9, 6, 10] (by decide +kernel) (by decide +kernel)
set_option maxRecDepth 20000 in
theorem gX4_told_X4_isPlace : GoodIn wsX4_told (va_wsS RX4 54 yX4_isPlace wsX4_isPlace) := goodIn_app (goodIn_of _ (by decide +kernel)) ggX4_told_X4_isPlace
set_option maxRecDepth 20000 in
theorem ggX4_told_X4_isIn : GoodIn wsX4_told wsX4_isIn := goodIn_r _ [10] (by decide +kernel) (by decide +kernel)
set_option maxRecDepth 20000 in
theorem gX4_told_X4_isIn : GoodIn wsX4_told (va_wsS RX4 50 yX4_isIn wsX4_isIn) := goodIn_app (goodIn_of _ (by decide +kernel)) ggX4_told_X4_isIn
set_option maxRecDepth 20000 in
theorem ggX4_told_X4_isSetting : GoodIn wsX4_told wsX4_isSetting := goodIn_r _ [14, 2, 4, 5, 6, 7, 8, 9, 10, 15, 16, 17, 18, 19, 20, 21, 22, 23, 24, 25, 26, 27, 28, 29] (by decide +kernel) (by decide +kernel)
set_option maxRecDepth 20000 in
theorem gX4_told_X4_isSetting : GoodIn wsX4_told (wsV RX4 58 RX4 yX4_isSetting wsX4_isSetting) := goodIn_app (goodIn_of _ (by decide +kernel)) ggX4_told_X4_isSetting
theorem dX4_told_0 : decode cX4_told 0 = .ok (.iload_n 1, 1) := by decide +kernel
theorem dX4_told_1 : decode cX4_told 1 = .ok (.invokestatic 54, 3) := by decide +kernel
theorem dX4_told_4 : decode cX4_told 4 = .ok (.ifCond .ne 5, 3) := by decide +kernel
theorem dX4_told_7 : decode cX4_told 7 = .ok (.iconst (-1), 1) := by decide +kernel
theorem dX4_told_8 : decode cX4_told 8 = .ok (.ireturn, 1) := by decide +kernel
theorem dX4_told_9 : decode cX4_told 9 = .ok (.iload_n 2, 1) := by decide +kernel
theorem dX4_told_10 : decode cX4_told 10 = .ok (.ifCond .ne 18, 3) := by decide +kernel
theorem dX4_told_13 : decode cX4_told 13 = .ok (.aload_n 0, 1) := by decide +kernel
theorem dX4_told_14 : decode cX4_told 14 = .ok (.getfield 16, 3) := by decide +kernel
theorem dX4_told_17 : decode cX4_told 17 = .ok (.iload_n 1, 1) := by decide +kernel
theorem dX4_told_18 : decode cX4_told 18 = .ok (.iaload, 1) := by decide +kernel
theorem dX4_told_19 : decode cX4_told 19 = .ok (.ifCond .le 7, 3) := by decide +kernel
theorem dX4_told_22 : decode cX4_told 22 = .ok (.iconst 1, 1) := by decide +kernel
theorem dX4_told_23 : decode cX4_told 23 = .ok (.goto 4, 3) := by decide +kernel
theorem dX4_told_26 : decode cX4_told 26 = .ok (.iconst 0, 1) := by decide +kernel
theorem dX4_told_27 : decode cX4_told 27 = .ok (.ireturn, 1) := by decide +kernel
theorem dX4_told_28 : decode cX4_told 28 = .ok (.iload_n 2, 1) := by decide +kernel
theorem dX4_told_29 : decode cX4_told 29 = .ok (.iconst 1, 1) := by decide +kernel
theorem dX4_told_30 : decode cX4_told 30 = .ok (.iconst 3, 1) := by decide +kernel
theorem dX4_told_31 : decode cX4_told 31 = .ok (.invokestatic 50, 3) := by decide +kernel
theorem dX4_told_34 : decode cX4_told 34 = .ok (.ifCond .eq 16, 3) := by decide +kernel
theorem dX4_told_37 : decode cX4_told 37 = .ok (.aload_n 0, 1) := by decide +kernel
theorem dX4_told_38 : decode cX4_told 38 = .ok (.getfield 7, 3) := by decide +kernel
theorem dX4_told_41 : decode cX4_told 41 = .ok (.iconst 3, 1) := by decide +kernel
theorem dX4_told_42 : decode cX4_told 42 = .ok (.iload_n 1, 1) := by decide +kernel
theorem dX4_told_43 : decode cX4_told 43 = .ok (.imul, 1) := by decide +kernel
theorem dX4_told_44 : decode cX4_told 44 = .ok (.iload_n 2, 1) := by decide +kernel
theorem dX4_told_45 : decode cX4_told 45 = .ok (.iadd, 1) := by decide +kernel
theorem dX4_told_46 : decode cX4_told 46 = .ok (.iconst 1, 1) := by decide +kernel
theorem dX4_told_47 : decode cX4_told 47 = .ok (.isub, 1) := by decide +kernel
theorem dX4_told_48 : decode cX4_told 48 = .ok (.iaload, 1) := by decide +kernel
theorem dX4_told_49 : decode cX4_told 49 = .ok (.ireturn, 1) := by decide +kernel
theorem dX4_told_50 : decode cX4_told 50 = .ok (.iload_n 2, 1) := by decide +kernel
theorem dX4_told_51 : decode cX4_told 51 = .ok (.iconst 4, 1) := by decide +kernel
theorem dX4_told_52 : decode cX4_told 52 = .ok (.if_icmp .ne 10, 3) := by decide +kernel
theorem dX4_told_55 : decode cX4_told 55 = .ok (.aload_n 0, 1) := by decide +kernel
theorem dX4_told_56 : decode cX4_told 56 = .ok (.getfield 16, 3) := by decide +kernel
theorem dX4_told_59 : decode cX4_told 59 = .ok (.iload_n 1, 1) := by decide +kernel
theorem dX4_told_60 : decode cX4_told 60 = .ok (.iaload, 1) := by decide +kernel
theorem dX4_told_61 : decode cX4_told 61 = .ok (.ireturn, 1) := by decide +kernel
theorem dX4_told_62 : decode cX4_told 62 = .ok (.iload_n 2, 1) := by decide +kernel
theorem dX4_told_63 : decode cX4_told 63 = .ok (.bipush 10, 2) := by decide +kernel
theorem dX4_told_65 : decode cX4_told 65 = .ok (.bipush 36, 2) := by decide +kernel
theorem dX4_told_67 : decode cX4_told 67 = .ok (.invokestatic 50, 3) := by decide +kernel
theorem dX4_told_70 : decode cX4_told 70 = .ok (.ifCond .ne 5, 3) := by decide +kernel
theorem dX4_told_73 : decode cX4_told 73 = .ok (.iconst (-1), 1) := by decide +kernel
theorem dX4_told_74 : decode cX4_told 74 = .ok (.ireturn, 1) := by decide +kernel
theorem dX4_told_75 : decode cX4_told 75 = .ok (.iload_n 2, 1) := by decide +kernel
theorem dX4_told_76 : decode cX4_told 76 = .ok (.bipush 10, 2) := by decide +kernel
theorem dX4_told_78 : decode cX4_told 78 = .ok (.isub, 1) := by decide +kernel
