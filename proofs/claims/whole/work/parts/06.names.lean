theorem dX3_secret_66 : decode cX3_secret 66 = .ok (.iconst 1, 1) := by decide +kernel
theorem dX3_secret_67 : decode cX3_secret 67 = .ok (.ireturn, 1) := by decide +kernel
theorem dX3_secret_68 : decode cX3_secret 68 = .ok (.aload_n 0, 1) := by decide +kernel
theorem dX3_secret_69 : decode cX3_secret 69 = .ok (.aload_n 3, 1) := by decide +kernel
theorem dX3_secret_70 : decode cX3_secret 70 = .ok (.iconst 1, 1) := by decide +kernel
theorem dX3_secret_71 : decode cX3_secret 71 = .ok (.iconst (-1), 1) := by decide +kernel
theorem dX3_secret_72 : decode cX3_secret 72 = .ok (.invokevirtual 158, 3) := by decide +kernel
theorem dX3_secret_75 : decode cX3_secret 75 = .ok (.aload_n 0, 1) := by decide +kernel
theorem dX3_secret_76 : decode cX3_secret 76 = .ok (.getfield 23, 3) := by decide +kernel
theorem dX3_secret_79 : decode cX3_secret 79 = .ok (.invokevirtual 162, 3) := by decide +kernel
theorem dX3_secret_82 : decode cX3_secret 82 = .ok (.ifCond .eq 7, 3) := by decide +kernel
theorem dX3_secret_85 : decode cX3_secret 85 = .ok (.iconst 0, 1) := by decide +kernel
theorem dX3_secret_86 : decode cX3_secret 86 = .ok (.goto 4, 3) := by decide +kernel
theorem dX3_secret_89 : decode cX3_secret 89 = .ok (.iconst 2, 1) := by decide +kernel
theorem dX3_secret_90 : decode cX3_secret 90 = .ok (.ireturn, 1) := by decide +kernel
theorem dX3_isPlace_0 : decode cX3_isPlace 0 = .ok (.iload_n 0, 1) := by decide +kernel
theorem dX3_isPlace_1 : decode cX3_isPlace 1 = .ok (.ifCond .lt 12, 3) := by decide +kernel
theorem dX3_isPlace_4 : decode cX3_isPlace 4 = .ok (.iload_n 0, 1) := by decide +kernel
theorem dX3_isPlace_5 : decode cX3_isPlace 5 = .ok (.iconst 4, 1) := by decide +kernel
theorem dX3_isPlace_6 : decode cX3_isPlace 6 = .ok (.if_icmp .ge 7, 3) := by decide +kernel
theorem dX3_isPlace_9 : decode cX3_isPlace 9 = .ok (.iconst 1, 1) := by decide +kernel
theorem dX3_isPlace_10 : decode cX3_isPlace 10 = .ok (.goto 4, 3) := by decide +kernel
theorem dX3_isPlace_13 : decode cX3_isPlace 13 = .ok (.iconst 0, 1) := by decide +kernel
theorem dX3_isPlace_14 : decode cX3_isPlace 14 = .ok (.ireturn, 1) := by decide +kernel
set_option maxRecDepth 20000 in
theorem ggX3_isMadePlace_X3_isPlace : GoodIn wsX3_isMadePlace wsX3_isPlace := goodIn_r _ [5] (by decide +kernel) (by decide +kernel)
set_option maxRecDepth 20000 in
theorem gX3_isMadePlace_X3_isPlace : GoodIn wsX3_isMadePlace (va_wsS RX3 45 yX3_isPlace wsX3_isPlace) := goodIn_app (goodIn_of _ (by decide +kernel)) ggX3_isMadePlace_X3_isPlace
set_option maxRecDepth 20000 in
theorem ggX3_isMadePlace_X2_isMade : GoodIn wsX3_isMadePlace wsX2_isMade := goodIn_r _ [9, 10, 19, 20, 21] (by decide +kernel) (by decide +kernel)
set_option maxRecDepth 20000 in
theorem gX3_isMadePlace_X2_isMade_n68 : GoodIn wsX3_isMadePlace (wsX2_isMade) := ggX3_isMadePlace_X2_isMade
theorem dX3_isMadePlace_0 : decode cX3_isMadePlace 0 = .ok (.iload_n 1, 1) := by decide +kernel
theorem dX3_isMadePlace_1 : decode cX3_isMadePlace 1 = .ok (.invokestatic 45, 3) := by decide +kernel
theorem dX3_isMadePlace_4 : decode cX3_isMadePlace 4 = .ok (.ifCond .eq 19, 3) := by decide +kernel
theorem dX3_isMadePlace_7 : decode cX3_isMadePlace 7 = .ok (.aload_n 0, 1) := by decide +kernel
theorem dX3_isMadePlace_8 : decode cX3_isMadePlace 8 = .ok (.getfield 11, 3) := by decide +kernel
theorem dX3_isMadePlace_11 : decode cX3_isMadePlace 11 = .ok (.iload_n 1, 1) := by decide +kernel
theorem dX3_isMadePlace_12 : decode cX3_isMadePlace 12 = .ok (.aaload, 1) := by decide +kernel
theorem dX3_isMadePlace_13 : decode cX3_isMadePlace 13 = .ok (.invokevirtual 68, 3) := by decide +kernel
theorem dX3_isMadePlace_16 : decode cX3_isMadePlace 16 = .ok (.ifCond .eq 7, 3) := by decide +kernel
theorem dX3_isMadePlace_19 : decode cX3_isMadePlace 19 = .ok (.iconst 1, 1) := by decide +kernel
theorem dX3_isMadePlace_20 : decode cX3_isMadePlace 20 = .ok (.goto 4, 3) := by decide +kernel
theorem dX3_isMadePlace_23 : decode cX3_isMadePlace 23 = .ok (.iconst 0, 1) := by decide +kernel
theorem dX3_isMadePlace_24 : decode cX3_isMadePlace 24 = .ok (.ireturn, 1) := by decide +kernel
theorem dX3_isStateCount_0 : decode cX3_isStateCount 0 = .ok (.iload_n 0, 1) := by decide +kernel
theorem dX3_isStateCount_1 : decode cX3_isStateCount 1 = .ok (.iconst 1, 1) := by decide +kernel
theorem dX3_isStateCount_2 : decode cX3_isStateCount 2 = .ok (.if_icmp .lt 12, 3) := by decide +kernel
theorem dX3_isStateCount_5 : decode cX3_isStateCount 5 = .ok (.iload_n 0, 1) := by decide +kernel
theorem dX3_isStateCount_6 : decode cX3_isStateCount 6 = .ok (.iconst 3, 1) := by decide +kernel
theorem dX3_isStateCount_7 : decode cX3_isStateCount 7 = .ok (.if_icmp .gt 7, 3) := by decide +kernel
theorem dX3_isStateCount_10 : decode cX3_isStateCount 10 = .ok (.iconst 1, 1) := by decide +kernel
theorem dX3_isStateCount_11 : decode cX3_isStateCount 11 = .ok (.goto 4, 3) := by decide +kernel
theorem dX3_isStateCount_14 : decode cX3_isStateCount 14 = .ok (.iconst 0, 1) := by decide +kernel
theorem dX3_isStateCount_15 : decode cX3_isStateCount 15 = .ok (.ireturn, 1) := by decide +kernel
theorem dX3_isLaw_0 : decode cX3_isLaw 0 = .ok (.iload_n 0, 1) := by decide +kernel
theorem dX3_isLaw_1 : decode cX3_isLaw 1 = .ok (.ifCond .lt 13, 3) := by decide +kernel
theorem dX3_isLaw_4 : decode cX3_isLaw 4 = .ok (.iload_n 0, 1) := by decide +kernel
theorem dX3_isLaw_5 : decode cX3_isLaw 5 = .ok (.bipush 10, 2) := by decide +kernel
theorem dX3_isLaw_7 : decode cX3_isLaw 7 = .ok (.if_icmp .ge 7, 3) := by decide +kernel
theorem dX3_isLaw_10 : decode cX3_isLaw 10 = .ok (.iconst 1, 1) := by decide +kernel
theorem dX3_isLaw_11 : decode cX3_isLaw 11 = .ok (.goto 4, 3) := by decide +kernel
theorem dX3_isLaw_14 : decode cX3_isLaw 14 = .ok (.iconst 0, 1) := by decide +kernel
theorem dX3_isLaw_15 : decode cX3_isLaw 15 = .ok (.ireturn, 1) := by decide +kernel
theorem dX3_isSet_0 : decode cX3_isSet 0 = .ok (.iload_n 0, 1) := by decide +kernel
theorem dX3_isSet_1 : decode cX3_isSet 1 = .ok (.iconst 1, 1) := by decide +kernel
theorem dX3_isSet_2 : decode cX3_isSet 2 = .ok (.if_icmp .lt 13, 3) := by decide +kernel
theorem dX3_isSet_5 : decode cX3_isSet 5 = .ok (.iload_n 0, 1) := by decide +kernel
theorem dX3_isSet_6 : decode cX3_isSet 6 = .ok (.bipush 8, 2) := by decide +kernel
theorem dX3_isSet_8 : decode cX3_isSet 8 = .ok (.if_icmp .ge 7, 3) := by decide +kernel
theorem dX3_isSet_11 : decode cX3_isSet 11 = .ok (.iconst 1, 1) := by decide +kernel
theorem dX3_isSet_12 : decode cX3_isSet 12 = .ok (.goto 4, 3) := by decide +kernel
theorem dX3_isSet_15 : decode cX3_isSet 15 = .ok (.iconst 0, 1) := by decide +kernel
theorem dX3_isSet_16 : decode cX3_isSet 16 = .ok (.ireturn, 1) := by decide +kernel
theorem dX3_isGivens_0 : decode cX3_isGivens 0 = .ok (.iload_n 0, 1) := by decide +kernel
theorem dX3_isGivens_1 : decode cX3_isGivens 1 = .ok (.ifCond .lt 14, 3) := by decide +kernel
theorem dX3_isGivens_4 : decode cX3_isGivens 4 = .ok (.iload_n 0, 1) := by decide +kernel
theorem dX3_isGivens_5 : decode cX3_isGivens 5 = .ok (.sipush 512, 3) := by decide +kernel
theorem dX3_isGivens_8 : decode cX3_isGivens 8 = .ok (.if_icmp .ge 7, 3) := by decide +kernel
theorem dX3_isGivens_11 : decode cX3_isGivens 11 = .ok (.iconst 1, 1) := by decide +kernel
theorem dX3_isGivens_12 : decode cX3_isGivens 12 = .ok (.goto 4, 3) := by decide +kernel
theorem dX3_isGivens_15 : decode cX3_isGivens 15 = .ok (.iconst 0, 1) := by decide +kernel
theorem dX3_isGivens_16 : decode cX3_isGivens 16 = .ok (.ireturn, 1) := by decide +kernel
theorem dX3_settingOf_0 : decode cX3_settingOf 0 = .ok (.iload_n 0, 1) := by decide +kernel
theorem dX3_settingOf_1 : decode cX3_settingOf 1 = .ok (.iconst 3, 1) := by decide +kernel
theorem dX3_settingOf_2 : decode cX3_settingOf 2 = .ok (.iload_n 1, 1) := by decide +kernel
theorem dX3_settingOf_3 : decode cX3_settingOf 3 = .ok (.imul, 1) := by decide +kernel
theorem dX3_settingOf_4 : decode cX3_settingOf 4 = .ok (.iadd, 1) := by decide +kernel
theorem dX3_settingOf_5 : decode cX3_settingOf 5 = .ok (.bipush 9, 2) := by decide +kernel
theorem dX3_settingOf_7 : decode cX3_settingOf 7 = .ok (.iload_n 2, 1) := by decide +kernel
theorem dX3_settingOf_8 : decode cX3_settingOf 8 = .ok (.imul, 1) := by decide +kernel
theorem dX3_settingOf_9 : decode cX3_settingOf 9 = .ok (.iadd, 1) := by decide +kernel
theorem dX3_settingOf_10 : decode cX3_settingOf 10 = .ok (.ireturn, 1) := by decide +kernel
set_option maxRecDepth 20000 in
theorem ggX3_addLawSum_X3_addDoubt : GoodIn wsX3_addLawSum wsX3_addDoubt := goodIn_r _ [5, 6, 7, 8, 9, 10, 11, 12, 13, 14, 15, 16, 17, 4, 18, 19, 20, 21, 22, 23, 24, 25, 26, 27, 28, 29, 30, 31, 32, 33, 34, 35, 36, 37] (by decide +kernel) (by decide +kernel)
set_option maxRecDepth 20000 in
theorem gX3_addLawSum_X3_addDoubt : GoodIn wsX3_addLawSum (wsV RX3 158 RX3 yX3_addDoubt wsX3_addDoubt) := goodIn_app (goodIn_of _ (by decide +kernel)) ggX3_addLawSum_X3_addDoubt
theorem dX3_addLawSum_0 : decode cX3_addLawSum 0 = .ok (.iconst 1, 1) := by decide +kernel
theorem dX3_addLawSum_1 : decode cX3_addLawSum 1 = .ok (.istore 4, 2) := by decide +kernel
theorem dX3_addLawSum_3 : decode cX3_addLawSum 3 = .ok (.iload 4, 2) := by decide +kernel
theorem dX3_addLawSum_5 : decode cX3_addLawSum 5 = .ok (.bipush 8, 2) := by decide +kernel
theorem dX3_addLawSum_7 : decode cX3_addLawSum 7 = .ok (.if_icmp .ge 29, 3) := by decide +kernel
theorem dX3_addLawSum_10 : decode cX3_addLawSum 10 = .ok (.aload_n 2, 1) := by decide +kernel
theorem dX3_addLawSum_11 : decode cX3_addLawSum 11 = .ok (.iload 4, 2) := by decide +kernel
theorem dX3_addLawSum_13 : decode cX3_addLawSum 13 = .ok (.iaload, 1) := by decide +kernel
theorem dX3_addLawSum_14 : decode cX3_addLawSum 14 = .ok (.ifCond .eq 16, 3) := by decide +kernel
theorem dX3_addLawSum_17 : decode cX3_addLawSum 17 = .ok (.aload_n 0, 1) := by decide +kernel
theorem dX3_addLawSum_18 : decode cX3_addLawSum 18 = .ok (.aload_n 1, 1) := by decide +kernel
theorem dX3_addLawSum_19 : decode cX3_addLawSum 19 = .ok (.iload 4, 2) := by decide +kernel
theorem dX3_addLawSum_21 : decode cX3_addLawSum 21 = .ok (.aload_n 2, 1) := by decide +kernel
theorem dX3_addLawSum_22 : decode cX3_addLawSum 22 = .ok (.iload 4, 2) := by decide +kernel
theorem dX3_addLawSum_24 : decode cX3_addLawSum 24 = .ok (.iaload, 1) := by decide +kernel
theorem dX3_addLawSum_25 : decode cX3_addLawSum 25 = .ok (.iload_n 3, 1) := by decide +kernel
theorem dX3_addLawSum_26 : decode cX3_addLawSum 26 = .ok (.imul, 1) := by decide +kernel
theorem dX3_addLawSum_27 : decode cX3_addLawSum 27 = .ok (.invokevirtual 158, 3) := by decide +kernel
theorem dX3_addLawSum_30 : decode cX3_addLawSum 30 = .ok (.iinc 4 1, 3) := by decide +kernel
theorem dX3_addLawSum_33 : decode cX3_addLawSum 33 = .ok (.goto (-30), 3) := by decide +kernel
theorem dX3_addLawSum_36 : decode cX3_addLawSum 36 = .ok (.return_, 1) := by decide +kernel
set_option maxRecDepth 20000 in
theorem ggX3_addDoubt_X2_gather : GoodIn wsX3_addDoubt wsX2_gather := goodIn_r _ [6, 7, 8, 9, 10, 11, 12, 13, 14, 28, 29, 30] (by decide +kernel) (by decide +kernel)
set_option maxRecDepth 20000 in
theorem gX3_addDoubt_X2_gather_n97 : GoodIn wsX3_addDoubt (wsX2_gather) := ggX3_addDoubt_X2_gather
set_option maxRecDepth 20000 in
theorem ggX3_addDoubt_X0_addLog : GoodIn wsX3_addDoubt wsX0_addLog := goodIn_r _ [18, 19, 31, 32, 33] (by decide +kernel) (by decide +kernel)
set_option maxRecDepth 20000 in
theorem gX3_addDoubt_X0_addLog_n131 : GoodIn wsX3_addDoubt (wsX0_addLog) := ggX3_addDoubt_X0_addLog
theorem dX3_addDoubt_0 : decode cX3_addDoubt 0 = .ok (.aload_n 1, 1) := by decide +kernel
theorem dX3_addDoubt_1 : decode cX3_addDoubt 1 = .ok (.iload_n 2, 1) := by decide +kernel
theorem dX3_addDoubt_2 : decode cX3_addDoubt 2 = .ok (.aload_n 0, 1) := by decide +kernel
theorem dX3_addDoubt_3 : decode cX3_addDoubt 3 = .ok (.getfield 27, 3) := by decide +kernel
theorem dX3_addDoubt_6 : decode cX3_addDoubt 6 = .ok (.invokevirtual 97, 3) := by decide +kernel
theorem dX3_addDoubt_9 : decode cX3_addDoubt 9 = .ok (.aload_n 0, 1) := by decide +kernel
theorem dX3_addDoubt_10 : decode cX3_addDoubt 10 = .ok (.getfield 23, 3) := by decide +kernel
theorem dX3_addDoubt_13 : decode cX3_addDoubt 13 = .ok (.aload_n 1, 1) := by decide +kernel
theorem dX3_addDoubt_14 : decode cX3_addDoubt 14 = .ok (.getfield 75, 3) := by decide +kernel
theorem dX3_addDoubt_17 : decode cX3_addDoubt 17 = .ok (.iload_n 3, 1) := by decide +kernel
theorem dX3_addDoubt_18 : decode cX3_addDoubt 18 = .ok (.aload_n 1, 1) := by decide +kernel
theorem dX3_addDoubt_19 : decode cX3_addDoubt 19 = .ok (.getfield 75, 3) := by decide +kernel
theorem dX3_addDoubt_22 : decode cX3_addDoubt 22 = .ok (.imul, 1) := by decide +kernel
theorem dX3_addDoubt_23 : decode cX3_addDoubt 23 = .ok (.invokevirtual 131, 3) := by decide +kernel
theorem dX3_addDoubt_26 : decode cX3_addDoubt 26 = .ok (.iconst 0, 1) := by decide +kernel
theorem dX3_addDoubt_27 : decode cX3_addDoubt 27 = .ok (.istore 4, 2) := by decide +kernel
theorem dX3_addDoubt_29 : decode cX3_addDoubt 29 = .ok (.iload 4, 2) := by decide +kernel
theorem dX3_addDoubt_31 : decode cX3_addDoubt 31 = .ok (.bipush 27, 2) := by decide +kernel
theorem dX3_addDoubt_33 : decode cX3_addDoubt 33 = .ok (.if_icmp .ge 43, 3) := by decide +kernel
theorem dX3_addDoubt_36 : decode cX3_addDoubt 36 = .ok (.aload_n 0, 1) := by decide +kernel
theorem dX3_addDoubt_37 : decode cX3_addDoubt 37 = .ok (.getfield 27, 3) := by decide +kernel
theorem dX3_addDoubt_40 : decode cX3_addDoubt 40 = .ok (.iload 4, 2) := by decide +kernel
theorem dX3_addDoubt_42 : decode cX3_addDoubt 42 = .ok (.iaload, 1) := by decide +kernel
theorem dX3_addDoubt_43 : decode cX3_addDoubt 43 = .ok (.ifCond .le 27, 3) := by decide +kernel
theorem dX3_addDoubt_46 : decode cX3_addDoubt 46 = .ok (.aload_n 0, 1) := by decide +kernel
theorem dX3_addDoubt_47 : decode cX3_addDoubt 47 = .ok (.getfield 23, 3) := by decide +kernel
theorem dX3_addDoubt_50 : decode cX3_addDoubt 50 = .ok (.aload_n 0, 1) := by decide +kernel
theorem dX3_addDoubt_51 : decode cX3_addDoubt 51 = .ok (.getfield 27, 3) := by decide +kernel
theorem dX3_addDoubt_54 : decode cX3_addDoubt 54 = .ok (.iload 4, 2) := by decide +kernel
theorem dX3_addDoubt_56 : decode cX3_addDoubt 56 = .ok (.iaload, 1) := by decide +kernel
theorem dX3_addDoubt_57 : decode cX3_addDoubt 57 = .ok (.iload_n 3, 1) := by decide +kernel
theorem dX3_addDoubt_58 : decode cX3_addDoubt 58 = .ok (.ineg, 1) := by decide +kernel
theorem dX3_addDoubt_59 : decode cX3_addDoubt 59 = .ok (.aload_n 0, 1) := by decide +kernel
theorem dX3_addDoubt_60 : decode cX3_addDoubt 60 = .ok (.getfield 27, 3) := by decide +kernel
theorem dX3_addDoubt_63 : decode cX3_addDoubt 63 = .ok (.iload 4, 2) := by decide +kernel
theorem dX3_addDoubt_65 : decode cX3_addDoubt 65 = .ok (.iaload, 1) := by decide +kernel
theorem dX3_addDoubt_66 : decode cX3_addDoubt 66 = .ok (.imul, 1) := by decide +kernel
theorem dX3_addDoubt_67 : decode cX3_addDoubt 67 = .ok (.invokevirtual 131, 3) := by decide +kernel
theorem dX3_addDoubt_70 : decode cX3_addDoubt 70 = .ok (.iinc 4 1, 3) := by decide +kernel
theorem dX3_addDoubt_73 : decode cX3_addDoubt 73 = .ok (.goto (-44), 3) := by decide +kernel
theorem dX3_addDoubt_76 : decode cX3_addDoubt 76 = .ok (.return_, 1) := by decide +kernel
set_option maxRecDepth 20000 in
theorem ggX3_firstBreakingRow_X3_keepsGivens : GoodIn wsX3_firstBreakingRow wsX3_keepsGivens := goodIn_r _ [4, 5, 6, 7, 3, 8, 9] (by decide +kernel) (by decide +kernel)
set_option maxRecDepth 20000 in
theorem gX3_firstBreakingRow_X3_keepsGivens : GoodIn wsX3_firstBreakingRow (va_wsS RX3 165 yX3_keepsGivens wsX3_keepsGivens) := goodIn_app (goodIn_of _ (by decide +kernel)) ggX3_firstBreakingRow_X3_keepsGivens
set_option maxRecDepth 20000 in
theorem ggX3_firstBreakingRow_X3_sumByRow : GoodIn wsX3_firstBreakingRow wsX3_sumByRow := goodIn_r _ [8, 9] (by decide +kernel) (by decide +kernel)
set_option maxRecDepth 20000 in
theorem gX3_firstBreakingRow_X3_sumByRow : GoodIn wsX3_firstBreakingRow (va_wsS RX3 168 yX3_sumByRow wsX3_sumByRow) := goodIn_app (goodIn_of _ (by decide +kernel)) ggX3_firstBreakingRow_X3_sumByRow
theorem dX3_firstBreakingRow_0 : decode cX3_firstBreakingRow 0 = .ok (.iconst 0, 1) := by decide +kernel
theorem dX3_firstBreakingRow_1 : decode cX3_firstBreakingRow 1 = .ok (.istore_n 2, 1) := by decide +kernel
theorem dX3_firstBreakingRow_2 : decode cX3_firstBreakingRow 2 = .ok (.iload_n 2, 1) := by decide +kernel
theorem dX3_firstBreakingRow_3 : decode cX3_firstBreakingRow 3 = .ok (.bipush 8, 2) := by decide +kernel
theorem dX3_firstBreakingRow_5 : decode cX3_firstBreakingRow 5 = .ok (.if_icmp .ge 28, 3) := by decide +kernel
theorem dX3_firstBreakingRow_8 : decode cX3_firstBreakingRow 8 = .ok (.iload_n 2, 1) := by decide +kernel
theorem dX3_firstBreakingRow_9 : decode cX3_firstBreakingRow 9 = .ok (.iload_n 1, 1) := by decide +kernel
theorem dX3_firstBreakingRow_10 : decode cX3_firstBreakingRow 10 = .ok (.invokestatic 165, 3) := by decide +kernel
theorem dX3_firstBreakingRow_13 : decode cX3_firstBreakingRow 13 = .ok (.ifCond .eq 14, 3) := by decide +kernel
theorem dX3_firstBreakingRow_16 : decode cX3_firstBreakingRow 16 = .ok (.iload_n 2, 1) := by decide +kernel
theorem dX3_firstBreakingRow_17 : decode cX3_firstBreakingRow 17 = .ok (.aload_n 0, 1) := by decide +kernel
theorem dX3_firstBreakingRow_18 : decode cX3_firstBreakingRow 18 = .ok (.iconst 0, 1) := by decide +kernel
theorem dX3_firstBreakingRow_19 : decode cX3_firstBreakingRow 19 = .ok (.invokestatic 168, 3) := by decide +kernel
theorem dX3_firstBreakingRow_22 : decode cX3_firstBreakingRow 22 = .ok (.ifCond .ge 5, 3) := by decide +kernel
theorem dX3_firstBreakingRow_25 : decode cX3_firstBreakingRow 25 = .ok (.iload_n 2, 1) := by decide +kernel
theorem dX3_firstBreakingRow_26 : decode cX3_firstBreakingRow 26 = .ok (.ireturn, 1) := by decide +kernel
theorem dX3_firstBreakingRow_27 : decode cX3_firstBreakingRow 27 = .ok (.iinc 2 1, 3) := by decide +kernel
theorem dX3_firstBreakingRow_30 : decode cX3_firstBreakingRow 30 = .ok (.goto (-28), 3) := by decide +kernel
theorem dX3_firstBreakingRow_33 : decode cX3_firstBreakingRow 33 = .ok (.iconst (-1), 1) := by decide +kernel
theorem dX3_firstBreakingRow_34 : decode cX3_firstBreakingRow 34 = .ok (.ireturn, 1) := by decide +kernel
set_option maxRecDepth 20000 in
theorem ggX3_keepsGivens_X3_sumByRow : GoodIn wsX3_keepsGivens wsX3_sumByRow := goodIn_r _ [5, 6] (by decide +kernel) (by decide +kernel)
set_option maxRecDepth 20000 in
theorem gX3_keepsGivens_X3_sumByRow : GoodIn wsX3_keepsGivens (va_wsS RX3 168 yX3_sumByRow wsX3_sumByRow) := goodIn_app (goodIn_of _ (by decide +kernel)) ggX3_keepsGivens_X3_sumByRow
theorem dX3_keepsGivens_0 : decode cX3_keepsGivens 0 = .ok (.iconst 0, 1) := by decide +kernel
theorem dX3_keepsGivens_1 : decode cX3_keepsGivens 1 = .ok (.istore_n 2, 1) := by decide +kernel
theorem dX3_keepsGivens_2 : decode cX3_keepsGivens 2 = .ok (.iload_n 2, 1) := by decide +kernel
theorem dX3_keepsGivens_3 : decode cX3_keepsGivens 3 = .ok (.bipush 9, 2) := by decide +kernel
theorem dX3_keepsGivens_5 : decode cX3_keepsGivens 5 = .ok (.if_icmp .ge 44, 3) := by decide +kernel
theorem dX3_keepsGivens_8 : decode cX3_keepsGivens 8 = .ok (.iload_n 1, 1) := by decide +kernel
theorem dX3_keepsGivens_9 : decode cX3_keepsGivens 9 = .ok (.iload_n 2, 1) := by decide +kernel
theorem dX3_keepsGivens_10 : decode cX3_keepsGivens 10 = .ok (.ishr, 1) := by decide +kernel
theorem dX3_keepsGivens_11 : decode cX3_keepsGivens 11 = .ok (.iconst 1, 1) := by decide +kernel
theorem dX3_keepsGivens_12 : decode cX3_keepsGivens 12 = .ok (.iand, 1) := by decide +kernel
theorem dX3_keepsGivens_13 : decode cX3_keepsGivens 13 = .ok (.iconst 1, 1) := by decide +kernel
theorem dX3_keepsGivens_14 : decode cX3_keepsGivens 14 = .ok (.if_icmp .ne 7, 3) := by decide +kernel
theorem dX3_keepsGivens_17 : decode cX3_keepsGivens 17 = .ok (.iconst 1, 1) := by decide +kernel
theorem dX3_keepsGivens_18 : decode cX3_keepsGivens 18 = .ok (.goto 4, 3) := by decide +kernel
theorem dX3_keepsGivens_21 : decode cX3_keepsGivens 21 = .ok (.iconst 0, 1) := by decide +kernel
theorem dX3_keepsGivens_22 : decode cX3_keepsGivens 22 = .ok (.istore_n 3, 1) := by decide +kernel
theorem dX3_keepsGivens_23 : decode cX3_keepsGivens 23 = .ok (.iload_n 3, 1) := by decide +kernel
theorem dX3_keepsGivens_24 : decode cX3_keepsGivens 24 = .ok (.ifCond .eq 19, 3) := by decide +kernel
theorem dX3_keepsGivens_27 : decode cX3_keepsGivens 27 = .ok (.iload_n 0, 1) := by decide +kernel
theorem dX3_keepsGivens_28 : decode cX3_keepsGivens 28 = .ok (.getstatic 111, 3) := by decide +kernel
theorem dX3_keepsGivens_31 : decode cX3_keepsGivens 31 = .ok (.iload_n 2, 1) := by decide +kernel
theorem dX3_keepsGivens_32 : decode cX3_keepsGivens 32 = .ok (.bipush 8, 2) := by decide +kernel
theorem dX3_keepsGivens_34 : decode cX3_keepsGivens 34 = .ok (.imul, 1) := by decide +kernel
theorem dX3_keepsGivens_35 : decode cX3_keepsGivens 35 = .ok (.invokestatic 168, 3) := by decide +kernel
theorem dX3_keepsGivens_38 : decode cX3_keepsGivens 38 = .ok (.ifCond .eq 5, 3) := by decide +kernel
theorem dX3_keepsGivens_41 : decode cX3_keepsGivens 41 = .ok (.iconst 0, 1) := by decide +kernel
theorem dX3_keepsGivens_42 : decode cX3_keepsGivens 42 = .ok (.ireturn, 1) := by decide +kernel
theorem dX3_keepsGivens_43 : decode cX3_keepsGivens 43 = .ok (.iinc 2 1, 3) := by decide +kernel
theorem dX3_keepsGivens_46 : decode cX3_keepsGivens 46 = .ok (.goto (-44), 3) := by decide +kernel
theorem dX3_keepsGivens_49 : decode cX3_keepsGivens 49 = .ok (.iconst 1, 1) := by decide +kernel
theorem dX3_keepsGivens_50 : decode cX3_keepsGivens 50 = .ok (.ireturn, 1) := by decide +kernel
theorem dX3_sumByRow_0 : decode cX3_sumByRow 0 = .ok (.iconst 0, 1) := by decide +kernel
theorem dX3_sumByRow_1 : decode cX3_sumByRow 1 = .ok (.istore_n 3, 1) := by decide +kernel
theorem dX3_sumByRow_2 : decode cX3_sumByRow 2 = .ok (.iconst 1, 1) := by decide +kernel
theorem dX3_sumByRow_3 : decode cX3_sumByRow 3 = .ok (.istore 4, 2) := by decide +kernel
theorem dX3_sumByRow_5 : decode cX3_sumByRow 5 = .ok (.iload 4, 2) := by decide +kernel
theorem dX3_sumByRow_7 : decode cX3_sumByRow 7 = .ok (.bipush 8, 2) := by decide +kernel
theorem dX3_sumByRow_9 : decode cX3_sumByRow 9 = .ok (.if_icmp .ge 30, 3) := by decide +kernel
theorem dX3_sumByRow_12 : decode cX3_sumByRow 12 = .ok (.iload_n 3, 1) := by decide +kernel
theorem dX3_sumByRow_13 : decode cX3_sumByRow 13 = .ok (.aload_n 1, 1) := by decide +kernel
theorem dX3_sumByRow_14 : decode cX3_sumByRow 14 = .ok (.iload_n 2, 1) := by decide +kernel
theorem dX3_sumByRow_15 : decode cX3_sumByRow 15 = .ok (.iload 4, 2) := by decide +kernel
theorem dX3_sumByRow_17 : decode cX3_sumByRow 17 = .ok (.iadd, 1) := by decide +kernel
theorem dX3_sumByRow_18 : decode cX3_sumByRow 18 = .ok (.iaload, 1) := by decide +kernel
theorem dX3_sumByRow_19 : decode cX3_sumByRow 19 = .ok (.getstatic 172, 3) := by decide +kernel
theorem dX3_sumByRow_22 : decode cX3_sumByRow 22 = .ok (.iload_n 0, 1) := by decide +kernel
theorem dX3_sumByRow_23 : decode cX3_sumByRow 23 = .ok (.bipush 8, 2) := by decide +kernel
theorem dX3_sumByRow_25 : decode cX3_sumByRow 25 = .ok (.imul, 1) := by decide +kernel
theorem dX3_sumByRow_26 : decode cX3_sumByRow 26 = .ok (.iload 4, 2) := by decide +kernel
theorem dX3_sumByRow_28 : decode cX3_sumByRow 28 = .ok (.iadd, 1) := by decide +kernel
theorem dX3_sumByRow_29 : decode cX3_sumByRow 29 = .ok (.iaload, 1) := by decide +kernel
theorem dX3_sumByRow_30 : decode cX3_sumByRow 30 = .ok (.imul, 1) := by decide +kernel
theorem dX3_sumByRow_31 : decode cX3_sumByRow 31 = .ok (.iadd, 1) := by decide +kernel
theorem dX3_sumByRow_32 : decode cX3_sumByRow 32 = .ok (.istore_n 3, 1) := by decide +kernel
theorem dX3_sumByRow_33 : decode cX3_sumByRow 33 = .ok (.iinc 4 1, 3) := by decide +kernel
theorem dX3_sumByRow_36 : decode cX3_sumByRow 36 = .ok (.goto (-31), 3) := by decide +kernel
theorem dX3_sumByRow_39 : decode cX3_sumByRow 39 = .ok (.iload_n 3, 1) := by decide +kernel
theorem dX3_sumByRow_40 : decode cX3_sumByRow 40 = .ok (.ireturn, 1) := by decide +kernel
theorem dX3_splitIntoParts_0 : decode cX3_splitIntoParts 0 = .ok (.iconst 1, 1) := by decide +kernel
theorem dX3_splitIntoParts_1 : decode cX3_splitIntoParts 1 = .ok (.istore_n 2, 1) := by decide +kernel
theorem dX3_splitIntoParts_2 : decode cX3_splitIntoParts 2 = .ok (.iload_n 2, 1) := by decide +kernel
theorem dX3_splitIntoParts_3 : decode cX3_splitIntoParts 3 = .ok (.bipush 8, 2) := by decide +kernel
theorem dX3_splitIntoParts_5 : decode cX3_splitIntoParts 5 = .ok (.if_icmp .ge 48, 3) := by decide +kernel
theorem dX3_splitIntoParts_8 : decode cX3_splitIntoParts 8 = .ok (.iconst 0, 1) := by decide +kernel
theorem dX3_splitIntoParts_9 : decode cX3_splitIntoParts 9 = .ok (.istore_n 3, 1) := by decide +kernel
theorem dX3_splitIntoParts_10 : decode cX3_splitIntoParts 10 = .ok (.iconst 1, 1) := by decide +kernel
theorem dX3_splitIntoParts_11 : decode cX3_splitIntoParts 11 = .ok (.istore 4, 2) := by decide +kernel
theorem dX3_splitIntoParts_13 : decode cX3_splitIntoParts 13 = .ok (.iload 4, 2) := by decide +kernel
theorem dX3_splitIntoParts_15 : decode cX3_splitIntoParts 15 = .ok (.bipush 8, 2) := by decide +kernel
theorem dX3_splitIntoParts_17 : decode cX3_splitIntoParts 17 = .ok (.if_icmp .ge 23, 3) := by decide +kernel
theorem dX3_splitIntoParts_20 : decode cX3_splitIntoParts 20 = .ok (.iload 4, 2) := by decide +kernel
theorem dX3_splitIntoParts_22 : decode cX3_splitIntoParts 22 = .ok (.iload_n 2, 1) := by decide +kernel
theorem dX3_splitIntoParts_23 : decode cX3_splitIntoParts 23 = .ok (.iand, 1) := by decide +kernel
theorem dX3_splitIntoParts_24 : decode cX3_splitIntoParts 24 = .ok (.ifCond .eq 10, 3) := by decide +kernel
theorem dX3_splitIntoParts_27 : decode cX3_splitIntoParts 27 = .ok (.iload_n 3, 1) := by decide +kernel
theorem dX3_splitIntoParts_28 : decode cX3_splitIntoParts 28 = .ok (.aload_n 1, 1) := by decide +kernel
theorem dX3_splitIntoParts_29 : decode cX3_splitIntoParts 29 = .ok (.iload 4, 2) := by decide +kernel
theorem dX3_splitIntoParts_31 : decode cX3_splitIntoParts 31 = .ok (.iaload, 1) := by decide +kernel
theorem dX3_splitIntoParts_32 : decode cX3_splitIntoParts 32 = .ok (.iadd, 1) := by decide +kernel
theorem dX3_splitIntoParts_33 : decode cX3_splitIntoParts 33 = .ok (.istore_n 3, 1) := by decide +kernel
theorem dX3_splitIntoParts_34 : decode cX3_splitIntoParts 34 = .ok (.iinc 4 1, 3) := by decide +kernel
theorem dX3_splitIntoParts_37 : decode cX3_splitIntoParts 37 = .ok (.goto (-24), 3) := by decide +kernel
theorem dX3_splitIntoParts_40 : decode cX3_splitIntoParts 40 = .ok (.aload_n 0, 1) := by decide +kernel
theorem dX3_splitIntoParts_41 : decode cX3_splitIntoParts 41 = .ok (.getfield 31, 3) := by decide +kernel
theorem dX3_splitIntoParts_44 : decode cX3_splitIntoParts 44 = .ok (.iload_n 2, 1) := by decide +kernel
theorem dX3_splitIntoParts_45 : decode cX3_splitIntoParts 45 = .ok (.iload_n 3, 1) := by decide +kernel
theorem dX3_splitIntoParts_46 : decode cX3_splitIntoParts 46 = .ok (.iastore, 1) := by decide +kernel
theorem dX3_splitIntoParts_47 : decode cX3_splitIntoParts 47 = .ok (.iinc 2 1, 3) := by decide +kernel
theorem dX3_splitIntoParts_50 : decode cX3_splitIntoParts 50 = .ok (.goto (-48), 3) := by decide +kernel
theorem dX3_splitIntoParts_53 : decode cX3_splitIntoParts 53 = .ok (.return_, 1) := by decide +kernel
theorem dX3_leavesOneRow_0 : decode cX3_leavesOneRow 0 = .ok (.iload_n 0, 1) := by decide +kernel
theorem dX3_leavesOneRow_1 : decode cX3_leavesOneRow 1 = .ok (.iconst 3, 1) := by decide +kernel
theorem dX3_leavesOneRow_2 : decode cX3_leavesOneRow 2 = .ok (.if_icmp .lt 21, 3) := by decide +kernel
theorem dX3_leavesOneRow_5 : decode cX3_leavesOneRow 5 = .ok (.iload_n 1, 1) := by decide +kernel
theorem dX3_leavesOneRow_6 : decode cX3_leavesOneRow 6 = .ok (.iconst 3, 1) := by decide +kernel
theorem dX3_leavesOneRow_7 : decode cX3_leavesOneRow 7 = .ok (.if_icmp .lt 16, 3) := by decide +kernel
theorem dX3_leavesOneRow_10 : decode cX3_leavesOneRow 10 = .ok (.iload_n 0, 1) := by decide +kernel
theorem dX3_leavesOneRow_11 : decode cX3_leavesOneRow 11 = .ok (.iconst 3, 1) := by decide +kernel
theorem dX3_leavesOneRow_12 : decode cX3_leavesOneRow 12 = .ok (.irem, 1) := by decide +kernel
theorem dX3_leavesOneRow_13 : decode cX3_leavesOneRow 13 = .ok (.iload_n 1, 1) := by decide +kernel
theorem dX3_leavesOneRow_14 : decode cX3_leavesOneRow 14 = .ok (.iconst 3, 1) := by decide +kernel
theorem dX3_leavesOneRow_15 : decode cX3_leavesOneRow 15 = .ok (.irem, 1) := by decide +kernel
theorem dX3_leavesOneRow_16 : decode cX3_leavesOneRow 16 = .ok (.if_icmp .eq 7, 3) := by decide +kernel
theorem dX3_leavesOneRow_19 : decode cX3_leavesOneRow 19 = .ok (.iconst 1, 1) := by decide +kernel
theorem dX3_leavesOneRow_20 : decode cX3_leavesOneRow 20 = .ok (.goto 4, 3) := by decide +kernel
theorem dX3_leavesOneRow_23 : decode cX3_leavesOneRow 23 = .ok (.iconst 0, 1) := by decide +kernel
theorem dX3_leavesOneRow_24 : decode cX3_leavesOneRow 24 = .ok (.ireturn, 1) := by decide +kernel
set_option maxRecDepth 20000 in
theorem ggX3_tryWithout_X3_noneIsBelowNought : GoodIn wsX3_tryWithout wsX3_noneIsBelowNought := goodIn_r _ [7] (by decide +kernel) (by decide +kernel)
set_option maxRecDepth 20000 in
theorem gX3_tryWithout_X3_noneIsBelowNought : GoodIn wsX3_tryWithout (va_wsS RX3 175 yX3_noneIsBelowNought wsX3_noneIsBelowNought) := goodIn_app (goodIn_of _ (by decide +kernel)) ggX3_tryWithout_X3_noneIsBelowNought
theorem dX3_tryWithout_0 : decode cX3_tryWithout 0 = .ok (.aload_n 0, 1) := by decide +kernel
theorem dX3_tryWithout_1 : decode cX3_tryWithout 1 = .ok (.getfield 31, 3) := by decide +kernel
theorem dX3_tryWithout_4 : decode cX3_tryWithout 4 = .ok (.bipush 7, 2) := by decide +kernel
theorem dX3_tryWithout_6 : decode cX3_tryWithout 6 = .ok (.iaload, 1) := by decide +kernel
theorem dX3_tryWithout_7 : decode cX3_tryWithout 7 = .ok (.istore_n 3, 1) := by decide +kernel
theorem dX3_tryWithout_8 : decode cX3_tryWithout 8 = .ok (.iconst 0, 1) := by decide +kernel
theorem dX3_tryWithout_9 : decode cX3_tryWithout 9 = .ok (.istore 4, 2) := by decide +kernel
theorem dX3_tryWithout_11 : decode cX3_tryWithout 11 = .ok (.iconst 0, 1) := by decide +kernel
theorem dX3_tryWithout_12 : decode cX3_tryWithout 12 = .ok (.istore 5, 2) := by decide +kernel
theorem dX3_tryWithout_14 : decode cX3_tryWithout 14 = .ok (.iload 5, 2) := by decide +kernel
theorem dX3_tryWithout_16 : decode cX3_tryWithout 16 = .ok (.iconst 3, 1) := by decide +kernel
theorem dX3_tryWithout_17 : decode cX3_tryWithout 17 = .ok (.if_icmp .ge 108, 3) := by decide +kernel
theorem dX3_tryWithout_20 : decode cX3_tryWithout 20 = .ok (.aload_n 0, 1) := by decide +kernel
theorem dX3_tryWithout_21 : decode cX3_tryWithout 21 = .ok (.getfield 34, 3) := by decide +kernel
theorem dX3_tryWithout_24 : decode cX3_tryWithout 24 = .ok (.iload 5, 2) := by decide +kernel
theorem dX3_tryWithout_26 : decode cX3_tryWithout 26 = .ok (.aload_n 0, 1) := by decide +kernel
theorem dX3_tryWithout_27 : decode cX3_tryWithout 27 = .ok (.getfield 31, 3) := by decide +kernel
theorem dX3_tryWithout_30 : decode cX3_tryWithout 30 = .ok (.iconst 1, 1) := by decide +kernel
theorem dX3_tryWithout_31 : decode cX3_tryWithout 31 = .ok (.iload 5, 2) := by decide +kernel
theorem dX3_tryWithout_33 : decode cX3_tryWithout 33 = .ok (.ishl, 1) := by decide +kernel
theorem dX3_tryWithout_34 : decode cX3_tryWithout 34 = .ok (.iaload, 1) := by decide +kernel
theorem dX3_tryWithout_35 : decode cX3_tryWithout 35 = .ok (.iastore, 1) := by decide +kernel
theorem dX3_tryWithout_36 : decode cX3_tryWithout 36 = .ok (.aload_n 0, 1) := by decide +kernel
theorem dX3_tryWithout_37 : decode cX3_tryWithout 37 = .ok (.getfield 34, 3) := by decide +kernel
theorem dX3_tryWithout_40 : decode cX3_tryWithout 40 = .ok (.iconst 3, 1) := by decide +kernel
theorem dX3_tryWithout_41 : decode cX3_tryWithout 41 = .ok (.iload 5, 2) := by decide +kernel
theorem dX3_tryWithout_43 : decode cX3_tryWithout 43 = .ok (.iadd, 1) := by decide +kernel
theorem dX3_tryWithout_44 : decode cX3_tryWithout 44 = .ok (.iconst 0, 1) := by decide +kernel
theorem dX3_tryWithout_45 : decode cX3_tryWithout 45 = .ok (.iastore, 1) := by decide +kernel
theorem dX3_tryWithout_46 : decode cX3_tryWithout 46 = .ok (.iload_n 1, 1) := by decide +kernel
theorem dX3_tryWithout_47 : decode cX3_tryWithout 47 = .ok (.bipush 6, 2) := by decide +kernel
theorem dX3_tryWithout_49 : decode cX3_tryWithout 49 = .ok (.iload 5, 2) := by decide +kernel
theorem dX3_tryWithout_51 : decode cX3_tryWithout 51 = .ok (.iadd, 1) := by decide +kernel
theorem dX3_tryWithout_52 : decode cX3_tryWithout 52 = .ok (.if_icmp .eq 12, 3) := by decide +kernel
theorem dX3_tryWithout_55 : decode cX3_tryWithout 55 = .ok (.iload_n 2, 1) := by decide +kernel
theorem dX3_tryWithout_56 : decode cX3_tryWithout 56 = .ok (.bipush 6, 2) := by decide +kernel
theorem dX3_tryWithout_58 : decode cX3_tryWithout 58 = .ok (.iload 5, 2) := by decide +kernel
theorem dX3_tryWithout_60 : decode cX3_tryWithout 60 = .ok (.iadd, 1) := by decide +kernel
theorem dX3_tryWithout_61 : decode cX3_tryWithout 61 = .ok (.if_icmp .ne 26, 3) := by decide +kernel
theorem dX3_tryWithout_64 : decode cX3_tryWithout 64 = .ok (.aload_n 0, 1) := by decide +kernel
theorem dX3_tryWithout_65 : decode cX3_tryWithout 65 = .ok (.getfield 34, 3) := by decide +kernel
theorem dX3_tryWithout_68 : decode cX3_tryWithout 68 = .ok (.iconst 3, 1) := by decide +kernel
theorem dX3_tryWithout_69 : decode cX3_tryWithout 69 = .ok (.iload 5, 2) := by decide +kernel
theorem dX3_tryWithout_71 : decode cX3_tryWithout 71 = .ok (.iadd, 1) := by decide +kernel
theorem dX3_tryWithout_72 : decode cX3_tryWithout 72 = .ok (.aload_n 0, 1) := by decide +kernel
theorem dX3_tryWithout_73 : decode cX3_tryWithout 73 = .ok (.getfield 31, 3) := by decide +kernel
theorem dX3_tryWithout_76 : decode cX3_tryWithout 76 = .ok (.getstatic 94, 3) := by decide +kernel
theorem dX3_tryWithout_79 : decode cX3_tryWithout 79 = .ok (.iload 5, 2) := by decide +kernel
theorem dX3_tryWithout_81 : decode cX3_tryWithout 81 = .ok (.iaload, 1) := by decide +kernel
theorem dX3_tryWithout_82 : decode cX3_tryWithout 82 = .ok (.iaload, 1) := by decide +kernel
theorem dX3_tryWithout_83 : decode cX3_tryWithout 83 = .ok (.iastore, 1) := by decide +kernel
theorem dX3_tryWithout_84 : decode cX3_tryWithout 84 = .ok (.goto 23, 3) := by decide +kernel
theorem dX3_tryWithout_87 : decode cX3_tryWithout 87 = .ok (.iload_n 1, 1) := by decide +kernel
theorem dX3_tryWithout_88 : decode cX3_tryWithout 88 = .ok (.iconst 3, 1) := by decide +kernel
theorem dX3_tryWithout_89 : decode cX3_tryWithout 89 = .ok (.iload 5, 2) := by decide +kernel
theorem dX3_tryWithout_91 : decode cX3_tryWithout 91 = .ok (.iadd, 1) := by decide +kernel
theorem dX3_tryWithout_92 : decode cX3_tryWithout 92 = .ok (.if_icmp .eq 15, 3) := by decide +kernel
theorem dX3_tryWithout_95 : decode cX3_tryWithout 95 = .ok (.iload_n 2, 1) := by decide +kernel
theorem dX3_tryWithout_96 : decode cX3_tryWithout 96 = .ok (.iconst 3, 1) := by decide +kernel
theorem dX3_tryWithout_97 : decode cX3_tryWithout 97 = .ok (.iload 5, 2) := by decide +kernel
theorem dX3_tryWithout_99 : decode cX3_tryWithout 99 = .ok (.iadd, 1) := by decide +kernel
theorem dX3_tryWithout_100 : decode cX3_tryWithout 100 = .ok (.if_icmp .eq 7, 3) := by decide +kernel
theorem dX3_tryWithout_103 : decode cX3_tryWithout 103 = .ok (.iload 5, 2) := by decide +kernel
theorem dX3_tryWithout_105 : decode cX3_tryWithout 105 = .ok (.istore 4, 2) := by decide +kernel
theorem dX3_tryWithout_107 : decode cX3_tryWithout 107 = .ok (.iload_n 3, 1) := by decide +kernel
theorem dX3_tryWithout_108 : decode cX3_tryWithout 108 = .ok (.aload_n 0, 1) := by decide +kernel
theorem dX3_tryWithout_109 : decode cX3_tryWithout 109 = .ok (.getfield 34, 3) := by decide +kernel
theorem dX3_tryWithout_112 : decode cX3_tryWithout 112 = .ok (.iconst 3, 1) := by decide +kernel
theorem dX3_tryWithout_113 : decode cX3_tryWithout 113 = .ok (.iload 5, 2) := by decide +kernel
theorem dX3_tryWithout_115 : decode cX3_tryWithout 115 = .ok (.iadd, 1) := by decide +kernel
theorem dX3_tryWithout_116 : decode cX3_tryWithout 116 = .ok (.iaload, 1) := by decide +kernel
theorem dX3_tryWithout_117 : decode cX3_tryWithout 117 = .ok (.isub, 1) := by decide +kernel
theorem dX3_tryWithout_118 : decode cX3_tryWithout 118 = .ok (.istore_n 3, 1) := by decide +kernel
theorem dX3_tryWithout_119 : decode cX3_tryWithout 119 = .ok (.iinc 5 1, 3) := by decide +kernel
theorem dX3_tryWithout_122 : decode cX3_tryWithout 122 = .ok (.goto (-108), 3) := by decide +kernel
theorem dX3_tryWithout_125 : decode cX3_tryWithout 125 = .ok (.aload_n 0, 1) := by decide +kernel
theorem dX3_tryWithout_126 : decode cX3_tryWithout 126 = .ok (.getfield 34, 3) := by decide +kernel
theorem dX3_tryWithout_129 : decode cX3_tryWithout 129 = .ok (.iconst 3, 1) := by decide +kernel
theorem dX3_tryWithout_130 : decode cX3_tryWithout 130 = .ok (.iload 4, 2) := by decide +kernel
theorem dX3_tryWithout_132 : decode cX3_tryWithout 132 = .ok (.iadd, 1) := by decide +kernel
theorem dX3_tryWithout_133 : decode cX3_tryWithout 133 = .ok (.iload_n 3, 1) := by decide +kernel
theorem dX3_tryWithout_134 : decode cX3_tryWithout 134 = .ok (.iastore, 1) := by decide +kernel
theorem dX3_tryWithout_135 : decode cX3_tryWithout 135 = .ok (.iconst 0, 1) := by decide +kernel
theorem dX3_tryWithout_136 : decode cX3_tryWithout 136 = .ok (.istore 5, 2) := by decide +kernel
theorem dX3_tryWithout_138 : decode cX3_tryWithout 138 = .ok (.iload 5, 2) := by decide +kernel
theorem dX3_tryWithout_140 : decode cX3_tryWithout 140 = .ok (.iconst 3, 1) := by decide +kernel
theorem dX3_tryWithout_141 : decode cX3_tryWithout 141 = .ok (.if_icmp .ge 40, 3) := by decide +kernel
theorem dX3_tryWithout_144 : decode cX3_tryWithout 144 = .ok (.aload_n 0, 1) := by decide +kernel
theorem dX3_tryWithout_145 : decode cX3_tryWithout 145 = .ok (.getfield 34, 3) := by decide +kernel
theorem dX3_tryWithout_148 : decode cX3_tryWithout 148 = .ok (.bipush 6, 2) := by decide +kernel
theorem dX3_tryWithout_150 : decode cX3_tryWithout 150 = .ok (.iload 5, 2) := by decide +kernel
theorem dX3_tryWithout_152 : decode cX3_tryWithout 152 = .ok (.iadd, 1) := by decide +kernel
theorem dX3_tryWithout_153 : decode cX3_tryWithout 153 = .ok (.aload_n 0, 1) := by decide +kernel
theorem dX3_tryWithout_154 : decode cX3_tryWithout 154 = .ok (.getfield 31, 3) := by decide +kernel
theorem dX3_tryWithout_157 : decode cX3_tryWithout 157 = .ok (.getstatic 94, 3) := by decide +kernel
theorem dX3_tryWithout_160 : decode cX3_tryWithout 160 = .ok (.iload 5, 2) := by decide +kernel
theorem dX3_tryWithout_162 : decode cX3_tryWithout 162 = .ok (.iaload, 1) := by decide +kernel
theorem dX3_tryWithout_163 : decode cX3_tryWithout 163 = .ok (.iaload, 1) := by decide +kernel
theorem dX3_tryWithout_164 : decode cX3_tryWithout 164 = .ok (.aload_n 0, 1) := by decide +kernel
theorem dX3_tryWithout_165 : decode cX3_tryWithout 165 = .ok (.getfield 34, 3) := by decide +kernel
theorem dX3_tryWithout_168 : decode cX3_tryWithout 168 = .ok (.iconst 3, 1) := by decide +kernel
theorem dX3_tryWithout_169 : decode cX3_tryWithout 169 = .ok (.iload 5, 2) := by decide +kernel
theorem dX3_tryWithout_171 : decode cX3_tryWithout 171 = .ok (.iadd, 1) := by decide +kernel
theorem dX3_tryWithout_172 : decode cX3_tryWithout 172 = .ok (.iaload, 1) := by decide +kernel
theorem dX3_tryWithout_173 : decode cX3_tryWithout 173 = .ok (.isub, 1) := by decide +kernel
theorem dX3_tryWithout_174 : decode cX3_tryWithout 174 = .ok (.iastore, 1) := by decide +kernel
theorem dX3_tryWithout_175 : decode cX3_tryWithout 175 = .ok (.iinc 5 1, 3) := by decide +kernel
theorem dX3_tryWithout_178 : decode cX3_tryWithout 178 = .ok (.goto (-40), 3) := by decide +kernel
theorem dX3_tryWithout_181 : decode cX3_tryWithout 181 = .ok (.aload_n 0, 1) := by decide +kernel
theorem dX3_tryWithout_182 : decode cX3_tryWithout 182 = .ok (.getfield 34, 3) := by decide +kernel
theorem dX3_tryWithout_185 : decode cX3_tryWithout 185 = .ok (.invokestatic 175, 3) := by decide +kernel
theorem dX3_tryWithout_188 : decode cX3_tryWithout 188 = .ok (.ireturn, 1) := by decide +kernel
theorem dX3_noneIsBelowNought_0 : decode cX3_noneIsBelowNought 0 = .ok (.iconst 0, 1) := by decide +kernel
theorem dX3_noneIsBelowNought_1 : decode cX3_noneIsBelowNought 1 = .ok (.istore_n 1, 1) := by decide +kernel
theorem dX3_noneIsBelowNought_2 : decode cX3_noneIsBelowNought 2 = .ok (.iload_n 1, 1) := by decide +kernel
theorem dX3_noneIsBelowNought_3 : decode cX3_noneIsBelowNought 3 = .ok (.aload_n 0, 1) := by decide +kernel
theorem dX3_noneIsBelowNought_4 : decode cX3_noneIsBelowNought 4 = .ok (.arraylength, 1) := by decide +kernel
theorem dX3_noneIsBelowNought_5 : decode cX3_noneIsBelowNought 5 = .ok (.if_icmp .ge 17, 3) := by decide +kernel
theorem dX3_noneIsBelowNought_8 : decode cX3_noneIsBelowNought 8 = .ok (.aload_n 0, 1) := by decide +kernel
theorem dX3_noneIsBelowNought_9 : decode cX3_noneIsBelowNought 9 = .ok (.iload_n 1, 1) := by decide +kernel
theorem dX3_noneIsBelowNought_10 : decode cX3_noneIsBelowNought 10 = .ok (.iaload, 1) := by decide +kernel
theorem dX3_noneIsBelowNought_11 : decode cX3_noneIsBelowNought 11 = .ok (.ifCond .ge 5, 3) := by decide +kernel
theorem dX3_noneIsBelowNought_14 : decode cX3_noneIsBelowNought 14 = .ok (.iconst 0, 1) := by decide +kernel
theorem dX3_noneIsBelowNought_15 : decode cX3_noneIsBelowNought 15 = .ok (.ireturn, 1) := by decide +kernel
theorem dX3_noneIsBelowNought_16 : decode cX3_noneIsBelowNought 16 = .ok (.iinc 1 1, 3) := by decide +kernel
theorem dX3_noneIsBelowNought_19 : decode cX3_noneIsBelowNought 19 = .ok (.goto (-17), 3) := by decide +kernel
theorem dX3_noneIsBelowNought_22 : decode cX3_noneIsBelowNought 22 = .ok (.iconst 1, 1) := by decide +kernel
theorem dX3_noneIsBelowNought_23 : decode cX3_noneIsBelowNought 23 = .ok (.ireturn, 1) := by decide +kernel
theorem dX3_keepAboveNought_0 : decode cX3_keepAboveNought 0 = .ok (.iconst 0, 1) := by decide +kernel
theorem dX3_keepAboveNought_1 : decode cX3_keepAboveNought 1 = .ok (.istore_n 1, 1) := by decide +kernel
theorem dX3_keepAboveNought_2 : decode cX3_keepAboveNought 2 = .ok (.iconst 0, 1) := by decide +kernel
theorem dX3_keepAboveNought_3 : decode cX3_keepAboveNought 3 = .ok (.istore_n 2, 1) := by decide +kernel
theorem dX3_keepAboveNought_4 : decode cX3_keepAboveNought 4 = .ok (.iload_n 2, 1) := by decide +kernel
theorem dX3_keepAboveNought_5 : decode cX3_keepAboveNought 5 = .ok (.bipush 27, 2) := by decide +kernel
theorem dX3_keepAboveNought_7 : decode cX3_keepAboveNought 7 = .ok (.if_icmp .ge 33, 3) := by decide +kernel
theorem dX3_keepAboveNought_10 : decode cX3_keepAboveNought 10 = .ok (.aload_n 0, 1) := by decide +kernel
theorem dX3_keepAboveNought_11 : decode cX3_keepAboveNought 11 = .ok (.getfield 27, 3) := by decide +kernel
theorem dX3_keepAboveNought_14 : decode cX3_keepAboveNought 14 = .ok (.iload_n 2, 1) := by decide +kernel
theorem dX3_keepAboveNought_15 : decode cX3_keepAboveNought 15 = .ok (.iaload, 1) := by decide +kernel
theorem dX3_keepAboveNought_16 : decode cX3_keepAboveNought 16 = .ok (.ifCond .le 18, 3) := by decide +kernel
theorem dX3_keepAboveNought_19 : decode cX3_keepAboveNought 19 = .ok (.aload_n 0, 1) := by decide +kernel
theorem dX3_keepAboveNought_20 : decode cX3_keepAboveNought 20 = .ok (.getfield 27, 3) := by decide +kernel
theorem dX3_keepAboveNought_23 : decode cX3_keepAboveNought 23 = .ok (.iload_n 1, 1) := by decide +kernel
theorem dX3_keepAboveNought_24 : decode cX3_keepAboveNought 24 = .ok (.aload_n 0, 1) := by decide +kernel
theorem dX3_keepAboveNought_25 : decode cX3_keepAboveNought 25 = .ok (.getfield 27, 3) := by decide +kernel
theorem dX3_keepAboveNought_28 : decode cX3_keepAboveNought 28 = .ok (.iload_n 2, 1) := by decide +kernel
