theorem dX3_law_11 : decode cX3_law 11 = .ok (.ifCond .eq 14, 3) := by decide +kernel
theorem dX3_law_14 : decode cX3_law 14 = .ok (.iload_n 3, 1) := by decide +kernel
theorem dX3_law_15 : decode cX3_law 15 = .ok (.bipush (-2), 2) := by decide +kernel
theorem dX3_law_17 : decode cX3_law 17 = .ok (.if_icmp .lt 8, 3) := by decide +kernel
theorem dX3_law_20 : decode cX3_law 20 = .ok (.iload_n 3, 1) := by decide +kernel
theorem dX3_law_21 : decode cX3_law 21 = .ok (.iconst 2, 1) := by decide +kernel
theorem dX3_law_22 : decode cX3_law 22 = .ok (.if_icmp .le 5, 3) := by decide +kernel
theorem dX3_law_25 : decode cX3_law 25 = .ok (.iconst 0, 1) := by decide +kernel
theorem dX3_law_26 : decode cX3_law 26 = .ok (.ireturn, 1) := by decide +kernel
theorem dX3_law_27 : decode cX3_law 27 = .ok (.aload_n 0, 1) := by decide +kernel
theorem dX3_law_28 : decode cX3_law 28 = .ok (.getfield 17, 3) := by decide +kernel
theorem dX3_law_31 : decode cX3_law 31 = .ok (.iload_n 1, 1) := by decide +kernel
theorem dX3_law_32 : decode cX3_law 32 = .ok (.aaload, 1) := by decide +kernel
theorem dX3_law_33 : decode cX3_law 33 = .ok (.iload_n 2, 1) := by decide +kernel
theorem dX3_law_34 : decode cX3_law 34 = .ok (.iload_n 3, 1) := by decide +kernel
theorem dX3_law_35 : decode cX3_law 35 = .ok (.iastore, 1) := by decide +kernel
theorem dX3_law_36 : decode cX3_law 36 = .ok (.iconst 1, 1) := by decide +kernel
theorem dX3_law_37 : decode cX3_law 37 = .ok (.ireturn, 1) := by decide +kernel
set_option maxRecDepth 20000 in
theorem ggX3_plain_X3_isLaw : GoodIn wsX3_plain wsX3_isLaw := goodIn_r _ [10] (by decide +kernel) (by decide +kernel)
set_option maxRecDepth 20000 in
theorem gX3_plain_X3_isLaw : GoodIn wsX3_plain (va_wsS RX3 105 yX3_isLaw wsX3_isLaw) := goodIn_app (goodIn_of _ (by decide +kernel)) ggX3_plain_X3_isLaw
theorem dX3_plain_0 : decode cX3_plain 0 = .ok (.iload_n 1, 1) := by decide +kernel
theorem dX3_plain_1 : decode cX3_plain 1 = .ok (.invokestatic 105, 3) := by decide +kernel
theorem dX3_plain_4 : decode cX3_plain 4 = .ok (.ifCond .eq 13, 3) := by decide +kernel
theorem dX3_plain_7 : decode cX3_plain 7 = .ok (.iload_n 2, 1) := by decide +kernel
theorem dX3_plain_8 : decode cX3_plain 8 = .ok (.ifCond .lt 9, 3) := by decide +kernel
theorem dX3_plain_11 : decode cX3_plain 11 = .ok (.iload_n 2, 1) := by decide +kernel
theorem dX3_plain_12 : decode cX3_plain 12 = .ok (.bipush 9, 2) := by decide +kernel
theorem dX3_plain_14 : decode cX3_plain 14 = .ok (.if_icmp .lt 5, 3) := by decide +kernel
theorem dX3_plain_17 : decode cX3_plain 17 = .ok (.iconst 0, 1) := by decide +kernel
theorem dX3_plain_18 : decode cX3_plain 18 = .ok (.ireturn, 1) := by decide +kernel
theorem dX3_plain_19 : decode cX3_plain 19 = .ok (.getstatic 111, 3) := by decide +kernel
theorem dX3_plain_22 : decode cX3_plain 22 = .ok (.iload_n 2, 1) := by decide +kernel
theorem dX3_plain_23 : decode cX3_plain 23 = .ok (.bipush 8, 2) := by decide +kernel
theorem dX3_plain_25 : decode cX3_plain 25 = .ok (.imul, 1) := by decide +kernel
theorem dX3_plain_26 : decode cX3_plain 26 = .ok (.aload_n 0, 1) := by decide +kernel
theorem dX3_plain_27 : decode cX3_plain 27 = .ok (.getfield 17, 3) := by decide +kernel
theorem dX3_plain_30 : decode cX3_plain 30 = .ok (.iload_n 1, 1) := by decide +kernel
theorem dX3_plain_31 : decode cX3_plain 31 = .ok (.aaload, 1) := by decide +kernel
theorem dX3_plain_32 : decode cX3_plain 32 = .ok (.iconst 0, 1) := by decide +kernel
theorem dX3_plain_33 : decode cX3_plain 33 = .ok (.bipush 8, 2) := by decide +kernel
theorem dX3_plain_35 : decode cX3_plain 35 = .ok (.invokestatic 114, 3) := by decide +kernel
theorem dX3_plain_38 : decode cX3_plain 38 = .ok (.iconst 1, 1) := by decide +kernel
theorem dX3_plain_39 : decode cX3_plain 39 = .ok (.ireturn, 1) := by decide +kernel
set_option maxRecDepth 20000 in
theorem ggX3_number_X3_isLaw : GoodIn wsX3_number wsX3_isLaw := goodIn_r _ [5] (by decide +kernel) (by decide +kernel)
set_option maxRecDepth 20000 in
theorem gX3_number_X3_isLaw : GoodIn wsX3_number (va_wsS RX3 105 yX3_isLaw wsX3_isLaw) := goodIn_app (goodIn_of _ (by decide +kernel)) ggX3_number_X3_isLaw
set_option maxRecDepth 20000 in
theorem ggX3_number_X3_isSet : GoodIn wsX3_number wsX3_isSet := goodIn_r _ [8] (by decide +kernel) (by decide +kernel)
set_option maxRecDepth 20000 in
theorem gX3_number_X3_isSet : GoodIn wsX3_number (va_wsS RX3 108 yX3_isSet wsX3_isSet) := goodIn_app (goodIn_of _ (by decide +kernel)) ggX3_number_X3_isSet
theorem dX3_number_0 : decode cX3_number 0 = .ok (.iload_n 1, 1) := by decide +kernel
theorem dX3_number_1 : decode cX3_number 1 = .ok (.invokestatic 105, 3) := by decide +kernel
theorem dX3_number_4 : decode cX3_number 4 = .ok (.ifCond .eq 21, 3) := by decide +kernel
theorem dX3_number_7 : decode cX3_number 7 = .ok (.iload_n 2, 1) := by decide +kernel
theorem dX3_number_8 : decode cX3_number 8 = .ok (.invokestatic 108, 3) := by decide +kernel
theorem dX3_number_11 : decode cX3_number 11 = .ok (.ifCond .eq 14, 3) := by decide +kernel
theorem dX3_number_14 : decode cX3_number 14 = .ok (.aload_n 0, 1) := by decide +kernel
theorem dX3_number_15 : decode cX3_number 15 = .ok (.getfield 17, 3) := by decide +kernel
theorem dX3_number_18 : decode cX3_number 18 = .ok (.iload_n 1, 1) := by decide +kernel
theorem dX3_number_19 : decode cX3_number 19 = .ok (.aaload, 1) := by decide +kernel
theorem dX3_number_20 : decode cX3_number 20 = .ok (.iload_n 2, 1) := by decide +kernel
theorem dX3_number_21 : decode cX3_number 21 = .ok (.iaload, 1) := by decide +kernel
theorem dX3_number_22 : decode cX3_number 22 = .ok (.goto 5, 3) := by decide +kernel
theorem dX3_number_25 : decode cX3_number 25 = .ok (.bipush (-11), 2) := by decide +kernel
theorem dX3_number_27 : decode cX3_number 27 = .ok (.ireturn, 1) := by decide +kernel
set_option maxRecDepth 20000 in
theorem ggX3_sign_X3_isMadePlace : GoodIn wsX3_sign wsX3_isMadePlace := goodIn_r _ [8, 2, 9, 10, 7, 11, 12, 13, 14, 15, 16, 83, 84, 85, 86, 87, 88, 89, 90, 91, 92, 93] (by decide +kernel) (by decide +kernel)
set_option maxRecDepth 20000 in
theorem gX3_sign_X3_isMadePlace : GoodIn wsX3_sign (wsV RX3 83 RX3 yX3_isMadePlace wsX3_isMadePlace) := goodIn_app (goodIn_of _ (by decide +kernel)) ggX3_sign_X3_isMadePlace
set_option maxRecDepth 20000 in
theorem ggX3_sign_X3_isLaw : GoodIn wsX3_sign wsX3_isLaw := goodIn_r _ [19] (by decide +kernel) (by decide +kernel)
set_option maxRecDepth 20000 in
theorem gX3_sign_X3_isLaw : GoodIn wsX3_sign (va_wsS RX3 105 yX3_isLaw wsX3_isLaw) := goodIn_app (goodIn_of _ (by decide +kernel)) ggX3_sign_X3_isLaw
set_option maxRecDepth 20000 in
theorem ggX3_sign_X0_clear : GoodIn wsX3_sign wsX0_clear := goodIn_r _ [23, 24, 25, 26, 27, 28, 94, 95, 96] (by decide +kernel) (by decide +kernel)
set_option maxRecDepth 20000 in
theorem gX3_sign_X0_clear_n120 : GoodIn wsX3_sign (wsX0_clear) := ggX3_sign_X0_clear
set_option maxRecDepth 20000 in
theorem ggX3_sign_X3_addLawSum : GoodIn wsX3_sign wsX3_addLawSum := goodIn_r _ [32, 33, 34, 35, 7, 36, 37, 1, 38, 13, 39, 40, 41, 42, 26, 27, 28, 43, 44, 45, 21, 46, 47, 24, 83, 84, 85, 86, 87, 88, 89, 90, 91, 92, 93, 94, 95, 96] (by decide +kernel) (by decide +kernel)
set_option maxRecDepth 20000 in
theorem gX3_sign_X3_addLawSum : GoodIn wsX3_sign (wsV RX3 123 RX3 yX3_addLawSum wsX3_addLawSum) := goodIn_app (goodIn_of _ (by decide +kernel)) ggX3_sign_X3_addLawSum
set_option maxRecDepth 20000 in
theorem ggX3_sign_X0_signOfSum : GoodIn wsX3_sign wsX0_signOfSum := goodIn_r _ [50, 24, 51, 52, 53, 54, 55, 56, 57, 21, 58, 59, 60, 61, 62, 63, 64, 65, 66, 67, 68, 69, 70, 71, 72, 73, 74, 75, 76, 77, 78, 79, 80, 81, 82, 94, 95, 96, 97, 98] (by decide +kernel) (by decide +kernel)
set_option maxRecDepth 20000 in
theorem gX3_sign_X0_signOfSum_n127 : GoodIn wsX3_sign (wsX0_signOfSum) := ggX3_sign_X0_signOfSum
theorem dX3_sign_0 : decode cX3_sign 0 = .ok (.aload_n 0, 1) := by decide +kernel
theorem dX3_sign_1 : decode cX3_sign 1 = .ok (.iload_n 1, 1) := by decide +kernel
theorem dX3_sign_2 : decode cX3_sign 2 = .ok (.invokevirtual 83, 3) := by decide +kernel
theorem dX3_sign_5 : decode cX3_sign 5 = .ok (.ifCond .eq 10, 3) := by decide +kernel
theorem dX3_sign_8 : decode cX3_sign 8 = .ok (.iload_n 2, 1) := by decide +kernel
theorem dX3_sign_9 : decode cX3_sign 9 = .ok (.invokestatic 105, 3) := by decide +kernel
theorem dX3_sign_12 : decode cX3_sign 12 = .ok (.ifCond .ne 6, 3) := by decide +kernel
theorem dX3_sign_15 : decode cX3_sign 15 = .ok (.bipush (-2), 2) := by decide +kernel
theorem dX3_sign_17 : decode cX3_sign 17 = .ok (.ireturn, 1) := by decide +kernel
theorem dX3_sign_18 : decode cX3_sign 18 = .ok (.aload_n 0, 1) := by decide +kernel
theorem dX3_sign_19 : decode cX3_sign 19 = .ok (.getfield 23, 3) := by decide +kernel
theorem dX3_sign_22 : decode cX3_sign 22 = .ok (.invokevirtual 120, 3) := by decide +kernel
theorem dX3_sign_25 : decode cX3_sign 25 = .ok (.aload_n 0, 1) := by decide +kernel
theorem dX3_sign_26 : decode cX3_sign 26 = .ok (.aload_n 0, 1) := by decide +kernel
theorem dX3_sign_27 : decode cX3_sign 27 = .ok (.getfield 11, 3) := by decide +kernel
theorem dX3_sign_30 : decode cX3_sign 30 = .ok (.iload_n 1, 1) := by decide +kernel
theorem dX3_sign_31 : decode cX3_sign 31 = .ok (.aaload, 1) := by decide +kernel
theorem dX3_sign_32 : decode cX3_sign 32 = .ok (.aload_n 0, 1) := by decide +kernel
theorem dX3_sign_33 : decode cX3_sign 33 = .ok (.getfield 17, 3) := by decide +kernel
theorem dX3_sign_36 : decode cX3_sign 36 = .ok (.iload_n 2, 1) := by decide +kernel
theorem dX3_sign_37 : decode cX3_sign 37 = .ok (.aaload, 1) := by decide +kernel
theorem dX3_sign_38 : decode cX3_sign 38 = .ok (.iconst 1, 1) := by decide +kernel
theorem dX3_sign_39 : decode cX3_sign 39 = .ok (.invokevirtual 123, 3) := by decide +kernel
theorem dX3_sign_42 : decode cX3_sign 42 = .ok (.aload_n 0, 1) := by decide +kernel
theorem dX3_sign_43 : decode cX3_sign 43 = .ok (.getfield 23, 3) := by decide +kernel
theorem dX3_sign_46 : decode cX3_sign 46 = .ok (.invokevirtual 127, 3) := by decide +kernel
theorem dX3_sign_49 : decode cX3_sign 49 = .ok (.ireturn, 1) := by decide +kernel
set_option maxRecDepth 20000 in
theorem ggX3_compare_X3_isMadePlace : GoodIn wsX3_compare wsX3_isMadePlace := goodIn_r _ [8, 1, 9, 10, 7, 11, 12, 13, 14, 15, 16, 83, 84, 85, 86, 87, 88, 89, 90, 91, 92, 93] (by decide +kernel) (by decide +kernel)
set_option maxRecDepth 20000 in
theorem gX3_compare_X3_isMadePlace : GoodIn wsX3_compare (wsV RX3 83 RX3 yX3_isMadePlace wsX3_isMadePlace) := goodIn_app (goodIn_of _ (by decide +kernel)) ggX3_compare_X3_isMadePlace
set_option maxRecDepth 20000 in
theorem ggX3_compare_X3_isLaw : GoodIn wsX3_compare wsX3_isLaw := goodIn_r _ [19] (by decide +kernel) (by decide +kernel)
set_option maxRecDepth 20000 in
theorem gX3_compare_X3_isLaw : GoodIn wsX3_compare (va_wsS RX3 105 yX3_isLaw wsX3_isLaw) := goodIn_app (goodIn_of _ (by decide +kernel)) ggX3_compare_X3_isLaw
set_option maxRecDepth 20000 in
theorem ggX3_compare_X0_clear : GoodIn wsX3_compare wsX0_clear := goodIn_r _ [23, 24, 25, 26, 27, 28, 94, 95, 96] (by decide +kernel) (by decide +kernel)
set_option maxRecDepth 20000 in
theorem gX3_compare_X0_clear_n120 : GoodIn wsX3_compare (wsX0_clear) := ggX3_compare_X0_clear
set_option maxRecDepth 20000 in
theorem ggX3_compare_X3_addLawSum : GoodIn wsX3_compare wsX3_addLawSum := goodIn_r _ [32, 33, 34, 35, 7, 36, 37, 2, 38, 13, 39, 40, 41, 42, 26, 27, 28, 43, 44, 45, 21, 46, 47, 24, 83, 84, 85, 86, 87, 88, 89, 90, 91, 92, 93, 94, 95, 96] (by decide +kernel) (by decide +kernel)
set_option maxRecDepth 20000 in
theorem gX3_compare_X3_addLawSum : GoodIn wsX3_compare (wsV RX3 123 RX3 yX3_addLawSum wsX3_addLawSum) := goodIn_app (goodIn_of _ (by decide +kernel)) ggX3_compare_X3_addLawSum
set_option maxRecDepth 20000 in
theorem ggX3_compare_X0_signOfSum : GoodIn wsX3_compare wsX0_signOfSum := goodIn_r _ [50, 24, 51, 52, 53, 54, 55, 56, 57, 21, 58, 59, 60, 61, 62, 63, 64, 65, 66, 67, 68, 69, 70, 71, 72, 73, 74, 75, 76, 77, 78, 79, 80, 81, 82, 94, 95, 96, 97, 98] (by decide +kernel) (by decide +kernel)
set_option maxRecDepth 20000 in
theorem gX3_compare_X0_signOfSum_n127 : GoodIn wsX3_compare (wsX0_signOfSum) := ggX3_compare_X0_signOfSum
theorem dX3_compare_0 : decode cX3_compare 0 = .ok (.aload_n 0, 1) := by decide +kernel
theorem dX3_compare_1 : decode cX3_compare 1 = .ok (.iload_n 1, 1) := by decide +kernel
theorem dX3_compare_2 : decode cX3_compare 2 = .ok (.invokevirtual 83, 3) := by decide +kernel
theorem dX3_compare_5 : decode cX3_compare 5 = .ok (.ifCond .eq 26, 3) := by decide +kernel
theorem dX3_compare_8 : decode cX3_compare 8 = .ok (.iload_n 2, 1) := by decide +kernel
theorem dX3_compare_9 : decode cX3_compare 9 = .ok (.invokestatic 105, 3) := by decide +kernel
theorem dX3_compare_12 : decode cX3_compare 12 = .ok (.ifCond .eq 19, 3) := by decide +kernel
theorem dX3_compare_15 : decode cX3_compare 15 = .ok (.aload_n 0, 1) := by decide +kernel
theorem dX3_compare_16 : decode cX3_compare 16 = .ok (.iload_n 3, 1) := by decide +kernel
theorem dX3_compare_17 : decode cX3_compare 17 = .ok (.invokevirtual 83, 3) := by decide +kernel
theorem dX3_compare_20 : decode cX3_compare 20 = .ok (.ifCond .eq 11, 3) := by decide +kernel
theorem dX3_compare_23 : decode cX3_compare 23 = .ok (.iload 4, 2) := by decide +kernel
theorem dX3_compare_25 : decode cX3_compare 25 = .ok (.invokestatic 105, 3) := by decide +kernel
theorem dX3_compare_28 : decode cX3_compare 28 = .ok (.ifCond .ne 6, 3) := by decide +kernel
theorem dX3_compare_31 : decode cX3_compare 31 = .ok (.bipush (-2), 2) := by decide +kernel
theorem dX3_compare_33 : decode cX3_compare 33 = .ok (.ireturn, 1) := by decide +kernel
theorem dX3_compare_34 : decode cX3_compare 34 = .ok (.aload_n 0, 1) := by decide +kernel
theorem dX3_compare_35 : decode cX3_compare 35 = .ok (.getfield 11, 3) := by decide +kernel
theorem dX3_compare_38 : decode cX3_compare 38 = .ok (.iload_n 1, 1) := by decide +kernel
theorem dX3_compare_39 : decode cX3_compare 39 = .ok (.aaload, 1) := by decide +kernel
theorem dX3_compare_40 : decode cX3_compare 40 = .ok (.astore 5, 2) := by decide +kernel
theorem dX3_compare_42 : decode cX3_compare 42 = .ok (.aload_n 0, 1) := by decide +kernel
theorem dX3_compare_43 : decode cX3_compare 43 = .ok (.getfield 11, 3) := by decide +kernel
theorem dX3_compare_46 : decode cX3_compare 46 = .ok (.iload_n 3, 1) := by decide +kernel
theorem dX3_compare_47 : decode cX3_compare 47 = .ok (.aaload, 1) := by decide +kernel
theorem dX3_compare_48 : decode cX3_compare 48 = .ok (.astore 6, 2) := by decide +kernel
theorem dX3_compare_50 : decode cX3_compare 50 = .ok (.aload_n 0, 1) := by decide +kernel
theorem dX3_compare_51 : decode cX3_compare 51 = .ok (.getfield 23, 3) := by decide +kernel
theorem dX3_compare_54 : decode cX3_compare 54 = .ok (.invokevirtual 120, 3) := by decide +kernel
theorem dX3_compare_57 : decode cX3_compare 57 = .ok (.aload_n 0, 1) := by decide +kernel
theorem dX3_compare_58 : decode cX3_compare 58 = .ok (.aload 5, 2) := by decide +kernel
theorem dX3_compare_60 : decode cX3_compare 60 = .ok (.aload_n 0, 1) := by decide +kernel
theorem dX3_compare_61 : decode cX3_compare 61 = .ok (.getfield 17, 3) := by decide +kernel
theorem dX3_compare_64 : decode cX3_compare 64 = .ok (.iload_n 2, 1) := by decide +kernel
theorem dX3_compare_65 : decode cX3_compare 65 = .ok (.aaload, 1) := by decide +kernel
theorem dX3_compare_66 : decode cX3_compare 66 = .ok (.aload 6, 2) := by decide +kernel
theorem dX3_compare_68 : decode cX3_compare 68 = .ok (.getfield 75, 3) := by decide +kernel
theorem dX3_compare_71 : decode cX3_compare 71 = .ok (.invokevirtual 123, 3) := by decide +kernel
theorem dX3_compare_74 : decode cX3_compare 74 = .ok (.aload_n 0, 1) := by decide +kernel
theorem dX3_compare_75 : decode cX3_compare 75 = .ok (.aload 6, 2) := by decide +kernel
theorem dX3_compare_77 : decode cX3_compare 77 = .ok (.aload_n 0, 1) := by decide +kernel
theorem dX3_compare_78 : decode cX3_compare 78 = .ok (.getfield 17, 3) := by decide +kernel
theorem dX3_compare_81 : decode cX3_compare 81 = .ok (.iload 4, 2) := by decide +kernel
theorem dX3_compare_83 : decode cX3_compare 83 = .ok (.aaload, 1) := by decide +kernel
theorem dX3_compare_84 : decode cX3_compare 84 = .ok (.aload 5, 2) := by decide +kernel
theorem dX3_compare_86 : decode cX3_compare 86 = .ok (.getfield 75, 3) := by decide +kernel
theorem dX3_compare_89 : decode cX3_compare 89 = .ok (.ineg, 1) := by decide +kernel
theorem dX3_compare_90 : decode cX3_compare 90 = .ok (.invokevirtual 123, 3) := by decide +kernel
theorem dX3_compare_93 : decode cX3_compare 93 = .ok (.aload_n 0, 1) := by decide +kernel
theorem dX3_compare_94 : decode cX3_compare 94 = .ok (.getfield 23, 3) := by decide +kernel
theorem dX3_compare_97 : decode cX3_compare 97 = .ok (.invokevirtual 127, 3) := by decide +kernel
theorem dX3_compare_100 : decode cX3_compare 100 = .ok (.ireturn, 1) := by decide +kernel
set_option maxRecDepth 20000 in
theorem ggX3_near_X3_isMadePlace : GoodIn wsX3_near wsX3_isMadePlace := goodIn_r _ [8, 1, 9, 10, 7, 11, 12, 13, 14, 15, 16, 83, 84, 85, 86, 87, 88, 89, 90, 91, 92, 93] (by decide +kernel) (by decide +kernel)
set_option maxRecDepth 20000 in
theorem gX3_near_X3_isMadePlace : GoodIn wsX3_near (wsV RX3 83 RX3 yX3_isMadePlace wsX3_isMadePlace) := goodIn_app (goodIn_of _ (by decide +kernel)) ggX3_near_X3_isMadePlace
set_option maxRecDepth 20000 in
theorem ggX3_near_X3_isLaw : GoodIn wsX3_near wsX3_isLaw := goodIn_r _ [19] (by decide +kernel) (by decide +kernel)
set_option maxRecDepth 20000 in
theorem gX3_near_X3_isLaw : GoodIn wsX3_near (va_wsS RX3 105 yX3_isLaw wsX3_isLaw) := goodIn_app (goodIn_of _ (by decide +kernel)) ggX3_near_X3_isLaw
set_option maxRecDepth 20000 in
theorem ggX3_near_X0_clear : GoodIn wsX3_near wsX0_clear := goodIn_r _ [23, 24, 25, 26, 27, 28, 94, 95, 96] (by decide +kernel) (by decide +kernel)
set_option maxRecDepth 20000 in
theorem gX3_near_X0_clear_n120 : GoodIn wsX3_near (wsX0_clear) := ggX3_near_X0_clear
set_option maxRecDepth 20000 in
theorem ggX3_near_X3_addLawSum : GoodIn wsX3_near wsX3_addLawSum := goodIn_r _ [32, 33, 34, 35, 7, 36, 37, 2, 38, 13, 39, 40, 41, 42, 26, 27, 28, 43, 44, 45, 21, 46, 47, 24, 83, 84, 85, 86, 87, 88, 89, 90, 91, 92, 93, 94, 95, 96] (by decide +kernel) (by decide +kernel)
set_option maxRecDepth 20000 in
theorem gX3_near_X3_addLawSum : GoodIn wsX3_near (wsV RX3 123 RX3 yX3_addLawSum wsX3_addLawSum) := goodIn_app (goodIn_of _ (by decide +kernel)) ggX3_near_X3_addLawSum
set_option maxRecDepth 20000 in
theorem ggX3_near_X0_addLog : GoodIn wsX3_near wsX0_addLog := goodIn_r _ [47, 24, 94, 95, 96] (by decide +kernel) (by decide +kernel)
set_option maxRecDepth 20000 in
theorem gX3_near_X0_addLog_n131 : GoodIn wsX3_near (wsX0_addLog) := ggX3_near_X0_addLog
set_option maxRecDepth 20000 in
theorem ggX3_near_X0_signOfSum : GoodIn wsX3_near wsX0_signOfSum := goodIn_r _ [50, 24, 51, 52, 53, 54, 55, 56, 57, 21, 58, 59, 60, 61, 62, 63, 64, 65, 66, 67, 68, 69, 70, 71, 72, 73, 74, 75, 76, 77, 78, 79, 80, 81, 82, 94, 95, 96, 97, 98] (by decide +kernel) (by decide +kernel)
set_option maxRecDepth 20000 in
theorem gX3_near_X0_signOfSum_n127 : GoodIn wsX3_near (wsX0_signOfSum) := ggX3_near_X0_signOfSum
theorem dX3_near_0 : decode cX3_near 0 = .ok (.aload_n 0, 1) := by decide +kernel
theorem dX3_near_1 : decode cX3_near 1 = .ok (.iload_n 1, 1) := by decide +kernel
theorem dX3_near_2 : decode cX3_near 2 = .ok (.invokevirtual 83, 3) := by decide +kernel
theorem dX3_near_5 : decode cX3_near 5 = .ok (.ifCond .eq 10, 3) := by decide +kernel
theorem dX3_near_8 : decode cX3_near 8 = .ok (.iload_n 2, 1) := by decide +kernel
theorem dX3_near_9 : decode cX3_near 9 = .ok (.invokestatic 105, 3) := by decide +kernel
theorem dX3_near_12 : decode cX3_near 12 = .ok (.ifCond .ne 7, 3) := by decide +kernel
theorem dX3_near_15 : decode cX3_near 15 = .ok (.sipush (-10000), 3) := by decide +kernel
theorem dX3_near_18 : decode cX3_near 18 = .ok (.ireturn, 1) := by decide +kernel
theorem dX3_near_19 : decode cX3_near 19 = .ok (.aload_n 0, 1) := by decide +kernel
theorem dX3_near_20 : decode cX3_near 20 = .ok (.getfield 11, 3) := by decide +kernel
theorem dX3_near_23 : decode cX3_near 23 = .ok (.iload_n 1, 1) := by decide +kernel
theorem dX3_near_24 : decode cX3_near 24 = .ok (.aaload, 1) := by decide +kernel
theorem dX3_near_25 : decode cX3_near 25 = .ok (.getfield 75, 3) := by decide +kernel
theorem dX3_near_28 : decode cX3_near 28 = .ok (.istore_n 3, 1) := by decide +kernel
theorem dX3_near_29 : decode cX3_near 29 = .ok (.sipush (-1024), 3) := by decide +kernel
theorem dX3_near_32 : decode cX3_near 32 = .ok (.istore 4, 2) := by decide +kernel
theorem dX3_near_34 : decode cX3_near 34 = .ok (.aload_n 0, 1) := by decide +kernel
theorem dX3_near_35 : decode cX3_near 35 = .ok (.getfield 23, 3) := by decide +kernel
theorem dX3_near_38 : decode cX3_near 38 = .ok (.invokevirtual 120, 3) := by decide +kernel
theorem dX3_near_41 : decode cX3_near 41 = .ok (.aload_n 0, 1) := by decide +kernel
theorem dX3_near_42 : decode cX3_near 42 = .ok (.aload_n 0, 1) := by decide +kernel
theorem dX3_near_43 : decode cX3_near 43 = .ok (.getfield 11, 3) := by decide +kernel
theorem dX3_near_46 : decode cX3_near 46 = .ok (.iload_n 1, 1) := by decide +kernel
theorem dX3_near_47 : decode cX3_near 47 = .ok (.aaload, 1) := by decide +kernel
theorem dX3_near_48 : decode cX3_near 48 = .ok (.aload_n 0, 1) := by decide +kernel
theorem dX3_near_49 : decode cX3_near 49 = .ok (.getfield 17, 3) := by decide +kernel
theorem dX3_near_52 : decode cX3_near 52 = .ok (.iload_n 2, 1) := by decide +kernel
theorem dX3_near_53 : decode cX3_near 53 = .ok (.aaload, 1) := by decide +kernel
theorem dX3_near_54 : decode cX3_near 54 = .ok (.bipush 16, 2) := by decide +kernel
theorem dX3_near_56 : decode cX3_near 56 = .ok (.invokevirtual 123, 3) := by decide +kernel
theorem dX3_near_59 : decode cX3_near 59 = .ok (.aload_n 0, 1) := by decide +kernel
theorem dX3_near_60 : decode cX3_near 60 = .ok (.getfield 23, 3) := by decide +kernel
theorem dX3_near_63 : decode cX3_near 63 = .ok (.iconst 2, 1) := by decide +kernel
theorem dX3_near_64 : decode cX3_near 64 = .ok (.iload 4, 2) := by decide +kernel
theorem dX3_near_66 : decode cX3_near 66 = .ok (.ineg, 1) := by decide +kernel
theorem dX3_near_67 : decode cX3_near 67 = .ok (.iload_n 3, 1) := by decide +kernel
theorem dX3_near_68 : decode cX3_near 68 = .ok (.imul, 1) := by decide +kernel
theorem dX3_near_69 : decode cX3_near 69 = .ok (.invokevirtual 131, 3) := by decide +kernel
theorem dX3_near_72 : decode cX3_near 72 = .ok (.sipush 1024, 3) := by decide +kernel
theorem dX3_near_75 : decode cX3_near 75 = .ok (.istore 5, 2) := by decide +kernel
theorem dX3_near_77 : decode cX3_near 77 = .ok (.iload 5, 2) := by decide +kernel
theorem dX3_near_79 : decode cX3_near 79 = .ok (.ifCond .le 57, 3) := by decide +kernel
theorem dX3_near_82 : decode cX3_near 82 = .ok (.aload_n 0, 1) := by decide +kernel
theorem dX3_near_83 : decode cX3_near 83 = .ok (.getfield 23, 3) := by decide +kernel
theorem dX3_near_86 : decode cX3_near 86 = .ok (.iconst 2, 1) := by decide +kernel
theorem dX3_near_87 : decode cX3_near 87 = .ok (.iload 5, 2) := by decide +kernel
theorem dX3_near_89 : decode cX3_near 89 = .ok (.ineg, 1) := by decide +kernel
theorem dX3_near_90 : decode cX3_near 90 = .ok (.iload_n 3, 1) := by decide +kernel
theorem dX3_near_91 : decode cX3_near 91 = .ok (.imul, 1) := by decide +kernel
theorem dX3_near_92 : decode cX3_near 92 = .ok (.invokevirtual 131, 3) := by decide +kernel
theorem dX3_near_95 : decode cX3_near 95 = .ok (.aload_n 0, 1) := by decide +kernel
theorem dX3_near_96 : decode cX3_near 96 = .ok (.getfield 23, 3) := by decide +kernel
theorem dX3_near_99 : decode cX3_near 99 = .ok (.invokevirtual 127, 3) := by decide +kernel
theorem dX3_near_102 : decode cX3_near 102 = .ok (.ifCond .lt 13, 3) := by decide +kernel
theorem dX3_near_105 : decode cX3_near 105 = .ok (.iload 4, 2) := by decide +kernel
theorem dX3_near_107 : decode cX3_near 107 = .ok (.iload 5, 2) := by decide +kernel
theorem dX3_near_109 : decode cX3_near 109 = .ok (.iadd, 1) := by decide +kernel
theorem dX3_near_110 : decode cX3_near 110 = .ok (.istore 4, 2) := by decide +kernel
theorem dX3_near_112 : decode cX3_near 112 = .ok (.goto 15, 3) := by decide +kernel
theorem dX3_near_115 : decode cX3_near 115 = .ok (.aload_n 0, 1) := by decide +kernel
theorem dX3_near_116 : decode cX3_near 116 = .ok (.getfield 23, 3) := by decide +kernel
theorem dX3_near_119 : decode cX3_near 119 = .ok (.iconst 2, 1) := by decide +kernel
theorem dX3_near_120 : decode cX3_near 120 = .ok (.iload 5, 2) := by decide +kernel
theorem dX3_near_122 : decode cX3_near 122 = .ok (.iload_n 3, 1) := by decide +kernel
theorem dX3_near_123 : decode cX3_near 123 = .ok (.imul, 1) := by decide +kernel
theorem dX3_near_124 : decode cX3_near 124 = .ok (.invokevirtual 131, 3) := by decide +kernel
theorem dX3_near_127 : decode cX3_near 127 = .ok (.iload 5, 2) := by decide +kernel
theorem dX3_near_129 : decode cX3_near 129 = .ok (.iconst 2, 1) := by decide +kernel
theorem dX3_near_130 : decode cX3_near 130 = .ok (.idiv, 1) := by decide +kernel
theorem dX3_near_131 : decode cX3_near 131 = .ok (.istore 5, 2) := by decide +kernel
theorem dX3_near_133 : decode cX3_near 133 = .ok (.goto (-56), 3) := by decide +kernel
theorem dX3_near_136 : decode cX3_near 136 = .ok (.iload 4, 2) := by decide +kernel
theorem dX3_near_138 : decode cX3_near 138 = .ok (.ireturn, 1) := by decide +kernel
set_option maxRecDepth 20000 in
theorem ggX3_always_X3_isLaw : GoodIn wsX3_always wsX3_isLaw := goodIn_r _ [5] (by decide +kernel) (by decide +kernel)
set_option maxRecDepth 20000 in
theorem gX3_always_X3_isLaw : GoodIn wsX3_always (va_wsS RX3 105 yX3_isLaw wsX3_isLaw) := goodIn_app (goodIn_of _ (by decide +kernel)) ggX3_always_X3_isLaw
set_option maxRecDepth 20000 in
theorem ggX3_always_X3_isGivens : GoodIn wsX3_always wsX3_isGivens := goodIn_r _ [8] (by decide +kernel) (by decide +kernel)
set_option maxRecDepth 20000 in
theorem gX3_always_X3_isGivens : GoodIn wsX3_always (va_wsS RX3 135 yX3_isGivens wsX3_isGivens) := goodIn_app (goodIn_of _ (by decide +kernel)) ggX3_always_X3_isGivens
set_option maxRecDepth 20000 in
theorem ggX3_always_X3_firstBreakingRow : GoodIn wsX3_always wsX3_firstBreakingRow := goodIn_r _ [11, 12, 13, 4, 14, 15, 16, 17, 18, 19] (by decide +kernel) (by decide +kernel)
set_option maxRecDepth 20000 in
theorem gX3_always_X3_firstBreakingRow : GoodIn wsX3_always (va_wsS RX3 138 yX3_firstBreakingRow wsX3_firstBreakingRow) := goodIn_app (goodIn_of _ (by decide +kernel)) ggX3_always_X3_firstBreakingRow
theorem dX3_always_0 : decode cX3_always 0 = .ok (.iload_n 1, 1) := by decide +kernel
theorem dX3_always_1 : decode cX3_always 1 = .ok (.invokestatic 105, 3) := by decide +kernel
theorem dX3_always_4 : decode cX3_always 4 = .ok (.ifCond .eq 10, 3) := by decide +kernel
theorem dX3_always_7 : decode cX3_always 7 = .ok (.iload_n 2, 1) := by decide +kernel
theorem dX3_always_8 : decode cX3_always 8 = .ok (.invokestatic 135, 3) := by decide +kernel
theorem dX3_always_11 : decode cX3_always 11 = .ok (.ifCond .ne 5, 3) := by decide +kernel
theorem dX3_always_14 : decode cX3_always 14 = .ok (.iconst (-1), 1) := by decide +kernel
theorem dX3_always_15 : decode cX3_always 15 = .ok (.ireturn, 1) := by decide +kernel
theorem dX3_always_16 : decode cX3_always 16 = .ok (.aload_n 0, 1) := by decide +kernel
theorem dX3_always_17 : decode cX3_always 17 = .ok (.getfield 17, 3) := by decide +kernel
theorem dX3_always_20 : decode cX3_always 20 = .ok (.iload_n 1, 1) := by decide +kernel
theorem dX3_always_21 : decode cX3_always 21 = .ok (.aaload, 1) := by decide +kernel
theorem dX3_always_22 : decode cX3_always 22 = .ok (.iload_n 2, 1) := by decide +kernel
theorem dX3_always_23 : decode cX3_always 23 = .ok (.invokestatic 138, 3) := by decide +kernel
theorem dX3_always_26 : decode cX3_always 26 = .ok (.iconst (-1), 1) := by decide +kernel
theorem dX3_always_27 : decode cX3_always 27 = .ok (.if_icmp .ne 7, 3) := by decide +kernel
theorem dX3_always_30 : decode cX3_always 30 = .ok (.iconst 1, 1) := by decide +kernel
theorem dX3_always_31 : decode cX3_always 31 = .ok (.goto 4, 3) := by decide +kernel
theorem dX3_always_34 : decode cX3_always 34 = .ok (.iconst 0, 1) := by decide +kernel
theorem dX3_always_35 : decode cX3_always 35 = .ok (.ireturn, 1) := by decide +kernel
set_option maxRecDepth 20000 in
theorem ggX3_breaks_X3_isLaw : GoodIn wsX3_breaks wsX3_isLaw := goodIn_r _ [5] (by decide +kernel) (by decide +kernel)
set_option maxRecDepth 20000 in
theorem gX3_breaks_X3_isLaw : GoodIn wsX3_breaks (va_wsS RX3 105 yX3_isLaw wsX3_isLaw) := goodIn_app (goodIn_of _ (by decide +kernel)) ggX3_breaks_X3_isLaw
set_option maxRecDepth 20000 in
theorem ggX3_breaks_X3_isGivens : GoodIn wsX3_breaks wsX3_isGivens := goodIn_r _ [8] (by decide +kernel) (by decide +kernel)
set_option maxRecDepth 20000 in
theorem gX3_breaks_X3_isGivens : GoodIn wsX3_breaks (va_wsS RX3 135 yX3_isGivens wsX3_isGivens) := goodIn_app (goodIn_of _ (by decide +kernel)) ggX3_breaks_X3_isGivens
set_option maxRecDepth 20000 in
theorem ggX3_breaks_X3_firstBreakingRow : GoodIn wsX3_breaks wsX3_firstBreakingRow := goodIn_r _ [11, 12, 13, 4, 14, 15, 16, 17, 18, 19] (by decide +kernel) (by decide +kernel)
set_option maxRecDepth 20000 in
theorem gX3_breaks_X3_firstBreakingRow : GoodIn wsX3_breaks (va_wsS RX3 138 yX3_firstBreakingRow wsX3_firstBreakingRow) := goodIn_app (goodIn_of _ (by decide +kernel)) ggX3_breaks_X3_firstBreakingRow
theorem dX3_breaks_0 : decode cX3_breaks 0 = .ok (.iload_n 1, 1) := by decide +kernel
theorem dX3_breaks_1 : decode cX3_breaks 1 = .ok (.invokestatic 105, 3) := by decide +kernel
theorem dX3_breaks_4 : decode cX3_breaks 4 = .ok (.ifCond .eq 23, 3) := by decide +kernel
theorem dX3_breaks_7 : decode cX3_breaks 7 = .ok (.iload_n 2, 1) := by decide +kernel
theorem dX3_breaks_8 : decode cX3_breaks 8 = .ok (.invokestatic 135, 3) := by decide +kernel
theorem dX3_breaks_11 : decode cX3_breaks 11 = .ok (.ifCond .eq 16, 3) := by decide +kernel
theorem dX3_breaks_14 : decode cX3_breaks 14 = .ok (.aload_n 0, 1) := by decide +kernel
theorem dX3_breaks_15 : decode cX3_breaks 15 = .ok (.getfield 17, 3) := by decide +kernel
theorem dX3_breaks_18 : decode cX3_breaks 18 = .ok (.iload_n 1, 1) := by decide +kernel
theorem dX3_breaks_19 : decode cX3_breaks 19 = .ok (.aaload, 1) := by decide +kernel
theorem dX3_breaks_20 : decode cX3_breaks 20 = .ok (.iload_n 2, 1) := by decide +kernel
theorem dX3_breaks_21 : decode cX3_breaks 21 = .ok (.invokestatic 138, 3) := by decide +kernel
theorem dX3_breaks_24 : decode cX3_breaks 24 = .ok (.goto 4, 3) := by decide +kernel
theorem dX3_breaks_27 : decode cX3_breaks 27 = .ok (.iconst (-1), 1) := by decide +kernel
theorem dX3_breaks_28 : decode cX3_breaks 28 = .ok (.ireturn, 1) := by decide +kernel
set_option maxRecDepth 20000 in
theorem ggX3_prove_X3_isLaw : GoodIn wsX3_prove wsX3_isLaw := goodIn_r _ [12] (by decide +kernel) (by decide +kernel)
set_option maxRecDepth 20000 in
theorem gX3_prove_X3_isLaw : GoodIn wsX3_prove (va_wsS RX3 105 yX3_isLaw wsX3_isLaw) := goodIn_app (goodIn_of _ (by decide +kernel)) ggX3_prove_X3_isLaw
set_option maxRecDepth 20000 in
theorem ggX3_prove_X3_splitIntoParts : GoodIn wsX3_prove wsX3_splitIntoParts := goodIn_r _ [16, 17, 29, 30, 31, 32, 33, 34, 35, 36] (by decide +kernel) (by decide +kernel)
set_option maxRecDepth 20000 in
theorem gX3_prove_X3_splitIntoParts : GoodIn wsX3_prove (wsV RX3 142 RX3 yX3_splitIntoParts wsX3_splitIntoParts) := goodIn_app (goodIn_of _ (by decide +kernel)) ggX3_prove_X3_splitIntoParts
set_option maxRecDepth 20000 in
theorem ggX3_prove_X3_leavesOneRow : GoodIn wsX3_prove wsX3_leavesOneRow := goodIn_r _ [20] (by decide +kernel) (by decide +kernel)
set_option maxRecDepth 20000 in
theorem gX3_prove_X3_leavesOneRow : GoodIn wsX3_prove (va_wsS RX3 146 yX3_leavesOneRow wsX3_leavesOneRow) := goodIn_app (goodIn_of _ (by decide +kernel)) ggX3_prove_X3_leavesOneRow
set_option maxRecDepth 20000 in
theorem ggX3_prove_X3_tryWithout : GoodIn wsX3_prove wsX3_tryWithout := goodIn_r _ [24, 17, 2, 25, 26, 27, 11, 28, 29, 30, 31, 32, 33, 34, 35, 36] (by decide +kernel) (by decide +kernel)
set_option maxRecDepth 20000 in
theorem gX3_prove_X3_tryWithout : GoodIn wsX3_prove (wsV RX3 149 RX3 yX3_tryWithout wsX3_tryWithout) := goodIn_app (goodIn_of _ (by decide +kernel)) ggX3_prove_X3_tryWithout
theorem dX3_prove_0 : decode cX3_prove 0 = .ok (.iload_n 1, 1) := by decide +kernel
theorem dX3_prove_1 : decode cX3_prove 1 = .ok (.invokestatic 105, 3) := by decide +kernel
theorem dX3_prove_4 : decode cX3_prove 4 = .ok (.ifCond .ne 5, 3) := by decide +kernel
theorem dX3_prove_7 : decode cX3_prove 7 = .ok (.iconst 0, 1) := by decide +kernel
theorem dX3_prove_8 : decode cX3_prove 8 = .ok (.ireturn, 1) := by decide +kernel
theorem dX3_prove_9 : decode cX3_prove 9 = .ok (.aload_n 0, 1) := by decide +kernel
theorem dX3_prove_10 : decode cX3_prove 10 = .ok (.aload_n 0, 1) := by decide +kernel
theorem dX3_prove_11 : decode cX3_prove 11 = .ok (.getfield 17, 3) := by decide +kernel
theorem dX3_prove_14 : decode cX3_prove 14 = .ok (.iload_n 1, 1) := by decide +kernel
theorem dX3_prove_15 : decode cX3_prove 15 = .ok (.aaload, 1) := by decide +kernel
theorem dX3_prove_16 : decode cX3_prove 16 = .ok (.invokevirtual 142, 3) := by decide +kernel
theorem dX3_prove_19 : decode cX3_prove 19 = .ok (.iconst 0, 1) := by decide +kernel
theorem dX3_prove_20 : decode cX3_prove 20 = .ok (.istore_n 2, 1) := by decide +kernel
theorem dX3_prove_21 : decode cX3_prove 21 = .ok (.iload_n 2, 1) := by decide +kernel
theorem dX3_prove_22 : decode cX3_prove 22 = .ok (.bipush 9, 2) := by decide +kernel
theorem dX3_prove_24 : decode cX3_prove 24 = .ok (.if_icmp .ge 64, 3) := by decide +kernel
theorem dX3_prove_27 : decode cX3_prove 27 = .ok (.iload_n 2, 1) := by decide +kernel
theorem dX3_prove_28 : decode cX3_prove 28 = .ok (.iconst 1, 1) := by decide +kernel
theorem dX3_prove_29 : decode cX3_prove 29 = .ok (.iadd, 1) := by decide +kernel
theorem dX3_prove_30 : decode cX3_prove 30 = .ok (.istore_n 3, 1) := by decide +kernel
theorem dX3_prove_31 : decode cX3_prove 31 = .ok (.iload_n 3, 1) := by decide +kernel
theorem dX3_prove_32 : decode cX3_prove 32 = .ok (.bipush 9, 2) := by decide +kernel
theorem dX3_prove_34 : decode cX3_prove 34 = .ok (.if_icmp .ge 48, 3) := by decide +kernel
theorem dX3_prove_37 : decode cX3_prove 37 = .ok (.iload_n 2, 1) := by decide +kernel
theorem dX3_prove_38 : decode cX3_prove 38 = .ok (.iload_n 3, 1) := by decide +kernel
theorem dX3_prove_39 : decode cX3_prove 39 = .ok (.invokestatic 146, 3) := by decide +kernel
theorem dX3_prove_42 : decode cX3_prove 42 = .ok (.ifCond .eq 34, 3) := by decide +kernel
theorem dX3_prove_45 : decode cX3_prove 45 = .ok (.aload_n 0, 1) := by decide +kernel
theorem dX3_prove_46 : decode cX3_prove 46 = .ok (.iload_n 2, 1) := by decide +kernel
theorem dX3_prove_47 : decode cX3_prove 47 = .ok (.iload_n 3, 1) := by decide +kernel
theorem dX3_prove_48 : decode cX3_prove 48 = .ok (.invokevirtual 149, 3) := by decide +kernel
theorem dX3_prove_51 : decode cX3_prove 51 = .ok (.ifCond .eq 25, 3) := by decide +kernel
theorem dX3_prove_54 : decode cX3_prove 54 = .ok (.aload_n 0, 1) := by decide +kernel
theorem dX3_prove_55 : decode cX3_prove 55 = .ok (.getfield 34, 3) := by decide +kernel
theorem dX3_prove_58 : decode cX3_prove 58 = .ok (.iconst 0, 1) := by decide +kernel
theorem dX3_prove_59 : decode cX3_prove 59 = .ok (.aload_n 0, 1) := by decide +kernel
theorem dX3_prove_60 : decode cX3_prove 60 = .ok (.getfield 37, 3) := by decide +kernel
theorem dX3_prove_63 : decode cX3_prove 63 = .ok (.iconst 0, 1) := by decide +kernel
theorem dX3_prove_64 : decode cX3_prove 64 = .ok (.bipush 9, 2) := by decide +kernel
theorem dX3_prove_66 : decode cX3_prove 66 = .ok (.invokestatic 114, 3) := by decide +kernel
theorem dX3_prove_69 : decode cX3_prove 69 = .ok (.aload_n 0, 1) := by decide +kernel
theorem dX3_prove_70 : decode cX3_prove 70 = .ok (.iconst 1, 1) := by decide +kernel
theorem dX3_prove_71 : decode cX3_prove 71 = .ok (.putfield 40, 3) := by decide +kernel
theorem dX3_prove_74 : decode cX3_prove 74 = .ok (.iconst 1, 1) := by decide +kernel
theorem dX3_prove_75 : decode cX3_prove 75 = .ok (.ireturn, 1) := by decide +kernel
theorem dX3_prove_76 : decode cX3_prove 76 = .ok (.iinc 3 1, 3) := by decide +kernel
theorem dX3_prove_79 : decode cX3_prove 79 = .ok (.goto (-48), 3) := by decide +kernel
theorem dX3_prove_82 : decode cX3_prove 82 = .ok (.iinc 2 1, 3) := by decide +kernel
theorem dX3_prove_85 : decode cX3_prove 85 = .ok (.goto (-64), 3) := by decide +kernel
theorem dX3_prove_88 : decode cX3_prove 88 = .ok (.iconst 0, 1) := by decide +kernel
theorem dX3_prove_89 : decode cX3_prove 89 = .ok (.ireturn, 1) := by decide +kernel
theorem dX3_share_0 : decode cX3_share 0 = .ok (.aload_n 0, 1) := by decide +kernel
theorem dX3_share_1 : decode cX3_share 1 = .ok (.getfield 40, 3) := by decide +kernel
theorem dX3_share_4 : decode cX3_share 4 = .ok (.ifCond .eq 22, 3) := by decide +kernel
theorem dX3_share_7 : decode cX3_share 7 = .ok (.iload_n 1, 1) := by decide +kernel
theorem dX3_share_8 : decode cX3_share 8 = .ok (.ifCond .lt 18, 3) := by decide +kernel
theorem dX3_share_11 : decode cX3_share 11 = .ok (.iload_n 1, 1) := by decide +kernel
theorem dX3_share_12 : decode cX3_share 12 = .ok (.bipush 9, 2) := by decide +kernel
theorem dX3_share_14 : decode cX3_share 14 = .ok (.if_icmp .ge 12, 3) := by decide +kernel
theorem dX3_share_17 : decode cX3_share 17 = .ok (.iload_n 2, 1) := by decide +kernel
theorem dX3_share_18 : decode cX3_share 18 = .ok (.ifCond .lt 8, 3) := by decide +kernel
theorem dX3_share_21 : decode cX3_share 21 = .ok (.iload_n 2, 1) := by decide +kernel
theorem dX3_share_22 : decode cX3_share 22 = .ok (.iconst 1, 1) := by decide +kernel
theorem dX3_share_23 : decode cX3_share 23 = .ok (.if_icmp .le 5, 3) := by decide +kernel
theorem dX3_share_26 : decode cX3_share 26 = .ok (.iconst (-1), 1) := by decide +kernel
theorem dX3_share_27 : decode cX3_share 27 = .ok (.ireturn, 1) := by decide +kernel
theorem dX3_share_28 : decode cX3_share 28 = .ok (.iload_n 2, 1) := by decide +kernel
theorem dX3_share_29 : decode cX3_share 29 = .ok (.ifCond .ne 12, 3) := by decide +kernel
theorem dX3_share_32 : decode cX3_share 32 = .ok (.aload_n 0, 1) := by decide +kernel
theorem dX3_share_33 : decode cX3_share 33 = .ok (.getfield 37, 3) := by decide +kernel
theorem dX3_share_36 : decode cX3_share 36 = .ok (.iload_n 1, 1) := by decide +kernel
theorem dX3_share_37 : decode cX3_share 37 = .ok (.iaload, 1) := by decide +kernel
theorem dX3_share_38 : decode cX3_share 38 = .ok (.goto 4, 3) := by decide +kernel
theorem dX3_share_41 : decode cX3_share 41 = .ok (.iconst 1, 1) := by decide +kernel
theorem dX3_share_42 : decode cX3_share 42 = .ok (.ireturn, 1) := by decide +kernel
set_option maxRecDepth 20000 in
theorem ggX3_mean_X3_isMadePlace : GoodIn wsX3_mean wsX3_isMadePlace := goodIn_r _ [7, 1, 8, 9, 6, 10, 11, 12, 13, 14, 15, 41, 42, 43, 44, 45, 46, 47, 48, 49, 50, 51] (by decide +kernel) (by decide +kernel)
set_option maxRecDepth 20000 in
theorem gX3_mean_X3_isMadePlace : GoodIn wsX3_mean (wsV RX3 83 RX3 yX3_isMadePlace wsX3_isMadePlace) := goodIn_app (goodIn_of _ (by decide +kernel)) ggX3_mean_X3_isMadePlace
set_option maxRecDepth 20000 in
theorem ggX3_mean_X3_isSet : GoodIn wsX3_mean wsX3_isSet := goodIn_r _ [18] (by decide +kernel) (by decide +kernel)
set_option maxRecDepth 20000 in
theorem gX3_mean_X3_isSet : GoodIn wsX3_mean (va_wsS RX3 108 yX3_isSet wsX3_isSet) := goodIn_app (goodIn_of _ (by decide +kernel)) ggX3_mean_X3_isSet
set_option maxRecDepth 20000 in
theorem ggX3_mean_X2_gather : GoodIn wsX3_mean wsX2_gather := goodIn_r _ [21, 22, 23, 24, 25, 26, 27, 6, 28, 49, 50, 51] (by decide +kernel) (by decide +kernel)
set_option maxRecDepth 20000 in
theorem gX3_mean_X2_gather_n97 : GoodIn wsX3_mean (wsX2_gather) := ggX3_mean_X2_gather
set_option maxRecDepth 20000 in
theorem ggX3_mean_X3_keepAboveNought : GoodIn wsX3_mean wsX3_keepAboveNought := goodIn_r _ [32, 2, 41, 42, 43, 44, 45, 46, 47, 48] (by decide +kernel) (by decide +kernel)
set_option maxRecDepth 20000 in
theorem gX3_mean_X3_keepAboveNought : GoodIn wsX3_mean (wsV RX3 152 RX3 yX3_keepAboveNought wsX3_keepAboveNought) := goodIn_app (goodIn_of _ (by decide +kernel)) ggX3_mean_X3_keepAboveNought
set_option maxRecDepth 20000 in
theorem ggX3_mean_X3_leastMean : GoodIn wsX3_mean wsX3_leastMean := goodIn_r _ [36, 2, 37, 38, 39, 6, 40, 41, 42, 43, 44, 45, 46, 47, 48] (by decide +kernel) (by decide +kernel)
set_option maxRecDepth 20000 in
theorem gX3_mean_X3_leastMean : GoodIn wsX3_mean (wsV RX3 155 RX3 yX3_leastMean wsX3_leastMean) := goodIn_app (goodIn_of _ (by decide +kernel)) ggX3_mean_X3_leastMean
theorem dX3_mean_0 : decode cX3_mean 0 = .ok (.aload_n 0, 1) := by decide +kernel
theorem dX3_mean_1 : decode cX3_mean 1 = .ok (.iload_n 1, 1) := by decide +kernel
theorem dX3_mean_2 : decode cX3_mean 2 = .ok (.invokevirtual 83, 3) := by decide +kernel
theorem dX3_mean_5 : decode cX3_mean 5 = .ok (.ifCond .eq 10, 3) := by decide +kernel
theorem dX3_mean_8 : decode cX3_mean 8 = .ok (.iload_n 2, 1) := by decide +kernel
theorem dX3_mean_9 : decode cX3_mean 9 = .ok (.invokestatic 108, 3) := by decide +kernel
theorem dX3_mean_12 : decode cX3_mean 12 = .ok (.ifCond .ne 5, 3) := by decide +kernel
theorem dX3_mean_15 : decode cX3_mean 15 = .ok (.iconst (-1), 1) := by decide +kernel
theorem dX3_mean_16 : decode cX3_mean 16 = .ok (.ireturn, 1) := by decide +kernel
theorem dX3_mean_17 : decode cX3_mean 17 = .ok (.aload_n 0, 1) := by decide +kernel
theorem dX3_mean_18 : decode cX3_mean 18 = .ok (.getfield 11, 3) := by decide +kernel
theorem dX3_mean_21 : decode cX3_mean 21 = .ok (.iload_n 1, 1) := by decide +kernel
theorem dX3_mean_22 : decode cX3_mean 22 = .ok (.aaload, 1) := by decide +kernel
theorem dX3_mean_23 : decode cX3_mean 23 = .ok (.iload_n 2, 1) := by decide +kernel
theorem dX3_mean_24 : decode cX3_mean 24 = .ok (.aload_n 0, 1) := by decide +kernel
theorem dX3_mean_25 : decode cX3_mean 25 = .ok (.getfield 27, 3) := by decide +kernel
theorem dX3_mean_28 : decode cX3_mean 28 = .ok (.invokevirtual 97, 3) := by decide +kernel
theorem dX3_mean_31 : decode cX3_mean 31 = .ok (.aload_n 0, 1) := by decide +kernel
theorem dX3_mean_32 : decode cX3_mean 32 = .ok (.aload_n 0, 1) := by decide +kernel
theorem dX3_mean_33 : decode cX3_mean 33 = .ok (.invokevirtual 152, 3) := by decide +kernel
theorem dX3_mean_36 : decode cX3_mean 36 = .ok (.invokevirtual 155, 3) := by decide +kernel
theorem dX3_mean_39 : decode cX3_mean 39 = .ok (.ireturn, 1) := by decide +kernel
theorem dX3_words_0 : decode cX3_words 0 = .ok (.iload_n 1, 1) := by decide +kernel
theorem dX3_words_1 : decode cX3_words 1 = .ok (.iconst 1, 1) := by decide +kernel
theorem dX3_words_2 : decode cX3_words 2 = .ok (.if_icmp .lt 13, 3) := by decide +kernel
theorem dX3_words_5 : decode cX3_words 5 = .ok (.iload_n 1, 1) := by decide +kernel
theorem dX3_words_6 : decode cX3_words 6 = .ok (.bipush 8, 2) := by decide +kernel
theorem dX3_words_8 : decode cX3_words 8 = .ok (.if_icmp .gt 7, 3) := by decide +kernel
theorem dX3_words_11 : decode cX3_words 11 = .ok (.iload_n 2, 1) := by decide +kernel
theorem dX3_words_12 : decode cX3_words 12 = .ok (.ifCond .ge 5, 3) := by decide +kernel
theorem dX3_words_15 : decode cX3_words 15 = .ok (.iconst 0, 1) := by decide +kernel
theorem dX3_words_16 : decode cX3_words 16 = .ok (.ireturn, 1) := by decide +kernel
theorem dX3_words_17 : decode cX3_words 17 = .ok (.iconst 0, 1) := by decide +kernel
theorem dX3_words_18 : decode cX3_words 18 = .ok (.istore_n 3, 1) := by decide +kernel
theorem dX3_words_19 : decode cX3_words 19 = .ok (.iload_n 2, 1) := by decide +kernel
theorem dX3_words_20 : decode cX3_words 20 = .ok (.istore 4, 2) := by decide +kernel
theorem dX3_words_22 : decode cX3_words 22 = .ok (.iconst 0, 1) := by decide +kernel
theorem dX3_words_23 : decode cX3_words 23 = .ok (.istore 5, 2) := by decide +kernel
theorem dX3_words_25 : decode cX3_words 25 = .ok (.iload 5, 2) := by decide +kernel
theorem dX3_words_27 : decode cX3_words 27 = .ok (.iload_n 1, 1) := by decide +kernel
theorem dX3_words_28 : decode cX3_words 28 = .ok (.if_icmp .ge 28, 3) := by decide +kernel
theorem dX3_words_31 : decode cX3_words 31 = .ok (.iload_n 3, 1) := by decide +kernel
theorem dX3_words_32 : decode cX3_words 32 = .ok (.sipush 512, 3) := by decide +kernel
theorem dX3_words_35 : decode cX3_words 35 = .ok (.iload 4, 2) := by decide +kernel
theorem dX3_words_37 : decode cX3_words 37 = .ok (.bipush 10, 2) := by decide +kernel
theorem dX3_words_39 : decode cX3_words 39 = .ok (.irem, 1) := by decide +kernel
theorem dX3_words_40 : decode cX3_words 40 = .ok (.ishr, 1) := by decide +kernel
theorem dX3_words_41 : decode cX3_words 41 = .ok (.iadd, 1) := by decide +kernel
theorem dX3_words_42 : decode cX3_words 42 = .ok (.istore_n 3, 1) := by decide +kernel
theorem dX3_words_43 : decode cX3_words 43 = .ok (.iload 4, 2) := by decide +kernel
theorem dX3_words_45 : decode cX3_words 45 = .ok (.bipush 10, 2) := by decide +kernel
theorem dX3_words_47 : decode cX3_words 47 = .ok (.idiv, 1) := by decide +kernel
theorem dX3_words_48 : decode cX3_words 48 = .ok (.istore 4, 2) := by decide +kernel
theorem dX3_words_50 : decode cX3_words 50 = .ok (.iinc 5 1, 3) := by decide +kernel
theorem dX3_words_53 : decode cX3_words 53 = .ok (.goto (-28), 3) := by decide +kernel
theorem dX3_words_56 : decode cX3_words 56 = .ok (.iload_n 3, 1) := by decide +kernel
theorem dX3_words_57 : decode cX3_words 57 = .ok (.sipush 512, 3) := by decide +kernel
theorem dX3_words_60 : decode cX3_words 60 = .ok (.if_icmp .gt 7, 3) := by decide +kernel
theorem dX3_words_63 : decode cX3_words 63 = .ok (.iconst 1, 1) := by decide +kernel
theorem dX3_words_64 : decode cX3_words 64 = .ok (.goto 4, 3) := by decide +kernel
theorem dX3_words_67 : decode cX3_words 67 = .ok (.iconst 0, 1) := by decide +kernel
theorem dX3_words_68 : decode cX3_words 68 = .ok (.ireturn, 1) := by decide +kernel
set_option maxRecDepth 20000 in
theorem ggX3_secret_X3_isMadePlace : GoodIn wsX3_secret wsX3_isMadePlace := goodIn_r _ [7, 1, 8, 9, 6, 10, 11, 12, 13, 14, 15, 43, 44, 45, 46, 47, 48, 49, 50, 51, 52, 53] (by decide +kernel) (by decide +kernel)
set_option maxRecDepth 20000 in
theorem gX3_secret_X3_isMadePlace : GoodIn wsX3_secret (wsV RX3 83 RX3 yX3_isMadePlace wsX3_isMadePlace) := goodIn_app (goodIn_of _ (by decide +kernel)) ggX3_secret_X3_isMadePlace
set_option maxRecDepth 20000 in
theorem ggX3_secret_X0_clear : GoodIn wsX3_secret wsX0_clear := goodIn_r _ [19, 20, 21, 22, 23, 24, 54, 55, 56] (by decide +kernel) (by decide +kernel)
set_option maxRecDepth 20000 in
theorem gX3_secret_X0_clear_n120 : GoodIn wsX3_secret (wsX0_clear) := ggX3_secret_X0_clear
set_option maxRecDepth 20000 in
theorem ggX3_secret_X3_addDoubt : GoodIn wsX3_secret wsX3_addDoubt := goodIn_r _ [28, 29, 2, 30, 12, 31, 32, 33, 34, 22, 23, 24, 35, 6, 36, 37, 17, 38, 39, 20, 43, 44, 45, 46, 47, 48, 49, 50, 51, 52, 53, 54, 55, 56] (by decide +kernel) (by decide +kernel)
set_option maxRecDepth 20000 in
theorem gX3_secret_X3_addDoubt : GoodIn wsX3_secret (wsV RX3 158 RX3 yX3_addDoubt wsX3_addDoubt) := goodIn_app (goodIn_of _ (by decide +kernel)) ggX3_secret_X3_addDoubt
set_option maxRecDepth 20000 in
theorem ggX3_secret_X0_isNought : GoodIn wsX3_secret wsX0_isNought := goodIn_r _ [42, 20, 54, 55, 56] (by decide +kernel) (by decide +kernel)
set_option maxRecDepth 20000 in
theorem gX3_secret_X0_isNought_n162 : GoodIn wsX3_secret (wsX0_isNought) := ggX3_secret_X0_isNought
theorem dX3_secret_0 : decode cX3_secret 0 = .ok (.aload_n 0, 1) := by decide +kernel
theorem dX3_secret_1 : decode cX3_secret 1 = .ok (.iload_n 1, 1) := by decide +kernel
theorem dX3_secret_2 : decode cX3_secret 2 = .ok (.invokevirtual 83, 3) := by decide +kernel
theorem dX3_secret_5 : decode cX3_secret 5 = .ok (.ifCond .eq 19, 3) := by decide +kernel
theorem dX3_secret_8 : decode cX3_secret 8 = .ok (.iload_n 2, 1) := by decide +kernel
theorem dX3_secret_9 : decode cX3_secret 9 = .ok (.iconst 2, 1) := by decide +kernel
theorem dX3_secret_10 : decode cX3_secret 10 = .ok (.if_icmp .eq 16, 3) := by decide +kernel
theorem dX3_secret_13 : decode cX3_secret 13 = .ok (.iload_n 2, 1) := by decide +kernel
theorem dX3_secret_14 : decode cX3_secret 14 = .ok (.iconst 4, 1) := by decide +kernel
theorem dX3_secret_15 : decode cX3_secret 15 = .ok (.if_icmp .eq 11, 3) := by decide +kernel
theorem dX3_secret_18 : decode cX3_secret 18 = .ok (.iload_n 2, 1) := by decide +kernel
theorem dX3_secret_19 : decode cX3_secret 19 = .ok (.bipush 6, 2) := by decide +kernel
theorem dX3_secret_21 : decode cX3_secret 21 = .ok (.if_icmp .eq 5, 3) := by decide +kernel
theorem dX3_secret_24 : decode cX3_secret 24 = .ok (.iconst (-1), 1) := by decide +kernel
theorem dX3_secret_25 : decode cX3_secret 25 = .ok (.ireturn, 1) := by decide +kernel
theorem dX3_secret_26 : decode cX3_secret 26 = .ok (.aload_n 0, 1) := by decide +kernel
theorem dX3_secret_27 : decode cX3_secret 27 = .ok (.getfield 11, 3) := by decide +kernel
theorem dX3_secret_30 : decode cX3_secret 30 = .ok (.iload_n 1, 1) := by decide +kernel
theorem dX3_secret_31 : decode cX3_secret 31 = .ok (.aaload, 1) := by decide +kernel
theorem dX3_secret_32 : decode cX3_secret 32 = .ok (.astore_n 3, 1) := by decide +kernel
theorem dX3_secret_33 : decode cX3_secret 33 = .ok (.aload_n 0, 1) := by decide +kernel
theorem dX3_secret_34 : decode cX3_secret 34 = .ok (.getfield 23, 3) := by decide +kernel
theorem dX3_secret_37 : decode cX3_secret 37 = .ok (.invokevirtual 120, 3) := by decide +kernel
theorem dX3_secret_40 : decode cX3_secret 40 = .ok (.aload_n 0, 1) := by decide +kernel
theorem dX3_secret_41 : decode cX3_secret 41 = .ok (.aload_n 3, 1) := by decide +kernel
theorem dX3_secret_42 : decode cX3_secret 42 = .ok (.iload_n 2, 1) := by decide +kernel
theorem dX3_secret_43 : decode cX3_secret 43 = .ok (.iconst 1, 1) := by decide +kernel
theorem dX3_secret_44 : decode cX3_secret 44 = .ok (.ior, 1) := by decide +kernel
theorem dX3_secret_45 : decode cX3_secret 45 = .ok (.iconst 1, 1) := by decide +kernel
theorem dX3_secret_46 : decode cX3_secret 46 = .ok (.invokevirtual 158, 3) := by decide +kernel
theorem dX3_secret_49 : decode cX3_secret 49 = .ok (.aload_n 0, 1) := by decide +kernel
theorem dX3_secret_50 : decode cX3_secret 50 = .ok (.aload_n 3, 1) := by decide +kernel
theorem dX3_secret_51 : decode cX3_secret 51 = .ok (.iload_n 2, 1) := by decide +kernel
theorem dX3_secret_52 : decode cX3_secret 52 = .ok (.iconst (-1), 1) := by decide +kernel
theorem dX3_secret_53 : decode cX3_secret 53 = .ok (.invokevirtual 158, 3) := by decide +kernel
theorem dX3_secret_56 : decode cX3_secret 56 = .ok (.aload_n 0, 1) := by decide +kernel
theorem dX3_secret_57 : decode cX3_secret 57 = .ok (.getfield 23, 3) := by decide +kernel
theorem dX3_secret_60 : decode cX3_secret 60 = .ok (.invokevirtual 162, 3) := by decide +kernel
theorem dX3_secret_63 : decode cX3_secret 63 = .ok (.ifCond .eq 5, 3) := by decide +kernel
