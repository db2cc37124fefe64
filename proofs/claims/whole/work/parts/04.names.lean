theorem dX2_hasStatesOf_11 : decode cX2_hasStatesOf 11 = .ok (.iaload, 1) := by decide +kernel
theorem dX2_hasStatesOf_12 : decode cX2_hasStatesOf 12 = .ok (.if_icmp .ne 37, 3) := by decide +kernel
theorem dX2_hasStatesOf_15 : decode cX2_hasStatesOf 15 = .ok (.aload_n 0, 1) := by decide +kernel
theorem dX2_hasStatesOf_16 : decode cX2_hasStatesOf 16 = .ok (.getfield 9, 3) := by decide +kernel
theorem dX2_hasStatesOf_19 : decode cX2_hasStatesOf 19 = .ok (.iconst 1, 1) := by decide +kernel
theorem dX2_hasStatesOf_20 : decode cX2_hasStatesOf 20 = .ok (.iaload, 1) := by decide +kernel
theorem dX2_hasStatesOf_21 : decode cX2_hasStatesOf 21 = .ok (.aload_n 1, 1) := by decide +kernel
theorem dX2_hasStatesOf_22 : decode cX2_hasStatesOf 22 = .ok (.getfield 9, 3) := by decide +kernel
theorem dX2_hasStatesOf_25 : decode cX2_hasStatesOf 25 = .ok (.iconst 1, 1) := by decide +kernel
theorem dX2_hasStatesOf_26 : decode cX2_hasStatesOf 26 = .ok (.iaload, 1) := by decide +kernel
theorem dX2_hasStatesOf_27 : decode cX2_hasStatesOf 27 = .ok (.if_icmp .ne 22, 3) := by decide +kernel
theorem dX2_hasStatesOf_30 : decode cX2_hasStatesOf 30 = .ok (.aload_n 0, 1) := by decide +kernel
theorem dX2_hasStatesOf_31 : decode cX2_hasStatesOf 31 = .ok (.getfield 9, 3) := by decide +kernel
theorem dX2_hasStatesOf_34 : decode cX2_hasStatesOf 34 = .ok (.iconst 2, 1) := by decide +kernel
theorem dX2_hasStatesOf_35 : decode cX2_hasStatesOf 35 = .ok (.iaload, 1) := by decide +kernel
theorem dX2_hasStatesOf_36 : decode cX2_hasStatesOf 36 = .ok (.aload_n 1, 1) := by decide +kernel
theorem dX2_hasStatesOf_37 : decode cX2_hasStatesOf 37 = .ok (.getfield 9, 3) := by decide +kernel
theorem dX2_hasStatesOf_40 : decode cX2_hasStatesOf 40 = .ok (.iconst 2, 1) := by decide +kernel
theorem dX2_hasStatesOf_41 : decode cX2_hasStatesOf 41 = .ok (.iaload, 1) := by decide +kernel
theorem dX2_hasStatesOf_42 : decode cX2_hasStatesOf 42 = .ok (.if_icmp .ne 7, 3) := by decide +kernel
theorem dX2_hasStatesOf_45 : decode cX2_hasStatesOf 45 = .ok (.iconst 1, 1) := by decide +kernel
theorem dX2_hasStatesOf_46 : decode cX2_hasStatesOf 46 = .ok (.goto 4, 3) := by decide +kernel
theorem dX2_hasStatesOf_49 : decode cX2_hasStatesOf 49 = .ok (.iconst 0, 1) := by decide +kernel
theorem dX2_hasStatesOf_50 : decode cX2_hasStatesOf 50 = .ok (.ireturn, 1) := by decide +kernel
theorem dX2_put_0 : decode cX2_put 0 = .ok (.aload_n 0, 1) := by decide +kernel
theorem dX2_put_1 : decode cX2_put 1 = .ok (.getfield 18, 3) := by decide +kernel
theorem dX2_put_4 : decode cX2_put 4 = .ok (.aload_n 0, 1) := by decide +kernel
theorem dX2_put_5 : decode cX2_put 5 = .ok (.getfield 15, 3) := by decide +kernel
theorem dX2_put_8 : decode cX2_put 8 = .ok (.iload_n 1, 1) := by decide +kernel
theorem dX2_put_9 : decode cX2_put 9 = .ok (.iaload, 1) := by decide +kernel
theorem dX2_put_10 : decode cX2_put 10 = .ok (.isub, 1) := by decide +kernel
theorem dX2_put_11 : decode cX2_put 11 = .ok (.iload_n 2, 1) := by decide +kernel
theorem dX2_put_12 : decode cX2_put 12 = .ok (.iadd, 1) := by decide +kernel
theorem dX2_put_13 : decode cX2_put 13 = .ok (.istore_n 3, 1) := by decide +kernel
theorem dX2_put_14 : decode cX2_put 14 = .ok (.iload_n 3, 1) := by decide +kernel
theorem dX2_put_15 : decode cX2_put 15 = .ok (.bipush 16, 2) := by decide +kernel
theorem dX2_put_17 : decode cX2_put 17 = .ok (.if_icmp .le 5, 3) := by decide +kernel
theorem dX2_put_20 : decode cX2_put 20 = .ok (.iconst 0, 1) := by decide +kernel
theorem dX2_put_21 : decode cX2_put 21 = .ok (.ireturn, 1) := by decide +kernel
theorem dX2_put_22 : decode cX2_put 22 = .ok (.aload_n 0, 1) := by decide +kernel
theorem dX2_put_23 : decode cX2_put 23 = .ok (.getfield 15, 3) := by decide +kernel
theorem dX2_put_26 : decode cX2_put 26 = .ok (.iload_n 1, 1) := by decide +kernel
theorem dX2_put_27 : decode cX2_put 27 = .ok (.iload_n 2, 1) := by decide +kernel
theorem dX2_put_28 : decode cX2_put 28 = .ok (.iastore, 1) := by decide +kernel
theorem dX2_put_29 : decode cX2_put 29 = .ok (.aload_n 0, 1) := by decide +kernel
theorem dX2_put_30 : decode cX2_put 30 = .ok (.iload_n 3, 1) := by decide +kernel
theorem dX2_put_31 : decode cX2_put 31 = .ok (.putfield 18, 3) := by decide +kernel
theorem dX2_put_34 : decode cX2_put 34 = .ok (.iconst 1, 1) := by decide +kernel
theorem dX2_put_35 : decode cX2_put 35 = .ok (.ireturn, 1) := by decide +kernel
theorem dX2_becomeMixOf_0 : decode cX2_becomeMixOf 0 = .ok (.aload_n 1, 1) := by decide +kernel
theorem dX2_becomeMixOf_1 : decode cX2_becomeMixOf 1 = .ok (.getfield 18, 3) := by decide +kernel
theorem dX2_becomeMixOf_4 : decode cX2_becomeMixOf 4 = .ok (.aload_n 2, 1) := by decide +kernel
theorem dX2_becomeMixOf_5 : decode cX2_becomeMixOf 5 = .ok (.getfield 18, 3) := by decide +kernel
theorem dX2_becomeMixOf_8 : decode cX2_becomeMixOf 8 = .ok (.iadd, 1) := by decide +kernel
theorem dX2_becomeMixOf_9 : decode cX2_becomeMixOf 9 = .ok (.istore_n 3, 1) := by decide +kernel
theorem dX2_becomeMixOf_10 : decode cX2_becomeMixOf 10 = .ok (.iconst 0, 1) := by decide +kernel
theorem dX2_becomeMixOf_11 : decode cX2_becomeMixOf 11 = .ok (.istore 4, 2) := by decide +kernel
theorem dX2_becomeMixOf_13 : decode cX2_becomeMixOf 13 = .ok (.iload 4, 2) := by decide +kernel
theorem dX2_becomeMixOf_15 : decode cX2_becomeMixOf 15 = .ok (.iconst 3, 1) := by decide +kernel
theorem dX2_becomeMixOf_16 : decode cX2_becomeMixOf 16 = .ok (.if_icmp .ge 23, 3) := by decide +kernel
theorem dX2_becomeMixOf_19 : decode cX2_becomeMixOf 19 = .ok (.aload_n 0, 1) := by decide +kernel
theorem dX2_becomeMixOf_20 : decode cX2_becomeMixOf 20 = .ok (.getfield 9, 3) := by decide +kernel
theorem dX2_becomeMixOf_23 : decode cX2_becomeMixOf 23 = .ok (.iload 4, 2) := by decide +kernel
theorem dX2_becomeMixOf_25 : decode cX2_becomeMixOf 25 = .ok (.aload_n 1, 1) := by decide +kernel
theorem dX2_becomeMixOf_26 : decode cX2_becomeMixOf 26 = .ok (.getfield 9, 3) := by decide +kernel
theorem dX2_becomeMixOf_29 : decode cX2_becomeMixOf 29 = .ok (.iload 4, 2) := by decide +kernel
theorem dX2_becomeMixOf_31 : decode cX2_becomeMixOf 31 = .ok (.iaload, 1) := by decide +kernel
theorem dX2_becomeMixOf_32 : decode cX2_becomeMixOf 32 = .ok (.iastore, 1) := by decide +kernel
theorem dX2_becomeMixOf_33 : decode cX2_becomeMixOf 33 = .ok (.iinc 4 1, 3) := by decide +kernel
theorem dX2_becomeMixOf_36 : decode cX2_becomeMixOf 36 = .ok (.goto (-23), 3) := by decide +kernel
theorem dX2_becomeMixOf_39 : decode cX2_becomeMixOf 39 = .ok (.iconst 0, 1) := by decide +kernel
theorem dX2_becomeMixOf_40 : decode cX2_becomeMixOf 40 = .ok (.istore 4, 2) := by decide +kernel
theorem dX2_becomeMixOf_42 : decode cX2_becomeMixOf 42 = .ok (.iload 4, 2) := by decide +kernel
theorem dX2_becomeMixOf_44 : decode cX2_becomeMixOf 44 = .ok (.bipush 27, 2) := by decide +kernel
theorem dX2_becomeMixOf_46 : decode cX2_becomeMixOf 46 = .ok (.if_icmp .ge 31, 3) := by decide +kernel
theorem dX2_becomeMixOf_49 : decode cX2_becomeMixOf 49 = .ok (.aload_n 0, 1) := by decide +kernel
theorem dX2_becomeMixOf_50 : decode cX2_becomeMixOf 50 = .ok (.getfield 15, 3) := by decide +kernel
theorem dX2_becomeMixOf_53 : decode cX2_becomeMixOf 53 = .ok (.iload 4, 2) := by decide +kernel
theorem dX2_becomeMixOf_55 : decode cX2_becomeMixOf 55 = .ok (.aload_n 1, 1) := by decide +kernel
theorem dX2_becomeMixOf_56 : decode cX2_becomeMixOf 56 = .ok (.getfield 15, 3) := by decide +kernel
theorem dX2_becomeMixOf_59 : decode cX2_becomeMixOf 59 = .ok (.iload 4, 2) := by decide +kernel
theorem dX2_becomeMixOf_61 : decode cX2_becomeMixOf 61 = .ok (.iaload, 1) := by decide +kernel
theorem dX2_becomeMixOf_62 : decode cX2_becomeMixOf 62 = .ok (.aload_n 2, 1) := by decide +kernel
theorem dX2_becomeMixOf_63 : decode cX2_becomeMixOf 63 = .ok (.getfield 15, 3) := by decide +kernel
theorem dX2_becomeMixOf_66 : decode cX2_becomeMixOf 66 = .ok (.iload 4, 2) := by decide +kernel
theorem dX2_becomeMixOf_68 : decode cX2_becomeMixOf 68 = .ok (.iaload, 1) := by decide +kernel
theorem dX2_becomeMixOf_69 : decode cX2_becomeMixOf 69 = .ok (.iadd, 1) := by decide +kernel
theorem dX2_becomeMixOf_70 : decode cX2_becomeMixOf 70 = .ok (.iastore, 1) := by decide +kernel
theorem dX2_becomeMixOf_71 : decode cX2_becomeMixOf 71 = .ok (.iinc 4 1, 3) := by decide +kernel
theorem dX2_becomeMixOf_74 : decode cX2_becomeMixOf 74 = .ok (.goto (-32), 3) := by decide +kernel
theorem dX2_becomeMixOf_77 : decode cX2_becomeMixOf 77 = .ok (.aload_n 0, 1) := by decide +kernel
theorem dX2_becomeMixOf_78 : decode cX2_becomeMixOf 78 = .ok (.iload_n 3, 1) := by decide +kernel
theorem dX2_becomeMixOf_79 : decode cX2_becomeMixOf 79 = .ok (.putfield 18, 3) := by decide +kernel
theorem dX2_becomeMixOf_82 : decode cX2_becomeMixOf 82 = .ok (.return_, 1) := by decide +kernel
set_option maxRecDepth 20000 in
theorem ggX2_gather_J7_fill_53178 : GoodIn wsX2_gather wsJ7_fill_53178 := goodIn_r _ [5] (by decide +kernel) (by decide +kernel)
set_option maxRecDepth 20000 in
theorem gX2_gather_J7_fill_53178 : GoodIn wsX2_gather (va_wsS RX2 22 yJ7_fill_53178 wsJ7_fill_53178) := goodIn_app (goodIn_of _ (by decide +kernel)) ggX2_gather_J7_fill_53178
set_option maxRecDepth 20000 in
theorem ggX2_gather_X3_settingOf : GoodIn wsX2_gather wsX3_settingOf := goodIn_r _ [8] (by decide +kernel) (by decide +kernel)
set_option maxRecDepth 20000 in
theorem gX2_gather_X3_settingOf_n32 : GoodIn wsX2_gather (wsX3_settingOf) := ggX2_gather_X3_settingOf
theorem dX2_gather_0 : decode cX2_gather 0 = .ok (.aload_n 2, 1) := by decide +kernel
theorem dX2_gather_1 : decode cX2_gather 1 = .ok (.iconst 0, 1) := by decide +kernel
theorem dX2_gather_2 : decode cX2_gather 2 = .ok (.invokestatic 22, 3) := by decide +kernel
theorem dX2_gather_5 : decode cX2_gather 5 = .ok (.iconst 0, 1) := by decide +kernel
theorem dX2_gather_6 : decode cX2_gather 6 = .ok (.istore_n 3, 1) := by decide +kernel
theorem dX2_gather_7 : decode cX2_gather 7 = .ok (.iload_n 3, 1) := by decide +kernel
theorem dX2_gather_8 : decode cX2_gather 8 = .ok (.bipush 27, 2) := by decide +kernel
theorem dX2_gather_10 : decode cX2_gather 10 = .ok (.if_icmp .ge 77, 3) := by decide +kernel
theorem dX2_gather_13 : decode cX2_gather 13 = .ok (.iload_n 1, 1) := by decide +kernel
theorem dX2_gather_14 : decode cX2_gather 14 = .ok (.iconst 1, 1) := by decide +kernel
theorem dX2_gather_15 : decode cX2_gather 15 = .ok (.iand, 1) := by decide +kernel
theorem dX2_gather_16 : decode cX2_gather 16 = .ok (.ifCond .eq 9, 3) := by decide +kernel
theorem dX2_gather_19 : decode cX2_gather 19 = .ok (.iload_n 3, 1) := by decide +kernel
theorem dX2_gather_20 : decode cX2_gather 20 = .ok (.iconst 3, 1) := by decide +kernel
theorem dX2_gather_21 : decode cX2_gather 21 = .ok (.irem, 1) := by decide +kernel
theorem dX2_gather_22 : decode cX2_gather 22 = .ok (.goto 4, 3) := by decide +kernel
theorem dX2_gather_25 : decode cX2_gather 25 = .ok (.iconst 0, 1) := by decide +kernel
theorem dX2_gather_26 : decode cX2_gather 26 = .ok (.istore 4, 2) := by decide +kernel
theorem dX2_gather_28 : decode cX2_gather 28 = .ok (.iload_n 1, 1) := by decide +kernel
theorem dX2_gather_29 : decode cX2_gather 29 = .ok (.iconst 2, 1) := by decide +kernel
theorem dX2_gather_30 : decode cX2_gather 30 = .ok (.iand, 1) := by decide +kernel
theorem dX2_gather_31 : decode cX2_gather 31 = .ok (.ifCond .eq 11, 3) := by decide +kernel
theorem dX2_gather_34 : decode cX2_gather 34 = .ok (.iload_n 3, 1) := by decide +kernel
theorem dX2_gather_35 : decode cX2_gather 35 = .ok (.iconst 3, 1) := by decide +kernel
theorem dX2_gather_36 : decode cX2_gather 36 = .ok (.idiv, 1) := by decide +kernel
theorem dX2_gather_37 : decode cX2_gather 37 = .ok (.iconst 3, 1) := by decide +kernel
theorem dX2_gather_38 : decode cX2_gather 38 = .ok (.irem, 1) := by decide +kernel
theorem dX2_gather_39 : decode cX2_gather 39 = .ok (.goto 4, 3) := by decide +kernel
theorem dX2_gather_42 : decode cX2_gather 42 = .ok (.iconst 0, 1) := by decide +kernel
theorem dX2_gather_43 : decode cX2_gather 43 = .ok (.istore 5, 2) := by decide +kernel
theorem dX2_gather_45 : decode cX2_gather 45 = .ok (.iload_n 1, 1) := by decide +kernel
theorem dX2_gather_46 : decode cX2_gather 46 = .ok (.iconst 4, 1) := by decide +kernel
theorem dX2_gather_47 : decode cX2_gather 47 = .ok (.iand, 1) := by decide +kernel
theorem dX2_gather_48 : decode cX2_gather 48 = .ok (.ifCond .eq 10, 3) := by decide +kernel
theorem dX2_gather_51 : decode cX2_gather 51 = .ok (.iload_n 3, 1) := by decide +kernel
theorem dX2_gather_52 : decode cX2_gather 52 = .ok (.bipush 9, 2) := by decide +kernel
theorem dX2_gather_54 : decode cX2_gather 54 = .ok (.idiv, 1) := by decide +kernel
theorem dX2_gather_55 : decode cX2_gather 55 = .ok (.goto 4, 3) := by decide +kernel
theorem dX2_gather_58 : decode cX2_gather 58 = .ok (.iconst 0, 1) := by decide +kernel
theorem dX2_gather_59 : decode cX2_gather 59 = .ok (.istore 6, 2) := by decide +kernel
theorem dX2_gather_61 : decode cX2_gather 61 = .ok (.aload_n 2, 1) := by decide +kernel
theorem dX2_gather_62 : decode cX2_gather 62 = .ok (.iload 4, 2) := by decide +kernel
theorem dX2_gather_64 : decode cX2_gather 64 = .ok (.iload 5, 2) := by decide +kernel
theorem dX2_gather_66 : decode cX2_gather 66 = .ok (.iload 6, 2) := by decide +kernel
theorem dX2_gather_68 : decode cX2_gather 68 = .ok (.invokestatic 32, 3) := by decide +kernel
theorem dX2_gather_71 : decode cX2_gather 71 = .ok (.dup2, 1) := by decide +kernel
theorem dX2_gather_72 : decode cX2_gather 72 = .ok (.iaload, 1) := by decide +kernel
theorem dX2_gather_73 : decode cX2_gather 73 = .ok (.aload_n 0, 1) := by decide +kernel
theorem dX2_gather_74 : decode cX2_gather 74 = .ok (.getfield 15, 3) := by decide +kernel
theorem dX2_gather_77 : decode cX2_gather 77 = .ok (.iload_n 3, 1) := by decide +kernel
theorem dX2_gather_78 : decode cX2_gather 78 = .ok (.iaload, 1) := by decide +kernel
theorem dX2_gather_79 : decode cX2_gather 79 = .ok (.iadd, 1) := by decide +kernel
theorem dX2_gather_80 : decode cX2_gather 80 = .ok (.iastore, 1) := by decide +kernel
theorem dX2_gather_81 : decode cX2_gather 81 = .ok (.iinc 3 1, 3) := by decide +kernel
theorem dX2_gather_84 : decode cX2_gather 84 = .ok (.goto (-77), 3) := by decide +kernel
theorem dX2_gather_87 : decode cX2_gather 87 = .ok (.return_, 1) := by decide +kernel
set_option maxRecDepth 20000 in
theorem ggX2_spreadByRule_J7_fill_53178 : GoodIn wsX2_spreadByRule wsJ7_fill_53178 := goodIn_r _ [6] (by decide +kernel) (by decide +kernel)
set_option maxRecDepth 20000 in
theorem gX2_spreadByRule_J7_fill_53178 : GoodIn wsX2_spreadByRule (va_wsS RX2 22 yJ7_fill_53178 wsJ7_fill_53178) := goodIn_app (goodIn_of _ (by decide +kernel)) ggX2_spreadByRule_J7_fill_53178
theorem dX2_spreadByRule_0 : decode cX2_spreadByRule 0 = .ok (.aload_n 0, 1) := by decide +kernel
theorem dX2_spreadByRule_1 : decode cX2_spreadByRule 1 = .ok (.getfield 15, 3) := by decide +kernel
theorem dX2_spreadByRule_4 : decode cX2_spreadByRule 4 = .ok (.iconst 0, 1) := by decide +kernel
theorem dX2_spreadByRule_5 : decode cX2_spreadByRule 5 = .ok (.invokestatic 22, 3) := by decide +kernel
theorem dX2_spreadByRule_8 : decode cX2_spreadByRule 8 = .ok (.iload_n 2, 1) := by decide +kernel
theorem dX2_spreadByRule_9 : decode cX2_spreadByRule 9 = .ok (.istore_n 3, 1) := by decide +kernel
theorem dX2_spreadByRule_10 : decode cX2_spreadByRule 10 = .ok (.iconst 0, 1) := by decide +kernel
theorem dX2_spreadByRule_11 : decode cX2_spreadByRule 11 = .ok (.istore 4, 2) := by decide +kernel
theorem dX2_spreadByRule_13 : decode cX2_spreadByRule 13 = .ok (.iload 4, 2) := by decide +kernel
theorem dX2_spreadByRule_15 : decode cX2_spreadByRule 15 = .ok (.bipush 9, 2) := by decide +kernel
theorem dX2_spreadByRule_17 : decode cX2_spreadByRule 17 = .ok (.if_icmp .ge 31, 3) := by decide +kernel
theorem dX2_spreadByRule_20 : decode cX2_spreadByRule 20 = .ok (.aload_n 0, 1) := by decide +kernel
theorem dX2_spreadByRule_21 : decode cX2_spreadByRule 21 = .ok (.getfield 15, 3) := by decide +kernel
theorem dX2_spreadByRule_24 : decode cX2_spreadByRule 24 = .ok (.iload 4, 2) := by decide +kernel
theorem dX2_spreadByRule_26 : decode cX2_spreadByRule 26 = .ok (.bipush 9, 2) := by decide +kernel
theorem dX2_spreadByRule_28 : decode cX2_spreadByRule 28 = .ok (.iload_n 3, 1) := by decide +kernel
theorem dX2_spreadByRule_29 : decode cX2_spreadByRule 29 = .ok (.iconst 3, 1) := by decide +kernel
theorem dX2_spreadByRule_30 : decode cX2_spreadByRule 30 = .ok (.irem, 1) := by decide +kernel
theorem dX2_spreadByRule_31 : decode cX2_spreadByRule 31 = .ok (.imul, 1) := by decide +kernel
theorem dX2_spreadByRule_32 : decode cX2_spreadByRule 32 = .ok (.iadd, 1) := by decide +kernel
theorem dX2_spreadByRule_33 : decode cX2_spreadByRule 33 = .ok (.aload_n 1, 1) := by decide +kernel
theorem dX2_spreadByRule_34 : decode cX2_spreadByRule 34 = .ok (.iload 4, 2) := by decide +kernel
theorem dX2_spreadByRule_36 : decode cX2_spreadByRule 36 = .ok (.iaload, 1) := by decide +kernel
theorem dX2_spreadByRule_37 : decode cX2_spreadByRule 37 = .ok (.iastore, 1) := by decide +kernel
theorem dX2_spreadByRule_38 : decode cX2_spreadByRule 38 = .ok (.iload_n 3, 1) := by decide +kernel
theorem dX2_spreadByRule_39 : decode cX2_spreadByRule 39 = .ok (.iconst 3, 1) := by decide +kernel
theorem dX2_spreadByRule_40 : decode cX2_spreadByRule 40 = .ok (.idiv, 1) := by decide +kernel
theorem dX2_spreadByRule_41 : decode cX2_spreadByRule 41 = .ok (.istore_n 3, 1) := by decide +kernel
theorem dX2_spreadByRule_42 : decode cX2_spreadByRule 42 = .ok (.iinc 4 1, 3) := by decide +kernel
theorem dX2_spreadByRule_45 : decode cX2_spreadByRule 45 = .ok (.goto (-32), 3) := by decide +kernel
theorem dX2_spreadByRule_48 : decode cX2_spreadByRule 48 = .ok (.aload_n 0, 1) := by decide +kernel
theorem dX2_spreadByRule_49 : decode cX2_spreadByRule 49 = .ok (.getfield 9, 3) := by decide +kernel
theorem dX2_spreadByRule_52 : decode cX2_spreadByRule 52 = .ok (.iconst 2, 1) := by decide +kernel
theorem dX2_spreadByRule_53 : decode cX2_spreadByRule 53 = .ok (.iconst 3, 1) := by decide +kernel
theorem dX2_spreadByRule_54 : decode cX2_spreadByRule 54 = .ok (.iastore, 1) := by decide +kernel
theorem dX2_spreadByRule_55 : decode cX2_spreadByRule 55 = .ok (.return_, 1) := by decide +kernel
set_option maxRecDepth 20000 in
theorem ggX3_init_X0_init : GoodIn wsX3_init wsX0_init := goodIn_r _ [21, 22, 2, 3, 7, 23, 24, 25, 26, 27, 28, 29, 30, 31, 32, 33, 34, 49, 50, 51, 55, 56] (by decide +kernel) (by decide +kernel)
set_option maxRecDepth 20000 in
theorem gX3_init_X0_init_n22 : GoodIn wsX3_init (wsX0_init) := ggX3_init_X0_init
set_option maxRecDepth 20000 in
theorem ggX3_init_X2_init : GoodIn wsX3_init wsX2_init := goodIn_r _ [36, 37, 2, 3, 7, 38, 39, 40, 52, 53, 54] (by decide +kernel) (by decide +kernel)
set_option maxRecDepth 20000 in
theorem gX3_init_X2_init_n44 : GoodIn wsX3_init (wsX2_init) := ggX3_init_X2_init
theorem dX3_init_0 : decode cX3_init 0 = .ok (.aload_n 0, 1) := by decide +kernel
theorem dX3_init_1 : decode cX3_init 1 = .ok (.invokespecial 3, 3) := by decide +kernel
theorem dX3_init_4 : decode cX3_init 4 = .ok (.aload_n 0, 1) := by decide +kernel
theorem dX3_init_5 : decode cX3_init 5 = .ok (.iconst 4, 1) := by decide +kernel
theorem dX3_init_6 : decode cX3_init 6 = .ok (.anewarray 9, 3) := by decide +kernel
theorem dX3_init_9 : decode cX3_init 9 = .ok (.putfield 11, 3) := by decide +kernel
theorem dX3_init_12 : decode cX3_init 12 = .ok (.aload_n 0, 1) := by decide +kernel
theorem dX3_init_13 : decode cX3_init 13 = .ok (.bipush 10, 2) := by decide +kernel
theorem dX3_init_15 : decode cX3_init 15 = .ok (.bipush 8, 2) := by decide +kernel
theorem dX3_init_17 : decode cX3_init 17 = .ok (.multianewarray 15 2, 4) := by decide +kernel
theorem dX3_init_21 : decode cX3_init 21 = .ok (.putfield 17, 3) := by decide +kernel
theorem dX3_init_24 : decode cX3_init 24 = .ok (.aload_n 0, 1) := by decide +kernel
theorem dX3_init_25 : decode cX3_init 25 = .ok (.new 20, 3) := by decide +kernel
theorem dX3_init_28 : decode cX3_init 28 = .ok (.dup, 1) := by decide +kernel
theorem dX3_init_29 : decode cX3_init 29 = .ok (.invokespecial 22, 3) := by decide +kernel
theorem dX3_init_32 : decode cX3_init 32 = .ok (.putfield 23, 3) := by decide +kernel
theorem dX3_init_35 : decode cX3_init 35 = .ok (.aload_n 0, 1) := by decide +kernel
theorem dX3_init_36 : decode cX3_init 36 = .ok (.bipush 27, 2) := by decide +kernel
theorem dX3_init_38 : decode cX3_init 38 = .ok (.newarray .int, 2) := by decide +kernel
theorem dX3_init_40 : decode cX3_init 40 = .ok (.putfield 27, 3) := by decide +kernel
theorem dX3_init_43 : decode cX3_init 43 = .ok (.aload_n 0, 1) := by decide +kernel
theorem dX3_init_44 : decode cX3_init 44 = .ok (.bipush 8, 2) := by decide +kernel
theorem dX3_init_46 : decode cX3_init 46 = .ok (.newarray .int, 2) := by decide +kernel
theorem dX3_init_48 : decode cX3_init 48 = .ok (.putfield 31, 3) := by decide +kernel
theorem dX3_init_51 : decode cX3_init 51 = .ok (.aload_n 0, 1) := by decide +kernel
theorem dX3_init_52 : decode cX3_init 52 = .ok (.bipush 9, 2) := by decide +kernel
theorem dX3_init_54 : decode cX3_init 54 = .ok (.newarray .int, 2) := by decide +kernel
theorem dX3_init_56 : decode cX3_init 56 = .ok (.putfield 34, 3) := by decide +kernel
theorem dX3_init_59 : decode cX3_init 59 = .ok (.aload_n 0, 1) := by decide +kernel
theorem dX3_init_60 : decode cX3_init 60 = .ok (.bipush 9, 2) := by decide +kernel
theorem dX3_init_62 : decode cX3_init 62 = .ok (.newarray .int, 2) := by decide +kernel
theorem dX3_init_64 : decode cX3_init 64 = .ok (.putfield 37, 3) := by decide +kernel
theorem dX3_init_67 : decode cX3_init 67 = .ok (.aload_n 0, 1) := by decide +kernel
theorem dX3_init_68 : decode cX3_init 68 = .ok (.iconst 0, 1) := by decide +kernel
theorem dX3_init_69 : decode cX3_init 69 = .ok (.putfield 40, 3) := by decide +kernel
theorem dX3_init_72 : decode cX3_init 72 = .ok (.iconst 0, 1) := by decide +kernel
theorem dX3_init_73 : decode cX3_init 73 = .ok (.istore_n 1, 1) := by decide +kernel
theorem dX3_init_74 : decode cX3_init 74 = .ok (.iload_n 1, 1) := by decide +kernel
theorem dX3_init_75 : decode cX3_init 75 = .ok (.iconst 4, 1) := by decide +kernel
theorem dX3_init_76 : decode cX3_init 76 = .ok (.if_icmp .ge 22, 3) := by decide +kernel
theorem dX3_init_79 : decode cX3_init 79 = .ok (.aload_n 0, 1) := by decide +kernel
theorem dX3_init_80 : decode cX3_init 80 = .ok (.getfield 11, 3) := by decide +kernel
theorem dX3_init_83 : decode cX3_init 83 = .ok (.iload_n 1, 1) := by decide +kernel
theorem dX3_init_84 : decode cX3_init 84 = .ok (.new 9, 3) := by decide +kernel
theorem dX3_init_87 : decode cX3_init 87 = .ok (.dup, 1) := by decide +kernel
theorem dX3_init_88 : decode cX3_init 88 = .ok (.invokespecial 44, 3) := by decide +kernel
theorem dX3_init_91 : decode cX3_init 91 = .ok (.aastore, 1) := by decide +kernel
theorem dX3_init_92 : decode cX3_init 92 = .ok (.iinc 1 1, 3) := by decide +kernel
theorem dX3_init_95 : decode cX3_init 95 = .ok (.goto (-21), 3) := by decide +kernel
theorem dX3_init_98 : decode cX3_init 98 = .ok (.return_, 1) := by decide +kernel
set_option maxRecDepth 20000 in
theorem ggX3_world_X3_isPlace : GoodIn wsX3_world wsX3_isPlace := goodIn_r _ [5] (by decide +kernel) (by decide +kernel)
set_option maxRecDepth 20000 in
theorem gX3_world_X3_isPlace : GoodIn wsX3_world (va_wsS RX3 45 yX3_isPlace wsX3_isPlace) := goodIn_app (goodIn_of _ (by decide +kernel)) ggX3_world_X3_isPlace
set_option maxRecDepth 20000 in
theorem ggX3_world_X3_isStateCount : GoodIn wsX3_world wsX3_isStateCount := goodIn_r _ [8] (by decide +kernel) (by decide +kernel)
set_option maxRecDepth 20000 in
theorem gX3_world_X3_isStateCount : GoodIn wsX3_world (va_wsS RX3 49 yX3_isStateCount wsX3_isStateCount) := goodIn_app (goodIn_of _ (by decide +kernel)) ggX3_world_X3_isStateCount
set_option maxRecDepth 20000 in
theorem ggX3_world_X2_begin : GoodIn wsX3_world wsX2_begin := goodIn_r _ [12, 13, 14, 15, 16, 17, 18, 19, 28, 29, 30] (by decide +kernel) (by decide +kernel)
set_option maxRecDepth 20000 in
theorem gX3_world_X2_begin_n52 : GoodIn wsX3_world (wsX2_begin) := ggX3_world_X2_begin
theorem dX3_world_0 : decode cX3_world 0 = .ok (.iload_n 1, 1) := by decide +kernel
theorem dX3_world_1 : decode cX3_world 1 = .ok (.invokestatic 45, 3) := by decide +kernel
theorem dX3_world_4 : decode cX3_world 4 = .ok (.ifCond .eq 25, 3) := by decide +kernel
theorem dX3_world_7 : decode cX3_world 7 = .ok (.iload_n 2, 1) := by decide +kernel
theorem dX3_world_8 : decode cX3_world 8 = .ok (.invokestatic 49, 3) := by decide +kernel
theorem dX3_world_11 : decode cX3_world 11 = .ok (.ifCond .eq 18, 3) := by decide +kernel
theorem dX3_world_14 : decode cX3_world 14 = .ok (.iload_n 3, 1) := by decide +kernel
theorem dX3_world_15 : decode cX3_world 15 = .ok (.invokestatic 49, 3) := by decide +kernel
theorem dX3_world_18 : decode cX3_world 18 = .ok (.ifCond .eq 11, 3) := by decide +kernel
theorem dX3_world_21 : decode cX3_world 21 = .ok (.iload 4, 2) := by decide +kernel
theorem dX3_world_23 : decode cX3_world 23 = .ok (.invokestatic 49, 3) := by decide +kernel
theorem dX3_world_26 : decode cX3_world 26 = .ok (.ifCond .ne 5, 3) := by decide +kernel
theorem dX3_world_29 : decode cX3_world 29 = .ok (.iconst 0, 1) := by decide +kernel
theorem dX3_world_30 : decode cX3_world 30 = .ok (.ireturn, 1) := by decide +kernel
theorem dX3_world_31 : decode cX3_world 31 = .ok (.aload_n 0, 1) := by decide +kernel
theorem dX3_world_32 : decode cX3_world 32 = .ok (.getfield 11, 3) := by decide +kernel
theorem dX3_world_35 : decode cX3_world 35 = .ok (.iload_n 1, 1) := by decide +kernel
theorem dX3_world_36 : decode cX3_world 36 = .ok (.aaload, 1) := by decide +kernel
theorem dX3_world_37 : decode cX3_world 37 = .ok (.iload_n 2, 1) := by decide +kernel
theorem dX3_world_38 : decode cX3_world 38 = .ok (.iload_n 3, 1) := by decide +kernel
theorem dX3_world_39 : decode cX3_world 39 = .ok (.iload 4, 2) := by decide +kernel
theorem dX3_world_41 : decode cX3_world 41 = .ok (.invokevirtual 52, 3) := by decide +kernel
theorem dX3_world_44 : decode cX3_world 44 = .ok (.iconst 1, 1) := by decide +kernel
theorem dX3_world_45 : decode cX3_world 45 = .ok (.ireturn, 1) := by decide +kernel
set_option maxRecDepth 20000 in
theorem ggX3_weight_X3_isPlace : GoodIn wsX3_weight wsX3_isPlace := goodIn_r _ [5] (by decide +kernel) (by decide +kernel)
set_option maxRecDepth 20000 in
theorem gX3_weight_X3_isPlace : GoodIn wsX3_weight (va_wsS RX3 45 yX3_isPlace wsX3_isPlace) := goodIn_app (goodIn_of _ (by decide +kernel)) ggX3_weight_X3_isPlace
set_option maxRecDepth 20000 in
theorem ggX3_weight_X2_hasSetting : GoodIn wsX3_weight wsX2_hasSetting := goodIn_r _ [9, 10, 27, 28, 29] (by decide +kernel) (by decide +kernel)
set_option maxRecDepth 20000 in
theorem gX3_weight_X2_hasSetting_n56 : GoodIn wsX3_weight (wsX2_hasSetting) := ggX3_weight_X2_hasSetting
set_option maxRecDepth 20000 in
theorem ggX3_weight_X3_settingOf : GoodIn wsX3_weight wsX3_settingOf := goodIn_r _ [13] (by decide +kernel) (by decide +kernel)
set_option maxRecDepth 20000 in
theorem gX3_weight_X3_settingOf : GoodIn wsX3_weight (va_wsS RX3 60 yX3_settingOf wsX3_settingOf) := goodIn_app (goodIn_of _ (by decide +kernel)) ggX3_weight_X3_settingOf
set_option maxRecDepth 20000 in
theorem ggX3_weight_X2_put : GoodIn wsX3_weight wsX2_put := goodIn_r _ [16, 17, 18, 27, 28, 29] (by decide +kernel) (by decide +kernel)
set_option maxRecDepth 20000 in
theorem gX3_weight_X2_put_n64 : GoodIn wsX3_weight (wsX2_put) := ggX3_weight_X2_put
theorem dX3_weight_0 : decode cX3_weight 0 = .ok (.iload_n 1, 1) := by decide +kernel
theorem dX3_weight_1 : decode cX3_weight 1 = .ok (.invokestatic 45, 3) := by decide +kernel
theorem dX3_weight_4 : decode cX3_weight 4 = .ok (.ifCond .eq 31, 3) := by decide +kernel
theorem dX3_weight_7 : decode cX3_weight 7 = .ok (.iload 5, 2) := by decide +kernel
theorem dX3_weight_9 : decode cX3_weight 9 = .ok (.ifCond .lt 26, 3) := by decide +kernel
theorem dX3_weight_12 : decode cX3_weight 12 = .ok (.iload 5, 2) := by decide +kernel
theorem dX3_weight_14 : decode cX3_weight 14 = .ok (.bipush 16, 2) := by decide +kernel
theorem dX3_weight_16 : decode cX3_weight 16 = .ok (.if_icmp .gt 19, 3) := by decide +kernel
theorem dX3_weight_19 : decode cX3_weight 19 = .ok (.aload_n 0, 1) := by decide +kernel
theorem dX3_weight_20 : decode cX3_weight 20 = .ok (.getfield 11, 3) := by decide +kernel
theorem dX3_weight_23 : decode cX3_weight 23 = .ok (.iload_n 1, 1) := by decide +kernel
theorem dX3_weight_24 : decode cX3_weight 24 = .ok (.aaload, 1) := by decide +kernel
theorem dX3_weight_25 : decode cX3_weight 25 = .ok (.iload_n 2, 1) := by decide +kernel
theorem dX3_weight_26 : decode cX3_weight 26 = .ok (.iload_n 3, 1) := by decide +kernel
theorem dX3_weight_27 : decode cX3_weight 27 = .ok (.iload 4, 2) := by decide +kernel
theorem dX3_weight_29 : decode cX3_weight 29 = .ok (.invokevirtual 56, 3) := by decide +kernel
theorem dX3_weight_32 : decode cX3_weight 32 = .ok (.ifCond .ne 5, 3) := by decide +kernel
theorem dX3_weight_35 : decode cX3_weight 35 = .ok (.iconst 0, 1) := by decide +kernel
theorem dX3_weight_36 : decode cX3_weight 36 = .ok (.ireturn, 1) := by decide +kernel
theorem dX3_weight_37 : decode cX3_weight 37 = .ok (.aload_n 0, 1) := by decide +kernel
theorem dX3_weight_38 : decode cX3_weight 38 = .ok (.getfield 11, 3) := by decide +kernel
theorem dX3_weight_41 : decode cX3_weight 41 = .ok (.iload_n 1, 1) := by decide +kernel
theorem dX3_weight_42 : decode cX3_weight 42 = .ok (.aaload, 1) := by decide +kernel
theorem dX3_weight_43 : decode cX3_weight 43 = .ok (.iload_n 2, 1) := by decide +kernel
theorem dX3_weight_44 : decode cX3_weight 44 = .ok (.iload_n 3, 1) := by decide +kernel
theorem dX3_weight_45 : decode cX3_weight 45 = .ok (.iload 4, 2) := by decide +kernel
theorem dX3_weight_47 : decode cX3_weight 47 = .ok (.invokestatic 60, 3) := by decide +kernel
theorem dX3_weight_50 : decode cX3_weight 50 = .ok (.iload 5, 2) := by decide +kernel
theorem dX3_weight_52 : decode cX3_weight 52 = .ok (.invokevirtual 64, 3) := by decide +kernel
theorem dX3_weight_55 : decode cX3_weight 55 = .ok (.ireturn, 1) := by decide +kernel
set_option maxRecDepth 20000 in
theorem ggX3_told_X3_isPlace : GoodIn wsX3_told wsX3_isPlace := goodIn_r _ [5] (by decide +kernel) (by decide +kernel)
set_option maxRecDepth 20000 in
theorem gX3_told_X3_isPlace : GoodIn wsX3_told (va_wsS RX3 45 yX3_isPlace wsX3_isPlace) := goodIn_app (goodIn_of _ (by decide +kernel)) ggX3_told_X3_isPlace
set_option maxRecDepth 20000 in
theorem ggX3_told_X2_isMade : GoodIn wsX3_told wsX2_isMade := goodIn_r _ [9, 10, 28, 29, 30] (by decide +kernel) (by decide +kernel)
set_option maxRecDepth 20000 in
theorem gX3_told_X2_isMade_n68 : GoodIn wsX3_told (wsX2_isMade) := ggX3_told_X2_isMade
set_option maxRecDepth 20000 in
theorem ggX3_told_X2_weightOf : GoodIn wsX3_told wsX2_weightOf := goodIn_r _ [13, 14, 15, 16, 17, 7, 18, 19, 28, 29, 30] (by decide +kernel) (by decide +kernel)
set_option maxRecDepth 20000 in
theorem gX3_told_X2_weightOf_n79 : GoodIn wsX3_told (wsX2_weightOf) := ggX3_told_X2_weightOf
theorem dX3_told_0 : decode cX3_told 0 = .ok (.iload_n 1, 1) := by decide +kernel
theorem dX3_told_1 : decode cX3_told 1 = .ok (.invokestatic 45, 3) := by decide +kernel
theorem dX3_told_4 : decode cX3_told 4 = .ok (.ifCond .ne 5, 3) := by decide +kernel
theorem dX3_told_7 : decode cX3_told 7 = .ok (.iconst (-1), 1) := by decide +kernel
theorem dX3_told_8 : decode cX3_told 8 = .ok (.ireturn, 1) := by decide +kernel
theorem dX3_told_9 : decode cX3_told 9 = .ok (.aload_n 0, 1) := by decide +kernel
theorem dX3_told_10 : decode cX3_told 10 = .ok (.getfield 11, 3) := by decide +kernel
theorem dX3_told_13 : decode cX3_told 13 = .ok (.iload_n 1, 1) := by decide +kernel
theorem dX3_told_14 : decode cX3_told 14 = .ok (.aaload, 1) := by decide +kernel
theorem dX3_told_15 : decode cX3_told 15 = .ok (.astore_n 3, 1) := by decide +kernel
theorem dX3_told_16 : decode cX3_told 16 = .ok (.iload_n 2, 1) := by decide +kernel
theorem dX3_told_17 : decode cX3_told 17 = .ok (.ifCond .ne 16, 3) := by decide +kernel
theorem dX3_told_20 : decode cX3_told 20 = .ok (.aload_n 3, 1) := by decide +kernel
theorem dX3_told_21 : decode cX3_told 21 = .ok (.invokevirtual 68, 3) := by decide +kernel
theorem dX3_told_24 : decode cX3_told 24 = .ok (.ifCond .eq 7, 3) := by decide +kernel
theorem dX3_told_27 : decode cX3_told 27 = .ok (.iconst 1, 1) := by decide +kernel
theorem dX3_told_28 : decode cX3_told 28 = .ok (.goto 4, 3) := by decide +kernel
theorem dX3_told_31 : decode cX3_told 31 = .ok (.iconst 0, 1) := by decide +kernel
theorem dX3_told_32 : decode cX3_told 32 = .ok (.ireturn, 1) := by decide +kernel
theorem dX3_told_33 : decode cX3_told 33 = .ok (.iload_n 2, 1) := by decide +kernel
theorem dX3_told_34 : decode cX3_told 34 = .ok (.iconst 1, 1) := by decide +kernel
theorem dX3_told_35 : decode cX3_told 35 = .ok (.if_icmp .lt 17, 3) := by decide +kernel
theorem dX3_told_38 : decode cX3_told 38 = .ok (.iload_n 2, 1) := by decide +kernel
theorem dX3_told_39 : decode cX3_told 39 = .ok (.iconst 3, 1) := by decide +kernel
theorem dX3_told_40 : decode cX3_told 40 = .ok (.if_icmp .gt 12, 3) := by decide +kernel
theorem dX3_told_43 : decode cX3_told 43 = .ok (.aload_n 3, 1) := by decide +kernel
theorem dX3_told_44 : decode cX3_told 44 = .ok (.getfield 72, 3) := by decide +kernel
theorem dX3_told_47 : decode cX3_told 47 = .ok (.iload_n 2, 1) := by decide +kernel
theorem dX3_told_48 : decode cX3_told 48 = .ok (.iconst 1, 1) := by decide +kernel
theorem dX3_told_49 : decode cX3_told 49 = .ok (.isub, 1) := by decide +kernel
theorem dX3_told_50 : decode cX3_told 50 = .ok (.iaload, 1) := by decide +kernel
theorem dX3_told_51 : decode cX3_told 51 = .ok (.ireturn, 1) := by decide +kernel
theorem dX3_told_52 : decode cX3_told 52 = .ok (.iload_n 2, 1) := by decide +kernel
theorem dX3_told_53 : decode cX3_told 53 = .ok (.iconst 4, 1) := by decide +kernel
theorem dX3_told_54 : decode cX3_told 54 = .ok (.if_icmp .ne 8, 3) := by decide +kernel
theorem dX3_told_57 : decode cX3_told 57 = .ok (.aload_n 3, 1) := by decide +kernel
theorem dX3_told_58 : decode cX3_told 58 = .ok (.getfield 75, 3) := by decide +kernel
theorem dX3_told_61 : decode cX3_told 61 = .ok (.ireturn, 1) := by decide +kernel
theorem dX3_told_62 : decode cX3_told 62 = .ok (.iload_n 2, 1) := by decide +kernel
theorem dX3_told_63 : decode cX3_told 63 = .ok (.bipush 10, 2) := by decide +kernel
theorem dX3_told_65 : decode cX3_told 65 = .ok (.if_icmp .lt 14, 3) := by decide +kernel
theorem dX3_told_68 : decode cX3_told 68 = .ok (.aload_n 3, 1) := by decide +kernel
theorem dX3_told_69 : decode cX3_told 69 = .ok (.iload_n 2, 1) := by decide +kernel
theorem dX3_told_70 : decode cX3_told 70 = .ok (.bipush 10, 2) := by decide +kernel
theorem dX3_told_72 : decode cX3_told 72 = .ok (.isub, 1) := by decide +kernel
theorem dX3_told_73 : decode cX3_told 73 = .ok (.invokevirtual 79, 3) := by decide +kernel
theorem dX3_told_76 : decode cX3_told 76 = .ok (.goto 4, 3) := by decide +kernel
theorem dX3_told_79 : decode cX3_told 79 = .ok (.iconst (-1), 1) := by decide +kernel
theorem dX3_told_80 : decode cX3_told 80 = .ok (.ireturn, 1) := by decide +kernel
set_option maxRecDepth 20000 in
theorem ggX3_mix_X3_isMadePlace : GoodIn wsX3_mix wsX3_isMadePlace := goodIn_r _ [6, 1, 7, 8, 5, 9, 10, 11, 12, 13, 14, 23, 24, 25, 26, 27, 28, 29, 30, 31, 32, 33] (by decide +kernel) (by decide +kernel)
set_option maxRecDepth 20000 in
theorem gX3_mix_X3_isMadePlace : GoodIn wsX3_mix (wsV RX3 83 RX3 yX3_isMadePlace wsX3_isMadePlace) := goodIn_app (goodIn_of _ (by decide +kernel)) ggX3_mix_X3_isMadePlace
set_option maxRecDepth 20000 in
theorem ggX3_mix_X3_isPlace : GoodIn wsX3_mix wsX3_isPlace := goodIn_r _ [9] (by decide +kernel) (by decide +kernel)
set_option maxRecDepth 20000 in
theorem gX3_mix_X3_isPlace : GoodIn wsX3_mix (va_wsS RX3 45 yX3_isPlace wsX3_isPlace) := goodIn_app (goodIn_of _ (by decide +kernel)) ggX3_mix_X3_isPlace
set_option maxRecDepth 20000 in
theorem ggX3_mix_X2_hasStatesOf : GoodIn wsX3_mix wsX2_hasStatesOf := goodIn_r _ [17, 18, 31, 32, 33] (by decide +kernel) (by decide +kernel)
set_option maxRecDepth 20000 in
theorem gX3_mix_X2_hasStatesOf_n86 : GoodIn wsX3_mix (wsX2_hasStatesOf) := ggX3_mix_X2_hasStatesOf
set_option maxRecDepth 20000 in
theorem ggX3_mix_X2_becomeMixOf : GoodIn wsX3_mix wsX2_becomeMixOf := goodIn_r _ [21, 14, 18, 22, 31, 32, 33] (by decide +kernel) (by decide +kernel)
set_option maxRecDepth 20000 in
theorem gX3_mix_X2_becomeMixOf_n90 : GoodIn wsX3_mix (wsX2_becomeMixOf) := ggX3_mix_X2_becomeMixOf
theorem dX3_mix_0 : decode cX3_mix 0 = .ok (.aload_n 0, 1) := by decide +kernel
theorem dX3_mix_1 : decode cX3_mix 1 = .ok (.iload_n 1, 1) := by decide +kernel
theorem dX3_mix_2 : decode cX3_mix 2 = .ok (.invokevirtual 83, 3) := by decide +kernel
theorem dX3_mix_5 : decode cX3_mix 5 = .ok (.ifCond .eq 18, 3) := by decide +kernel
theorem dX3_mix_8 : decode cX3_mix 8 = .ok (.aload_n 0, 1) := by decide +kernel
theorem dX3_mix_9 : decode cX3_mix 9 = .ok (.iload_n 2, 1) := by decide +kernel
theorem dX3_mix_10 : decode cX3_mix 10 = .ok (.invokevirtual 83, 3) := by decide +kernel
theorem dX3_mix_13 : decode cX3_mix 13 = .ok (.ifCond .eq 10, 3) := by decide +kernel
theorem dX3_mix_16 : decode cX3_mix 16 = .ok (.iload_n 3, 1) := by decide +kernel
theorem dX3_mix_17 : decode cX3_mix 17 = .ok (.invokestatic 45, 3) := by decide +kernel
theorem dX3_mix_20 : decode cX3_mix 20 = .ok (.ifCond .ne 5, 3) := by decide +kernel
theorem dX3_mix_23 : decode cX3_mix 23 = .ok (.iconst 0, 1) := by decide +kernel
theorem dX3_mix_24 : decode cX3_mix 24 = .ok (.ireturn, 1) := by decide +kernel
theorem dX3_mix_25 : decode cX3_mix 25 = .ok (.aload_n 0, 1) := by decide +kernel
theorem dX3_mix_26 : decode cX3_mix 26 = .ok (.getfield 11, 3) := by decide +kernel
theorem dX3_mix_29 : decode cX3_mix 29 = .ok (.iload_n 1, 1) := by decide +kernel
theorem dX3_mix_30 : decode cX3_mix 30 = .ok (.aaload, 1) := by decide +kernel
theorem dX3_mix_31 : decode cX3_mix 31 = .ok (.astore 4, 2) := by decide +kernel
theorem dX3_mix_33 : decode cX3_mix 33 = .ok (.aload_n 0, 1) := by decide +kernel
theorem dX3_mix_34 : decode cX3_mix 34 = .ok (.getfield 11, 3) := by decide +kernel
theorem dX3_mix_37 : decode cX3_mix 37 = .ok (.iload_n 2, 1) := by decide +kernel
theorem dX3_mix_38 : decode cX3_mix 38 = .ok (.aaload, 1) := by decide +kernel
theorem dX3_mix_39 : decode cX3_mix 39 = .ok (.astore 5, 2) := by decide +kernel
theorem dX3_mix_41 : decode cX3_mix 41 = .ok (.aload 4, 2) := by decide +kernel
theorem dX3_mix_43 : decode cX3_mix 43 = .ok (.aload 5, 2) := by decide +kernel
theorem dX3_mix_45 : decode cX3_mix 45 = .ok (.invokevirtual 86, 3) := by decide +kernel
theorem dX3_mix_48 : decode cX3_mix 48 = .ok (.ifCond .eq 19, 3) := by decide +kernel
theorem dX3_mix_51 : decode cX3_mix 51 = .ok (.aload 4, 2) := by decide +kernel
theorem dX3_mix_53 : decode cX3_mix 53 = .ok (.getfield 75, 3) := by decide +kernel
theorem dX3_mix_56 : decode cX3_mix 56 = .ok (.aload 5, 2) := by decide +kernel
theorem dX3_mix_58 : decode cX3_mix 58 = .ok (.getfield 75, 3) := by decide +kernel
theorem dX3_mix_61 : decode cX3_mix 61 = .ok (.iadd, 1) := by decide +kernel
theorem dX3_mix_62 : decode cX3_mix 62 = .ok (.bipush 16, 2) := by decide +kernel
theorem dX3_mix_64 : decode cX3_mix 64 = .ok (.if_icmp .le 5, 3) := by decide +kernel
theorem dX3_mix_67 : decode cX3_mix 67 = .ok (.iconst 0, 1) := by decide +kernel
theorem dX3_mix_68 : decode cX3_mix 68 = .ok (.ireturn, 1) := by decide +kernel
theorem dX3_mix_69 : decode cX3_mix 69 = .ok (.aload_n 0, 1) := by decide +kernel
theorem dX3_mix_70 : decode cX3_mix 70 = .ok (.getfield 11, 3) := by decide +kernel
theorem dX3_mix_73 : decode cX3_mix 73 = .ok (.iload_n 3, 1) := by decide +kernel
theorem dX3_mix_74 : decode cX3_mix 74 = .ok (.aaload, 1) := by decide +kernel
theorem dX3_mix_75 : decode cX3_mix 75 = .ok (.aload 4, 2) := by decide +kernel
theorem dX3_mix_77 : decode cX3_mix 77 = .ok (.aload 5, 2) := by decide +kernel
theorem dX3_mix_79 : decode cX3_mix 79 = .ok (.invokevirtual 90, 3) := by decide +kernel
theorem dX3_mix_82 : decode cX3_mix 82 = .ok (.iconst 1, 1) := by decide +kernel
theorem dX3_mix_83 : decode cX3_mix 83 = .ok (.ireturn, 1) := by decide +kernel
set_option maxRecDepth 20000 in
theorem ggX3_tell_X3_isMadePlace : GoodIn wsX3_tell wsX3_isMadePlace := goodIn_r _ [8, 1, 9, 10, 7, 11, 12, 13, 14, 15, 16, 31, 32, 33, 34, 35, 36, 37, 38, 39, 40, 41] (by decide +kernel) (by decide +kernel)
set_option maxRecDepth 20000 in
theorem gX3_tell_X3_isMadePlace : GoodIn wsX3_tell (wsV RX3 83 RX3 yX3_isMadePlace wsX3_isMadePlace) := goodIn_app (goodIn_of _ (by decide +kernel)) ggX3_tell_X3_isMadePlace
set_option maxRecDepth 20000 in
theorem ggX3_tell_X2_gather : GoodIn wsX3_tell wsX2_gather := goodIn_r _ [19, 20, 21, 22, 23, 24, 25, 7, 26, 39, 40, 41] (by decide +kernel) (by decide +kernel)
set_option maxRecDepth 20000 in
theorem gX3_tell_X2_gather_n97 : GoodIn wsX3_tell (wsX2_gather) := ggX3_tell_X2_gather
set_option maxRecDepth 20000 in
theorem ggX3_tell_X2_spreadByRule : GoodIn wsX3_tell wsX2_spreadByRule := goodIn_r _ [29, 20, 30, 21, 22, 23, 24, 39, 40, 41] (by decide +kernel) (by decide +kernel)
set_option maxRecDepth 20000 in
theorem gX3_tell_X2_spreadByRule_n101 : GoodIn wsX3_tell (wsX2_spreadByRule) := ggX3_tell_X2_spreadByRule
theorem dX3_tell_0 : decode cX3_tell 0 = .ok (.aload_n 0, 1) := by decide +kernel
theorem dX3_tell_1 : decode cX3_tell 1 = .ok (.iload_n 1, 1) := by decide +kernel
theorem dX3_tell_2 : decode cX3_tell 2 = .ok (.invokevirtual 83, 3) := by decide +kernel
theorem dX3_tell_5 : decode cX3_tell 5 = .ok (.ifCond .eq 14, 3) := by decide +kernel
theorem dX3_tell_8 : decode cX3_tell 8 = .ok (.iload_n 2, 1) := by decide +kernel
theorem dX3_tell_9 : decode cX3_tell 9 = .ok (.ifCond .lt 10, 3) := by decide +kernel
theorem dX3_tell_12 : decode cX3_tell 12 = .ok (.iload_n 2, 1) := by decide +kernel
theorem dX3_tell_13 : decode cX3_tell 13 = .ok (.sipush 19683, 3) := by decide +kernel
theorem dX3_tell_16 : decode cX3_tell 16 = .ok (.if_icmp .lt 5, 3) := by decide +kernel
theorem dX3_tell_19 : decode cX3_tell 19 = .ok (.iconst 0, 1) := by decide +kernel
theorem dX3_tell_20 : decode cX3_tell 20 = .ok (.ireturn, 1) := by decide +kernel
theorem dX3_tell_21 : decode cX3_tell 21 = .ok (.aload_n 0, 1) := by decide +kernel
theorem dX3_tell_22 : decode cX3_tell 22 = .ok (.getfield 11, 3) := by decide +kernel
theorem dX3_tell_25 : decode cX3_tell 25 = .ok (.iload_n 1, 1) := by decide +kernel
theorem dX3_tell_26 : decode cX3_tell 26 = .ok (.aaload, 1) := by decide +kernel
theorem dX3_tell_27 : decode cX3_tell 27 = .ok (.getstatic 94, 3) := by decide +kernel
theorem dX3_tell_30 : decode cX3_tell 30 = .ok (.iconst 0, 1) := by decide +kernel
theorem dX3_tell_31 : decode cX3_tell 31 = .ok (.iaload, 1) := by decide +kernel
theorem dX3_tell_32 : decode cX3_tell 32 = .ok (.aload_n 0, 1) := by decide +kernel
theorem dX3_tell_33 : decode cX3_tell 33 = .ok (.getfield 27, 3) := by decide +kernel
theorem dX3_tell_36 : decode cX3_tell 36 = .ok (.invokevirtual 97, 3) := by decide +kernel
theorem dX3_tell_39 : decode cX3_tell 39 = .ok (.aload_n 0, 1) := by decide +kernel
theorem dX3_tell_40 : decode cX3_tell 40 = .ok (.getfield 11, 3) := by decide +kernel
theorem dX3_tell_43 : decode cX3_tell 43 = .ok (.iload_n 1, 1) := by decide +kernel
theorem dX3_tell_44 : decode cX3_tell 44 = .ok (.aaload, 1) := by decide +kernel
theorem dX3_tell_45 : decode cX3_tell 45 = .ok (.aload_n 0, 1) := by decide +kernel
theorem dX3_tell_46 : decode cX3_tell 46 = .ok (.getfield 27, 3) := by decide +kernel
theorem dX3_tell_49 : decode cX3_tell 49 = .ok (.iload_n 2, 1) := by decide +kernel
theorem dX3_tell_50 : decode cX3_tell 50 = .ok (.invokevirtual 101, 3) := by decide +kernel
theorem dX3_tell_53 : decode cX3_tell 53 = .ok (.iconst 1, 1) := by decide +kernel
theorem dX3_tell_54 : decode cX3_tell 54 = .ok (.ireturn, 1) := by decide +kernel
set_option maxRecDepth 20000 in
theorem ggX3_law_X3_isLaw : GoodIn wsX3_law wsX3_isLaw := goodIn_r _ [5] (by decide +kernel) (by decide +kernel)
set_option maxRecDepth 20000 in
theorem gX3_law_X3_isLaw : GoodIn wsX3_law (va_wsS RX3 105 yX3_isLaw wsX3_isLaw) := goodIn_app (goodIn_of _ (by decide +kernel)) ggX3_law_X3_isLaw
set_option maxRecDepth 20000 in
theorem ggX3_law_X3_isSet : GoodIn wsX3_law wsX3_isSet := goodIn_r _ [8] (by decide +kernel) (by decide +kernel)
set_option maxRecDepth 20000 in
theorem gX3_law_X3_isSet : GoodIn wsX3_law (va_wsS RX3 108 yX3_isSet wsX3_isSet) := goodIn_app (goodIn_of _ (by decide +kernel)) ggX3_law_X3_isSet
theorem dX3_law_0 : decode cX3_law 0 = .ok (.iload_n 1, 1) := by decide +kernel
theorem dX3_law_1 : decode cX3_law 1 = .ok (.invokestatic 105, 3) := by decide +kernel
theorem dX3_law_4 : decode cX3_law 4 = .ok (.ifCond .eq 21, 3) := by decide +kernel
theorem dX3_law_7 : decode cX3_law 7 = .ok (.iload_n 2, 1) := by decide +kernel
theorem dX3_law_8 : decode cX3_law 8 = .ok (.invokestatic 108, 3) := by decide +kernel
