theorem dX4_add_3 : decode cX4_add 3 = .ok (.istore 4, 2) := by decide +kernel
theorem dX4_add_5 : decode cX4_add 5 = .ok (.iload 4, 2) := by decide +kernel
theorem dX4_add_7 : decode cX4_add 7 = .ok (.bipush 6, 2) := by decide +kernel
theorem dX4_add_9 : decode cX4_add 9 = .ok (.if_icmp .ge 45, 3) := by decide +kernel
theorem dX4_add_12 : decode cX4_add 12 = .ok (.iload_n 3, 1) := by decide +kernel
theorem dX4_add_13 : decode cX4_add 13 = .ok (.aload_n 0, 1) := by decide +kernel
theorem dX4_add_14 : decode cX4_add 14 = .ok (.getfield 22, 3) := by decide +kernel
theorem dX4_add_17 : decode cX4_add 17 = .ok (.iload 4, 2) := by decide +kernel
theorem dX4_add_19 : decode cX4_add 19 = .ok (.iaload, 1) := by decide +kernel
theorem dX4_add_20 : decode cX4_add 20 = .ok (.irem, 1) := by decide +kernel
theorem dX4_add_21 : decode cX4_add 21 = .ok (.ifCond .ne 27, 3) := by decide +kernel
theorem dX4_add_24 : decode cX4_add 24 = .ok (.iload_n 3, 1) := by decide +kernel
theorem dX4_add_25 : decode cX4_add 25 = .ok (.aload_n 0, 1) := by decide +kernel
theorem dX4_add_26 : decode cX4_add 26 = .ok (.getfield 22, 3) := by decide +kernel
theorem dX4_add_29 : decode cX4_add 29 = .ok (.iload 4, 2) := by decide +kernel
theorem dX4_add_31 : decode cX4_add 31 = .ok (.iaload, 1) := by decide +kernel
theorem dX4_add_32 : decode cX4_add 32 = .ok (.idiv, 1) := by decide +kernel
theorem dX4_add_33 : decode cX4_add 33 = .ok (.istore_n 3, 1) := by decide +kernel
theorem dX4_add_34 : decode cX4_add 34 = .ok (.aload_n 0, 1) := by decide +kernel
theorem dX4_add_35 : decode cX4_add 35 = .ok (.getfield 25, 3) := by decide +kernel
theorem dX4_add_38 : decode cX4_add 38 = .ok (.iload 4, 2) := by decide +kernel
theorem dX4_add_40 : decode cX4_add 40 = .ok (.dup2, 1) := by decide +kernel
theorem dX4_add_41 : decode cX4_add 41 = .ok (.iaload, 1) := by decide +kernel
theorem dX4_add_42 : decode cX4_add 42 = .ok (.iload_n 2, 1) := by decide +kernel
theorem dX4_add_43 : decode cX4_add 43 = .ok (.iadd, 1) := by decide +kernel
theorem dX4_add_44 : decode cX4_add 44 = .ok (.iastore, 1) := by decide +kernel
theorem dX4_add_45 : decode cX4_add 45 = .ok (.goto (-33), 3) := by decide +kernel
theorem dX4_add_48 : decode cX4_add 48 = .ok (.iinc 4 1, 3) := by decide +kernel
theorem dX4_add_51 : decode cX4_add 51 = .ok (.goto (-46), 3) := by decide +kernel
theorem dX4_add_54 : decode cX4_add 54 = .ok (.return_, 1) := by decide +kernel
theorem dX4_settings_0 : decode cX4_settings 0 = .ok (.iconst 0, 1) := by decide +kernel
theorem dX4_settings_1 : decode cX4_settings 1 = .ok (.istore_n 3, 1) := by decide +kernel
theorem dX4_settings_2 : decode cX4_settings 2 = .ok (.iload_n 3, 1) := by decide +kernel
theorem dX4_settings_3 : decode cX4_settings 3 = .ok (.bipush 27, 2) := by decide +kernel
theorem dX4_settings_5 : decode cX4_settings 5 = .ok (.if_icmp .ge 16, 3) := by decide +kernel
theorem dX4_settings_8 : decode cX4_settings 8 = .ok (.aload_n 0, 1) := by decide +kernel
theorem dX4_settings_9 : decode cX4_settings 9 = .ok (.getfield 28, 3) := by decide +kernel
theorem dX4_settings_12 : decode cX4_settings 12 = .ok (.iload_n 3, 1) := by decide +kernel
theorem dX4_settings_13 : decode cX4_settings 13 = .ok (.iconst 0, 1) := by decide +kernel
theorem dX4_settings_14 : decode cX4_settings 14 = .ok (.iastore, 1) := by decide +kernel
theorem dX4_settings_15 : decode cX4_settings 15 = .ok (.iinc 3 1, 3) := by decide +kernel
theorem dX4_settings_18 : decode cX4_settings 18 = .ok (.goto (-16), 3) := by decide +kernel
theorem dX4_settings_21 : decode cX4_settings 21 = .ok (.iconst 0, 1) := by decide +kernel
theorem dX4_settings_22 : decode cX4_settings 22 = .ok (.istore_n 3, 1) := by decide +kernel
theorem dX4_settings_23 : decode cX4_settings 23 = .ok (.iload_n 3, 1) := by decide +kernel
theorem dX4_settings_24 : decode cX4_settings 24 = .ok (.bipush 27, 2) := by decide +kernel
theorem dX4_settings_26 : decode cX4_settings 26 = .ok (.if_icmp .ge 61, 3) := by decide +kernel
theorem dX4_settings_29 : decode cX4_settings 29 = .ok (.aload_n 0, 1) := by decide +kernel
theorem dX4_settings_30 : decode cX4_settings 30 = .ok (.getfield 28, 3) := by decide +kernel
theorem dX4_settings_33 : decode cX4_settings 33 = .ok (.iload_n 2, 1) := by decide +kernel
theorem dX4_settings_34 : decode cX4_settings 34 = .ok (.iconst 1, 1) := by decide +kernel
theorem dX4_settings_35 : decode cX4_settings 35 = .ok (.iand, 1) := by decide +kernel
theorem dX4_settings_36 : decode cX4_settings 36 = .ok (.iload_n 3, 1) := by decide +kernel
theorem dX4_settings_37 : decode cX4_settings 37 = .ok (.iconst 3, 1) := by decide +kernel
theorem dX4_settings_38 : decode cX4_settings 38 = .ok (.irem, 1) := by decide +kernel
theorem dX4_settings_39 : decode cX4_settings 39 = .ok (.imul, 1) := by decide +kernel
theorem dX4_settings_40 : decode cX4_settings 40 = .ok (.iload_n 2, 1) := by decide +kernel
theorem dX4_settings_41 : decode cX4_settings 41 = .ok (.iconst 1, 1) := by decide +kernel
theorem dX4_settings_42 : decode cX4_settings 42 = .ok (.ishr, 1) := by decide +kernel
theorem dX4_settings_43 : decode cX4_settings 43 = .ok (.iconst 1, 1) := by decide +kernel
theorem dX4_settings_44 : decode cX4_settings 44 = .ok (.iand, 1) := by decide +kernel
theorem dX4_settings_45 : decode cX4_settings 45 = .ok (.iconst 3, 1) := by decide +kernel
theorem dX4_settings_46 : decode cX4_settings 46 = .ok (.imul, 1) := by decide +kernel
theorem dX4_settings_47 : decode cX4_settings 47 = .ok (.iload_n 3, 1) := by decide +kernel
theorem dX4_settings_48 : decode cX4_settings 48 = .ok (.iconst 3, 1) := by decide +kernel
theorem dX4_settings_49 : decode cX4_settings 49 = .ok (.idiv, 1) := by decide +kernel
theorem dX4_settings_50 : decode cX4_settings 50 = .ok (.iconst 3, 1) := by decide +kernel
theorem dX4_settings_51 : decode cX4_settings 51 = .ok (.irem, 1) := by decide +kernel
theorem dX4_settings_52 : decode cX4_settings 52 = .ok (.imul, 1) := by decide +kernel
theorem dX4_settings_53 : decode cX4_settings 53 = .ok (.iadd, 1) := by decide +kernel
theorem dX4_settings_54 : decode cX4_settings 54 = .ok (.iload_n 2, 1) := by decide +kernel
theorem dX4_settings_55 : decode cX4_settings 55 = .ok (.iconst 2, 1) := by decide +kernel
theorem dX4_settings_56 : decode cX4_settings 56 = .ok (.ishr, 1) := by decide +kernel
theorem dX4_settings_57 : decode cX4_settings 57 = .ok (.bipush 9, 2) := by decide +kernel
theorem dX4_settings_59 : decode cX4_settings 59 = .ok (.imul, 1) := by decide +kernel
theorem dX4_settings_60 : decode cX4_settings 60 = .ok (.iload_n 3, 1) := by decide +kernel
theorem dX4_settings_61 : decode cX4_settings 61 = .ok (.bipush 9, 2) := by decide +kernel
theorem dX4_settings_63 : decode cX4_settings 63 = .ok (.idiv, 1) := by decide +kernel
theorem dX4_settings_64 : decode cX4_settings 64 = .ok (.imul, 1) := by decide +kernel
theorem dX4_settings_65 : decode cX4_settings 65 = .ok (.iadd, 1) := by decide +kernel
theorem dX4_settings_66 : decode cX4_settings 66 = .ok (.dup2, 1) := by decide +kernel
theorem dX4_settings_67 : decode cX4_settings 67 = .ok (.iaload, 1) := by decide +kernel
theorem dX4_settings_68 : decode cX4_settings 68 = .ok (.aload_n 0, 1) := by decide +kernel
theorem dX4_settings_69 : decode cX4_settings 69 = .ok (.getfield 13, 3) := by decide +kernel
theorem dX4_settings_72 : decode cX4_settings 72 = .ok (.bipush 27, 2) := by decide +kernel
theorem dX4_settings_74 : decode cX4_settings 74 = .ok (.iload_n 1, 1) := by decide +kernel
theorem dX4_settings_75 : decode cX4_settings 75 = .ok (.imul, 1) := by decide +kernel
theorem dX4_settings_76 : decode cX4_settings 76 = .ok (.iload_n 3, 1) := by decide +kernel
theorem dX4_settings_77 : decode cX4_settings 77 = .ok (.iadd, 1) := by decide +kernel
theorem dX4_settings_78 : decode cX4_settings 78 = .ok (.iaload, 1) := by decide +kernel
theorem dX4_settings_79 : decode cX4_settings 79 = .ok (.iadd, 1) := by decide +kernel
theorem dX4_settings_80 : decode cX4_settings 80 = .ok (.iastore, 1) := by decide +kernel
theorem dX4_settings_81 : decode cX4_settings 81 = .ok (.iinc 3 1, 3) := by decide +kernel
theorem dX4_settings_84 : decode cX4_settings 84 = .ok (.goto (-61), 3) := by decide +kernel
theorem dX4_settings_87 : decode cX4_settings 87 = .ok (.return_, 1) := by decide +kernel
set_option maxRecDepth 20000 in
theorem ggX4_doubt_X4_settings : GoodIn wsX4_doubt wsX4_settings := goodIn_r _ [7, 2, 8, 15, 16, 17, 18, 19, 20, 21, 22, 23, 24, 25, 26, 27, 28, 29] (by decide +kernel) (by decide +kernel)
set_option maxRecDepth 20000 in
theorem gX4_doubt_X4_settings : GoodIn wsX4_doubt (wsV RX4 75 RX4 yX4_settings wsX4_settings) := goodIn_app (goodIn_of _ (by decide +kernel)) ggX4_doubt_X4_settings
set_option maxRecDepth 20000 in
theorem ggX4_doubt_X4_add : GoodIn wsX4_doubt wsX4_add := goodIn_r _ [12, 13, 14, 15, 16, 17, 18, 19, 20, 21, 22, 23, 24, 25, 26, 27, 28, 29] (by decide +kernel) (by decide +kernel)
set_option maxRecDepth 20000 in
theorem gX4_doubt_X4_add : GoodIn wsX4_doubt (wsV RX4 79 RX4 yX4_add wsX4_add) := goodIn_app (goodIn_of _ (by decide +kernel)) ggX4_doubt_X4_add
theorem dX4_doubt_0 : decode cX4_doubt 0 = .ok (.iload_n 3, 1) := by decide +kernel
theorem dX4_doubt_1 : decode cX4_doubt 1 = .ok (.ifCond .ne 4, 3) := by decide +kernel
theorem dX4_doubt_4 : decode cX4_doubt 4 = .ok (.return_, 1) := by decide +kernel
theorem dX4_doubt_5 : decode cX4_doubt 5 = .ok (.aload_n 0, 1) := by decide +kernel
theorem dX4_doubt_6 : decode cX4_doubt 6 = .ok (.iload_n 1, 1) := by decide +kernel
theorem dX4_doubt_7 : decode cX4_doubt 7 = .ok (.iload_n 2, 1) := by decide +kernel
theorem dX4_doubt_8 : decode cX4_doubt 8 = .ok (.invokevirtual 75, 3) := by decide +kernel
theorem dX4_doubt_11 : decode cX4_doubt 11 = .ok (.aload_n 0, 1) := by decide +kernel
theorem dX4_doubt_12 : decode cX4_doubt 12 = .ok (.aload_n 0, 1) := by decide +kernel
theorem dX4_doubt_13 : decode cX4_doubt 13 = .ok (.getfield 16, 3) := by decide +kernel
theorem dX4_doubt_16 : decode cX4_doubt 16 = .ok (.iload_n 1, 1) := by decide +kernel
theorem dX4_doubt_17 : decode cX4_doubt 17 = .ok (.iaload, 1) := by decide +kernel
theorem dX4_doubt_18 : decode cX4_doubt 18 = .ok (.iload_n 3, 1) := by decide +kernel
theorem dX4_doubt_19 : decode cX4_doubt 19 = .ok (.aload_n 0, 1) := by decide +kernel
theorem dX4_doubt_20 : decode cX4_doubt 20 = .ok (.getfield 16, 3) := by decide +kernel
theorem dX4_doubt_23 : decode cX4_doubt 23 = .ok (.iload_n 1, 1) := by decide +kernel
theorem dX4_doubt_24 : decode cX4_doubt 24 = .ok (.iaload, 1) := by decide +kernel
theorem dX4_doubt_25 : decode cX4_doubt 25 = .ok (.imul, 1) := by decide +kernel
theorem dX4_doubt_26 : decode cX4_doubt 26 = .ok (.invokevirtual 79, 3) := by decide +kernel
theorem dX4_doubt_29 : decode cX4_doubt 29 = .ok (.iconst 0, 1) := by decide +kernel
theorem dX4_doubt_30 : decode cX4_doubt 30 = .ok (.istore 4, 2) := by decide +kernel
theorem dX4_doubt_32 : decode cX4_doubt 32 = .ok (.iload 4, 2) := by decide +kernel
theorem dX4_doubt_34 : decode cX4_doubt 34 = .ok (.bipush 27, 2) := by decide +kernel
theorem dX4_doubt_36 : decode cX4_doubt 36 = .ok (.if_icmp .ge 40, 3) := by decide +kernel
theorem dX4_doubt_39 : decode cX4_doubt 39 = .ok (.aload_n 0, 1) := by decide +kernel
theorem dX4_doubt_40 : decode cX4_doubt 40 = .ok (.getfield 28, 3) := by decide +kernel
theorem dX4_doubt_43 : decode cX4_doubt 43 = .ok (.iload 4, 2) := by decide +kernel
theorem dX4_doubt_45 : decode cX4_doubt 45 = .ok (.iaload, 1) := by decide +kernel
theorem dX4_doubt_46 : decode cX4_doubt 46 = .ok (.ifCond .le 24, 3) := by decide +kernel
theorem dX4_doubt_49 : decode cX4_doubt 49 = .ok (.aload_n 0, 1) := by decide +kernel
theorem dX4_doubt_50 : decode cX4_doubt 50 = .ok (.aload_n 0, 1) := by decide +kernel
theorem dX4_doubt_51 : decode cX4_doubt 51 = .ok (.getfield 28, 3) := by decide +kernel
theorem dX4_doubt_54 : decode cX4_doubt 54 = .ok (.iload 4, 2) := by decide +kernel
theorem dX4_doubt_56 : decode cX4_doubt 56 = .ok (.iaload, 1) := by decide +kernel
theorem dX4_doubt_57 : decode cX4_doubt 57 = .ok (.iload_n 3, 1) := by decide +kernel
theorem dX4_doubt_58 : decode cX4_doubt 58 = .ok (.ineg, 1) := by decide +kernel
theorem dX4_doubt_59 : decode cX4_doubt 59 = .ok (.aload_n 0, 1) := by decide +kernel
theorem dX4_doubt_60 : decode cX4_doubt 60 = .ok (.getfield 28, 3) := by decide +kernel
theorem dX4_doubt_63 : decode cX4_doubt 63 = .ok (.iload 4, 2) := by decide +kernel
theorem dX4_doubt_65 : decode cX4_doubt 65 = .ok (.iaload, 1) := by decide +kernel
theorem dX4_doubt_66 : decode cX4_doubt 66 = .ok (.imul, 1) := by decide +kernel
theorem dX4_doubt_67 : decode cX4_doubt 67 = .ok (.invokevirtual 79, 3) := by decide +kernel
theorem dX4_doubt_70 : decode cX4_doubt 70 = .ok (.iinc 4 1, 3) := by decide +kernel
theorem dX4_doubt_73 : decode cX4_doubt 73 = .ok (.goto (-41), 3) := by decide +kernel
theorem dX4_doubt_76 : decode cX4_doubt 76 = .ok (.return_, 1) := by decide +kernel
set_option maxRecDepth 20000 in
theorem ggX4_lawIn_X4_doubt : GoodIn wsX4_lawIn wsX4_doubt := goodIn_r _ [6, 7, 8, 9, 10, 11, 5, 12, 13, 14, 15, 16, 17, 18, 19, 20, 21, 22, 23, 24, 25, 26, 27, 28, 29, 30, 31, 32, 33, 34] (by decide +kernel) (by decide +kernel)
set_option maxRecDepth 20000 in
theorem gX4_lawIn_X4_doubt : GoodIn wsX4_lawIn (wsV RX4 82 RX4 yX4_doubt wsX4_doubt) := goodIn_app (goodIn_of _ (by decide +kernel)) ggX4_lawIn_X4_doubt
theorem dX4_lawIn_0 : decode cX4_lawIn 0 = .ok (.iconst 1, 1) := by decide +kernel
theorem dX4_lawIn_1 : decode cX4_lawIn 1 = .ok (.istore 4, 2) := by decide +kernel
theorem dX4_lawIn_3 : decode cX4_lawIn 3 = .ok (.iload 4, 2) := by decide +kernel
theorem dX4_lawIn_5 : decode cX4_lawIn 5 = .ok (.bipush 8, 2) := by decide +kernel
theorem dX4_lawIn_7 : decode cX4_lawIn 7 = .ok (.if_icmp .ge 30, 3) := by decide +kernel
theorem dX4_lawIn_10 : decode cX4_lawIn 10 = .ok (.aload_n 0, 1) := by decide +kernel
theorem dX4_lawIn_11 : decode cX4_lawIn 11 = .ok (.iload_n 1, 1) := by decide +kernel
theorem dX4_lawIn_12 : decode cX4_lawIn 12 = .ok (.iload 4, 2) := by decide +kernel
theorem dX4_lawIn_14 : decode cX4_lawIn 14 = .ok (.iload_n 3, 1) := by decide +kernel
theorem dX4_lawIn_15 : decode cX4_lawIn 15 = .ok (.aload_n 0, 1) := by decide +kernel
theorem dX4_lawIn_16 : decode cX4_lawIn 16 = .ok (.getfield 19, 3) := by decide +kernel
theorem dX4_lawIn_19 : decode cX4_lawIn 19 = .ok (.bipush 8, 2) := by decide +kernel
theorem dX4_lawIn_21 : decode cX4_lawIn 21 = .ok (.iload_n 2, 1) := by decide +kernel
theorem dX4_lawIn_22 : decode cX4_lawIn 22 = .ok (.imul, 1) := by decide +kernel
theorem dX4_lawIn_23 : decode cX4_lawIn 23 = .ok (.iload 4, 2) := by decide +kernel
theorem dX4_lawIn_25 : decode cX4_lawIn 25 = .ok (.iadd, 1) := by decide +kernel
theorem dX4_lawIn_26 : decode cX4_lawIn 26 = .ok (.iaload, 1) := by decide +kernel
theorem dX4_lawIn_27 : decode cX4_lawIn 27 = .ok (.imul, 1) := by decide +kernel
theorem dX4_lawIn_28 : decode cX4_lawIn 28 = .ok (.invokevirtual 82, 3) := by decide +kernel
theorem dX4_lawIn_31 : decode cX4_lawIn 31 = .ok (.iinc 4 1, 3) := by decide +kernel
theorem dX4_lawIn_34 : decode cX4_lawIn 34 = .ok (.goto (-31), 3) := by decide +kernel
theorem dX4_lawIn_37 : decode cX4_lawIn 37 = .ok (.return_, 1) := by decide +kernel
set_option maxRecDepth 20000 in
theorem ggX4_multiply_X4_times : GoodIn wsX4_multiply wsX4_times := goodIn_r _ [9, 1, 10, 11, 12, 13, 14, 15, 16, 17, 18, 19, 20, 21, 22, 23, 24, 25] (by decide +kernel) (by decide +kernel)
set_option maxRecDepth 20000 in
theorem gX4_multiply_X4_times : GoodIn wsX4_multiply (wsV RX4 91 RX4 yX4_times wsX4_times) := goodIn_app (goodIn_of _ (by decide +kernel)) ggX4_multiply_X4_times
theorem dX4_multiply_0 : decode cX4_multiply 0 = .ok (.iconst 0, 1) := by decide +kernel
theorem dX4_multiply_1 : decode cX4_multiply 1 = .ok (.istore_n 3, 1) := by decide +kernel
theorem dX4_multiply_2 : decode cX4_multiply 2 = .ok (.iload_n 3, 1) := by decide +kernel
theorem dX4_multiply_3 : decode cX4_multiply 3 = .ok (.sipush 4000, 3) := by decide +kernel
theorem dX4_multiply_6 : decode cX4_multiply 6 = .ok (.if_icmp .ge 13, 3) := by decide +kernel
theorem dX4_multiply_9 : decode cX4_multiply 9 = .ok (.aload_n 1, 1) := by decide +kernel
theorem dX4_multiply_10 : decode cX4_multiply 10 = .ok (.iload_n 3, 1) := by decide +kernel
theorem dX4_multiply_11 : decode cX4_multiply 11 = .ok (.iconst 0, 1) := by decide +kernel
theorem dX4_multiply_12 : decode cX4_multiply 12 = .ok (.iastore, 1) := by decide +kernel
theorem dX4_multiply_13 : decode cX4_multiply 13 = .ok (.iinc 3 1, 3) := by decide +kernel
theorem dX4_multiply_16 : decode cX4_multiply 16 = .ok (.goto (-14), 3) := by decide +kernel
theorem dX4_multiply_19 : decode cX4_multiply 19 = .ok (.aload_n 1, 1) := by decide +kernel
theorem dX4_multiply_20 : decode cX4_multiply 20 = .ok (.iconst 0, 1) := by decide +kernel
theorem dX4_multiply_21 : decode cX4_multiply 21 = .ok (.iconst 1, 1) := by decide +kernel
theorem dX4_multiply_22 : decode cX4_multiply 22 = .ok (.iastore, 1) := by decide +kernel
theorem dX4_multiply_23 : decode cX4_multiply 23 = .ok (.aload_n 0, 1) := by decide +kernel
theorem dX4_multiply_24 : decode cX4_multiply 24 = .ok (.iconst 1, 1) := by decide +kernel
theorem dX4_multiply_25 : decode cX4_multiply 25 = .ok (.putfield 86, 3) := by decide +kernel
theorem dX4_multiply_28 : decode cX4_multiply 28 = .ok (.iconst 0, 1) := by decide +kernel
theorem dX4_multiply_29 : decode cX4_multiply 29 = .ok (.istore_n 3, 1) := by decide +kernel
theorem dX4_multiply_30 : decode cX4_multiply 30 = .ok (.iload_n 3, 1) := by decide +kernel
theorem dX4_multiply_31 : decode cX4_multiply 31 = .ok (.bipush 6, 2) := by decide +kernel
theorem dX4_multiply_33 : decode cX4_multiply 33 = .ok (.if_icmp .ge 73, 3) := by decide +kernel
theorem dX4_multiply_36 : decode cX4_multiply 36 = .ok (.iload_n 2, 1) := by decide +kernel
theorem dX4_multiply_37 : decode cX4_multiply 37 = .ok (.aload_n 0, 1) := by decide +kernel
theorem dX4_multiply_38 : decode cX4_multiply 38 = .ok (.getfield 25, 3) := by decide +kernel
theorem dX4_multiply_41 : decode cX4_multiply 41 = .ok (.iload_n 3, 1) := by decide +kernel
theorem dX4_multiply_42 : decode cX4_multiply 42 = .ok (.iaload, 1) := by decide +kernel
theorem dX4_multiply_43 : decode cX4_multiply 43 = .ok (.imul, 1) := by decide +kernel
theorem dX4_multiply_44 : decode cX4_multiply 44 = .ok (.istore 4, 2) := by decide +kernel
theorem dX4_multiply_46 : decode cX4_multiply 46 = .ok (.iload 4, 2) := by decide +kernel
theorem dX4_multiply_48 : decode cX4_multiply 48 = .ok (.ifCond .le 52, 3) := by decide +kernel
theorem dX4_multiply_51 : decode cX4_multiply 51 = .ok (.iconst 1, 1) := by decide +kernel
theorem dX4_multiply_52 : decode cX4_multiply 52 = .ok (.istore 5, 2) := by decide +kernel
theorem dX4_multiply_54 : decode cX4_multiply 54 = .ok (.iload 4, 2) := by decide +kernel
theorem dX4_multiply_56 : decode cX4_multiply 56 = .ok (.ifCond .le 34, 3) := by decide +kernel
theorem dX4_multiply_59 : decode cX4_multiply 59 = .ok (.iload 5, 2) := by decide +kernel
theorem dX4_multiply_61 : decode cX4_multiply 61 = .ok (.aload_n 0, 1) := by decide +kernel
theorem dX4_multiply_62 : decode cX4_multiply 62 = .ok (.getfield 22, 3) := by decide +kernel
theorem dX4_multiply_65 : decode cX4_multiply 65 = .ok (.iload_n 3, 1) := by decide +kernel
theorem dX4_multiply_66 : decode cX4_multiply 66 = .ok (.iaload, 1) := by decide +kernel
theorem dX4_multiply_67 : decode cX4_multiply 67 = .ok (.imul, 1) := by decide +kernel
theorem dX4_multiply_68 : decode cX4_multiply 68 = .ok (.ldc 90, 2) := by decide +kernel
theorem dX4_multiply_70 : decode cX4_multiply 70 = .ok (.if_icmp .ge 20, 3) := by decide +kernel
theorem dX4_multiply_73 : decode cX4_multiply 73 = .ok (.iload 5, 2) := by decide +kernel
theorem dX4_multiply_75 : decode cX4_multiply 75 = .ok (.aload_n 0, 1) := by decide +kernel
theorem dX4_multiply_76 : decode cX4_multiply 76 = .ok (.getfield 22, 3) := by decide +kernel
theorem dX4_multiply_79 : decode cX4_multiply 79 = .ok (.iload_n 3, 1) := by decide +kernel
theorem dX4_multiply_80 : decode cX4_multiply 80 = .ok (.iaload, 1) := by decide +kernel
theorem dX4_multiply_81 : decode cX4_multiply 81 = .ok (.imul, 1) := by decide +kernel
theorem dX4_multiply_82 : decode cX4_multiply 82 = .ok (.istore 5, 2) := by decide +kernel
theorem dX4_multiply_84 : decode cX4_multiply 84 = .ok (.iinc 4 (-1), 3) := by decide +kernel
theorem dX4_multiply_87 : decode cX4_multiply 87 = .ok (.goto (-33), 3) := by decide +kernel
theorem dX4_multiply_90 : decode cX4_multiply 90 = .ok (.aload_n 0, 1) := by decide +kernel
theorem dX4_multiply_91 : decode cX4_multiply 91 = .ok (.aload_n 1, 1) := by decide +kernel
theorem dX4_multiply_92 : decode cX4_multiply 92 = .ok (.iload 5, 2) := by decide +kernel
theorem dX4_multiply_94 : decode cX4_multiply 94 = .ok (.invokevirtual 91, 3) := by decide +kernel
theorem dX4_multiply_97 : decode cX4_multiply 97 = .ok (.goto (-51), 3) := by decide +kernel
theorem dX4_multiply_100 : decode cX4_multiply 100 = .ok (.iinc 3 1, 3) := by decide +kernel
theorem dX4_multiply_103 : decode cX4_multiply 103 = .ok (.goto (-73), 3) := by decide +kernel
theorem dX4_multiply_106 : decode cX4_multiply 106 = .ok (.return_, 1) := by decide +kernel
theorem dX4_times_0 : decode cX4_times 0 = .ok (.iconst 0, 1) := by decide +kernel
theorem dX4_times_1 : decode cX4_times 1 = .ok (.istore_n 3, 1) := by decide +kernel
theorem dX4_times_2 : decode cX4_times 2 = .ok (.iconst 0, 1) := by decide +kernel
theorem dX4_times_3 : decode cX4_times 3 = .ok (.istore 4, 2) := by decide +kernel
theorem dX4_times_5 : decode cX4_times 5 = .ok (.iload 4, 2) := by decide +kernel
theorem dX4_times_7 : decode cX4_times 7 = .ok (.aload_n 0, 1) := by decide +kernel
theorem dX4_times_8 : decode cX4_times 8 = .ok (.getfield 86, 3) := by decide +kernel
theorem dX4_times_11 : decode cX4_times 11 = .ok (.if_icmp .ge 34, 3) := by decide +kernel
theorem dX4_times_14 : decode cX4_times 14 = .ok (.aload_n 1, 1) := by decide +kernel
theorem dX4_times_15 : decode cX4_times 15 = .ok (.iload 4, 2) := by decide +kernel
theorem dX4_times_17 : decode cX4_times 17 = .ok (.iaload, 1) := by decide +kernel
theorem dX4_times_18 : decode cX4_times 18 = .ok (.iload_n 2, 1) := by decide +kernel
theorem dX4_times_19 : decode cX4_times 19 = .ok (.imul, 1) := by decide +kernel
theorem dX4_times_20 : decode cX4_times 20 = .ok (.iload_n 3, 1) := by decide +kernel
theorem dX4_times_21 : decode cX4_times 21 = .ok (.iadd, 1) := by decide +kernel
theorem dX4_times_22 : decode cX4_times 22 = .ok (.istore 5, 2) := by decide +kernel
theorem dX4_times_24 : decode cX4_times 24 = .ok (.aload_n 1, 1) := by decide +kernel
theorem dX4_times_25 : decode cX4_times 25 = .ok (.iload 4, 2) := by decide +kernel
theorem dX4_times_27 : decode cX4_times 27 = .ok (.iload 5, 2) := by decide +kernel
theorem dX4_times_29 : decode cX4_times 29 = .ok (.ldc 95, 2) := by decide +kernel
theorem dX4_times_31 : decode cX4_times 31 = .ok (.iand, 1) := by decide +kernel
theorem dX4_times_32 : decode cX4_times 32 = .ok (.iastore, 1) := by decide +kernel
theorem dX4_times_33 : decode cX4_times 33 = .ok (.iload 5, 2) := by decide +kernel
theorem dX4_times_35 : decode cX4_times 35 = .ok (.bipush 16, 2) := by decide +kernel
theorem dX4_times_37 : decode cX4_times 37 = .ok (.iushr, 1) := by decide +kernel
theorem dX4_times_38 : decode cX4_times 38 = .ok (.istore_n 3, 1) := by decide +kernel
theorem dX4_times_39 : decode cX4_times 39 = .ok (.iinc 4 1, 3) := by decide +kernel
theorem dX4_times_42 : decode cX4_times 42 = .ok (.goto (-37), 3) := by decide +kernel
theorem dX4_times_45 : decode cX4_times 45 = .ok (.iload_n 3, 1) := by decide +kernel
theorem dX4_times_46 : decode cX4_times 46 = .ok (.ifCond .ne 4, 3) := by decide +kernel
theorem dX4_times_49 : decode cX4_times 49 = .ok (.return_, 1) := by decide +kernel
theorem dX4_times_50 : decode cX4_times 50 = .ok (.aload_n 1, 1) := by decide +kernel
theorem dX4_times_51 : decode cX4_times 51 = .ok (.aload_n 0, 1) := by decide +kernel
theorem dX4_times_52 : decode cX4_times 52 = .ok (.getfield 86, 3) := by decide +kernel
theorem dX4_times_55 : decode cX4_times 55 = .ok (.iload_n 3, 1) := by decide +kernel
theorem dX4_times_56 : decode cX4_times 56 = .ok (.iastore, 1) := by decide +kernel
theorem dX4_times_57 : decode cX4_times 57 = .ok (.aload_n 0, 1) := by decide +kernel
theorem dX4_times_58 : decode cX4_times 58 = .ok (.dup, 1) := by decide +kernel
theorem dX4_times_59 : decode cX4_times 59 = .ok (.getfield 86, 3) := by decide +kernel
theorem dX4_times_62 : decode cX4_times 62 = .ok (.iconst 1, 1) := by decide +kernel
theorem dX4_times_63 : decode cX4_times 63 = .ok (.iadd, 1) := by decide +kernel
theorem dX4_times_64 : decode cX4_times 64 = .ok (.putfield 86, 3) := by decide +kernel
theorem dX4_times_67 : decode cX4_times 67 = .ok (.return_, 1) := by decide +kernel
set_option maxRecDepth 20000 in
theorem ggX4_signOf_X4_multiply : GoodIn wsX4_signOf wsX4_multiply := goodIn_r _ [8, 9, 1, 10, 11, 12, 13, 14, 7, 15, 16, 17, 18, 19, 20, 21, 22, 23, 24, 25, 26, 27, 28, 29, 30, 31] (by decide +kernel) (by decide +kernel)
set_option maxRecDepth 20000 in
theorem gX4_signOf_X4_multiply : GoodIn wsX4_signOf (wsV RX4 96 RX4 yX4_multiply wsX4_multiply) := goodIn_app (goodIn_of _ (by decide +kernel)) ggX4_signOf_X4_multiply
theorem dX4_signOf_0 : decode cX4_signOf 0 = .ok (.iconst 0, 1) := by decide +kernel
theorem dX4_signOf_1 : decode cX4_signOf 1 = .ok (.istore_n 1, 1) := by decide +kernel
theorem dX4_signOf_2 : decode cX4_signOf 2 = .ok (.iconst 0, 1) := by decide +kernel
theorem dX4_signOf_3 : decode cX4_signOf 3 = .ok (.istore_n 2, 1) := by decide +kernel
theorem dX4_signOf_4 : decode cX4_signOf 4 = .ok (.iconst 0, 1) := by decide +kernel
theorem dX4_signOf_5 : decode cX4_signOf 5 = .ok (.istore_n 3, 1) := by decide +kernel
theorem dX4_signOf_6 : decode cX4_signOf 6 = .ok (.iload_n 3, 1) := by decide +kernel
theorem dX4_signOf_7 : decode cX4_signOf 7 = .ok (.bipush 6, 2) := by decide +kernel
theorem dX4_signOf_9 : decode cX4_signOf 9 = .ok (.if_icmp .ge 47, 3) := by decide +kernel
theorem dX4_signOf_12 : decode cX4_signOf 12 = .ok (.iload_n 1, 1) := by decide +kernel
theorem dX4_signOf_13 : decode cX4_signOf 13 = .ok (.ifCond .ne 12, 3) := by decide +kernel
theorem dX4_signOf_16 : decode cX4_signOf 16 = .ok (.aload_n 0, 1) := by decide +kernel
theorem dX4_signOf_17 : decode cX4_signOf 17 = .ok (.getfield 25, 3) := by decide +kernel
theorem dX4_signOf_20 : decode cX4_signOf 20 = .ok (.iload_n 3, 1) := by decide +kernel
theorem dX4_signOf_21 : decode cX4_signOf 21 = .ok (.iaload, 1) := by decide +kernel
theorem dX4_signOf_22 : decode cX4_signOf 22 = .ok (.ifCond .le 7, 3) := by decide +kernel
theorem dX4_signOf_25 : decode cX4_signOf 25 = .ok (.iconst 1, 1) := by decide +kernel
theorem dX4_signOf_26 : decode cX4_signOf 26 = .ok (.goto 4, 3) := by decide +kernel
theorem dX4_signOf_29 : decode cX4_signOf 29 = .ok (.iconst 0, 1) := by decide +kernel
theorem dX4_signOf_30 : decode cX4_signOf 30 = .ok (.istore_n 1, 1) := by decide +kernel
theorem dX4_signOf_31 : decode cX4_signOf 31 = .ok (.iload_n 2, 1) := by decide +kernel
theorem dX4_signOf_32 : decode cX4_signOf 32 = .ok (.ifCond .ne 12, 3) := by decide +kernel
theorem dX4_signOf_35 : decode cX4_signOf 35 = .ok (.aload_n 0, 1) := by decide +kernel
theorem dX4_signOf_36 : decode cX4_signOf 36 = .ok (.getfield 25, 3) := by decide +kernel
theorem dX4_signOf_39 : decode cX4_signOf 39 = .ok (.iload_n 3, 1) := by decide +kernel
theorem dX4_signOf_40 : decode cX4_signOf 40 = .ok (.iaload, 1) := by decide +kernel
theorem dX4_signOf_41 : decode cX4_signOf 41 = .ok (.ifCond .ge 7, 3) := by decide +kernel
theorem dX4_signOf_44 : decode cX4_signOf 44 = .ok (.iconst 1, 1) := by decide +kernel
theorem dX4_signOf_45 : decode cX4_signOf 45 = .ok (.goto 4, 3) := by decide +kernel
theorem dX4_signOf_48 : decode cX4_signOf 48 = .ok (.iconst 0, 1) := by decide +kernel
theorem dX4_signOf_49 : decode cX4_signOf 49 = .ok (.istore_n 2, 1) := by decide +kernel
theorem dX4_signOf_50 : decode cX4_signOf 50 = .ok (.iinc 3 1, 3) := by decide +kernel
theorem dX4_signOf_53 : decode cX4_signOf 53 = .ok (.goto (-47), 3) := by decide +kernel
theorem dX4_signOf_56 : decode cX4_signOf 56 = .ok (.iload_n 1, 1) := by decide +kernel
theorem dX4_signOf_57 : decode cX4_signOf 57 = .ok (.ifCond .eq 7, 3) := by decide +kernel
theorem dX4_signOf_60 : decode cX4_signOf 60 = .ok (.iload_n 2, 1) := by decide +kernel
theorem dX4_signOf_61 : decode cX4_signOf 61 = .ok (.ifCond .ne 21, 3) := by decide +kernel
theorem dX4_signOf_64 : decode cX4_signOf 64 = .ok (.iload_n 1, 1) := by decide +kernel
theorem dX4_signOf_65 : decode cX4_signOf 65 = .ok (.ifCond .eq 7, 3) := by decide +kernel
theorem dX4_signOf_68 : decode cX4_signOf 68 = .ok (.iconst 1, 1) := by decide +kernel
theorem dX4_signOf_69 : decode cX4_signOf 69 = .ok (.goto 12, 3) := by decide +kernel
theorem dX4_signOf_72 : decode cX4_signOf 72 = .ok (.iload_n 2, 1) := by decide +kernel
theorem dX4_signOf_73 : decode cX4_signOf 73 = .ok (.ifCond .eq 7, 3) := by decide +kernel
theorem dX4_signOf_76 : decode cX4_signOf 76 = .ok (.iconst (-1), 1) := by decide +kernel
theorem dX4_signOf_77 : decode cX4_signOf 77 = .ok (.goto 4, 3) := by decide +kernel
theorem dX4_signOf_80 : decode cX4_signOf 80 = .ok (.iconst 0, 1) := by decide +kernel
theorem dX4_signOf_81 : decode cX4_signOf 81 = .ok (.ireturn, 1) := by decide +kernel
theorem dX4_signOf_82 : decode cX4_signOf 82 = .ok (.aload_n 0, 1) := by decide +kernel
theorem dX4_signOf_83 : decode cX4_signOf 83 = .ok (.aload_n 0, 1) := by decide +kernel
theorem dX4_signOf_84 : decode cX4_signOf 84 = .ok (.getfield 31, 3) := by decide +kernel
theorem dX4_signOf_87 : decode cX4_signOf 87 = .ok (.iconst 1, 1) := by decide +kernel
theorem dX4_signOf_88 : decode cX4_signOf 88 = .ok (.invokevirtual 96, 3) := by decide +kernel
theorem dX4_signOf_91 : decode cX4_signOf 91 = .ok (.aload_n 0, 1) := by decide +kernel
theorem dX4_signOf_92 : decode cX4_signOf 92 = .ok (.aload_n 0, 1) := by decide +kernel
theorem dX4_signOf_93 : decode cX4_signOf 93 = .ok (.getfield 34, 3) := by decide +kernel
theorem dX4_signOf_96 : decode cX4_signOf 96 = .ok (.iconst (-1), 1) := by decide +kernel
theorem dX4_signOf_97 : decode cX4_signOf 97 = .ok (.invokevirtual 96, 3) := by decide +kernel
theorem dX4_signOf_100 : decode cX4_signOf 100 = .ok (.sipush 3999, 3) := by decide +kernel
theorem dX4_signOf_103 : decode cX4_signOf 103 = .ok (.istore_n 3, 1) := by decide +kernel
theorem dX4_signOf_104 : decode cX4_signOf 104 = .ok (.iload_n 3, 1) := by decide +kernel
theorem dX4_signOf_105 : decode cX4_signOf 105 = .ok (.ifCond .lt 45, 3) := by decide +kernel
theorem dX4_signOf_108 : decode cX4_signOf 108 = .ok (.aload_n 0, 1) := by decide +kernel
theorem dX4_signOf_109 : decode cX4_signOf 109 = .ok (.getfield 31, 3) := by decide +kernel
theorem dX4_signOf_112 : decode cX4_signOf 112 = .ok (.iload_n 3, 1) := by decide +kernel
theorem dX4_signOf_113 : decode cX4_signOf 113 = .ok (.iaload, 1) := by decide +kernel
theorem dX4_signOf_114 : decode cX4_signOf 114 = .ok (.aload_n 0, 1) := by decide +kernel
theorem dX4_signOf_115 : decode cX4_signOf 115 = .ok (.getfield 34, 3) := by decide +kernel
theorem dX4_signOf_118 : decode cX4_signOf 118 = .ok (.iload_n 3, 1) := by decide +kernel
theorem dX4_signOf_119 : decode cX4_signOf 119 = .ok (.iaload, 1) := by decide +kernel
theorem dX4_signOf_120 : decode cX4_signOf 120 = .ok (.if_icmp .eq 24, 3) := by decide +kernel
theorem dX4_signOf_123 : decode cX4_signOf 123 = .ok (.aload_n 0, 1) := by decide +kernel
theorem dX4_signOf_124 : decode cX4_signOf 124 = .ok (.getfield 31, 3) := by decide +kernel
theorem dX4_signOf_127 : decode cX4_signOf 127 = .ok (.iload_n 3, 1) := by decide +kernel
theorem dX4_signOf_128 : decode cX4_signOf 128 = .ok (.iaload, 1) := by decide +kernel
theorem dX4_signOf_129 : decode cX4_signOf 129 = .ok (.aload_n 0, 1) := by decide +kernel
theorem dX4_signOf_130 : decode cX4_signOf 130 = .ok (.getfield 34, 3) := by decide +kernel
theorem dX4_signOf_133 : decode cX4_signOf 133 = .ok (.iload_n 3, 1) := by decide +kernel
theorem dX4_signOf_134 : decode cX4_signOf 134 = .ok (.iaload, 1) := by decide +kernel
theorem dX4_signOf_135 : decode cX4_signOf 135 = .ok (.if_icmp .le 7, 3) := by decide +kernel
theorem dX4_signOf_138 : decode cX4_signOf 138 = .ok (.iconst 1, 1) := by decide +kernel
theorem dX4_signOf_139 : decode cX4_signOf 139 = .ok (.goto 4, 3) := by decide +kernel
theorem dX4_signOf_142 : decode cX4_signOf 142 = .ok (.iconst (-1), 1) := by decide +kernel
theorem dX4_signOf_143 : decode cX4_signOf 143 = .ok (.ireturn, 1) := by decide +kernel
theorem dX4_signOf_144 : decode cX4_signOf 144 = .ok (.iinc 3 (-1), 3) := by decide +kernel
theorem dX4_signOf_147 : decode cX4_signOf 147 = .ok (.goto (-43), 3) := by decide +kernel
theorem dX4_signOf_150 : decode cX4_signOf 150 = .ok (.iconst 0, 1) := by decide +kernel
theorem dX4_signOf_151 : decode cX4_signOf 151 = .ok (.ireturn, 1) := by decide +kernel
set_option maxRecDepth 20000 in
theorem ggX4_sign_X4_isMade : GoodIn wsX4_sign wsX4_isMade := goodIn_r _ [5, 6, 7, 8, 4, 9, 10, 11, 12, 58, 59, 60, 61, 62, 63, 64, 65, 66, 67, 68, 69, 70, 71, 72] (by decide +kernel) (by decide +kernel)
set_option maxRecDepth 20000 in
theorem gX4_sign_X4_isMade : GoodIn wsX4_sign (wsV RX4 62 RX4 yX4_isMade wsX4_isMade) := goodIn_app (goodIn_of _ (by decide +kernel)) ggX4_sign_X4_isMade
set_option maxRecDepth 20000 in
theorem ggX4_sign_X4_isLaw : GoodIn wsX4_sign wsX4_isLaw := goodIn_r _ [15, 10, 11, 4, 12] (by decide +kernel) (by decide +kernel)
set_option maxRecDepth 20000 in
theorem gX4_sign_X4_isLaw : GoodIn wsX4_sign (va_wsS RX4 65 yX4_isLaw wsX4_isLaw) := goodIn_app (goodIn_of _ (by decide +kernel)) ggX4_sign_X4_isLaw
set_option maxRecDepth 20000 in
theorem ggX4_sign_X4_clear : GoodIn wsX4_sign wsX4_clear := goodIn_r _ [19, 20, 58, 59, 60, 61, 62, 63, 64, 65, 66, 67, 68, 69, 70, 71, 72] (by decide +kernel) (by decide +kernel)
set_option maxRecDepth 20000 in
theorem gX4_sign_X4_clear : GoodIn wsX4_sign (wsV RX4 99 RX4 yX4_clear wsX4_clear) := goodIn_app (goodIn_of _ (by decide +kernel)) ggX4_sign_X4_clear
set_option maxRecDepth 20000 in
theorem ggX4_sign_X4_lawIn : GoodIn wsX4_sign wsX4_lawIn := goodIn_r _ [24, 25, 26, 27, 28, 4, 29, 6, 30, 31, 32, 33, 34, 35, 36, 37, 38, 39, 40, 20, 58, 59, 60, 61, 62, 63, 64, 65, 66, 67, 68, 69, 70, 71, 72] (by decide +kernel) (by decide +kernel)
set_option maxRecDepth 20000 in
theorem gX4_sign_X4_lawIn : GoodIn wsX4_sign (wsV RX4 102 RX4 yX4_lawIn wsX4_lawIn) := goodIn_app (goodIn_of _ (by decide +kernel)) ggX4_sign_X4_lawIn
set_option maxRecDepth 20000 in
theorem ggX4_sign_X4_signOf : GoodIn wsX4_sign wsX4_signOf := goodIn_r _ [44, 20, 45, 46, 47, 48, 49, 4, 50, 51, 40, 52, 53, 54, 55, 56, 57, 58, 59, 60, 61, 62, 63, 64, 65, 66, 67, 68, 69, 70, 71, 72] (by decide +kernel) (by decide +kernel)
set_option maxRecDepth 20000 in
theorem gX4_sign_X4_signOf : GoodIn wsX4_sign (wsV RX4 105 RX4 yX4_signOf wsX4_signOf) := goodIn_app (goodIn_of _ (by decide +kernel)) ggX4_sign_X4_signOf
theorem dX4_sign_0 : decode cX4_sign 0 = .ok (.aload_n 0, 1) := by decide +kernel
theorem dX4_sign_1 : decode cX4_sign 1 = .ok (.iload_n 1, 1) := by decide +kernel
theorem dX4_sign_2 : decode cX4_sign 2 = .ok (.invokevirtual 62, 3) := by decide +kernel
theorem dX4_sign_5 : decode cX4_sign 5 = .ok (.ifCond .eq 10, 3) := by decide +kernel
theorem dX4_sign_8 : decode cX4_sign 8 = .ok (.iload_n 2, 1) := by decide +kernel
theorem dX4_sign_9 : decode cX4_sign 9 = .ok (.invokestatic 65, 3) := by decide +kernel
theorem dX4_sign_12 : decode cX4_sign 12 = .ok (.ifCond .ne 6, 3) := by decide +kernel
theorem dX4_sign_15 : decode cX4_sign 15 = .ok (.bipush (-2), 2) := by decide +kernel
theorem dX4_sign_17 : decode cX4_sign 17 = .ok (.ireturn, 1) := by decide +kernel
theorem dX4_sign_18 : decode cX4_sign 18 = .ok (.aload_n 0, 1) := by decide +kernel
theorem dX4_sign_19 : decode cX4_sign 19 = .ok (.invokevirtual 99, 3) := by decide +kernel
theorem dX4_sign_22 : decode cX4_sign 22 = .ok (.aload_n 0, 1) := by decide +kernel
theorem dX4_sign_23 : decode cX4_sign 23 = .ok (.iload_n 1, 1) := by decide +kernel
theorem dX4_sign_24 : decode cX4_sign 24 = .ok (.iload_n 2, 1) := by decide +kernel
theorem dX4_sign_25 : decode cX4_sign 25 = .ok (.iconst 1, 1) := by decide +kernel
theorem dX4_sign_26 : decode cX4_sign 26 = .ok (.invokevirtual 102, 3) := by decide +kernel
theorem dX4_sign_29 : decode cX4_sign 29 = .ok (.aload_n 0, 1) := by decide +kernel
theorem dX4_sign_30 : decode cX4_sign 30 = .ok (.invokevirtual 105, 3) := by decide +kernel
theorem dX4_sign_33 : decode cX4_sign 33 = .ok (.ireturn, 1) := by decide +kernel
set_option maxRecDepth 20000 in
theorem ggX4_compare_X4_isMade : GoodIn wsX4_compare wsX4_isMade := goodIn_r _ [6, 1, 7, 8, 5, 9, 10, 11, 12, 58, 59, 60, 61, 62, 63, 64, 65, 66, 67, 68, 69, 70, 71, 72] (by decide +kernel) (by decide +kernel)
set_option maxRecDepth 20000 in
theorem gX4_compare_X4_isMade : GoodIn wsX4_compare (wsV RX4 62 RX4 yX4_isMade wsX4_isMade) := goodIn_app (goodIn_of _ (by decide +kernel)) ggX4_compare_X4_isMade
set_option maxRecDepth 20000 in
theorem ggX4_compare_X4_isLaw : GoodIn wsX4_compare wsX4_isLaw := goodIn_r _ [15, 10, 11, 5, 12] (by decide +kernel) (by decide +kernel)
set_option maxRecDepth 20000 in
theorem gX4_compare_X4_isLaw : GoodIn wsX4_compare (va_wsS RX4 65 yX4_isLaw wsX4_isLaw) := goodIn_app (goodIn_of _ (by decide +kernel)) ggX4_compare_X4_isLaw
set_option maxRecDepth 20000 in
theorem ggX4_compare_X4_clear : GoodIn wsX4_compare wsX4_clear := goodIn_r _ [19, 20, 58, 59, 60, 61, 62, 63, 64, 65, 66, 67, 68, 69, 70, 71, 72] (by decide +kernel) (by decide +kernel)
set_option maxRecDepth 20000 in
theorem gX4_compare_X4_clear : GoodIn wsX4_compare (wsV RX4 99 RX4 yX4_clear wsX4_clear) := goodIn_app (goodIn_of _ (by decide +kernel)) ggX4_compare_X4_clear
set_option maxRecDepth 20000 in
theorem ggX4_compare_X4_lawIn : GoodIn wsX4_compare wsX4_lawIn := goodIn_r _ [24, 25, 26, 27, 28, 5, 29, 1, 30, 31, 32, 33, 34, 35, 36, 37, 38, 39, 40, 20, 58, 59, 60, 61, 62, 63, 64, 65, 66, 67, 68, 69, 70, 71, 72] (by decide +kernel) (by decide +kernel)
set_option maxRecDepth 20000 in
theorem gX4_compare_X4_lawIn : GoodIn wsX4_compare (wsV RX4 102 RX4 yX4_lawIn wsX4_lawIn) := goodIn_app (goodIn_of _ (by decide +kernel)) ggX4_compare_X4_lawIn
set_option maxRecDepth 20000 in
theorem ggX4_compare_X4_signOf : GoodIn wsX4_compare wsX4_signOf := goodIn_r _ [44, 20, 45, 46, 47, 48, 49, 5, 50, 51, 40, 52, 53, 54, 55, 56, 57, 58, 59, 60, 61, 62, 63, 64, 65, 66, 67, 68, 69, 70, 71, 72] (by decide +kernel) (by decide +kernel)
set_option maxRecDepth 20000 in
theorem gX4_compare_X4_signOf : GoodIn wsX4_compare (wsV RX4 105 RX4 yX4_signOf wsX4_signOf) := goodIn_app (goodIn_of _ (by decide +kernel)) ggX4_compare_X4_signOf
theorem dX4_compare_0 : decode cX4_compare 0 = .ok (.aload_n 0, 1) := by decide +kernel
theorem dX4_compare_1 : decode cX4_compare 1 = .ok (.iload_n 1, 1) := by decide +kernel
theorem dX4_compare_2 : decode cX4_compare 2 = .ok (.invokevirtual 62, 3) := by decide +kernel
theorem dX4_compare_5 : decode cX4_compare 5 = .ok (.ifCond .eq 26, 3) := by decide +kernel
theorem dX4_compare_8 : decode cX4_compare 8 = .ok (.iload_n 2, 1) := by decide +kernel
theorem dX4_compare_9 : decode cX4_compare 9 = .ok (.invokestatic 65, 3) := by decide +kernel
theorem dX4_compare_12 : decode cX4_compare 12 = .ok (.ifCond .eq 19, 3) := by decide +kernel
theorem dX4_compare_15 : decode cX4_compare 15 = .ok (.aload_n 0, 1) := by decide +kernel
theorem dX4_compare_16 : decode cX4_compare 16 = .ok (.iload_n 3, 1) := by decide +kernel
theorem dX4_compare_17 : decode cX4_compare 17 = .ok (.invokevirtual 62, 3) := by decide +kernel
theorem dX4_compare_20 : decode cX4_compare 20 = .ok (.ifCond .eq 11, 3) := by decide +kernel
theorem dX4_compare_23 : decode cX4_compare 23 = .ok (.iload 4, 2) := by decide +kernel
theorem dX4_compare_25 : decode cX4_compare 25 = .ok (.invokestatic 65, 3) := by decide +kernel
theorem dX4_compare_28 : decode cX4_compare 28 = .ok (.ifCond .ne 6, 3) := by decide +kernel
theorem dX4_compare_31 : decode cX4_compare 31 = .ok (.bipush (-2), 2) := by decide +kernel
theorem dX4_compare_33 : decode cX4_compare 33 = .ok (.ireturn, 1) := by decide +kernel
theorem dX4_compare_34 : decode cX4_compare 34 = .ok (.aload_n 0, 1) := by decide +kernel
theorem dX4_compare_35 : decode cX4_compare 35 = .ok (.invokevirtual 99, 3) := by decide +kernel
theorem dX4_compare_38 : decode cX4_compare 38 = .ok (.aload_n 0, 1) := by decide +kernel
theorem dX4_compare_39 : decode cX4_compare 39 = .ok (.iload_n 1, 1) := by decide +kernel
theorem dX4_compare_40 : decode cX4_compare 40 = .ok (.iload_n 2, 1) := by decide +kernel
theorem dX4_compare_41 : decode cX4_compare 41 = .ok (.aload_n 0, 1) := by decide +kernel
theorem dX4_compare_42 : decode cX4_compare 42 = .ok (.getfield 16, 3) := by decide +kernel
theorem dX4_compare_45 : decode cX4_compare 45 = .ok (.iload_n 3, 1) := by decide +kernel
theorem dX4_compare_46 : decode cX4_compare 46 = .ok (.iaload, 1) := by decide +kernel
theorem dX4_compare_47 : decode cX4_compare 47 = .ok (.invokevirtual 102, 3) := by decide +kernel
theorem dX4_compare_50 : decode cX4_compare 50 = .ok (.aload_n 0, 1) := by decide +kernel
theorem dX4_compare_51 : decode cX4_compare 51 = .ok (.iload_n 3, 1) := by decide +kernel
theorem dX4_compare_52 : decode cX4_compare 52 = .ok (.iload 4, 2) := by decide +kernel
theorem dX4_compare_54 : decode cX4_compare 54 = .ok (.aload_n 0, 1) := by decide +kernel
theorem dX4_compare_55 : decode cX4_compare 55 = .ok (.getfield 16, 3) := by decide +kernel
theorem dX4_compare_58 : decode cX4_compare 58 = .ok (.iload_n 1, 1) := by decide +kernel
theorem dX4_compare_59 : decode cX4_compare 59 = .ok (.iaload, 1) := by decide +kernel
theorem dX4_compare_60 : decode cX4_compare 60 = .ok (.ineg, 1) := by decide +kernel
theorem dX4_compare_61 : decode cX4_compare 61 = .ok (.invokevirtual 102, 3) := by decide +kernel
theorem dX4_compare_64 : decode cX4_compare 64 = .ok (.aload_n 0, 1) := by decide +kernel
theorem dX4_compare_65 : decode cX4_compare 65 = .ok (.invokevirtual 105, 3) := by decide +kernel
theorem dX4_compare_68 : decode cX4_compare 68 = .ok (.ireturn, 1) := by decide +kernel
set_option maxRecDepth 20000 in
theorem ggX4_near_X4_isMade : GoodIn wsX4_near wsX4_isMade := goodIn_r _ [7, 2, 8, 9, 6, 10, 11, 12, 13, 58, 59, 60, 61, 62, 63, 64, 65, 66, 67, 68, 69, 70, 71, 72] (by decide +kernel) (by decide +kernel)
set_option maxRecDepth 20000 in
theorem gX4_near_X4_isMade : GoodIn wsX4_near (wsV RX4 62 RX4 yX4_isMade wsX4_isMade) := goodIn_app (goodIn_of _ (by decide +kernel)) ggX4_near_X4_isMade
set_option maxRecDepth 20000 in
theorem ggX4_near_X4_isLaw : GoodIn wsX4_near wsX4_isLaw := goodIn_r _ [16, 11, 12, 6, 13] (by decide +kernel) (by decide +kernel)
set_option maxRecDepth 20000 in
theorem gX4_near_X4_isLaw : GoodIn wsX4_near (va_wsS RX4 65 yX4_isLaw wsX4_isLaw) := goodIn_app (goodIn_of _ (by decide +kernel)) ggX4_near_X4_isLaw
set_option maxRecDepth 20000 in
theorem ggX4_near_X4_clear : GoodIn wsX4_near wsX4_clear := goodIn_r _ [20, 1, 58, 59, 60, 61, 62, 63, 64, 65, 66, 67, 68, 69, 70, 71, 72] (by decide +kernel) (by decide +kernel)
set_option maxRecDepth 20000 in
theorem gX4_near_X4_clear : GoodIn wsX4_near (wsV RX4 99 RX4 yX4_clear wsX4_clear) := goodIn_app (goodIn_of _ (by decide +kernel)) ggX4_near_X4_clear
set_option maxRecDepth 20000 in
theorem ggX4_near_X4_lawIn : GoodIn wsX4_near wsX4_lawIn := goodIn_r _ [24, 25, 26, 27, 28, 6, 29, 2, 30, 31, 32, 33, 34, 35, 36, 37, 38, 39, 40, 1, 58, 59, 60, 61, 62, 63, 64, 65, 66, 67, 68, 69, 70, 71, 72] (by decide +kernel) (by decide +kernel)
set_option maxRecDepth 20000 in
theorem gX4_near_X4_lawIn : GoodIn wsX4_near (wsV RX4 102 RX4 yX4_lawIn wsX4_lawIn) := goodIn_app (goodIn_of _ (by decide +kernel)) ggX4_near_X4_lawIn
set_option maxRecDepth 20000 in
theorem ggX4_near_X4_signOf : GoodIn wsX4_near wsX4_signOf := goodIn_r _ [44, 1, 45, 46, 47, 48, 49, 6, 50, 51, 40, 52, 53, 54, 55, 56, 57, 58, 59, 60, 61, 62, 63, 64, 65, 66, 67, 68, 69, 70, 71, 72] (by decide +kernel) (by decide +kernel)
set_option maxRecDepth 20000 in
theorem gX4_near_X4_signOf : GoodIn wsX4_near (wsV RX4 105 RX4 yX4_signOf wsX4_signOf) := goodIn_app (goodIn_of _ (by decide +kernel)) ggX4_near_X4_signOf
theorem dX4_near_0 : decode cX4_near 0 = .ok (.aload_n 0, 1) := by decide +kernel
theorem dX4_near_1 : decode cX4_near 1 = .ok (.iload_n 1, 1) := by decide +kernel
theorem dX4_near_2 : decode cX4_near 2 = .ok (.invokevirtual 62, 3) := by decide +kernel
theorem dX4_near_5 : decode cX4_near 5 = .ok (.ifCond .eq 10, 3) := by decide +kernel
theorem dX4_near_8 : decode cX4_near 8 = .ok (.iload_n 2, 1) := by decide +kernel
theorem dX4_near_9 : decode cX4_near 9 = .ok (.invokestatic 65, 3) := by decide +kernel
theorem dX4_near_12 : decode cX4_near 12 = .ok (.ifCond .ne 7, 3) := by decide +kernel
theorem dX4_near_15 : decode cX4_near 15 = .ok (.sipush (-10000), 3) := by decide +kernel
theorem dX4_near_18 : decode cX4_near 18 = .ok (.ireturn, 1) := by decide +kernel
theorem dX4_near_19 : decode cX4_near 19 = .ok (.sipush (-1000), 3) := by decide +kernel
