set_option maxRecDepth 20000 in
theorem ggX0_init_X1_init : GoodIn wsX0_init wsX1_init := goodIn_r _ [12, 13, 2, 3, 14, 15, 16, 20, 21] (by decide +kernel) (by decide +kernel)
set_option maxRecDepth 20000 in
theorem gX0_init_X1_init_n20 : GoodIn wsX0_init (wsX1_init) := ggX0_init_X1_init
theorem dX0_init_0 : decode cX0_init 0 = .ok (.aload_n 0, 1) := by decide +kernel
theorem dX0_init_1 : decode cX0_init 1 = .ok (.invokespecial 3, 3) := by decide +kernel
theorem dX0_init_4 : decode cX0_init 4 = .ok (.aload_n 0, 1) := by decide +kernel
theorem dX0_init_5 : decode cX0_init 5 = .ok (.getstatic 9, 3) := by decide +kernel
theorem dX0_init_8 : decode cX0_init 8 = .ok (.arraylength, 1) := by decide +kernel
theorem dX0_init_9 : decode cX0_init 9 = .ok (.newarray .int, 2) := by decide +kernel
theorem dX0_init_11 : decode cX0_init 11 = .ok (.putfield 13, 3) := by decide +kernel
theorem dX0_init_14 : decode cX0_init 14 = .ok (.aload_n 0, 1) := by decide +kernel
theorem dX0_init_15 : decode cX0_init 15 = .ok (.new 18, 3) := by decide +kernel
theorem dX0_init_18 : decode cX0_init 18 = .ok (.dup, 1) := by decide +kernel
theorem dX0_init_19 : decode cX0_init 19 = .ok (.invokespecial 20, 3) := by decide +kernel
theorem dX0_init_22 : decode cX0_init 22 = .ok (.putfield 21, 3) := by decide +kernel
theorem dX0_init_25 : decode cX0_init 25 = .ok (.aload_n 0, 1) := by decide +kernel
theorem dX0_init_26 : decode cX0_init 26 = .ok (.new 18, 3) := by decide +kernel
theorem dX0_init_29 : decode cX0_init 29 = .ok (.dup, 1) := by decide +kernel
theorem dX0_init_30 : decode cX0_init 30 = .ok (.invokespecial 20, 3) := by decide +kernel
theorem dX0_init_33 : decode cX0_init 33 = .ok (.putfield 25, 3) := by decide +kernel
theorem dX0_init_36 : decode cX0_init 36 = .ok (.return_, 1) := by decide +kernel
set_option maxRecDepth 20000 in
theorem ggX0_clear_J7_fill_53178 : GoodIn wsX0_clear wsJ7_fill_53178 := goodIn_r _ [5] (by decide +kernel) (by decide +kernel)
set_option maxRecDepth 20000 in
theorem gX0_clear_J7_fill_53178 : GoodIn wsX0_clear (va_wsS RX0 28 yJ7_fill_53178 wsJ7_fill_53178) := goodIn_app (goodIn_of _ (by decide +kernel)) ggX0_clear_J7_fill_53178
theorem dX0_clear_0 : decode cX0_clear 0 = .ok (.aload_n 0, 1) := by decide +kernel
theorem dX0_clear_1 : decode cX0_clear 1 = .ok (.getfield 13, 3) := by decide +kernel
theorem dX0_clear_4 : decode cX0_clear 4 = .ok (.iconst 0, 1) := by decide +kernel
theorem dX0_clear_5 : decode cX0_clear 5 = .ok (.invokestatic 28, 3) := by decide +kernel
theorem dX0_clear_8 : decode cX0_clear 8 = .ok (.return_, 1) := by decide +kernel
theorem dX0_addLog_0 : decode cX0_addLog 0 = .ok (.iload_n 1, 1) := by decide +kernel
theorem dX0_addLog_1 : decode cX0_addLog 1 = .ok (.iconst 1, 1) := by decide +kernel
theorem dX0_addLog_2 : decode cX0_addLog 2 = .ok (.if_icmp .lt 9, 3) := by decide +kernel
theorem dX0_addLog_5 : decode cX0_addLog 5 = .ok (.iload_n 1, 1) := by decide +kernel
theorem dX0_addLog_6 : decode cX0_addLog 6 = .ok (.bipush 16, 2) := by decide +kernel
theorem dX0_addLog_8 : decode cX0_addLog 8 = .ok (.if_icmp .le 4, 3) := by decide +kernel
theorem dX0_addLog_11 : decode cX0_addLog 11 = .ok (.return_, 1) := by decide +kernel
theorem dX0_addLog_12 : decode cX0_addLog 12 = .ok (.iconst 0, 1) := by decide +kernel
theorem dX0_addLog_13 : decode cX0_addLog 13 = .ok (.istore_n 3, 1) := by decide +kernel
theorem dX0_addLog_14 : decode cX0_addLog 14 = .ok (.iload_n 3, 1) := by decide +kernel
theorem dX0_addLog_15 : decode cX0_addLog 15 = .ok (.getstatic 9, 3) := by decide +kernel
theorem dX0_addLog_18 : decode cX0_addLog 18 = .ok (.arraylength, 1) := by decide +kernel
theorem dX0_addLog_19 : decode cX0_addLog 19 = .ok (.if_icmp .ge 32, 3) := by decide +kernel
theorem dX0_addLog_22 : decode cX0_addLog 22 = .ok (.aload_n 0, 1) := by decide +kernel
theorem dX0_addLog_23 : decode cX0_addLog 23 = .ok (.getfield 13, 3) := by decide +kernel
theorem dX0_addLog_26 : decode cX0_addLog 26 = .ok (.iload_n 3, 1) := by decide +kernel
theorem dX0_addLog_27 : decode cX0_addLog 27 = .ok (.dup2, 1) := by decide +kernel
theorem dX0_addLog_28 : decode cX0_addLog 28 = .ok (.iaload, 1) := by decide +kernel
theorem dX0_addLog_29 : decode cX0_addLog 29 = .ok (.iload_n 2, 1) := by decide +kernel
theorem dX0_addLog_30 : decode cX0_addLog 30 = .ok (.getstatic 34, 3) := by decide +kernel
theorem dX0_addLog_33 : decode cX0_addLog 33 = .ok (.iload_n 1, 1) := by decide +kernel
theorem dX0_addLog_34 : decode cX0_addLog 34 = .ok (.getstatic 9, 3) := by decide +kernel
theorem dX0_addLog_37 : decode cX0_addLog 37 = .ok (.arraylength, 1) := by decide +kernel
theorem dX0_addLog_38 : decode cX0_addLog 38 = .ok (.imul, 1) := by decide +kernel
theorem dX0_addLog_39 : decode cX0_addLog 39 = .ok (.iload_n 3, 1) := by decide +kernel
theorem dX0_addLog_40 : decode cX0_addLog 40 = .ok (.iadd, 1) := by decide +kernel
theorem dX0_addLog_41 : decode cX0_addLog 41 = .ok (.iaload, 1) := by decide +kernel
theorem dX0_addLog_42 : decode cX0_addLog 42 = .ok (.imul, 1) := by decide +kernel
theorem dX0_addLog_43 : decode cX0_addLog 43 = .ok (.iadd, 1) := by decide +kernel
theorem dX0_addLog_44 : decode cX0_addLog 44 = .ok (.iastore, 1) := by decide +kernel
theorem dX0_addLog_45 : decode cX0_addLog 45 = .ok (.iinc 3 1, 3) := by decide +kernel
theorem dX0_addLog_48 : decode cX0_addLog 48 = .ok (.goto (-34), 3) := by decide +kernel
theorem dX0_addLog_51 : decode cX0_addLog 51 = .ok (.return_, 1) := by decide +kernel
theorem dX0_isNought_0 : decode cX0_isNought 0 = .ok (.iconst 0, 1) := by decide +kernel
theorem dX0_isNought_1 : decode cX0_isNought 1 = .ok (.istore_n 1, 1) := by decide +kernel
theorem dX0_isNought_2 : decode cX0_isNought 2 = .ok (.iload_n 1, 1) := by decide +kernel
theorem dX0_isNought_3 : decode cX0_isNought 3 = .ok (.getstatic 9, 3) := by decide +kernel
theorem dX0_isNought_6 : decode cX0_isNought 6 = .ok (.arraylength, 1) := by decide +kernel
theorem dX0_isNought_7 : decode cX0_isNought 7 = .ok (.if_icmp .ge 20, 3) := by decide +kernel
theorem dX0_isNought_10 : decode cX0_isNought 10 = .ok (.aload_n 0, 1) := by decide +kernel
theorem dX0_isNought_11 : decode cX0_isNought 11 = .ok (.getfield 13, 3) := by decide +kernel
theorem dX0_isNought_14 : decode cX0_isNought 14 = .ok (.iload_n 1, 1) := by decide +kernel
theorem dX0_isNought_15 : decode cX0_isNought 15 = .ok (.iaload, 1) := by decide +kernel
theorem dX0_isNought_16 : decode cX0_isNought 16 = .ok (.ifCond .eq 5, 3) := by decide +kernel
theorem dX0_isNought_19 : decode cX0_isNought 19 = .ok (.iconst 0, 1) := by decide +kernel
theorem dX0_isNought_20 : decode cX0_isNought 20 = .ok (.ireturn, 1) := by decide +kernel
theorem dX0_isNought_21 : decode cX0_isNought 21 = .ok (.iinc 1 1, 3) := by decide +kernel
theorem dX0_isNought_24 : decode cX0_isNought 24 = .ok (.goto (-22), 3) := by decide +kernel
theorem dX0_isNought_27 : decode cX0_isNought 27 = .ok (.iconst 1, 1) := by decide +kernel
theorem dX0_isNought_28 : decode cX0_isNought 28 = .ok (.ireturn, 1) := by decide +kernel
set_option maxRecDepth 20000 in
theorem ggX0_signOfSum_X0_isNought : GoodIn wsX0_signOfSum wsX0_isNought := goodIn_r _ [10, 1, 35, 36, 37] (by decide +kernel) (by decide +kernel)
set_option maxRecDepth 20000 in
theorem gX0_signOfSum_X0_isNought : GoodIn wsX0_signOfSum (wsV RX0 47 RX0 yX0_isNought wsX0_isNought) := goodIn_app (goodIn_of _ (by decide +kernel)) ggX0_signOfSum_X0_isNought
set_option maxRecDepth 20000 in
theorem ggX0_signOfSum_X0_signOfProducts : GoodIn wsX0_signOfSum wsX0_signOfProducts := goodIn_r _ [14, 15, 16, 1, 17, 18, 19, 20, 21, 22, 23, 24, 25, 26, 27, 28, 29, 30, 31, 32, 33, 34, 35, 36, 37, 38, 39] (by decide +kernel) (by decide +kernel)
set_option maxRecDepth 20000 in
theorem gX0_signOfSum_X0_signOfProducts : GoodIn wsX0_signOfSum (wsV RX0 51 RX0 yX0_signOfProducts wsX0_signOfProducts) := goodIn_app (goodIn_of _ (by decide +kernel)) ggX0_signOfSum_X0_signOfProducts
theorem dX0_signOfSum_0 : decode cX0_signOfSum 0 = .ok (.lconst 0, 1) := by decide +kernel
theorem dX0_signOfSum_1 : decode cX0_signOfSum 1 = .ok (.lstore_n 1, 1) := by decide +kernel
theorem dX0_signOfSum_2 : decode cX0_signOfSum 2 = .ok (.lconst 0, 1) := by decide +kernel
theorem dX0_signOfSum_3 : decode cX0_signOfSum 3 = .ok (.lstore_n 3, 1) := by decide +kernel
theorem dX0_signOfSum_4 : decode cX0_signOfSum 4 = .ok (.iconst 0, 1) := by decide +kernel
theorem dX0_signOfSum_5 : decode cX0_signOfSum 5 = .ok (.istore 5, 2) := by decide +kernel
theorem dX0_signOfSum_7 : decode cX0_signOfSum 7 = .ok (.iload 5, 2) := by decide +kernel
theorem dX0_signOfSum_9 : decode cX0_signOfSum 9 = .ok (.getstatic 9, 3) := by decide +kernel
theorem dX0_signOfSum_12 : decode cX0_signOfSum 12 = .ok (.arraylength, 1) := by decide +kernel
theorem dX0_signOfSum_13 : decode cX0_signOfSum 13 = .ok (.if_icmp .ge 41, 3) := by decide +kernel
theorem dX0_signOfSum_16 : decode cX0_signOfSum 16 = .ok (.lload_n 1, 1) := by decide +kernel
theorem dX0_signOfSum_17 : decode cX0_signOfSum 17 = .ok (.aload_n 0, 1) := by decide +kernel
theorem dX0_signOfSum_18 : decode cX0_signOfSum 18 = .ok (.getfield 13, 3) := by decide +kernel
theorem dX0_signOfSum_21 : decode cX0_signOfSum 21 = .ok (.iload 5, 2) := by decide +kernel
theorem dX0_signOfSum_23 : decode cX0_signOfSum 23 = .ok (.iaload, 1) := by decide +kernel
theorem dX0_signOfSum_24 : decode cX0_signOfSum 24 = .ok (.i2l, 1) := by decide +kernel
theorem dX0_signOfSum_25 : decode cX0_signOfSum 25 = .ok (.getstatic 37, 3) := by decide +kernel
theorem dX0_signOfSum_28 : decode cX0_signOfSum 28 = .ok (.iload 5, 2) := by decide +kernel
theorem dX0_signOfSum_30 : decode cX0_signOfSum 30 = .ok (.laload, 1) := by decide +kernel
theorem dX0_signOfSum_31 : decode cX0_signOfSum 31 = .ok (.lmul, 1) := by decide +kernel
theorem dX0_signOfSum_32 : decode cX0_signOfSum 32 = .ok (.ladd, 1) := by decide +kernel
theorem dX0_signOfSum_33 : decode cX0_signOfSum 33 = .ok (.lstore_n 1, 1) := by decide +kernel
theorem dX0_signOfSum_34 : decode cX0_signOfSum 34 = .ok (.lload_n 3, 1) := by decide +kernel
theorem dX0_signOfSum_35 : decode cX0_signOfSum 35 = .ok (.aload_n 0, 1) := by decide +kernel
theorem dX0_signOfSum_36 : decode cX0_signOfSum 36 = .ok (.getfield 13, 3) := by decide +kernel
theorem dX0_signOfSum_39 : decode cX0_signOfSum 39 = .ok (.iload 5, 2) := by decide +kernel
theorem dX0_signOfSum_41 : decode cX0_signOfSum 41 = .ok (.iaload, 1) := by decide +kernel
theorem dX0_signOfSum_42 : decode cX0_signOfSum 42 = .ok (.invokestatic 41, 3) := by decide +kernel
theorem dX0_signOfSum_45 : decode cX0_signOfSum 45 = .ok (.i2l, 1) := by decide +kernel
theorem dX0_signOfSum_46 : decode cX0_signOfSum 46 = .ok (.ladd, 1) := by decide +kernel
theorem dX0_signOfSum_47 : decode cX0_signOfSum 47 = .ok (.lstore_n 3, 1) := by decide +kernel
theorem dX0_signOfSum_48 : decode cX0_signOfSum 48 = .ok (.iinc 5 1, 3) := by decide +kernel
theorem dX0_signOfSum_51 : decode cX0_signOfSum 51 = .ok (.goto (-44), 3) := by decide +kernel
theorem dX0_signOfSum_54 : decode cX0_signOfSum 54 = .ok (.lload_n 1, 1) := by decide +kernel
theorem dX0_signOfSum_55 : decode cX0_signOfSum 55 = .ok (.lload_n 3, 1) := by decide +kernel
theorem dX0_signOfSum_56 : decode cX0_signOfSum 56 = .ok (.lcmp, 1) := by decide +kernel
theorem dX0_signOfSum_57 : decode cX0_signOfSum 57 = .ok (.ifCond .le 5, 3) := by decide +kernel
theorem dX0_signOfSum_60 : decode cX0_signOfSum 60 = .ok (.iconst 1, 1) := by decide +kernel
theorem dX0_signOfSum_61 : decode cX0_signOfSum 61 = .ok (.ireturn, 1) := by decide +kernel
theorem dX0_signOfSum_62 : decode cX0_signOfSum 62 = .ok (.lload_n 1, 1) := by decide +kernel
theorem dX0_signOfSum_63 : decode cX0_signOfSum 63 = .ok (.lload_n 3, 1) := by decide +kernel
theorem dX0_signOfSum_64 : decode cX0_signOfSum 64 = .ok (.lneg, 1) := by decide +kernel
theorem dX0_signOfSum_65 : decode cX0_signOfSum 65 = .ok (.lcmp, 1) := by decide +kernel
theorem dX0_signOfSum_66 : decode cX0_signOfSum 66 = .ok (.ifCond .ge 5, 3) := by decide +kernel
theorem dX0_signOfSum_69 : decode cX0_signOfSum 69 = .ok (.iconst (-1), 1) := by decide +kernel
theorem dX0_signOfSum_70 : decode cX0_signOfSum 70 = .ok (.ireturn, 1) := by decide +kernel
theorem dX0_signOfSum_71 : decode cX0_signOfSum 71 = .ok (.aload_n 0, 1) := by decide +kernel
theorem dX0_signOfSum_72 : decode cX0_signOfSum 72 = .ok (.invokevirtual 47, 3) := by decide +kernel
theorem dX0_signOfSum_75 : decode cX0_signOfSum 75 = .ok (.ifCond .eq 7, 3) := by decide +kernel
theorem dX0_signOfSum_78 : decode cX0_signOfSum 78 = .ok (.iconst 0, 1) := by decide +kernel
theorem dX0_signOfSum_79 : decode cX0_signOfSum 79 = .ok (.goto 7, 3) := by decide +kernel
theorem dX0_signOfSum_82 : decode cX0_signOfSum 82 = .ok (.aload_n 0, 1) := by decide +kernel
theorem dX0_signOfSum_83 : decode cX0_signOfSum 83 = .ok (.invokevirtual 51, 3) := by decide +kernel
theorem dX0_signOfSum_86 : decode cX0_signOfSum 86 = .ok (.ireturn, 1) := by decide +kernel
set_option maxRecDepth 20000 in
theorem ggX0_signOfProducts_X1_becomeOne : GoodIn wsX0_signOfProducts wsX1_becomeOne := goodIn_r _ [7, 8, 9, 25, 26] (by decide +kernel) (by decide +kernel)
set_option maxRecDepth 20000 in
theorem gX0_signOfProducts_X1_becomeOne_n55 : GoodIn wsX0_signOfProducts (wsX1_becomeOne) := ggX0_signOfProducts_X1_becomeOne
set_option maxRecDepth 20000 in
theorem ggX0_signOfProducts_X1_multiplyByPower : GoodIn wsX0_signOfProducts wsX1_multiplyByPower := goodIn_r _ [12, 13, 14, 15, 16, 5, 17, 9, 8, 18, 25, 26] (by decide +kernel) (by decide +kernel)
set_option maxRecDepth 20000 in
theorem gX0_signOfProducts_X1_multiplyByPower_n58 : GoodIn wsX0_signOfProducts (wsX1_multiplyByPower) := ggX0_signOfProducts_X1_multiplyByPower
set_option maxRecDepth 20000 in
theorem ggX0_signOfProducts_X1_against : GoodIn wsX0_signOfProducts wsX1_against := goodIn_r _ [21, 9, 8, 25, 26] (by decide +kernel) (by decide +kernel)
set_option maxRecDepth 20000 in
theorem gX0_signOfProducts_X1_against_n62 : GoodIn wsX0_signOfProducts (wsX1_against) := ggX0_signOfProducts_X1_against
theorem dX0_signOfProducts_0 : decode cX0_signOfProducts 0 = .ok (.aload_n 0, 1) := by decide +kernel
theorem dX0_signOfProducts_1 : decode cX0_signOfProducts 1 = .ok (.getfield 21, 3) := by decide +kernel
theorem dX0_signOfProducts_4 : decode cX0_signOfProducts 4 = .ok (.invokevirtual 55, 3) := by decide +kernel
theorem dX0_signOfProducts_7 : decode cX0_signOfProducts 7 = .ok (.aload_n 0, 1) := by decide +kernel
theorem dX0_signOfProducts_8 : decode cX0_signOfProducts 8 = .ok (.getfield 25, 3) := by decide +kernel
theorem dX0_signOfProducts_11 : decode cX0_signOfProducts 11 = .ok (.invokevirtual 55, 3) := by decide +kernel
theorem dX0_signOfProducts_14 : decode cX0_signOfProducts 14 = .ok (.iconst 0, 1) := by decide +kernel
theorem dX0_signOfProducts_15 : decode cX0_signOfProducts 15 = .ok (.istore_n 1, 1) := by decide +kernel
theorem dX0_signOfProducts_16 : decode cX0_signOfProducts 16 = .ok (.iload_n 1, 1) := by decide +kernel
theorem dX0_signOfProducts_17 : decode cX0_signOfProducts 17 = .ok (.getstatic 9, 3) := by decide +kernel
theorem dX0_signOfProducts_20 : decode cX0_signOfProducts 20 = .ok (.arraylength, 1) := by decide +kernel
theorem dX0_signOfProducts_21 : decode cX0_signOfProducts 21 = .ok (.if_icmp .ge 46, 3) := by decide +kernel
theorem dX0_signOfProducts_24 : decode cX0_signOfProducts 24 = .ok (.aload_n 0, 1) := by decide +kernel
theorem dX0_signOfProducts_25 : decode cX0_signOfProducts 25 = .ok (.getfield 21, 3) := by decide +kernel
theorem dX0_signOfProducts_28 : decode cX0_signOfProducts 28 = .ok (.getstatic 9, 3) := by decide +kernel
theorem dX0_signOfProducts_31 : decode cX0_signOfProducts 31 = .ok (.iload_n 1, 1) := by decide +kernel
theorem dX0_signOfProducts_32 : decode cX0_signOfProducts 32 = .ok (.iaload, 1) := by decide +kernel
theorem dX0_signOfProducts_33 : decode cX0_signOfProducts 33 = .ok (.aload_n 0, 1) := by decide +kernel
theorem dX0_signOfProducts_34 : decode cX0_signOfProducts 34 = .ok (.getfield 13, 3) := by decide +kernel
theorem dX0_signOfProducts_37 : decode cX0_signOfProducts 37 = .ok (.iload_n 1, 1) := by decide +kernel
theorem dX0_signOfProducts_38 : decode cX0_signOfProducts 38 = .ok (.iaload, 1) := by decide +kernel
theorem dX0_signOfProducts_39 : decode cX0_signOfProducts 39 = .ok (.invokevirtual 58, 3) := by decide +kernel
theorem dX0_signOfProducts_42 : decode cX0_signOfProducts 42 = .ok (.aload_n 0, 1) := by decide +kernel
theorem dX0_signOfProducts_43 : decode cX0_signOfProducts 43 = .ok (.getfield 25, 3) := by decide +kernel
theorem dX0_signOfProducts_46 : decode cX0_signOfProducts 46 = .ok (.getstatic 9, 3) := by decide +kernel
theorem dX0_signOfProducts_49 : decode cX0_signOfProducts 49 = .ok (.iload_n 1, 1) := by decide +kernel
theorem dX0_signOfProducts_50 : decode cX0_signOfProducts 50 = .ok (.iaload, 1) := by decide +kernel
theorem dX0_signOfProducts_51 : decode cX0_signOfProducts 51 = .ok (.aload_n 0, 1) := by decide +kernel
theorem dX0_signOfProducts_52 : decode cX0_signOfProducts 52 = .ok (.getfield 13, 3) := by decide +kernel
theorem dX0_signOfProducts_55 : decode cX0_signOfProducts 55 = .ok (.iload_n 1, 1) := by decide +kernel
theorem dX0_signOfProducts_56 : decode cX0_signOfProducts 56 = .ok (.iaload, 1) := by decide +kernel
theorem dX0_signOfProducts_57 : decode cX0_signOfProducts 57 = .ok (.ineg, 1) := by decide +kernel
theorem dX0_signOfProducts_58 : decode cX0_signOfProducts 58 = .ok (.invokevirtual 58, 3) := by decide +kernel
theorem dX0_signOfProducts_61 : decode cX0_signOfProducts 61 = .ok (.iinc 1 1, 3) := by decide +kernel
theorem dX0_signOfProducts_64 : decode cX0_signOfProducts 64 = .ok (.goto (-48), 3) := by decide +kernel
theorem dX0_signOfProducts_67 : decode cX0_signOfProducts 67 = .ok (.aload_n 0, 1) := by decide +kernel
theorem dX0_signOfProducts_68 : decode cX0_signOfProducts 68 = .ok (.getfield 21, 3) := by decide +kernel
theorem dX0_signOfProducts_71 : decode cX0_signOfProducts 71 = .ok (.aload_n 0, 1) := by decide +kernel
theorem dX0_signOfProducts_72 : decode cX0_signOfProducts 72 = .ok (.getfield 25, 3) := by decide +kernel
theorem dX0_signOfProducts_75 : decode cX0_signOfProducts 75 = .ok (.invokevirtual 62, 3) := by decide +kernel
theorem dX0_signOfProducts_78 : decode cX0_signOfProducts 78 = .ok (.ireturn, 1) := by decide +kernel
theorem dX1_init_0 : decode cX1_init 0 = .ok (.aload_n 0, 1) := by decide +kernel
theorem dX1_init_1 : decode cX1_init 1 = .ok (.invokespecial 1, 3) := by decide +kernel
theorem dX1_init_4 : decode cX1_init 4 = .ok (.aload_n 0, 1) := by decide +kernel
theorem dX1_init_5 : decode cX1_init 5 = .ok (.sipush 1024, 3) := by decide +kernel
theorem dX1_init_8 : decode cX1_init 8 = .ok (.newarray .long, 2) := by decide +kernel
theorem dX1_init_10 : decode cX1_init 10 = .ok (.putfield 9, 3) := by decide +kernel
theorem dX1_init_13 : decode cX1_init 13 = .ok (.aload_n 0, 1) := by decide +kernel
theorem dX1_init_14 : decode cX1_init 14 = .ok (.iconst 0, 1) := by decide +kernel
theorem dX1_init_15 : decode cX1_init 15 = .ok (.putfield 13, 3) := by decide +kernel
theorem dX1_init_18 : decode cX1_init 18 = .ok (.return_, 1) := by decide +kernel
theorem dX1_becomeOne_0 : decode cX1_becomeOne 0 = .ok (.aload_n 0, 1) := by decide +kernel
theorem dX1_becomeOne_1 : decode cX1_becomeOne 1 = .ok (.getfield 9, 3) := by decide +kernel
theorem dX1_becomeOne_4 : decode cX1_becomeOne 4 = .ok (.iconst 0, 1) := by decide +kernel
theorem dX1_becomeOne_5 : decode cX1_becomeOne 5 = .ok (.lconst 1, 1) := by decide +kernel
theorem dX1_becomeOne_6 : decode cX1_becomeOne 6 = .ok (.lastore, 1) := by decide +kernel
theorem dX1_becomeOne_7 : decode cX1_becomeOne 7 = .ok (.aload_n 0, 1) := by decide +kernel
theorem dX1_becomeOne_8 : decode cX1_becomeOne 8 = .ok (.iconst 1, 1) := by decide +kernel
theorem dX1_becomeOne_9 : decode cX1_becomeOne 9 = .ok (.putfield 13, 3) := by decide +kernel
theorem dX1_becomeOne_12 : decode cX1_becomeOne 12 = .ok (.return_, 1) := by decide +kernel
set_option maxRecDepth 20000 in
theorem ggX1_multiplyByPower_X1_multiplyBy : GoodIn wsX1_multiplyByPower wsX1_multiplyBy := goodIn_r _ [6, 7, 8, 9, 10, 11] (by decide +kernel) (by decide +kernel)
set_option maxRecDepth 20000 in
theorem gX1_multiplyByPower_X1_multiplyBy : GoodIn wsX1_multiplyByPower (wsV RX1 19 RX1 yX1_multiplyBy wsX1_multiplyBy) := goodIn_app (goodIn_of _ (by decide +kernel)) ggX1_multiplyByPower_X1_multiplyBy
theorem dX1_multiplyByPower_0 : decode cX1_multiplyByPower 0 = .ok (.lconst 1, 1) := by decide +kernel
theorem dX1_multiplyByPower_1 : decode cX1_multiplyByPower 1 = .ok (.lstore_n 3, 1) := by decide +kernel
theorem dX1_multiplyByPower_2 : decode cX1_multiplyByPower 2 = .ok (.iload_n 2, 1) := by decide +kernel
theorem dX1_multiplyByPower_3 : decode cX1_multiplyByPower 3 = .ok (.istore 5, 2) := by decide +kernel
theorem dX1_multiplyByPower_5 : decode cX1_multiplyByPower 5 = .ok (.iload 5, 2) := by decide +kernel
theorem dX1_multiplyByPower_7 : decode cX1_multiplyByPower 7 = .ok (.ifCond .le 35, 3) := by decide +kernel
theorem dX1_multiplyByPower_10 : decode cX1_multiplyByPower 10 = .ok (.lload_n 3, 1) := by decide +kernel
theorem dX1_multiplyByPower_11 : decode cX1_multiplyByPower 11 = .ok (.iload_n 1, 1) := by decide +kernel
theorem dX1_multiplyByPower_12 : decode cX1_multiplyByPower 12 = .ok (.i2l, 1) := by decide +kernel
theorem dX1_multiplyByPower_13 : decode cX1_multiplyByPower 13 = .ok (.lmul, 1) := by decide +kernel
theorem dX1_multiplyByPower_14 : decode cX1_multiplyByPower 14 = .ok (.lstore_n 3, 1) := by decide +kernel
theorem dX1_multiplyByPower_15 : decode cX1_multiplyByPower 15 = .ok (.lload_n 3, 1) := by decide +kernel
theorem dX1_multiplyByPower_16 : decode cX1_multiplyByPower 16 = .ok (.ldc2_w 17, 3) := by decide +kernel
theorem dX1_multiplyByPower_19 : decode cX1_multiplyByPower 19 = .ok (.lcmp, 1) := by decide +kernel
theorem dX1_multiplyByPower_20 : decode cX1_multiplyByPower 20 = .ok (.ifCond .ge 9, 3) := by decide +kernel
theorem dX1_multiplyByPower_23 : decode cX1_multiplyByPower 23 = .ok (.iload 5, 2) := by decide +kernel
theorem dX1_multiplyByPower_25 : decode cX1_multiplyByPower 25 = .ok (.iconst 1, 1) := by decide +kernel
theorem dX1_multiplyByPower_26 : decode cX1_multiplyByPower 26 = .ok (.if_icmp .ne 10, 3) := by decide +kernel
theorem dX1_multiplyByPower_29 : decode cX1_multiplyByPower 29 = .ok (.aload_n 0, 1) := by decide +kernel
theorem dX1_multiplyByPower_30 : decode cX1_multiplyByPower 30 = .ok (.lload_n 3, 1) := by decide +kernel
theorem dX1_multiplyByPower_31 : decode cX1_multiplyByPower 31 = .ok (.invokevirtual 19, 3) := by decide +kernel
theorem dX1_multiplyByPower_34 : decode cX1_multiplyByPower 34 = .ok (.lconst 1, 1) := by decide +kernel
theorem dX1_multiplyByPower_35 : decode cX1_multiplyByPower 35 = .ok (.lstore_n 3, 1) := by decide +kernel
theorem dX1_multiplyByPower_36 : decode cX1_multiplyByPower 36 = .ok (.iinc 5 (-1), 3) := by decide +kernel
theorem dX1_multiplyByPower_39 : decode cX1_multiplyByPower 39 = .ok (.goto (-34), 3) := by decide +kernel
theorem dX1_multiplyByPower_42 : decode cX1_multiplyByPower 42 = .ok (.return_, 1) := by decide +kernel
theorem dX1_multiplyBy_0 : decode cX1_multiplyBy 0 = .ok (.lconst 0, 1) := by decide +kernel
theorem dX1_multiplyBy_1 : decode cX1_multiplyBy 1 = .ok (.lstore_n 3, 1) := by decide +kernel
theorem dX1_multiplyBy_2 : decode cX1_multiplyBy 2 = .ok (.iconst 0, 1) := by decide +kernel
theorem dX1_multiplyBy_3 : decode cX1_multiplyBy 3 = .ok (.istore 5, 2) := by decide +kernel
theorem dX1_multiplyBy_5 : decode cX1_multiplyBy 5 = .ok (.iload 5, 2) := by decide +kernel
theorem dX1_multiplyBy_7 : decode cX1_multiplyBy 7 = .ok (.aload_n 0, 1) := by decide +kernel
theorem dX1_multiplyBy_8 : decode cX1_multiplyBy 8 = .ok (.getfield 13, 3) := by decide +kernel
theorem dX1_multiplyBy_11 : decode cX1_multiplyBy 11 = .ok (.if_icmp .ge 41, 3) := by decide +kernel
theorem dX1_multiplyBy_14 : decode cX1_multiplyBy 14 = .ok (.aload_n 0, 1) := by decide +kernel
theorem dX1_multiplyBy_15 : decode cX1_multiplyBy 15 = .ok (.getfield 9, 3) := by decide +kernel
theorem dX1_multiplyBy_18 : decode cX1_multiplyBy 18 = .ok (.iload 5, 2) := by decide +kernel
theorem dX1_multiplyBy_20 : decode cX1_multiplyBy 20 = .ok (.laload, 1) := by decide +kernel
theorem dX1_multiplyBy_21 : decode cX1_multiplyBy 21 = .ok (.lload_n 1, 1) := by decide +kernel
theorem dX1_multiplyBy_22 : decode cX1_multiplyBy 22 = .ok (.lmul, 1) := by decide +kernel
theorem dX1_multiplyBy_23 : decode cX1_multiplyBy 23 = .ok (.lload_n 3, 1) := by decide +kernel
theorem dX1_multiplyBy_24 : decode cX1_multiplyBy 24 = .ok (.ladd, 1) := by decide +kernel
theorem dX1_multiplyBy_25 : decode cX1_multiplyBy 25 = .ok (.lstore 6, 2) := by decide +kernel
theorem dX1_multiplyBy_27 : decode cX1_multiplyBy 27 = .ok (.aload_n 0, 1) := by decide +kernel
theorem dX1_multiplyBy_28 : decode cX1_multiplyBy 28 = .ok (.getfield 9, 3) := by decide +kernel
theorem dX1_multiplyBy_31 : decode cX1_multiplyBy 31 = .ok (.iload 5, 2) := by decide +kernel
theorem dX1_multiplyBy_33 : decode cX1_multiplyBy 33 = .ok (.lload 6, 2) := by decide +kernel
theorem dX1_multiplyBy_35 : decode cX1_multiplyBy 35 = .ok (.ldc2_w 23, 3) := by decide +kernel
theorem dX1_multiplyBy_38 : decode cX1_multiplyBy 38 = .ok (.land, 1) := by decide +kernel
theorem dX1_multiplyBy_39 : decode cX1_multiplyBy 39 = .ok (.lastore, 1) := by decide +kernel
theorem dX1_multiplyBy_40 : decode cX1_multiplyBy 40 = .ok (.lload 6, 2) := by decide +kernel
theorem dX1_multiplyBy_42 : decode cX1_multiplyBy 42 = .ok (.bipush 32, 2) := by decide +kernel
theorem dX1_multiplyBy_44 : decode cX1_multiplyBy 44 = .ok (.lushr, 1) := by decide +kernel
theorem dX1_multiplyBy_45 : decode cX1_multiplyBy 45 = .ok (.lstore_n 3, 1) := by decide +kernel
theorem dX1_multiplyBy_46 : decode cX1_multiplyBy 46 = .ok (.iinc 5 1, 3) := by decide +kernel
theorem dX1_multiplyBy_49 : decode cX1_multiplyBy 49 = .ok (.goto (-44), 3) := by decide +kernel
theorem dX1_multiplyBy_52 : decode cX1_multiplyBy 52 = .ok (.lload_n 3, 1) := by decide +kernel
theorem dX1_multiplyBy_53 : decode cX1_multiplyBy 53 = .ok (.lconst 0, 1) := by decide +kernel
theorem dX1_multiplyBy_54 : decode cX1_multiplyBy 54 = .ok (.lcmp, 1) := by decide +kernel
theorem dX1_multiplyBy_55 : decode cX1_multiplyBy 55 = .ok (.ifCond .le 33, 3) := by decide +kernel
theorem dX1_multiplyBy_58 : decode cX1_multiplyBy 58 = .ok (.aload_n 0, 1) := by decide +kernel
theorem dX1_multiplyBy_59 : decode cX1_multiplyBy 59 = .ok (.getfield 13, 3) := by decide +kernel
theorem dX1_multiplyBy_62 : decode cX1_multiplyBy 62 = .ok (.sipush 1024, 3) := by decide +kernel
theorem dX1_multiplyBy_65 : decode cX1_multiplyBy 65 = .ok (.if_icmp .ge 23, 3) := by decide +kernel
theorem dX1_multiplyBy_68 : decode cX1_multiplyBy 68 = .ok (.aload_n 0, 1) := by decide +kernel
theorem dX1_multiplyBy_69 : decode cX1_multiplyBy 69 = .ok (.getfield 9, 3) := by decide +kernel
theorem dX1_multiplyBy_72 : decode cX1_multiplyBy 72 = .ok (.aload_n 0, 1) := by decide +kernel
theorem dX1_multiplyBy_73 : decode cX1_multiplyBy 73 = .ok (.getfield 13, 3) := by decide +kernel
theorem dX1_multiplyBy_76 : decode cX1_multiplyBy 76 = .ok (.lload_n 3, 1) := by decide +kernel
theorem dX1_multiplyBy_77 : decode cX1_multiplyBy 77 = .ok (.lastore, 1) := by decide +kernel
theorem dX1_multiplyBy_78 : decode cX1_multiplyBy 78 = .ok (.aload_n 0, 1) := by decide +kernel
theorem dX1_multiplyBy_79 : decode cX1_multiplyBy 79 = .ok (.dup, 1) := by decide +kernel
theorem dX1_multiplyBy_80 : decode cX1_multiplyBy 80 = .ok (.getfield 13, 3) := by decide +kernel
theorem dX1_multiplyBy_83 : decode cX1_multiplyBy 83 = .ok (.iconst 1, 1) := by decide +kernel
theorem dX1_multiplyBy_84 : decode cX1_multiplyBy 84 = .ok (.iadd, 1) := by decide +kernel
theorem dX1_multiplyBy_85 : decode cX1_multiplyBy 85 = .ok (.putfield 13, 3) := by decide +kernel
theorem dX1_multiplyBy_88 : decode cX1_multiplyBy 88 = .ok (.return_, 1) := by decide +kernel
theorem dX1_against_0 : decode cX1_against 0 = .ok (.aload_n 0, 1) := by decide +kernel
theorem dX1_against_1 : decode cX1_against 1 = .ok (.getfield 13, 3) := by decide +kernel
theorem dX1_against_4 : decode cX1_against 4 = .ok (.aload_n 1, 1) := by decide +kernel
theorem dX1_against_5 : decode cX1_against 5 = .ok (.getfield 13, 3) := by decide +kernel
theorem dX1_against_8 : decode cX1_against 8 = .ok (.if_icmp .eq 20, 3) := by decide +kernel
theorem dX1_against_11 : decode cX1_against 11 = .ok (.aload_n 0, 1) := by decide +kernel
theorem dX1_against_12 : decode cX1_against 12 = .ok (.getfield 13, 3) := by decide +kernel
theorem dX1_against_15 : decode cX1_against 15 = .ok (.aload_n 1, 1) := by decide +kernel
theorem dX1_against_16 : decode cX1_against 16 = .ok (.getfield 13, 3) := by decide +kernel
theorem dX1_against_19 : decode cX1_against 19 = .ok (.if_icmp .ge 7, 3) := by decide +kernel
theorem dX1_against_22 : decode cX1_against 22 = .ok (.iconst (-1), 1) := by decide +kernel
theorem dX1_against_23 : decode cX1_against 23 = .ok (.goto 4, 3) := by decide +kernel
theorem dX1_against_26 : decode cX1_against 26 = .ok (.iconst 1, 1) := by decide +kernel
theorem dX1_against_27 : decode cX1_against 27 = .ok (.ireturn, 1) := by decide +kernel
theorem dX1_against_28 : decode cX1_against 28 = .ok (.aload_n 0, 1) := by decide +kernel
theorem dX1_against_29 : decode cX1_against 29 = .ok (.getfield 13, 3) := by decide +kernel
theorem dX1_against_32 : decode cX1_against 32 = .ok (.iconst 1, 1) := by decide +kernel
theorem dX1_against_33 : decode cX1_against 33 = .ok (.isub, 1) := by decide +kernel
theorem dX1_against_34 : decode cX1_against 34 = .ok (.istore_n 2, 1) := by decide +kernel
theorem dX1_against_35 : decode cX1_against 35 = .ok (.iload_n 2, 1) := by decide +kernel
theorem dX1_against_36 : decode cX1_against 36 = .ok (.ifCond .lt 47, 3) := by decide +kernel
theorem dX1_against_39 : decode cX1_against 39 = .ok (.aload_n 0, 1) := by decide +kernel
theorem dX1_against_40 : decode cX1_against 40 = .ok (.getfield 9, 3) := by decide +kernel
theorem dX1_against_43 : decode cX1_against 43 = .ok (.iload_n 2, 1) := by decide +kernel
theorem dX1_against_44 : decode cX1_against 44 = .ok (.laload, 1) := by decide +kernel
theorem dX1_against_45 : decode cX1_against 45 = .ok (.aload_n 1, 1) := by decide +kernel
theorem dX1_against_46 : decode cX1_against 46 = .ok (.getfield 9, 3) := by decide +kernel
theorem dX1_against_49 : decode cX1_against 49 = .ok (.iload_n 2, 1) := by decide +kernel
theorem dX1_against_50 : decode cX1_against 50 = .ok (.laload, 1) := by decide +kernel
theorem dX1_against_51 : decode cX1_against 51 = .ok (.lcmp, 1) := by decide +kernel
theorem dX1_against_52 : decode cX1_against 52 = .ok (.ifCond .eq 25, 3) := by decide +kernel
theorem dX1_against_55 : decode cX1_against 55 = .ok (.aload_n 0, 1) := by decide +kernel
theorem dX1_against_56 : decode cX1_against 56 = .ok (.getfield 9, 3) := by decide +kernel
theorem dX1_against_59 : decode cX1_against 59 = .ok (.iload_n 2, 1) := by decide +kernel
theorem dX1_against_60 : decode cX1_against 60 = .ok (.laload, 1) := by decide +kernel
theorem dX1_against_61 : decode cX1_against 61 = .ok (.aload_n 1, 1) := by decide +kernel
theorem dX1_against_62 : decode cX1_against 62 = .ok (.getfield 9, 3) := by decide +kernel
theorem dX1_against_65 : decode cX1_against 65 = .ok (.iload_n 2, 1) := by decide +kernel
theorem dX1_against_66 : decode cX1_against 66 = .ok (.laload, 1) := by decide +kernel
theorem dX1_against_67 : decode cX1_against 67 = .ok (.lcmp, 1) := by decide +kernel
theorem dX1_against_68 : decode cX1_against 68 = .ok (.ifCond .ge 7, 3) := by decide +kernel
theorem dX1_against_71 : decode cX1_against 71 = .ok (.iconst (-1), 1) := by decide +kernel
theorem dX1_against_72 : decode cX1_against 72 = .ok (.goto 4, 3) := by decide +kernel
theorem dX1_against_75 : decode cX1_against 75 = .ok (.iconst 1, 1) := by decide +kernel
theorem dX1_against_76 : decode cX1_against 76 = .ok (.ireturn, 1) := by decide +kernel
theorem dX1_against_77 : decode cX1_against 77 = .ok (.iinc 2 (-1), 3) := by decide +kernel
theorem dX1_against_80 : decode cX1_against 80 = .ok (.goto (-45), 3) := by decide +kernel
theorem dX1_against_83 : decode cX1_against 83 = .ok (.iconst 0, 1) := by decide +kernel
theorem dX1_against_84 : decode cX1_against 84 = .ok (.ireturn, 1) := by decide +kernel
theorem dX2_init_0 : decode cX2_init 0 = .ok (.aload_n 0, 1) := by decide +kernel
theorem dX2_init_1 : decode cX2_init 1 = .ok (.invokespecial 3, 3) := by decide +kernel
theorem dX2_init_4 : decode cX2_init 4 = .ok (.aload_n 0, 1) := by decide +kernel
theorem dX2_init_5 : decode cX2_init 5 = .ok (.iconst 3, 1) := by decide +kernel
theorem dX2_init_6 : decode cX2_init 6 = .ok (.newarray .int, 2) := by decide +kernel
theorem dX2_init_8 : decode cX2_init 8 = .ok (.putfield 9, 3) := by decide +kernel
theorem dX2_init_11 : decode cX2_init 11 = .ok (.aload_n 0, 1) := by decide +kernel
theorem dX2_init_12 : decode cX2_init 12 = .ok (.bipush 27, 2) := by decide +kernel
theorem dX2_init_14 : decode cX2_init 14 = .ok (.newarray .int, 2) := by decide +kernel
theorem dX2_init_16 : decode cX2_init 16 = .ok (.putfield 15, 3) := by decide +kernel
theorem dX2_init_19 : decode cX2_init 19 = .ok (.aload_n 0, 1) := by decide +kernel
theorem dX2_init_20 : decode cX2_init 20 = .ok (.iconst 0, 1) := by decide +kernel
theorem dX2_init_21 : decode cX2_init 21 = .ok (.putfield 18, 3) := by decide +kernel
theorem dX2_init_24 : decode cX2_init 24 = .ok (.return_, 1) := by decide +kernel
theorem dX2_isMade_0 : decode cX2_isMade 0 = .ok (.aload_n 0, 1) := by decide +kernel
theorem dX2_isMade_1 : decode cX2_isMade 1 = .ok (.getfield 18, 3) := by decide +kernel
theorem dX2_isMade_4 : decode cX2_isMade 4 = .ok (.ifCond .le 7, 3) := by decide +kernel
theorem dX2_isMade_7 : decode cX2_isMade 7 = .ok (.iconst 1, 1) := by decide +kernel
theorem dX2_isMade_8 : decode cX2_isMade 8 = .ok (.goto 4, 3) := by decide +kernel
theorem dX2_isMade_11 : decode cX2_isMade 11 = .ok (.iconst 0, 1) := by decide +kernel
theorem dX2_isMade_12 : decode cX2_isMade 12 = .ok (.ireturn, 1) := by decide +kernel
set_option maxRecDepth 20000 in
theorem ggX2_begin_J7_fill_53178 : GoodIn wsX2_begin wsJ7_fill_53178 := goodIn_r _ [7] (by decide +kernel) (by decide +kernel)
set_option maxRecDepth 20000 in
theorem gX2_begin_J7_fill_53178 : GoodIn wsX2_begin (va_wsS RX2 22 yJ7_fill_53178 wsJ7_fill_53178) := goodIn_app (goodIn_of _ (by decide +kernel)) ggX2_begin_J7_fill_53178
theorem dX2_begin_0 : decode cX2_begin 0 = .ok (.aload_n 0, 1) := by decide +kernel
theorem dX2_begin_1 : decode cX2_begin 1 = .ok (.getfield 9, 3) := by decide +kernel
theorem dX2_begin_4 : decode cX2_begin 4 = .ok (.iconst 0, 1) := by decide +kernel
theorem dX2_begin_5 : decode cX2_begin 5 = .ok (.iload_n 1, 1) := by decide +kernel
theorem dX2_begin_6 : decode cX2_begin 6 = .ok (.iastore, 1) := by decide +kernel
theorem dX2_begin_7 : decode cX2_begin 7 = .ok (.aload_n 0, 1) := by decide +kernel
theorem dX2_begin_8 : decode cX2_begin 8 = .ok (.getfield 9, 3) := by decide +kernel
theorem dX2_begin_11 : decode cX2_begin 11 = .ok (.iconst 1, 1) := by decide +kernel
theorem dX2_begin_12 : decode cX2_begin 12 = .ok (.iload_n 2, 1) := by decide +kernel
theorem dX2_begin_13 : decode cX2_begin 13 = .ok (.iastore, 1) := by decide +kernel
theorem dX2_begin_14 : decode cX2_begin 14 = .ok (.aload_n 0, 1) := by decide +kernel
theorem dX2_begin_15 : decode cX2_begin 15 = .ok (.getfield 9, 3) := by decide +kernel
theorem dX2_begin_18 : decode cX2_begin 18 = .ok (.iconst 2, 1) := by decide +kernel
theorem dX2_begin_19 : decode cX2_begin 19 = .ok (.iload_n 3, 1) := by decide +kernel
theorem dX2_begin_20 : decode cX2_begin 20 = .ok (.iastore, 1) := by decide +kernel
theorem dX2_begin_21 : decode cX2_begin 21 = .ok (.aload_n 0, 1) := by decide +kernel
theorem dX2_begin_22 : decode cX2_begin 22 = .ok (.getfield 15, 3) := by decide +kernel
theorem dX2_begin_25 : decode cX2_begin 25 = .ok (.iconst 0, 1) := by decide +kernel
theorem dX2_begin_26 : decode cX2_begin 26 = .ok (.invokestatic 22, 3) := by decide +kernel
theorem dX2_begin_29 : decode cX2_begin 29 = .ok (.aload_n 0, 1) := by decide +kernel
theorem dX2_begin_30 : decode cX2_begin 30 = .ok (.iconst 0, 1) := by decide +kernel
theorem dX2_begin_31 : decode cX2_begin 31 = .ok (.putfield 18, 3) := by decide +kernel
theorem dX2_begin_34 : decode cX2_begin 34 = .ok (.return_, 1) := by decide +kernel
theorem dX2_hasSetting_0 : decode cX2_hasSetting 0 = .ok (.iload_n 1, 1) := by decide +kernel
theorem dX2_hasSetting_1 : decode cX2_hasSetting 1 = .ok (.ifCond .lt 45, 3) := by decide +kernel
theorem dX2_hasSetting_4 : decode cX2_hasSetting 4 = .ok (.iload_n 1, 1) := by decide +kernel
theorem dX2_hasSetting_5 : decode cX2_hasSetting 5 = .ok (.aload_n 0, 1) := by decide +kernel
theorem dX2_hasSetting_6 : decode cX2_hasSetting 6 = .ok (.getfield 9, 3) := by decide +kernel
theorem dX2_hasSetting_9 : decode cX2_hasSetting 9 = .ok (.iconst 0, 1) := by decide +kernel
theorem dX2_hasSetting_10 : decode cX2_hasSetting 10 = .ok (.iaload, 1) := by decide +kernel
theorem dX2_hasSetting_11 : decode cX2_hasSetting 11 = .ok (.if_icmp .ge 35, 3) := by decide +kernel
theorem dX2_hasSetting_14 : decode cX2_hasSetting 14 = .ok (.iload_n 2, 1) := by decide +kernel
theorem dX2_hasSetting_15 : decode cX2_hasSetting 15 = .ok (.ifCond .lt 31, 3) := by decide +kernel
theorem dX2_hasSetting_18 : decode cX2_hasSetting 18 = .ok (.iload_n 2, 1) := by decide +kernel
theorem dX2_hasSetting_19 : decode cX2_hasSetting 19 = .ok (.aload_n 0, 1) := by decide +kernel
theorem dX2_hasSetting_20 : decode cX2_hasSetting 20 = .ok (.getfield 9, 3) := by decide +kernel
theorem dX2_hasSetting_23 : decode cX2_hasSetting 23 = .ok (.iconst 1, 1) := by decide +kernel
theorem dX2_hasSetting_24 : decode cX2_hasSetting 24 = .ok (.iaload, 1) := by decide +kernel
theorem dX2_hasSetting_25 : decode cX2_hasSetting 25 = .ok (.if_icmp .ge 21, 3) := by decide +kernel
theorem dX2_hasSetting_28 : decode cX2_hasSetting 28 = .ok (.iload_n 3, 1) := by decide +kernel
theorem dX2_hasSetting_29 : decode cX2_hasSetting 29 = .ok (.ifCond .lt 17, 3) := by decide +kernel
theorem dX2_hasSetting_32 : decode cX2_hasSetting 32 = .ok (.iload_n 3, 1) := by decide +kernel
theorem dX2_hasSetting_33 : decode cX2_hasSetting 33 = .ok (.aload_n 0, 1) := by decide +kernel
theorem dX2_hasSetting_34 : decode cX2_hasSetting 34 = .ok (.getfield 9, 3) := by decide +kernel
theorem dX2_hasSetting_37 : decode cX2_hasSetting 37 = .ok (.iconst 2, 1) := by decide +kernel
theorem dX2_hasSetting_38 : decode cX2_hasSetting 38 = .ok (.iaload, 1) := by decide +kernel
theorem dX2_hasSetting_39 : decode cX2_hasSetting 39 = .ok (.if_icmp .ge 7, 3) := by decide +kernel
theorem dX2_hasSetting_42 : decode cX2_hasSetting 42 = .ok (.iconst 1, 1) := by decide +kernel
theorem dX2_hasSetting_43 : decode cX2_hasSetting 43 = .ok (.goto 4, 3) := by decide +kernel
theorem dX2_hasSetting_46 : decode cX2_hasSetting 46 = .ok (.iconst 0, 1) := by decide +kernel
theorem dX2_hasSetting_47 : decode cX2_hasSetting 47 = .ok (.ireturn, 1) := by decide +kernel
set_option maxRecDepth 20000 in
theorem ggX2_weightOf_X2_hasSetting : GoodIn wsX2_weightOf wsX2_hasSetting := goodIn_r _ [6, 7, 8, 9, 10] (by decide +kernel) (by decide +kernel)
set_option maxRecDepth 20000 in
theorem gX2_weightOf_X2_hasSetting : GoodIn wsX2_weightOf (wsV RX2 28 RX2 yX2_hasSetting wsX2_hasSetting) := goodIn_app (goodIn_of _ (by decide +kernel)) ggX2_weightOf_X2_hasSetting
theorem dX2_weightOf_0 : decode cX2_weightOf 0 = .ok (.iload_n 1, 1) := by decide +kernel
theorem dX2_weightOf_1 : decode cX2_weightOf 1 = .ok (.ifCond .lt 9, 3) := by decide +kernel
theorem dX2_weightOf_4 : decode cX2_weightOf 4 = .ok (.iload_n 1, 1) := by decide +kernel
theorem dX2_weightOf_5 : decode cX2_weightOf 5 = .ok (.bipush 27, 2) := by decide +kernel
theorem dX2_weightOf_7 : decode cX2_weightOf 7 = .ok (.if_icmp .lt 5, 3) := by decide +kernel
theorem dX2_weightOf_10 : decode cX2_weightOf 10 = .ok (.iconst (-1), 1) := by decide +kernel
theorem dX2_weightOf_11 : decode cX2_weightOf 11 = .ok (.ireturn, 1) := by decide +kernel
theorem dX2_weightOf_12 : decode cX2_weightOf 12 = .ok (.aload_n 0, 1) := by decide +kernel
theorem dX2_weightOf_13 : decode cX2_weightOf 13 = .ok (.iload_n 1, 1) := by decide +kernel
theorem dX2_weightOf_14 : decode cX2_weightOf 14 = .ok (.iconst 3, 1) := by decide +kernel
theorem dX2_weightOf_15 : decode cX2_weightOf 15 = .ok (.irem, 1) := by decide +kernel
theorem dX2_weightOf_16 : decode cX2_weightOf 16 = .ok (.iload_n 1, 1) := by decide +kernel
theorem dX2_weightOf_17 : decode cX2_weightOf 17 = .ok (.iconst 3, 1) := by decide +kernel
theorem dX2_weightOf_18 : decode cX2_weightOf 18 = .ok (.idiv, 1) := by decide +kernel
theorem dX2_weightOf_19 : decode cX2_weightOf 19 = .ok (.iconst 3, 1) := by decide +kernel
theorem dX2_weightOf_20 : decode cX2_weightOf 20 = .ok (.irem, 1) := by decide +kernel
theorem dX2_weightOf_21 : decode cX2_weightOf 21 = .ok (.iload_n 1, 1) := by decide +kernel
theorem dX2_weightOf_22 : decode cX2_weightOf 22 = .ok (.bipush 9, 2) := by decide +kernel
theorem dX2_weightOf_24 : decode cX2_weightOf 24 = .ok (.idiv, 1) := by decide +kernel
theorem dX2_weightOf_25 : decode cX2_weightOf 25 = .ok (.invokevirtual 28, 3) := by decide +kernel
theorem dX2_weightOf_28 : decode cX2_weightOf 28 = .ok (.ifCond .eq 12, 3) := by decide +kernel
theorem dX2_weightOf_31 : decode cX2_weightOf 31 = .ok (.aload_n 0, 1) := by decide +kernel
theorem dX2_weightOf_32 : decode cX2_weightOf 32 = .ok (.getfield 15, 3) := by decide +kernel
theorem dX2_weightOf_35 : decode cX2_weightOf 35 = .ok (.iload_n 1, 1) := by decide +kernel
theorem dX2_weightOf_36 : decode cX2_weightOf 36 = .ok (.iaload, 1) := by decide +kernel
theorem dX2_weightOf_37 : decode cX2_weightOf 37 = .ok (.goto 4, 3) := by decide +kernel
theorem dX2_weightOf_40 : decode cX2_weightOf 40 = .ok (.iconst (-1), 1) := by decide +kernel
theorem dX2_weightOf_41 : decode cX2_weightOf 41 = .ok (.ireturn, 1) := by decide +kernel
theorem dX2_hasStatesOf_0 : decode cX2_hasStatesOf 0 = .ok (.aload_n 0, 1) := by decide +kernel
theorem dX2_hasStatesOf_1 : decode cX2_hasStatesOf 1 = .ok (.getfield 9, 3) := by decide +kernel
theorem dX2_hasStatesOf_4 : decode cX2_hasStatesOf 4 = .ok (.iconst 0, 1) := by decide +kernel
theorem dX2_hasStatesOf_5 : decode cX2_hasStatesOf 5 = .ok (.iaload, 1) := by decide +kernel
theorem dX2_hasStatesOf_6 : decode cX2_hasStatesOf 6 = .ok (.aload_n 1, 1) := by decide +kernel
theorem dX2_hasStatesOf_7 : decode cX2_hasStatesOf 7 = .ok (.getfield 9, 3) := by decide +kernel
theorem dX2_hasStatesOf_10 : decode cX2_hasStatesOf 10 = .ok (.iconst 0, 1) := by decide +kernel
