theorem dX4_told_79 : decode cX4_told 79 = .ok (.istore_n 3, 1) := by decide +kernel
theorem dX4_told_80 : decode cX4_told 80 = .ok (.aload_n 0, 1) := by decide +kernel
theorem dX4_told_81 : decode cX4_told 81 = .ok (.iload_n 1, 1) := by decide +kernel
theorem dX4_told_82 : decode cX4_told 82 = .ok (.iload_n 3, 1) := by decide +kernel
theorem dX4_told_83 : decode cX4_told 83 = .ok (.iconst 3, 1) := by decide +kernel
theorem dX4_told_84 : decode cX4_told 84 = .ok (.irem, 1) := by decide +kernel
theorem dX4_told_85 : decode cX4_told 85 = .ok (.iload_n 3, 1) := by decide +kernel
theorem dX4_told_86 : decode cX4_told 86 = .ok (.iconst 3, 1) := by decide +kernel
theorem dX4_told_87 : decode cX4_told 87 = .ok (.idiv, 1) := by decide +kernel
theorem dX4_told_88 : decode cX4_told 88 = .ok (.iconst 3, 1) := by decide +kernel
theorem dX4_told_89 : decode cX4_told 89 = .ok (.irem, 1) := by decide +kernel
theorem dX4_told_90 : decode cX4_told 90 = .ok (.iload_n 3, 1) := by decide +kernel
theorem dX4_told_91 : decode cX4_told 91 = .ok (.bipush 9, 2) := by decide +kernel
theorem dX4_told_93 : decode cX4_told 93 = .ok (.idiv, 1) := by decide +kernel
theorem dX4_told_94 : decode cX4_told 94 = .ok (.invokevirtual 58, 3) := by decide +kernel
theorem dX4_told_97 : decode cX4_told 97 = .ok (.ifCond .eq 17, 3) := by decide +kernel
theorem dX4_told_100 : decode cX4_told 100 = .ok (.aload_n 0, 1) := by decide +kernel
theorem dX4_told_101 : decode cX4_told 101 = .ok (.getfield 13, 3) := by decide +kernel
theorem dX4_told_104 : decode cX4_told 104 = .ok (.bipush 27, 2) := by decide +kernel
theorem dX4_told_106 : decode cX4_told 106 = .ok (.iload_n 1, 1) := by decide +kernel
theorem dX4_told_107 : decode cX4_told 107 = .ok (.imul, 1) := by decide +kernel
theorem dX4_told_108 : decode cX4_told 108 = .ok (.iload_n 3, 1) := by decide +kernel
theorem dX4_told_109 : decode cX4_told 109 = .ok (.iadd, 1) := by decide +kernel
theorem dX4_told_110 : decode cX4_told 110 = .ok (.iaload, 1) := by decide +kernel
theorem dX4_told_111 : decode cX4_told 111 = .ok (.goto 4, 3) := by decide +kernel
theorem dX4_told_114 : decode cX4_told 114 = .ok (.iconst (-1), 1) := by decide +kernel
theorem dX4_told_115 : decode cX4_told 115 = .ok (.ireturn, 1) := by decide +kernel
set_option maxRecDepth 20000 in
theorem ggX4_mix_X4_isMade : GoodIn wsX4_mix wsX4_isMade := goodIn_r _ [8, 1, 9, 10, 7, 11, 12, 13, 14, 15, 16, 17, 18, 19, 20, 21, 22, 23, 24, 25, 26, 27, 28, 29] (by decide +kernel) (by decide +kernel)
set_option maxRecDepth 20000 in
theorem gX4_mix_X4_isMade : GoodIn wsX4_mix (wsV RX4 62 RX4 yX4_isMade wsX4_isMade) := goodIn_app (goodIn_of _ (by decide +kernel)) ggX4_mix_X4_isMade
set_option maxRecDepth 20000 in
theorem ggX4_mix_X4_isPlace : GoodIn wsX4_mix wsX4_isPlace := goodIn_r _ [11, 12, 13, 7, 14] (by decide +kernel) (by decide +kernel)
set_option maxRecDepth 20000 in
theorem gX4_mix_X4_isPlace : GoodIn wsX4_mix (va_wsS RX4 54 yX4_isPlace wsX4_isPlace) := goodIn_app (goodIn_of _ (by decide +kernel)) ggX4_mix_X4_isPlace
theorem dX4_mix_0 : decode cX4_mix 0 = .ok (.aload_n 0, 1) := by decide +kernel
theorem dX4_mix_1 : decode cX4_mix 1 = .ok (.iload_n 1, 1) := by decide +kernel
theorem dX4_mix_2 : decode cX4_mix 2 = .ok (.invokevirtual 62, 3) := by decide +kernel
theorem dX4_mix_5 : decode cX4_mix 5 = .ok (.ifCond .eq 36, 3) := by decide +kernel
theorem dX4_mix_8 : decode cX4_mix 8 = .ok (.aload_n 0, 1) := by decide +kernel
theorem dX4_mix_9 : decode cX4_mix 9 = .ok (.iload_n 2, 1) := by decide +kernel
theorem dX4_mix_10 : decode cX4_mix 10 = .ok (.invokevirtual 62, 3) := by decide +kernel
theorem dX4_mix_13 : decode cX4_mix 13 = .ok (.ifCond .eq 28, 3) := by decide +kernel
theorem dX4_mix_16 : decode cX4_mix 16 = .ok (.iload_n 3, 1) := by decide +kernel
theorem dX4_mix_17 : decode cX4_mix 17 = .ok (.invokestatic 54, 3) := by decide +kernel
theorem dX4_mix_20 : decode cX4_mix 20 = .ok (.ifCond .eq 21, 3) := by decide +kernel
theorem dX4_mix_23 : decode cX4_mix 23 = .ok (.aload_n 0, 1) := by decide +kernel
theorem dX4_mix_24 : decode cX4_mix 24 = .ok (.getfield 16, 3) := by decide +kernel
theorem dX4_mix_27 : decode cX4_mix 27 = .ok (.iload_n 1, 1) := by decide +kernel
theorem dX4_mix_28 : decode cX4_mix 28 = .ok (.iaload, 1) := by decide +kernel
theorem dX4_mix_29 : decode cX4_mix 29 = .ok (.aload_n 0, 1) := by decide +kernel
theorem dX4_mix_30 : decode cX4_mix 30 = .ok (.getfield 16, 3) := by decide +kernel
theorem dX4_mix_33 : decode cX4_mix 33 = .ok (.iload_n 2, 1) := by decide +kernel
theorem dX4_mix_34 : decode cX4_mix 34 = .ok (.iaload, 1) := by decide +kernel
theorem dX4_mix_35 : decode cX4_mix 35 = .ok (.iadd, 1) := by decide +kernel
theorem dX4_mix_36 : decode cX4_mix 36 = .ok (.bipush 16, 2) := by decide +kernel
theorem dX4_mix_38 : decode cX4_mix 38 = .ok (.if_icmp .le 5, 3) := by decide +kernel
theorem dX4_mix_41 : decode cX4_mix 41 = .ok (.iconst 0, 1) := by decide +kernel
theorem dX4_mix_42 : decode cX4_mix 42 = .ok (.ireturn, 1) := by decide +kernel
theorem dX4_mix_43 : decode cX4_mix 43 = .ok (.iconst 0, 1) := by decide +kernel
theorem dX4_mix_44 : decode cX4_mix 44 = .ok (.istore 4, 2) := by decide +kernel
theorem dX4_mix_46 : decode cX4_mix 46 = .ok (.iload 4, 2) := by decide +kernel
theorem dX4_mix_48 : decode cX4_mix 48 = .ok (.iconst 3, 1) := by decide +kernel
theorem dX4_mix_49 : decode cX4_mix 49 = .ok (.if_icmp .ge 36, 3) := by decide +kernel
theorem dX4_mix_52 : decode cX4_mix 52 = .ok (.aload_n 0, 1) := by decide +kernel
theorem dX4_mix_53 : decode cX4_mix 53 = .ok (.getfield 7, 3) := by decide +kernel
theorem dX4_mix_56 : decode cX4_mix 56 = .ok (.iconst 3, 1) := by decide +kernel
theorem dX4_mix_57 : decode cX4_mix 57 = .ok (.iload_n 1, 1) := by decide +kernel
theorem dX4_mix_58 : decode cX4_mix 58 = .ok (.imul, 1) := by decide +kernel
theorem dX4_mix_59 : decode cX4_mix 59 = .ok (.iload 4, 2) := by decide +kernel
theorem dX4_mix_61 : decode cX4_mix 61 = .ok (.iadd, 1) := by decide +kernel
theorem dX4_mix_62 : decode cX4_mix 62 = .ok (.iaload, 1) := by decide +kernel
theorem dX4_mix_63 : decode cX4_mix 63 = .ok (.aload_n 0, 1) := by decide +kernel
theorem dX4_mix_64 : decode cX4_mix 64 = .ok (.getfield 7, 3) := by decide +kernel
theorem dX4_mix_67 : decode cX4_mix 67 = .ok (.iconst 3, 1) := by decide +kernel
theorem dX4_mix_68 : decode cX4_mix 68 = .ok (.iload_n 2, 1) := by decide +kernel
theorem dX4_mix_69 : decode cX4_mix 69 = .ok (.imul, 1) := by decide +kernel
theorem dX4_mix_70 : decode cX4_mix 70 = .ok (.iload 4, 2) := by decide +kernel
theorem dX4_mix_72 : decode cX4_mix 72 = .ok (.iadd, 1) := by decide +kernel
theorem dX4_mix_73 : decode cX4_mix 73 = .ok (.iaload, 1) := by decide +kernel
theorem dX4_mix_74 : decode cX4_mix 74 = .ok (.if_icmp .eq 5, 3) := by decide +kernel
theorem dX4_mix_77 : decode cX4_mix 77 = .ok (.iconst 0, 1) := by decide +kernel
theorem dX4_mix_78 : decode cX4_mix 78 = .ok (.ireturn, 1) := by decide +kernel
theorem dX4_mix_79 : decode cX4_mix 79 = .ok (.iinc 4 1, 3) := by decide +kernel
theorem dX4_mix_82 : decode cX4_mix 82 = .ok (.goto (-36), 3) := by decide +kernel
theorem dX4_mix_85 : decode cX4_mix 85 = .ok (.aload_n 0, 1) := by decide +kernel
theorem dX4_mix_86 : decode cX4_mix 86 = .ok (.getfield 16, 3) := by decide +kernel
theorem dX4_mix_89 : decode cX4_mix 89 = .ok (.iload_n 1, 1) := by decide +kernel
theorem dX4_mix_90 : decode cX4_mix 90 = .ok (.iaload, 1) := by decide +kernel
theorem dX4_mix_91 : decode cX4_mix 91 = .ok (.aload_n 0, 1) := by decide +kernel
theorem dX4_mix_92 : decode cX4_mix 92 = .ok (.getfield 16, 3) := by decide +kernel
theorem dX4_mix_95 : decode cX4_mix 95 = .ok (.iload_n 2, 1) := by decide +kernel
theorem dX4_mix_96 : decode cX4_mix 96 = .ok (.iaload, 1) := by decide +kernel
theorem dX4_mix_97 : decode cX4_mix 97 = .ok (.iadd, 1) := by decide +kernel
theorem dX4_mix_98 : decode cX4_mix 98 = .ok (.istore 4, 2) := by decide +kernel
theorem dX4_mix_100 : decode cX4_mix 100 = .ok (.iconst 0, 1) := by decide +kernel
theorem dX4_mix_101 : decode cX4_mix 101 = .ok (.istore 5, 2) := by decide +kernel
theorem dX4_mix_103 : decode cX4_mix 103 = .ok (.iload 5, 2) := by decide +kernel
theorem dX4_mix_105 : decode cX4_mix 105 = .ok (.bipush 27, 2) := by decide +kernel
theorem dX4_mix_107 : decode cX4_mix 107 = .ok (.if_icmp .ge 46, 3) := by decide +kernel
theorem dX4_mix_110 : decode cX4_mix 110 = .ok (.aload_n 0, 1) := by decide +kernel
theorem dX4_mix_111 : decode cX4_mix 111 = .ok (.getfield 13, 3) := by decide +kernel
theorem dX4_mix_114 : decode cX4_mix 114 = .ok (.bipush 27, 2) := by decide +kernel
theorem dX4_mix_116 : decode cX4_mix 116 = .ok (.iload_n 3, 1) := by decide +kernel
theorem dX4_mix_117 : decode cX4_mix 117 = .ok (.imul, 1) := by decide +kernel
theorem dX4_mix_118 : decode cX4_mix 118 = .ok (.iload 5, 2) := by decide +kernel
theorem dX4_mix_120 : decode cX4_mix 120 = .ok (.iadd, 1) := by decide +kernel
theorem dX4_mix_121 : decode cX4_mix 121 = .ok (.aload_n 0, 1) := by decide +kernel
theorem dX4_mix_122 : decode cX4_mix 122 = .ok (.getfield 13, 3) := by decide +kernel
theorem dX4_mix_125 : decode cX4_mix 125 = .ok (.bipush 27, 2) := by decide +kernel
theorem dX4_mix_127 : decode cX4_mix 127 = .ok (.iload_n 1, 1) := by decide +kernel
theorem dX4_mix_128 : decode cX4_mix 128 = .ok (.imul, 1) := by decide +kernel
theorem dX4_mix_129 : decode cX4_mix 129 = .ok (.iload 5, 2) := by decide +kernel
theorem dX4_mix_131 : decode cX4_mix 131 = .ok (.iadd, 1) := by decide +kernel
theorem dX4_mix_132 : decode cX4_mix 132 = .ok (.iaload, 1) := by decide +kernel
theorem dX4_mix_133 : decode cX4_mix 133 = .ok (.aload_n 0, 1) := by decide +kernel
theorem dX4_mix_134 : decode cX4_mix 134 = .ok (.getfield 13, 3) := by decide +kernel
theorem dX4_mix_137 : decode cX4_mix 137 = .ok (.bipush 27, 2) := by decide +kernel
theorem dX4_mix_139 : decode cX4_mix 139 = .ok (.iload_n 2, 1) := by decide +kernel
theorem dX4_mix_140 : decode cX4_mix 140 = .ok (.imul, 1) := by decide +kernel
theorem dX4_mix_141 : decode cX4_mix 141 = .ok (.iload 5, 2) := by decide +kernel
theorem dX4_mix_143 : decode cX4_mix 143 = .ok (.iadd, 1) := by decide +kernel
theorem dX4_mix_144 : decode cX4_mix 144 = .ok (.iaload, 1) := by decide +kernel
theorem dX4_mix_145 : decode cX4_mix 145 = .ok (.iadd, 1) := by decide +kernel
theorem dX4_mix_146 : decode cX4_mix 146 = .ok (.iastore, 1) := by decide +kernel
theorem dX4_mix_147 : decode cX4_mix 147 = .ok (.iinc 5 1, 3) := by decide +kernel
theorem dX4_mix_150 : decode cX4_mix 150 = .ok (.goto (-47), 3) := by decide +kernel
theorem dX4_mix_153 : decode cX4_mix 153 = .ok (.iconst 0, 1) := by decide +kernel
theorem dX4_mix_154 : decode cX4_mix 154 = .ok (.istore 5, 2) := by decide +kernel
theorem dX4_mix_156 : decode cX4_mix 156 = .ok (.iload 5, 2) := by decide +kernel
theorem dX4_mix_158 : decode cX4_mix 158 = .ok (.iconst 3, 1) := by decide +kernel
theorem dX4_mix_159 : decode cX4_mix 159 = .ok (.if_icmp .ge 31, 3) := by decide +kernel
theorem dX4_mix_162 : decode cX4_mix 162 = .ok (.aload_n 0, 1) := by decide +kernel
theorem dX4_mix_163 : decode cX4_mix 163 = .ok (.getfield 7, 3) := by decide +kernel
theorem dX4_mix_166 : decode cX4_mix 166 = .ok (.iconst 3, 1) := by decide +kernel
theorem dX4_mix_167 : decode cX4_mix 167 = .ok (.iload_n 3, 1) := by decide +kernel
theorem dX4_mix_168 : decode cX4_mix 168 = .ok (.imul, 1) := by decide +kernel
theorem dX4_mix_169 : decode cX4_mix 169 = .ok (.iload 5, 2) := by decide +kernel
theorem dX4_mix_171 : decode cX4_mix 171 = .ok (.iadd, 1) := by decide +kernel
theorem dX4_mix_172 : decode cX4_mix 172 = .ok (.aload_n 0, 1) := by decide +kernel
theorem dX4_mix_173 : decode cX4_mix 173 = .ok (.getfield 7, 3) := by decide +kernel
theorem dX4_mix_176 : decode cX4_mix 176 = .ok (.iconst 3, 1) := by decide +kernel
theorem dX4_mix_177 : decode cX4_mix 177 = .ok (.iload_n 1, 1) := by decide +kernel
theorem dX4_mix_178 : decode cX4_mix 178 = .ok (.imul, 1) := by decide +kernel
theorem dX4_mix_179 : decode cX4_mix 179 = .ok (.iload 5, 2) := by decide +kernel
theorem dX4_mix_181 : decode cX4_mix 181 = .ok (.iadd, 1) := by decide +kernel
theorem dX4_mix_182 : decode cX4_mix 182 = .ok (.iaload, 1) := by decide +kernel
theorem dX4_mix_183 : decode cX4_mix 183 = .ok (.iastore, 1) := by decide +kernel
theorem dX4_mix_184 : decode cX4_mix 184 = .ok (.iinc 5 1, 3) := by decide +kernel
theorem dX4_mix_187 : decode cX4_mix 187 = .ok (.goto (-31), 3) := by decide +kernel
theorem dX4_mix_190 : decode cX4_mix 190 = .ok (.aload_n 0, 1) := by decide +kernel
theorem dX4_mix_191 : decode cX4_mix 191 = .ok (.getfield 16, 3) := by decide +kernel
theorem dX4_mix_194 : decode cX4_mix 194 = .ok (.iload_n 3, 1) := by decide +kernel
theorem dX4_mix_195 : decode cX4_mix 195 = .ok (.iload 4, 2) := by decide +kernel
theorem dX4_mix_197 : decode cX4_mix 197 = .ok (.iastore, 1) := by decide +kernel
theorem dX4_mix_198 : decode cX4_mix 198 = .ok (.iconst 1, 1) := by decide +kernel
theorem dX4_mix_199 : decode cX4_mix 199 = .ok (.ireturn, 1) := by decide +kernel
set_option maxRecDepth 20000 in
theorem ggX4_tell_X4_isMade : GoodIn wsX4_tell wsX4_isMade := goodIn_r _ [7, 8, 9, 10, 6, 11, 12, 13, 14, 15, 16, 17, 18, 19, 20, 21, 22, 23, 24, 25, 26, 27, 28, 29] (by decide +kernel) (by decide +kernel)
set_option maxRecDepth 20000 in
theorem gX4_tell_X4_isMade : GoodIn wsX4_tell (wsV RX4 62 RX4 yX4_isMade wsX4_isMade) := goodIn_app (goodIn_of _ (by decide +kernel)) ggX4_tell_X4_isMade
set_option maxRecDepth 20000 in
theorem ggX4_tell_X4_isIn : GoodIn wsX4_tell wsX4_isIn := goodIn_r _ [14] (by decide +kernel) (by decide +kernel)
set_option maxRecDepth 20000 in
theorem gX4_tell_X4_isIn : GoodIn wsX4_tell (va_wsS RX4 50 yX4_isIn wsX4_isIn) := goodIn_app (goodIn_of _ (by decide +kernel)) ggX4_tell_X4_isIn
theorem dX4_tell_0 : decode cX4_tell 0 = .ok (.aload_n 0, 1) := by decide +kernel
theorem dX4_tell_1 : decode cX4_tell 1 = .ok (.iload_n 1, 1) := by decide +kernel
theorem dX4_tell_2 : decode cX4_tell 2 = .ok (.invokevirtual 62, 3) := by decide +kernel
theorem dX4_tell_5 : decode cX4_tell 5 = .ok (.ifCond .eq 14, 3) := by decide +kernel
theorem dX4_tell_8 : decode cX4_tell 8 = .ok (.iload_n 2, 1) := by decide +kernel
theorem dX4_tell_9 : decode cX4_tell 9 = .ok (.iconst 0, 1) := by decide +kernel
theorem dX4_tell_10 : decode cX4_tell 10 = .ok (.sipush 19682, 3) := by decide +kernel
theorem dX4_tell_13 : decode cX4_tell 13 = .ok (.invokestatic 50, 3) := by decide +kernel
theorem dX4_tell_16 : decode cX4_tell 16 = .ok (.ifCond .ne 5, 3) := by decide +kernel
theorem dX4_tell_19 : decode cX4_tell 19 = .ok (.iconst 0, 1) := by decide +kernel
theorem dX4_tell_20 : decode cX4_tell 20 = .ok (.ireturn, 1) := by decide +kernel
theorem dX4_tell_21 : decode cX4_tell 21 = .ok (.iload_n 2, 1) := by decide +kernel
theorem dX4_tell_22 : decode cX4_tell 22 = .ok (.istore_n 3, 1) := by decide +kernel
theorem dX4_tell_23 : decode cX4_tell 23 = .ok (.iconst 0, 1) := by decide +kernel
theorem dX4_tell_24 : decode cX4_tell 24 = .ok (.istore 4, 2) := by decide +kernel
theorem dX4_tell_26 : decode cX4_tell 26 = .ok (.iload 4, 2) := by decide +kernel
theorem dX4_tell_28 : decode cX4_tell 28 = .ok (.bipush 9, 2) := by decide +kernel
theorem dX4_tell_30 : decode cX4_tell 30 = .ok (.if_icmp .ge 106, 3) := by decide +kernel
theorem dX4_tell_33 : decode cX4_tell 33 = .ok (.aload_n 0, 1) := by decide +kernel
theorem dX4_tell_34 : decode cX4_tell 34 = .ok (.getfield 13, 3) := by decide +kernel
theorem dX4_tell_37 : decode cX4_tell 37 = .ok (.bipush 27, 2) := by decide +kernel
theorem dX4_tell_39 : decode cX4_tell 39 = .ok (.iload_n 1, 1) := by decide +kernel
theorem dX4_tell_40 : decode cX4_tell 40 = .ok (.imul, 1) := by decide +kernel
theorem dX4_tell_41 : decode cX4_tell 41 = .ok (.iload 4, 2) := by decide +kernel
theorem dX4_tell_43 : decode cX4_tell 43 = .ok (.iadd, 1) := by decide +kernel
theorem dX4_tell_44 : decode cX4_tell 44 = .ok (.iaload, 1) := by decide +kernel
theorem dX4_tell_45 : decode cX4_tell 45 = .ok (.aload_n 0, 1) := by decide +kernel
theorem dX4_tell_46 : decode cX4_tell 46 = .ok (.getfield 13, 3) := by decide +kernel
theorem dX4_tell_49 : decode cX4_tell 49 = .ok (.bipush 27, 2) := by decide +kernel
theorem dX4_tell_51 : decode cX4_tell 51 = .ok (.iload_n 1, 1) := by decide +kernel
theorem dX4_tell_52 : decode cX4_tell 52 = .ok (.imul, 1) := by decide +kernel
theorem dX4_tell_53 : decode cX4_tell 53 = .ok (.bipush 9, 2) := by decide +kernel
theorem dX4_tell_55 : decode cX4_tell 55 = .ok (.iadd, 1) := by decide +kernel
theorem dX4_tell_56 : decode cX4_tell 56 = .ok (.iload 4, 2) := by decide +kernel
theorem dX4_tell_58 : decode cX4_tell 58 = .ok (.iadd, 1) := by decide +kernel
theorem dX4_tell_59 : decode cX4_tell 59 = .ok (.iaload, 1) := by decide +kernel
theorem dX4_tell_60 : decode cX4_tell 60 = .ok (.iadd, 1) := by decide +kernel
theorem dX4_tell_61 : decode cX4_tell 61 = .ok (.aload_n 0, 1) := by decide +kernel
theorem dX4_tell_62 : decode cX4_tell 62 = .ok (.getfield 13, 3) := by decide +kernel
theorem dX4_tell_65 : decode cX4_tell 65 = .ok (.bipush 27, 2) := by decide +kernel
theorem dX4_tell_67 : decode cX4_tell 67 = .ok (.iload_n 1, 1) := by decide +kernel
theorem dX4_tell_68 : decode cX4_tell 68 = .ok (.imul, 1) := by decide +kernel
theorem dX4_tell_69 : decode cX4_tell 69 = .ok (.bipush 18, 2) := by decide +kernel
theorem dX4_tell_71 : decode cX4_tell 71 = .ok (.iadd, 1) := by decide +kernel
theorem dX4_tell_72 : decode cX4_tell 72 = .ok (.iload 4, 2) := by decide +kernel
theorem dX4_tell_74 : decode cX4_tell 74 = .ok (.iadd, 1) := by decide +kernel
theorem dX4_tell_75 : decode cX4_tell 75 = .ok (.iaload, 1) := by decide +kernel
theorem dX4_tell_76 : decode cX4_tell 76 = .ok (.iadd, 1) := by decide +kernel
theorem dX4_tell_77 : decode cX4_tell 77 = .ok (.istore 5, 2) := by decide +kernel
theorem dX4_tell_79 : decode cX4_tell 79 = .ok (.iconst 0, 1) := by decide +kernel
theorem dX4_tell_80 : decode cX4_tell 80 = .ok (.istore 6, 2) := by decide +kernel
theorem dX4_tell_82 : decode cX4_tell 82 = .ok (.iload 6, 2) := by decide +kernel
theorem dX4_tell_84 : decode cX4_tell 84 = .ok (.iconst 3, 1) := by decide +kernel
theorem dX4_tell_85 : decode cX4_tell 85 = .ok (.if_icmp .ge 41, 3) := by decide +kernel
theorem dX4_tell_88 : decode cX4_tell 88 = .ok (.aload_n 0, 1) := by decide +kernel
theorem dX4_tell_89 : decode cX4_tell 89 = .ok (.getfield 13, 3) := by decide +kernel
theorem dX4_tell_92 : decode cX4_tell 92 = .ok (.bipush 27, 2) := by decide +kernel
theorem dX4_tell_94 : decode cX4_tell 94 = .ok (.iload_n 1, 1) := by decide +kernel
theorem dX4_tell_95 : decode cX4_tell 95 = .ok (.imul, 1) := by decide +kernel
theorem dX4_tell_96 : decode cX4_tell 96 = .ok (.bipush 9, 2) := by decide +kernel
theorem dX4_tell_98 : decode cX4_tell 98 = .ok (.iload 6, 2) := by decide +kernel
theorem dX4_tell_100 : decode cX4_tell 100 = .ok (.imul, 1) := by decide +kernel
theorem dX4_tell_101 : decode cX4_tell 101 = .ok (.iadd, 1) := by decide +kernel
theorem dX4_tell_102 : decode cX4_tell 102 = .ok (.iload 4, 2) := by decide +kernel
theorem dX4_tell_104 : decode cX4_tell 104 = .ok (.iadd, 1) := by decide +kernel
theorem dX4_tell_105 : decode cX4_tell 105 = .ok (.iload 6, 2) := by decide +kernel
theorem dX4_tell_107 : decode cX4_tell 107 = .ok (.iload_n 3, 1) := by decide +kernel
theorem dX4_tell_108 : decode cX4_tell 108 = .ok (.iconst 3, 1) := by decide +kernel
theorem dX4_tell_109 : decode cX4_tell 109 = .ok (.irem, 1) := by decide +kernel
theorem dX4_tell_110 : decode cX4_tell 110 = .ok (.if_icmp .ne 8, 3) := by decide +kernel
theorem dX4_tell_113 : decode cX4_tell 113 = .ok (.iload 5, 2) := by decide +kernel
theorem dX4_tell_115 : decode cX4_tell 115 = .ok (.goto 4, 3) := by decide +kernel
theorem dX4_tell_118 : decode cX4_tell 118 = .ok (.iconst 0, 1) := by decide +kernel
theorem dX4_tell_119 : decode cX4_tell 119 = .ok (.iastore, 1) := by decide +kernel
theorem dX4_tell_120 : decode cX4_tell 120 = .ok (.iinc 6 1, 3) := by decide +kernel
theorem dX4_tell_123 : decode cX4_tell 123 = .ok (.goto (-41), 3) := by decide +kernel
theorem dX4_tell_126 : decode cX4_tell 126 = .ok (.iload_n 3, 1) := by decide +kernel
theorem dX4_tell_127 : decode cX4_tell 127 = .ok (.iconst 3, 1) := by decide +kernel
theorem dX4_tell_128 : decode cX4_tell 128 = .ok (.idiv, 1) := by decide +kernel
theorem dX4_tell_129 : decode cX4_tell 129 = .ok (.istore_n 3, 1) := by decide +kernel
theorem dX4_tell_130 : decode cX4_tell 130 = .ok (.iinc 4 1, 3) := by decide +kernel
theorem dX4_tell_133 : decode cX4_tell 133 = .ok (.goto (-107), 3) := by decide +kernel
theorem dX4_tell_136 : decode cX4_tell 136 = .ok (.aload_n 0, 1) := by decide +kernel
theorem dX4_tell_137 : decode cX4_tell 137 = .ok (.getfield 7, 3) := by decide +kernel
theorem dX4_tell_140 : decode cX4_tell 140 = .ok (.iconst 3, 1) := by decide +kernel
theorem dX4_tell_141 : decode cX4_tell 141 = .ok (.iload_n 1, 1) := by decide +kernel
theorem dX4_tell_142 : decode cX4_tell 142 = .ok (.imul, 1) := by decide +kernel
theorem dX4_tell_143 : decode cX4_tell 143 = .ok (.iconst 2, 1) := by decide +kernel
theorem dX4_tell_144 : decode cX4_tell 144 = .ok (.iadd, 1) := by decide +kernel
theorem dX4_tell_145 : decode cX4_tell 145 = .ok (.iconst 3, 1) := by decide +kernel
theorem dX4_tell_146 : decode cX4_tell 146 = .ok (.iastore, 1) := by decide +kernel
theorem dX4_tell_147 : decode cX4_tell 147 = .ok (.iconst 1, 1) := by decide +kernel
theorem dX4_tell_148 : decode cX4_tell 148 = .ok (.ireturn, 1) := by decide +kernel
set_option maxRecDepth 20000 in
theorem ggX4_law_X4_isLaw : GoodIn wsX4_law wsX4_isLaw := goodIn_r _ [5, 6, 7, 4, 8] (by decide +kernel) (by decide +kernel)
set_option maxRecDepth 20000 in
theorem gX4_law_X4_isLaw : GoodIn wsX4_law (va_wsS RX4 65 yX4_isLaw wsX4_isLaw) := goodIn_app (goodIn_of _ (by decide +kernel)) ggX4_law_X4_isLaw
set_option maxRecDepth 20000 in
theorem ggX4_law_X4_isIn : GoodIn wsX4_law wsX4_isIn := goodIn_r _ [8] (by decide +kernel) (by decide +kernel)
set_option maxRecDepth 20000 in
theorem gX4_law_X4_isIn : GoodIn wsX4_law (va_wsS RX4 50 yX4_isIn wsX4_isIn) := goodIn_app (goodIn_of _ (by decide +kernel)) ggX4_law_X4_isIn
theorem dX4_law_0 : decode cX4_law 0 = .ok (.iload_n 1, 1) := by decide +kernel
theorem dX4_law_1 : decode cX4_law 1 = .ok (.invokestatic 65, 3) := by decide +kernel
theorem dX4_law_4 : decode cX4_law 4 = .ok (.ifCond .eq 23, 3) := by decide +kernel
theorem dX4_law_7 : decode cX4_law 7 = .ok (.iload_n 2, 1) := by decide +kernel
theorem dX4_law_8 : decode cX4_law 8 = .ok (.iconst 1, 1) := by decide +kernel
theorem dX4_law_9 : decode cX4_law 9 = .ok (.bipush 7, 2) := by decide +kernel
theorem dX4_law_11 : decode cX4_law 11 = .ok (.invokestatic 50, 3) := by decide +kernel
theorem dX4_law_14 : decode cX4_law 14 = .ok (.ifCond .eq 13, 3) := by decide +kernel
theorem dX4_law_17 : decode cX4_law 17 = .ok (.iload_n 3, 1) := by decide +kernel
theorem dX4_law_18 : decode cX4_law 18 = .ok (.bipush (-2), 2) := by decide +kernel
theorem dX4_law_20 : decode cX4_law 20 = .ok (.iconst 2, 1) := by decide +kernel
theorem dX4_law_21 : decode cX4_law 21 = .ok (.invokestatic 50, 3) := by decide +kernel
theorem dX4_law_24 : decode cX4_law 24 = .ok (.ifCond .ne 5, 3) := by decide +kernel
theorem dX4_law_27 : decode cX4_law 27 = .ok (.iconst 0, 1) := by decide +kernel
theorem dX4_law_28 : decode cX4_law 28 = .ok (.ireturn, 1) := by decide +kernel
theorem dX4_law_29 : decode cX4_law 29 = .ok (.aload_n 0, 1) := by decide +kernel
theorem dX4_law_30 : decode cX4_law 30 = .ok (.getfield 19, 3) := by decide +kernel
theorem dX4_law_33 : decode cX4_law 33 = .ok (.bipush 8, 2) := by decide +kernel
theorem dX4_law_35 : decode cX4_law 35 = .ok (.iload_n 1, 1) := by decide +kernel
theorem dX4_law_36 : decode cX4_law 36 = .ok (.imul, 1) := by decide +kernel
theorem dX4_law_37 : decode cX4_law 37 = .ok (.iload_n 2, 1) := by decide +kernel
theorem dX4_law_38 : decode cX4_law 38 = .ok (.iadd, 1) := by decide +kernel
theorem dX4_law_39 : decode cX4_law 39 = .ok (.iload_n 3, 1) := by decide +kernel
theorem dX4_law_40 : decode cX4_law 40 = .ok (.iastore, 1) := by decide +kernel
theorem dX4_law_41 : decode cX4_law 41 = .ok (.iconst 1, 1) := by decide +kernel
theorem dX4_law_42 : decode cX4_law 42 = .ok (.ireturn, 1) := by decide +kernel
theorem dX4_bit_0 : decode cX4_bit 0 = .ok (.iload_n 0, 1) := by decide +kernel
theorem dX4_bit_1 : decode cX4_bit 1 = .ok (.iload_n 1, 1) := by decide +kernel
theorem dX4_bit_2 : decode cX4_bit 2 = .ok (.if_icmp .ne 7, 3) := by decide +kernel
theorem dX4_bit_5 : decode cX4_bit 5 = .ok (.iconst 1, 1) := by decide +kernel
theorem dX4_bit_6 : decode cX4_bit 6 = .ok (.goto 4, 3) := by decide +kernel
theorem dX4_bit_9 : decode cX4_bit 9 = .ok (.iconst 0, 1) := by decide +kernel
theorem dX4_bit_10 : decode cX4_bit 10 = .ok (.ireturn, 1) := by decide +kernel
set_option maxRecDepth 20000 in
theorem ggX4_plainOf_X4_bit : GoodIn wsX4_plainOf wsX4_bit := goodIn_r _ [4] (by decide +kernel) (by decide +kernel)
set_option maxRecDepth 20000 in
theorem gX4_plainOf_X4_bit : GoodIn wsX4_plainOf (va_wsS RX4 68 yX4_bit wsX4_bit) := goodIn_app (goodIn_of _ (by decide +kernel)) ggX4_plainOf_X4_bit
theorem dX4_plainOf_0 : decode cX4_plainOf 0 = .ok (.iload_n 0, 1) := by decide +kernel
theorem dX4_plainOf_1 : decode cX4_plainOf 1 = .ok (.iconst 3, 1) := by decide +kernel
theorem dX4_plainOf_2 : decode cX4_plainOf 2 = .ok (.if_icmp .ge 21, 3) := by decide +kernel
theorem dX4_plainOf_5 : decode cX4_plainOf 5 = .ok (.iload_n 1, 1) := by decide +kernel
theorem dX4_plainOf_6 : decode cX4_plainOf 6 = .ok (.bipush 7, 2) := by decide +kernel
theorem dX4_plainOf_8 : decode cX4_plainOf 8 = .ok (.invokestatic 68, 3) := by decide +kernel
theorem dX4_plainOf_11 : decode cX4_plainOf 11 = .ok (.iload_n 1, 1) := by decide +kernel
theorem dX4_plainOf_12 : decode cX4_plainOf 12 = .ok (.bipush 7, 2) := by decide +kernel
theorem dX4_plainOf_14 : decode cX4_plainOf 14 = .ok (.iconst 1, 1) := by decide +kernel
theorem dX4_plainOf_15 : decode cX4_plainOf 15 = .ok (.iload_n 0, 1) := by decide +kernel
theorem dX4_plainOf_16 : decode cX4_plainOf 16 = .ok (.ishl, 1) := by decide +kernel
theorem dX4_plainOf_17 : decode cX4_plainOf 17 = .ok (.isub, 1) := by decide +kernel
theorem dX4_plainOf_18 : decode cX4_plainOf 18 = .ok (.invokestatic 68, 3) := by decide +kernel
theorem dX4_plainOf_21 : decode cX4_plainOf 21 = .ok (.isub, 1) := by decide +kernel
theorem dX4_plainOf_22 : decode cX4_plainOf 22 = .ok (.ireturn, 1) := by decide +kernel
theorem dX4_plainOf_23 : decode cX4_plainOf 23 = .ok (.iload_n 0, 1) := by decide +kernel
theorem dX4_plainOf_24 : decode cX4_plainOf 24 = .ok (.iconst 3, 1) := by decide +kernel
theorem dX4_plainOf_25 : decode cX4_plainOf 25 = .ok (.irem, 1) := by decide +kernel
theorem dX4_plainOf_26 : decode cX4_plainOf 26 = .ok (.ifCond .ne 7, 3) := by decide +kernel
theorem dX4_plainOf_29 : decode cX4_plainOf 29 = .ok (.iconst 4, 1) := by decide +kernel
theorem dX4_plainOf_30 : decode cX4_plainOf 30 = .ok (.goto 15, 3) := by decide +kernel
theorem dX4_plainOf_33 : decode cX4_plainOf 33 = .ok (.iload_n 0, 1) := by decide +kernel
theorem dX4_plainOf_34 : decode cX4_plainOf 34 = .ok (.iconst 3, 1) := by decide +kernel
theorem dX4_plainOf_35 : decode cX4_plainOf 35 = .ok (.irem, 1) := by decide +kernel
theorem dX4_plainOf_36 : decode cX4_plainOf 36 = .ok (.iconst 1, 1) := by decide +kernel
theorem dX4_plainOf_37 : decode cX4_plainOf 37 = .ok (.if_icmp .ne 7, 3) := by decide +kernel
theorem dX4_plainOf_40 : decode cX4_plainOf 40 = .ok (.iconst 2, 1) := by decide +kernel
theorem dX4_plainOf_41 : decode cX4_plainOf 41 = .ok (.goto 4, 3) := by decide +kernel
theorem dX4_plainOf_44 : decode cX4_plainOf 44 = .ok (.iconst 1, 1) := by decide +kernel
theorem dX4_plainOf_45 : decode cX4_plainOf 45 = .ok (.istore_n 2, 1) := by decide +kernel
theorem dX4_plainOf_46 : decode cX4_plainOf 46 = .ok (.iload_n 2, 1) := by decide +kernel
theorem dX4_plainOf_47 : decode cX4_plainOf 47 = .ok (.iconst 1, 1) := by decide +kernel
theorem dX4_plainOf_48 : decode cX4_plainOf 48 = .ok (.if_icmp .ne 7, 3) := by decide +kernel
theorem dX4_plainOf_51 : decode cX4_plainOf 51 = .ok (.iconst 2, 1) := by decide +kernel
theorem dX4_plainOf_52 : decode cX4_plainOf 52 = .ok (.goto 4, 3) := by decide +kernel
theorem dX4_plainOf_55 : decode cX4_plainOf 55 = .ok (.iconst 1, 1) := by decide +kernel
theorem dX4_plainOf_56 : decode cX4_plainOf 56 = .ok (.istore_n 3, 1) := by decide +kernel
theorem dX4_plainOf_57 : decode cX4_plainOf 57 = .ok (.bipush 7, 2) := by decide +kernel
theorem dX4_plainOf_59 : decode cX4_plainOf 59 = .ok (.iload_n 2, 1) := by decide +kernel
theorem dX4_plainOf_60 : decode cX4_plainOf 60 = .ok (.isub, 1) := by decide +kernel
theorem dX4_plainOf_61 : decode cX4_plainOf 61 = .ok (.iload_n 3, 1) := by decide +kernel
theorem dX4_plainOf_62 : decode cX4_plainOf 62 = .ok (.isub, 1) := by decide +kernel
theorem dX4_plainOf_63 : decode cX4_plainOf 63 = .ok (.istore 4, 2) := by decide +kernel
theorem dX4_plainOf_65 : decode cX4_plainOf 65 = .ok (.iload_n 0, 1) := by decide +kernel
theorem dX4_plainOf_66 : decode cX4_plainOf 66 = .ok (.bipush 6, 2) := by decide +kernel
theorem dX4_plainOf_68 : decode cX4_plainOf 68 = .ok (.if_icmp .ge 25, 3) := by decide +kernel
theorem dX4_plainOf_71 : decode cX4_plainOf 71 = .ok (.iload_n 1, 1) := by decide +kernel
theorem dX4_plainOf_72 : decode cX4_plainOf 72 = .ok (.iload_n 3, 1) := by decide +kernel
theorem dX4_plainOf_73 : decode cX4_plainOf 73 = .ok (.invokestatic 68, 3) := by decide +kernel
theorem dX4_plainOf_76 : decode cX4_plainOf 76 = .ok (.iload_n 1, 1) := by decide +kernel
theorem dX4_plainOf_77 : decode cX4_plainOf 77 = .ok (.iload 4, 2) := by decide +kernel
theorem dX4_plainOf_79 : decode cX4_plainOf 79 = .ok (.invokestatic 68, 3) := by decide +kernel
theorem dX4_plainOf_82 : decode cX4_plainOf 82 = .ok (.iadd, 1) := by decide +kernel
theorem dX4_plainOf_83 : decode cX4_plainOf 83 = .ok (.iload_n 1, 1) := by decide +kernel
theorem dX4_plainOf_84 : decode cX4_plainOf 84 = .ok (.iload_n 3, 1) := by decide +kernel
theorem dX4_plainOf_85 : decode cX4_plainOf 85 = .ok (.iload 4, 2) := by decide +kernel
theorem dX4_plainOf_87 : decode cX4_plainOf 87 = .ok (.iadd, 1) := by decide +kernel
theorem dX4_plainOf_88 : decode cX4_plainOf 88 = .ok (.invokestatic 68, 3) := by decide +kernel
theorem dX4_plainOf_91 : decode cX4_plainOf 91 = .ok (.isub, 1) := by decide +kernel
theorem dX4_plainOf_92 : decode cX4_plainOf 92 = .ok (.ireturn, 1) := by decide +kernel
theorem dX4_plainOf_93 : decode cX4_plainOf 93 = .ok (.iload_n 1, 1) := by decide +kernel
theorem dX4_plainOf_94 : decode cX4_plainOf 94 = .ok (.iload_n 3, 1) := by decide +kernel
theorem dX4_plainOf_95 : decode cX4_plainOf 95 = .ok (.iload_n 2, 1) := by decide +kernel
theorem dX4_plainOf_96 : decode cX4_plainOf 96 = .ok (.iadd, 1) := by decide +kernel
theorem dX4_plainOf_97 : decode cX4_plainOf 97 = .ok (.invokestatic 68, 3) := by decide +kernel
theorem dX4_plainOf_100 : decode cX4_plainOf 100 = .ok (.iload_n 1, 1) := by decide +kernel
theorem dX4_plainOf_101 : decode cX4_plainOf 101 = .ok (.iload 4, 2) := by decide +kernel
theorem dX4_plainOf_103 : decode cX4_plainOf 103 = .ok (.iload_n 2, 1) := by decide +kernel
theorem dX4_plainOf_104 : decode cX4_plainOf 104 = .ok (.iadd, 1) := by decide +kernel
theorem dX4_plainOf_105 : decode cX4_plainOf 105 = .ok (.invokestatic 68, 3) := by decide +kernel
theorem dX4_plainOf_108 : decode cX4_plainOf 108 = .ok (.iadd, 1) := by decide +kernel
theorem dX4_plainOf_109 : decode cX4_plainOf 109 = .ok (.iload_n 1, 1) := by decide +kernel
theorem dX4_plainOf_110 : decode cX4_plainOf 110 = .ok (.bipush 7, 2) := by decide +kernel
theorem dX4_plainOf_112 : decode cX4_plainOf 112 = .ok (.invokestatic 68, 3) := by decide +kernel
theorem dX4_plainOf_115 : decode cX4_plainOf 115 = .ok (.isub, 1) := by decide +kernel
theorem dX4_plainOf_116 : decode cX4_plainOf 116 = .ok (.iload_n 1, 1) := by decide +kernel
theorem dX4_plainOf_117 : decode cX4_plainOf 117 = .ok (.iload_n 2, 1) := by decide +kernel
theorem dX4_plainOf_118 : decode cX4_plainOf 118 = .ok (.invokestatic 68, 3) := by decide +kernel
theorem dX4_plainOf_121 : decode cX4_plainOf 121 = .ok (.isub, 1) := by decide +kernel
theorem dX4_plainOf_122 : decode cX4_plainOf 122 = .ok (.ireturn, 1) := by decide +kernel
set_option maxRecDepth 20000 in
theorem ggX4_plain_X4_isLaw : GoodIn wsX4_plain wsX4_isLaw := goodIn_r _ [5, 6, 7, 4, 8] (by decide +kernel) (by decide +kernel)
set_option maxRecDepth 20000 in
theorem gX4_plain_X4_isLaw : GoodIn wsX4_plain (va_wsS RX4 65 yX4_isLaw wsX4_isLaw) := goodIn_app (goodIn_of _ (by decide +kernel)) ggX4_plain_X4_isLaw
set_option maxRecDepth 20000 in
theorem ggX4_plain_X4_isIn : GoodIn wsX4_plain wsX4_isIn := goodIn_r _ [8] (by decide +kernel) (by decide +kernel)
set_option maxRecDepth 20000 in
theorem gX4_plain_X4_isIn : GoodIn wsX4_plain (va_wsS RX4 50 yX4_isIn wsX4_isIn) := goodIn_app (goodIn_of _ (by decide +kernel)) ggX4_plain_X4_isIn
set_option maxRecDepth 20000 in
theorem ggX4_plain_X4_plainOf : GoodIn wsX4_plain wsX4_plainOf := goodIn_r _ [11, 12, 13, 4, 14] (by decide +kernel) (by decide +kernel)
set_option maxRecDepth 20000 in
theorem gX4_plain_X4_plainOf : GoodIn wsX4_plain (va_wsS RX4 72 yX4_plainOf wsX4_plainOf) := goodIn_app (goodIn_of _ (by decide +kernel)) ggX4_plain_X4_plainOf
theorem dX4_plain_0 : decode cX4_plain 0 = .ok (.iload_n 1, 1) := by decide +kernel
theorem dX4_plain_1 : decode cX4_plain 1 = .ok (.invokestatic 65, 3) := by decide +kernel
theorem dX4_plain_4 : decode cX4_plain 4 = .ok (.ifCond .eq 13, 3) := by decide +kernel
theorem dX4_plain_7 : decode cX4_plain 7 = .ok (.iload_n 2, 1) := by decide +kernel
theorem dX4_plain_8 : decode cX4_plain 8 = .ok (.iconst 0, 1) := by decide +kernel
theorem dX4_plain_9 : decode cX4_plain 9 = .ok (.bipush 8, 2) := by decide +kernel
theorem dX4_plain_11 : decode cX4_plain 11 = .ok (.invokestatic 50, 3) := by decide +kernel
theorem dX4_plain_14 : decode cX4_plain 14 = .ok (.ifCond .ne 5, 3) := by decide +kernel
theorem dX4_plain_17 : decode cX4_plain 17 = .ok (.iconst 0, 1) := by decide +kernel
theorem dX4_plain_18 : decode cX4_plain 18 = .ok (.ireturn, 1) := by decide +kernel
theorem dX4_plain_19 : decode cX4_plain 19 = .ok (.iconst 1, 1) := by decide +kernel
theorem dX4_plain_20 : decode cX4_plain 20 = .ok (.istore_n 3, 1) := by decide +kernel
theorem dX4_plain_21 : decode cX4_plain 21 = .ok (.iload_n 3, 1) := by decide +kernel
theorem dX4_plain_22 : decode cX4_plain 22 = .ok (.bipush 8, 2) := by decide +kernel
theorem dX4_plain_24 : decode cX4_plain 24 = .ok (.if_icmp .ge 25, 3) := by decide +kernel
theorem dX4_plain_27 : decode cX4_plain 27 = .ok (.aload_n 0, 1) := by decide +kernel
theorem dX4_plain_28 : decode cX4_plain 28 = .ok (.getfield 19, 3) := by decide +kernel
theorem dX4_plain_31 : decode cX4_plain 31 = .ok (.bipush 8, 2) := by decide +kernel
theorem dX4_plain_33 : decode cX4_plain 33 = .ok (.iload_n 1, 1) := by decide +kernel
theorem dX4_plain_34 : decode cX4_plain 34 = .ok (.imul, 1) := by decide +kernel
theorem dX4_plain_35 : decode cX4_plain 35 = .ok (.iload_n 3, 1) := by decide +kernel
theorem dX4_plain_36 : decode cX4_plain 36 = .ok (.iadd, 1) := by decide +kernel
theorem dX4_plain_37 : decode cX4_plain 37 = .ok (.iload_n 2, 1) := by decide +kernel
theorem dX4_plain_38 : decode cX4_plain 38 = .ok (.iload_n 3, 1) := by decide +kernel
theorem dX4_plain_39 : decode cX4_plain 39 = .ok (.invokestatic 72, 3) := by decide +kernel
theorem dX4_plain_42 : decode cX4_plain 42 = .ok (.iastore, 1) := by decide +kernel
theorem dX4_plain_43 : decode cX4_plain 43 = .ok (.iinc 3 1, 3) := by decide +kernel
theorem dX4_plain_46 : decode cX4_plain 46 = .ok (.goto (-25), 3) := by decide +kernel
theorem dX4_plain_49 : decode cX4_plain 49 = .ok (.iconst 1, 1) := by decide +kernel
theorem dX4_plain_50 : decode cX4_plain 50 = .ok (.ireturn, 1) := by decide +kernel
set_option maxRecDepth 20000 in
theorem ggX4_number_X4_isLaw : GoodIn wsX4_number wsX4_isLaw := goodIn_r _ [5, 6, 7, 4, 8] (by decide +kernel) (by decide +kernel)
set_option maxRecDepth 20000 in
theorem gX4_number_X4_isLaw : GoodIn wsX4_number (va_wsS RX4 65 yX4_isLaw wsX4_isLaw) := goodIn_app (goodIn_of _ (by decide +kernel)) ggX4_number_X4_isLaw
set_option maxRecDepth 20000 in
theorem ggX4_number_X4_isIn : GoodIn wsX4_number wsX4_isIn := goodIn_r _ [8] (by decide +kernel) (by decide +kernel)
set_option maxRecDepth 20000 in
theorem gX4_number_X4_isIn : GoodIn wsX4_number (va_wsS RX4 50 yX4_isIn wsX4_isIn) := goodIn_app (goodIn_of _ (by decide +kernel)) ggX4_number_X4_isIn
theorem dX4_number_0 : decode cX4_number 0 = .ok (.iload_n 1, 1) := by decide +kernel
theorem dX4_number_1 : decode cX4_number 1 = .ok (.invokestatic 65, 3) := by decide +kernel
theorem dX4_number_4 : decode cX4_number 4 = .ok (.ifCond .eq 27, 3) := by decide +kernel
theorem dX4_number_7 : decode cX4_number 7 = .ok (.iload_n 2, 1) := by decide +kernel
theorem dX4_number_8 : decode cX4_number 8 = .ok (.iconst 1, 1) := by decide +kernel
theorem dX4_number_9 : decode cX4_number 9 = .ok (.bipush 7, 2) := by decide +kernel
theorem dX4_number_11 : decode cX4_number 11 = .ok (.invokestatic 50, 3) := by decide +kernel
theorem dX4_number_14 : decode cX4_number 14 = .ok (.ifCond .eq 17, 3) := by decide +kernel
theorem dX4_number_17 : decode cX4_number 17 = .ok (.aload_n 0, 1) := by decide +kernel
theorem dX4_number_18 : decode cX4_number 18 = .ok (.getfield 19, 3) := by decide +kernel
theorem dX4_number_21 : decode cX4_number 21 = .ok (.bipush 8, 2) := by decide +kernel
theorem dX4_number_23 : decode cX4_number 23 = .ok (.iload_n 1, 1) := by decide +kernel
theorem dX4_number_24 : decode cX4_number 24 = .ok (.imul, 1) := by decide +kernel
theorem dX4_number_25 : decode cX4_number 25 = .ok (.iload_n 2, 1) := by decide +kernel
theorem dX4_number_26 : decode cX4_number 26 = .ok (.iadd, 1) := by decide +kernel
theorem dX4_number_27 : decode cX4_number 27 = .ok (.iaload, 1) := by decide +kernel
theorem dX4_number_28 : decode cX4_number 28 = .ok (.goto 5, 3) := by decide +kernel
theorem dX4_number_31 : decode cX4_number 31 = .ok (.bipush (-11), 2) := by decide +kernel
theorem dX4_number_33 : decode cX4_number 33 = .ok (.ireturn, 1) := by decide +kernel
theorem dX4_clear_0 : decode cX4_clear 0 = .ok (.iconst 0, 1) := by decide +kernel
theorem dX4_clear_1 : decode cX4_clear 1 = .ok (.istore_n 1, 1) := by decide +kernel
theorem dX4_clear_2 : decode cX4_clear 2 = .ok (.iload_n 1, 1) := by decide +kernel
theorem dX4_clear_3 : decode cX4_clear 3 = .ok (.bipush 6, 2) := by decide +kernel
theorem dX4_clear_5 : decode cX4_clear 5 = .ok (.if_icmp .ge 16, 3) := by decide +kernel
theorem dX4_clear_8 : decode cX4_clear 8 = .ok (.aload_n 0, 1) := by decide +kernel
theorem dX4_clear_9 : decode cX4_clear 9 = .ok (.getfield 25, 3) := by decide +kernel
theorem dX4_clear_12 : decode cX4_clear 12 = .ok (.iload_n 1, 1) := by decide +kernel
theorem dX4_clear_13 : decode cX4_clear 13 = .ok (.iconst 0, 1) := by decide +kernel
theorem dX4_clear_14 : decode cX4_clear 14 = .ok (.iastore, 1) := by decide +kernel
theorem dX4_clear_15 : decode cX4_clear 15 = .ok (.iinc 1 1, 3) := by decide +kernel
theorem dX4_clear_18 : decode cX4_clear 18 = .ok (.goto (-16), 3) := by decide +kernel
theorem dX4_clear_21 : decode cX4_clear 21 = .ok (.return_, 1) := by decide +kernel
theorem dX4_add_0 : decode cX4_add 0 = .ok (.iload_n 1, 1) := by decide +kernel
theorem dX4_add_1 : decode cX4_add 1 = .ok (.istore_n 3, 1) := by decide +kernel
theorem dX4_add_2 : decode cX4_add 2 = .ok (.iconst 0, 1) := by decide +kernel
