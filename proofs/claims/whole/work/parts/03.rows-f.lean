theorem dX6_odds_156 : decode cX6_odds 156 = .ok (.iload 6, 2) := by decide +kernel
theorem dX6_odds_158 : decode cX6_odds 158 = .ok (.istore 8, 2) := by decide +kernel
theorem dX6_odds_160 : decode cX6_odds 160 = .ok (.iload 7, 2) := by decide +kernel
theorem dX6_odds_162 : decode cX6_odds 162 = .ok (.istore 9, 2) := by decide +kernel
theorem dX6_odds_164 : decode cX6_odds 164 = .ok (.iload 9, 2) := by decide +kernel
theorem dX6_odds_166 : decode cX6_odds 166 = .ok (.ifCond .eq 21, 3) := by decide +kernel
theorem dX6_odds_169 : decode cX6_odds 169 = .ok (.iload 8, 2) := by decide +kernel
theorem dX6_odds_171 : decode cX6_odds 171 = .ok (.iload 9, 2) := by decide +kernel
theorem dX6_odds_173 : decode cX6_odds 173 = .ok (.irem, 1) := by decide +kernel
theorem dX6_odds_174 : decode cX6_odds 174 = .ok (.istore 10, 2) := by decide +kernel
theorem dX6_odds_176 : decode cX6_odds 176 = .ok (.iload 9, 2) := by decide +kernel
theorem dX6_odds_178 : decode cX6_odds 178 = .ok (.istore 8, 2) := by decide +kernel
theorem dX6_odds_180 : decode cX6_odds 180 = .ok (.iload 10, 2) := by decide +kernel
theorem dX6_odds_182 : decode cX6_odds 182 = .ok (.istore 9, 2) := by decide +kernel
theorem dX6_odds_184 : decode cX6_odds 184 = .ok (.goto (-20), 3) := by decide +kernel
theorem dX6_odds_187 : decode cX6_odds 187 = .ok (.iload 4, 2) := by decide +kernel
theorem dX6_odds_189 : decode cX6_odds 189 = .ok (.ifCond .ne 11, 3) := by decide +kernel
theorem dX6_odds_192 : decode cX6_odds 192 = .ok (.iload 6, 2) := by decide +kernel
theorem dX6_odds_194 : decode cX6_odds 194 = .ok (.iload 8, 2) := by decide +kernel
theorem dX6_odds_196 : decode cX6_odds 196 = .ok (.idiv, 1) := by decide +kernel
theorem dX6_odds_197 : decode cX6_odds 197 = .ok (.goto 8, 3) := by decide +kernel
theorem dX6_odds_200 : decode cX6_odds 200 = .ok (.iload 7, 2) := by decide +kernel
theorem dX6_odds_202 : decode cX6_odds 202 = .ok (.iload 8, 2) := by decide +kernel
theorem dX6_odds_204 : decode cX6_odds 204 = .ok (.idiv, 1) := by decide +kernel
theorem dX6_odds_205 : decode cX6_odds 205 = .ok (.ireturn, 1) := by decide +kernel
set_option maxRecDepth 20000 in
theorem ggX6_circle_X6_isHere : GoodIn wsX6_circle wsX6_isHere := goodIn_r _ [7, 1, 8, 9, 10, 6, 11, 12, 13, 14, 15, 16, 17, 18, 19, 32, 33, 34, 35, 36, 37, 38, 39, 40, 41, 42, 43, 44, 45, 46, 47, 48, 49, 50, 51, 52] (by decide +kernel) (by decide +kernel)
set_option maxRecDepth 20000 in
theorem gX6_circle_X6_isHere : GoodIn wsX6_circle (wsV RX6 163 RX6 yX6_isHere wsX6_isHere) := goodIn_app (goodIn_of _ (by decide +kernel)) ggX6_circle_X6_isHere
set_option maxRecDepth 20000 in
theorem ggX6_circle_X6_in : GoodIn wsX6_circle wsX6_in := goodIn_r _ [15] (by decide +kernel) (by decide +kernel)
set_option maxRecDepth 20000 in
theorem gX6_circle_X6_in : GoodIn wsX6_circle (va_wsS RX6 54 yX6_in wsX6_in) := goodIn_app (goodIn_of _ (by decide +kernel)) ggX6_circle_X6_in
set_option maxRecDepth 20000 in
theorem ggX6_circle_X6_whom : GoodIn wsX6_circle wsX6_whom := goodIn_r _ [23, 12, 16, 17, 18, 6, 19, 24, 25, 26, 27, 28, 29, 30, 31, 32, 33, 34, 35, 36, 37, 38, 39, 40, 41, 42, 43, 44, 45, 46, 47, 48, 49, 50, 51, 52] (by decide +kernel) (by decide +kernel)
set_option maxRecDepth 20000 in
theorem gX6_circle_X6_whom : GoodIn wsX6_circle (wsV RX6 121 RX6 yX6_whom wsX6_whom) := goodIn_app (goodIn_of _ (by decide +kernel)) ggX6_circle_X6_whom
theorem dX6_circle_0 : decode cX6_circle 0 = .ok (.aload_n 0, 1) := by decide +kernel
theorem dX6_circle_1 : decode cX6_circle 1 = .ok (.iload_n 1, 1) := by decide +kernel
theorem dX6_circle_2 : decode cX6_circle 2 = .ok (.invokevirtual 163, 3) := by decide +kernel
theorem dX6_circle_5 : decode cX6_circle 5 = .ok (.ifCond .eq 12, 3) := by decide +kernel
theorem dX6_circle_8 : decode cX6_circle 8 = .ok (.iload_n 2, 1) := by decide +kernel
theorem dX6_circle_9 : decode cX6_circle 9 = .ok (.iconst 0, 1) := by decide +kernel
theorem dX6_circle_10 : decode cX6_circle 10 = .ok (.iconst 1, 1) := by decide +kernel
theorem dX6_circle_11 : decode cX6_circle 11 = .ok (.invokestatic 54, 3) := by decide +kernel
theorem dX6_circle_14 : decode cX6_circle 14 = .ok (.ifCond .ne 5, 3) := by decide +kernel
theorem dX6_circle_17 : decode cX6_circle 17 = .ok (.iconst (-1), 1) := by decide +kernel
theorem dX6_circle_18 : decode cX6_circle 18 = .ok (.ireturn, 1) := by decide +kernel
theorem dX6_circle_19 : decode cX6_circle 19 = .ok (.iload_n 1, 1) := by decide +kernel
theorem dX6_circle_20 : decode cX6_circle 20 = .ok (.istore_n 3, 1) := by decide +kernel
theorem dX6_circle_21 : decode cX6_circle 21 = .ok (.iconst 0, 1) := by decide +kernel
theorem dX6_circle_22 : decode cX6_circle 22 = .ok (.istore 4, 2) := by decide +kernel
theorem dX6_circle_24 : decode cX6_circle 24 = .ok (.iload 4, 2) := by decide +kernel
theorem dX6_circle_26 : decode cX6_circle 26 = .ok (.bipush 6, 2) := by decide +kernel
theorem dX6_circle_28 : decode cX6_circle 28 = .ok (.if_icmp .ge 31, 3) := by decide +kernel
theorem dX6_circle_31 : decode cX6_circle 31 = .ok (.iload_n 3, 1) := by decide +kernel
theorem dX6_circle_32 : decode cX6_circle 32 = .ok (.bipush (-9), 2) := by decide +kernel
theorem dX6_circle_34 : decode cX6_circle 34 = .ok (.if_icmp .eq 25, 3) := by decide +kernel
theorem dX6_circle_37 : decode cX6_circle 37 = .ok (.aload_n 0, 1) := by decide +kernel
theorem dX6_circle_38 : decode cX6_circle 38 = .ok (.aload_n 0, 1) := by decide +kernel
theorem dX6_circle_39 : decode cX6_circle 39 = .ok (.getfield 29, 3) := by decide +kernel
theorem dX6_circle_42 : decode cX6_circle 42 = .ok (.iload_n 3, 1) := by decide +kernel
theorem dX6_circle_43 : decode cX6_circle 43 = .ok (.aload_n 0, 1) := by decide +kernel
theorem dX6_circle_44 : decode cX6_circle 44 = .ok (.getfield 23, 3) := by decide +kernel
theorem dX6_circle_47 : decode cX6_circle 47 = .ok (.iload_n 3, 1) := by decide +kernel
theorem dX6_circle_48 : decode cX6_circle 48 = .ok (.iaload, 1) := by decide +kernel
theorem dX6_circle_49 : decode cX6_circle 49 = .ok (.invokevirtual 121, 3) := by decide +kernel
theorem dX6_circle_52 : decode cX6_circle 52 = .ok (.istore_n 3, 1) := by decide +kernel
theorem dX6_circle_53 : decode cX6_circle 53 = .ok (.iinc 4 1, 3) := by decide +kernel
theorem dX6_circle_56 : decode cX6_circle 56 = .ok (.goto (-32), 3) := by decide +kernel
theorem dX6_circle_59 : decode cX6_circle 59 = .ok (.iload_n 3, 1) := by decide +kernel
theorem dX6_circle_60 : decode cX6_circle 60 = .ok (.bipush (-9), 2) := by decide +kernel
theorem dX6_circle_62 : decode cX6_circle 62 = .ok (.if_icmp .ne 6, 3) := by decide +kernel
theorem dX6_circle_65 : decode cX6_circle 65 = .ok (.bipush (-9), 2) := by decide +kernel
theorem dX6_circle_67 : decode cX6_circle 67 = .ok (.ireturn, 1) := by decide +kernel
theorem dX6_circle_68 : decode cX6_circle 68 = .ok (.iconst 1, 1) := by decide +kernel
theorem dX6_circle_69 : decode cX6_circle 69 = .ok (.istore 4, 2) := by decide +kernel
theorem dX6_circle_71 : decode cX6_circle 71 = .ok (.iload_n 3, 1) := by decide +kernel
theorem dX6_circle_72 : decode cX6_circle 72 = .ok (.istore 5, 2) := by decide +kernel
theorem dX6_circle_74 : decode cX6_circle 74 = .ok (.aload_n 0, 1) := by decide +kernel
theorem dX6_circle_75 : decode cX6_circle 75 = .ok (.aload_n 0, 1) := by decide +kernel
theorem dX6_circle_76 : decode cX6_circle 76 = .ok (.getfield 29, 3) := by decide +kernel
theorem dX6_circle_79 : decode cX6_circle 79 = .ok (.iload_n 3, 1) := by decide +kernel
theorem dX6_circle_80 : decode cX6_circle 80 = .ok (.aload_n 0, 1) := by decide +kernel
theorem dX6_circle_81 : decode cX6_circle 81 = .ok (.getfield 23, 3) := by decide +kernel
theorem dX6_circle_84 : decode cX6_circle 84 = .ok (.iload_n 3, 1) := by decide +kernel
theorem dX6_circle_85 : decode cX6_circle 85 = .ok (.iaload, 1) := by decide +kernel
theorem dX6_circle_86 : decode cX6_circle 86 = .ok (.invokevirtual 121, 3) := by decide +kernel
theorem dX6_circle_89 : decode cX6_circle 89 = .ok (.istore 6, 2) := by decide +kernel
theorem dX6_circle_91 : decode cX6_circle 91 = .ok (.iload 6, 2) := by decide +kernel
theorem dX6_circle_93 : decode cX6_circle 93 = .ok (.iload_n 3, 1) := by decide +kernel
theorem dX6_circle_94 : decode cX6_circle 94 = .ok (.if_icmp .eq 44, 3) := by decide +kernel
theorem dX6_circle_97 : decode cX6_circle 97 = .ok (.iload 6, 2) := by decide +kernel
theorem dX6_circle_99 : decode cX6_circle 99 = .ok (.iload 5, 2) := by decide +kernel
theorem dX6_circle_101 : decode cX6_circle 101 = .ok (.if_icmp .ge 8, 3) := by decide +kernel
theorem dX6_circle_104 : decode cX6_circle 104 = .ok (.iload 6, 2) := by decide +kernel
theorem dX6_circle_106 : decode cX6_circle 106 = .ok (.goto 5, 3) := by decide +kernel
theorem dX6_circle_109 : decode cX6_circle 109 = .ok (.iload 5, 2) := by decide +kernel
theorem dX6_circle_111 : decode cX6_circle 111 = .ok (.istore 5, 2) := by decide +kernel
theorem dX6_circle_113 : decode cX6_circle 113 = .ok (.iinc 4 1, 3) := by decide +kernel
theorem dX6_circle_116 : decode cX6_circle 116 = .ok (.aload_n 0, 1) := by decide +kernel
theorem dX6_circle_117 : decode cX6_circle 117 = .ok (.aload_n 0, 1) := by decide +kernel
theorem dX6_circle_118 : decode cX6_circle 118 = .ok (.getfield 29, 3) := by decide +kernel
theorem dX6_circle_121 : decode cX6_circle 121 = .ok (.iload 6, 2) := by decide +kernel
theorem dX6_circle_123 : decode cX6_circle 123 = .ok (.aload_n 0, 1) := by decide +kernel
theorem dX6_circle_124 : decode cX6_circle 124 = .ok (.getfield 23, 3) := by decide +kernel
theorem dX6_circle_127 : decode cX6_circle 127 = .ok (.iload 6, 2) := by decide +kernel
theorem dX6_circle_129 : decode cX6_circle 129 = .ok (.iaload, 1) := by decide +kernel
theorem dX6_circle_130 : decode cX6_circle 130 = .ok (.invokevirtual 121, 3) := by decide +kernel
theorem dX6_circle_133 : decode cX6_circle 133 = .ok (.istore 6, 2) := by decide +kernel
theorem dX6_circle_135 : decode cX6_circle 135 = .ok (.goto (-44), 3) := by decide +kernel
theorem dX6_circle_138 : decode cX6_circle 138 = .ok (.iload_n 2, 1) := by decide +kernel
theorem dX6_circle_139 : decode cX6_circle 139 = .ok (.ifCond .ne 8, 3) := by decide +kernel
theorem dX6_circle_142 : decode cX6_circle 142 = .ok (.iload 4, 2) := by decide +kernel
theorem dX6_circle_144 : decode cX6_circle 144 = .ok (.goto 5, 3) := by decide +kernel
theorem dX6_circle_147 : decode cX6_circle 147 = .ok (.iload 5, 2) := by decide +kernel
theorem dX6_circle_149 : decode cX6_circle 149 = .ok (.ireturn, 1) := by decide +kernel
set_option maxRecDepth 20000 in
theorem ggX6_chair_X6_isHere : GoodIn wsX6_chair wsX6_isHere := goodIn_r _ [6, 7, 8, 9, 10, 5, 11, 12, 13, 14, 15, 16, 17, 18, 19, 36, 37, 38, 39, 40, 41, 42, 43, 44, 45, 46, 47, 48, 49, 50, 51, 52, 53, 54, 55, 56] (by decide +kernel) (by decide +kernel)
set_option maxRecDepth 20000 in
theorem gX6_chair_X6_isHere : GoodIn wsX6_chair (wsV RX6 163 RX6 yX6_isHere wsX6_isHere) := goodIn_app (goodIn_of _ (by decide +kernel)) ggX6_chair_X6_isHere
set_option maxRecDepth 20000 in
theorem ggX6_chair_X6_take : GoodIn wsX6_chair wsX6_take := goodIn_r _ [23, 1, 7, 36, 37, 38, 39, 40, 41, 42, 43, 44, 45, 46, 47, 48, 49, 50, 51, 52, 53, 54, 55, 56] (by decide +kernel) (by decide +kernel)
set_option maxRecDepth 20000 in
theorem gX6_chair_X6_take : GoodIn wsX6_chair (wsV RX6 160 RX6 yX6_take wsX6_take) := goodIn_app (goodIn_of _ (by decide +kernel)) ggX6_chair_X6_take
set_option maxRecDepth 20000 in
theorem ggX6_chair_X6_whom : GoodIn wsX6_chair wsX6_whom := goodIn_r _ [27, 12, 16, 17, 18, 5, 19, 28, 29, 30, 31, 32, 33, 34, 35, 36, 37, 38, 39, 40, 41, 42, 43, 44, 45, 46, 47, 48, 49, 50, 51, 52, 53, 54, 55, 56] (by decide +kernel) (by decide +kernel)
set_option maxRecDepth 20000 in
theorem gX6_chair_X6_whom : GoodIn wsX6_chair (wsV RX6 121 RX6 yX6_whom wsX6_whom) := goodIn_app (goodIn_of _ (by decide +kernel)) ggX6_chair_X6_whom
theorem dX6_chair_0 : decode cX6_chair 0 = .ok (.aload_n 0, 1) := by decide +kernel
theorem dX6_chair_1 : decode cX6_chair 1 = .ok (.iload_n 1, 1) := by decide +kernel
theorem dX6_chair_2 : decode cX6_chair 2 = .ok (.invokevirtual 163, 3) := by decide +kernel
theorem dX6_chair_5 : decode cX6_chair 5 = .ok (.ifCond .eq 16, 3) := by decide +kernel
theorem dX6_chair_8 : decode cX6_chair 8 = .ok (.aload_n 0, 1) := by decide +kernel
theorem dX6_chair_9 : decode cX6_chair 9 = .ok (.iload_n 2, 1) := by decide +kernel
theorem dX6_chair_10 : decode cX6_chair 10 = .ok (.invokevirtual 163, 3) := by decide +kernel
theorem dX6_chair_13 : decode cX6_chair 13 = .ok (.ifCond .eq 8, 3) := by decide +kernel
theorem dX6_chair_16 : decode cX6_chair 16 = .ok (.iload_n 1, 1) := by decide +kernel
theorem dX6_chair_17 : decode cX6_chair 17 = .ok (.iload_n 2, 1) := by decide +kernel
theorem dX6_chair_18 : decode cX6_chair 18 = .ok (.if_icmp .ne 5, 3) := by decide +kernel
theorem dX6_chair_21 : decode cX6_chair 21 = .ok (.iconst (-1), 1) := by decide +kernel
theorem dX6_chair_22 : decode cX6_chair 22 = .ok (.ireturn, 1) := by decide +kernel
theorem dX6_chair_23 : decode cX6_chair 23 = .ok (.aload_n 0, 1) := by decide +kernel
theorem dX6_chair_24 : decode cX6_chair 24 = .ok (.invokevirtual 160, 3) := by decide +kernel
theorem dX6_chair_27 : decode cX6_chair 27 = .ok (.iconst 0, 1) := by decide +kernel
theorem dX6_chair_28 : decode cX6_chair 28 = .ok (.istore_n 3, 1) := by decide +kernel
theorem dX6_chair_29 : decode cX6_chair 29 = .ok (.iload_n 3, 1) := by decide +kernel
theorem dX6_chair_30 : decode cX6_chair 30 = .ok (.bipush 9, 2) := by decide +kernel
theorem dX6_chair_32 : decode cX6_chair 32 = .ok (.if_icmp .gt 34, 3) := by decide +kernel
theorem dX6_chair_35 : decode cX6_chair 35 = .ok (.aload_n 0, 1) := by decide +kernel
theorem dX6_chair_36 : decode cX6_chair 36 = .ok (.getfield 36, 3) := by decide +kernel
theorem dX6_chair_39 : decode cX6_chair 39 = .ok (.iconst 4, 1) := by decide +kernel
theorem dX6_chair_40 : decode cX6_chair 40 = .ok (.iload_n 1, 1) := by decide +kernel
theorem dX6_chair_41 : decode cX6_chair 41 = .ok (.iadd, 1) := by decide +kernel
theorem dX6_chair_42 : decode cX6_chair 42 = .ok (.iload_n 3, 1) := by decide +kernel
theorem dX6_chair_43 : decode cX6_chair 43 = .ok (.iastore, 1) := by decide +kernel
theorem dX6_chair_44 : decode cX6_chair 44 = .ok (.aload_n 0, 1) := by decide +kernel
theorem dX6_chair_45 : decode cX6_chair 45 = .ok (.aload_n 0, 1) := by decide +kernel
theorem dX6_chair_46 : decode cX6_chair 46 = .ok (.getfield 36, 3) := by decide +kernel
theorem dX6_chair_49 : decode cX6_chair 49 = .ok (.iload_n 1, 1) := by decide +kernel
theorem dX6_chair_50 : decode cX6_chair 50 = .ok (.iconst 0, 1) := by decide +kernel
theorem dX6_chair_51 : decode cX6_chair 51 = .ok (.invokevirtual 121, 3) := by decide +kernel
theorem dX6_chair_54 : decode cX6_chair 54 = .ok (.iload_n 2, 1) := by decide +kernel
theorem dX6_chair_55 : decode cX6_chair 55 = .ok (.if_icmp .ne 5, 3) := by decide +kernel
theorem dX6_chair_58 : decode cX6_chair 58 = .ok (.iload_n 3, 1) := by decide +kernel
theorem dX6_chair_59 : decode cX6_chair 59 = .ok (.ireturn, 1) := by decide +kernel
theorem dX6_chair_60 : decode cX6_chair 60 = .ok (.iinc 3 1, 3) := by decide +kernel
theorem dX6_chair_63 : decode cX6_chair 63 = .ok (.goto (-34), 3) := by decide +kernel
theorem dX6_chair_66 : decode cX6_chair 66 = .ok (.bipush (-9), 2) := by decide +kernel
theorem dX6_chair_68 : decode cX6_chair 68 = .ok (.ireturn, 1) := by decide +kernel
set_option maxRecDepth 20000 in
theorem ggX6_saw_X6_isHere : GoodIn wsX6_saw wsX6_isHere := goodIn_r _ [8, 9, 10, 11, 12, 7, 13, 14, 15, 16, 17, 18, 19, 20, 21, 22, 23, 24, 25, 26, 27, 28, 29, 30, 31, 32, 33, 34, 35, 36, 37, 38, 39, 40, 41, 42] (by decide +kernel) (by decide +kernel)
set_option maxRecDepth 20000 in
theorem gX6_saw_X6_isHere : GoodIn wsX6_saw (wsV RX6 163 RX6 yX6_isHere wsX6_isHere) := goodIn_app (goodIn_of _ (by decide +kernel)) ggX6_saw_X6_isHere
theorem dX6_saw_0 : decode cX6_saw 0 = .ok (.aload_n 0, 1) := by decide +kernel
theorem dX6_saw_1 : decode cX6_saw 1 = .ok (.iload_n 1, 1) := by decide +kernel
theorem dX6_saw_2 : decode cX6_saw 2 = .ok (.invokevirtual 163, 3) := by decide +kernel
theorem dX6_saw_5 : decode cX6_saw 5 = .ok (.ifCond .eq 16, 3) := by decide +kernel
theorem dX6_saw_8 : decode cX6_saw 8 = .ok (.aload_n 0, 1) := by decide +kernel
theorem dX6_saw_9 : decode cX6_saw 9 = .ok (.iload_n 2, 1) := by decide +kernel
theorem dX6_saw_10 : decode cX6_saw 10 = .ok (.invokevirtual 163, 3) := by decide +kernel
theorem dX6_saw_13 : decode cX6_saw 13 = .ok (.ifCond .eq 8, 3) := by decide +kernel
theorem dX6_saw_16 : decode cX6_saw 16 = .ok (.iload_n 1, 1) := by decide +kernel
theorem dX6_saw_17 : decode cX6_saw 17 = .ok (.iload_n 2, 1) := by decide +kernel
theorem dX6_saw_18 : decode cX6_saw 18 = .ok (.if_icmp .ne 5, 3) := by decide +kernel
theorem dX6_saw_21 : decode cX6_saw 21 = .ok (.iconst (-1), 1) := by decide +kernel
theorem dX6_saw_22 : decode cX6_saw 22 = .ok (.ireturn, 1) := by decide +kernel
theorem dX6_saw_23 : decode cX6_saw 23 = .ok (.aload_n 0, 1) := by decide +kernel
theorem dX6_saw_24 : decode cX6_saw 24 = .ok (.getfield 96, 3) := by decide +kernel
theorem dX6_saw_27 : decode cX6_saw 27 = .ok (.bipush 6, 2) := by decide +kernel
theorem dX6_saw_29 : decode cX6_saw 29 = .ok (.if_icmp .ne 6, 3) := by decide +kernel
theorem dX6_saw_32 : decode cX6_saw 32 = .ok (.bipush (-3), 2) := by decide +kernel
theorem dX6_saw_34 : decode cX6_saw 34 = .ok (.ireturn, 1) := by decide +kernel
theorem dX6_saw_35 : decode cX6_saw 35 = .ok (.aload_n 0, 1) := by decide +kernel
theorem dX6_saw_36 : decode cX6_saw 36 = .ok (.getfield 42, 3) := by decide +kernel
theorem dX6_saw_39 : decode cX6_saw 39 = .ok (.aload_n 0, 1) := by decide +kernel
theorem dX6_saw_40 : decode cX6_saw 40 = .ok (.getfield 96, 3) := by decide +kernel
theorem dX6_saw_43 : decode cX6_saw 43 = .ok (.iload_n 1, 1) := by decide +kernel
theorem dX6_saw_44 : decode cX6_saw 44 = .ok (.iastore, 1) := by decide +kernel
theorem dX6_saw_45 : decode cX6_saw 45 = .ok (.aload_n 0, 1) := by decide +kernel
theorem dX6_saw_46 : decode cX6_saw 46 = .ok (.getfield 45, 3) := by decide +kernel
theorem dX6_saw_49 : decode cX6_saw 49 = .ok (.aload_n 0, 1) := by decide +kernel
theorem dX6_saw_50 : decode cX6_saw 50 = .ok (.getfield 96, 3) := by decide +kernel
theorem dX6_saw_53 : decode cX6_saw 53 = .ok (.iload_n 2, 1) := by decide +kernel
theorem dX6_saw_54 : decode cX6_saw 54 = .ok (.iastore, 1) := by decide +kernel
theorem dX6_saw_55 : decode cX6_saw 55 = .ok (.aload_n 0, 1) := by decide +kernel
theorem dX6_saw_56 : decode cX6_saw 56 = .ok (.dup, 1) := by decide +kernel
theorem dX6_saw_57 : decode cX6_saw 57 = .ok (.getfield 96, 3) := by decide +kernel
theorem dX6_saw_60 : decode cX6_saw 60 = .ok (.iconst 1, 1) := by decide +kernel
theorem dX6_saw_61 : decode cX6_saw 61 = .ok (.iadd, 1) := by decide +kernel
theorem dX6_saw_62 : decode cX6_saw 62 = .ok (.putfield 96, 3) := by decide +kernel
theorem dX6_saw_65 : decode cX6_saw 65 = .ok (.aload_n 0, 1) := by decide +kernel
theorem dX6_saw_66 : decode cX6_saw 66 = .ok (.getfield 96, 3) := by decide +kernel
theorem dX6_saw_69 : decode cX6_saw 69 = .ok (.ireturn, 1) := by decide +kernel
theorem dX6_forget_0 : decode cX6_forget 0 = .ok (.aload_n 0, 1) := by decide +kernel
theorem dX6_forget_1 : decode cX6_forget 1 = .ok (.getfield 96, 3) := by decide +kernel
theorem dX6_forget_4 : decode cX6_forget 4 = .ok (.istore_n 1, 1) := by decide +kernel
theorem dX6_forget_5 : decode cX6_forget 5 = .ok (.aload_n 0, 1) := by decide +kernel
theorem dX6_forget_6 : decode cX6_forget 6 = .ok (.iconst 0, 1) := by decide +kernel
theorem dX6_forget_7 : decode cX6_forget 7 = .ok (.putfield 96, 3) := by decide +kernel
theorem dX6_forget_10 : decode cX6_forget 10 = .ok (.iload_n 1, 1) := by decide +kernel
theorem dX6_forget_11 : decode cX6_forget 11 = .ok (.ireturn, 1) := by decide +kernel
set_option maxRecDepth 20000 in
theorem ggX6_lawsOf_X6_isAboard : GoodIn wsX6_lawsOf wsX6_isAboard := goodIn_r _ [9] (by decide +kernel) (by decide +kernel)
set_option maxRecDepth 20000 in
theorem gX6_lawsOf_X6_isAboard : GoodIn wsX6_lawsOf (wsV RX6 110 RX6 yX6_isAboard wsX6_isAboard) := goodIn_app (goodIn_of _ (by decide +kernel)) ggX6_lawsOf_X6_isAboard
set_option maxRecDepth 20000 in
theorem ggX6_lawsOf_X6_whom : GoodIn wsX6_lawsOf wsX6_whom := goodIn_r _ [13, 14, 5, 6, 7, 8, 9, 15, 16, 17, 18, 19, 20, 21, 22, 23, 24, 25, 26, 27, 28, 29, 30, 31, 32, 33, 34, 35, 36, 37, 38, 39, 40, 41, 42, 43] (by decide +kernel) (by decide +kernel)
set_option maxRecDepth 20000 in
theorem gX6_lawsOf_X6_whom : GoodIn wsX6_lawsOf (wsV RX6 121 RX6 yX6_whom wsX6_whom) := goodIn_app (goodIn_of _ (by decide +kernel)) ggX6_lawsOf_X6_whom
theorem dX6_lawsOf_0 : decode cX6_lawsOf 0 = .ok (.iconst 0, 1) := by decide +kernel
theorem dX6_lawsOf_1 : decode cX6_lawsOf 1 = .ok (.istore_n 2, 1) := by decide +kernel
theorem dX6_lawsOf_2 : decode cX6_lawsOf 2 = .ok (.iconst 0, 1) := by decide +kernel
theorem dX6_lawsOf_3 : decode cX6_lawsOf 3 = .ok (.istore_n 3, 1) := by decide +kernel
theorem dX6_lawsOf_4 : decode cX6_lawsOf 4 = .ok (.iload_n 3, 1) := by decide +kernel
theorem dX6_lawsOf_5 : decode cX6_lawsOf 5 = .ok (.iconst 2, 1) := by decide +kernel
theorem dX6_lawsOf_6 : decode cX6_lawsOf 6 = .ok (.if_icmp .gt 109, 3) := by decide +kernel
theorem dX6_lawsOf_9 : decode cX6_lawsOf 9 = .ok (.aload_n 0, 1) := by decide +kernel
theorem dX6_lawsOf_10 : decode cX6_lawsOf 10 = .ok (.aload_n 0, 1) := by decide +kernel
theorem dX6_lawsOf_11 : decode cX6_lawsOf 11 = .ok (.getfield 29, 3) := by decide +kernel
theorem dX6_lawsOf_14 : decode cX6_lawsOf 14 = .ok (.iload_n 1, 1) := by decide +kernel
theorem dX6_lawsOf_15 : decode cX6_lawsOf 15 = .ok (.invokevirtual 110, 3) := by decide +kernel
theorem dX6_lawsOf_18 : decode cX6_lawsOf 18 = .ok (.ifCond .eq 16, 3) := by decide +kernel
theorem dX6_lawsOf_21 : decode cX6_lawsOf 21 = .ok (.aload_n 0, 1) := by decide +kernel
theorem dX6_lawsOf_22 : decode cX6_lawsOf 22 = .ok (.aload_n 0, 1) := by decide +kernel
theorem dX6_lawsOf_23 : decode cX6_lawsOf 23 = .ok (.getfield 29, 3) := by decide +kernel
theorem dX6_lawsOf_26 : decode cX6_lawsOf 26 = .ok (.iload_n 1, 1) := by decide +kernel
theorem dX6_lawsOf_27 : decode cX6_lawsOf 27 = .ok (.iload_n 3, 1) := by decide +kernel
theorem dX6_lawsOf_28 : decode cX6_lawsOf 28 = .ok (.invokevirtual 121, 3) := by decide +kernel
theorem dX6_lawsOf_31 : decode cX6_lawsOf 31 = .ok (.goto 5, 3) := by decide +kernel
theorem dX6_lawsOf_34 : decode cX6_lawsOf 34 = .ok (.bipush (-9), 2) := by decide +kernel
theorem dX6_lawsOf_36 : decode cX6_lawsOf 36 = .ok (.istore 4, 2) := by decide +kernel
theorem dX6_lawsOf_38 : decode cX6_lawsOf 38 = .ok (.iconst 1, 1) := by decide +kernel
theorem dX6_lawsOf_39 : decode cX6_lawsOf 39 = .ok (.istore 5, 2) := by decide +kernel
theorem dX6_lawsOf_41 : decode cX6_lawsOf 41 = .ok (.iconst 0, 1) := by decide +kernel
theorem dX6_lawsOf_42 : decode cX6_lawsOf 42 = .ok (.istore 6, 2) := by decide +kernel
theorem dX6_lawsOf_44 : decode cX6_lawsOf 44 = .ok (.iload 6, 2) := by decide +kernel
theorem dX6_lawsOf_46 : decode cX6_lawsOf 46 = .ok (.aload_n 0, 1) := by decide +kernel
theorem dX6_lawsOf_47 : decode cX6_lawsOf 47 = .ok (.getfield 96, 3) := by decide +kernel
theorem dX6_lawsOf_50 : decode cX6_lawsOf 50 = .ok (.if_icmp .ge 44, 3) := by decide +kernel
theorem dX6_lawsOf_53 : decode cX6_lawsOf 53 = .ok (.iload 5, 2) := by decide +kernel
theorem dX6_lawsOf_55 : decode cX6_lawsOf 55 = .ok (.ifCond .eq 30, 3) := by decide +kernel
theorem dX6_lawsOf_58 : decode cX6_lawsOf 58 = .ok (.aload_n 0, 1) := by decide +kernel
theorem dX6_lawsOf_59 : decode cX6_lawsOf 59 = .ok (.getfield 42, 3) := by decide +kernel
theorem dX6_lawsOf_62 : decode cX6_lawsOf 62 = .ok (.iload 6, 2) := by decide +kernel
theorem dX6_lawsOf_64 : decode cX6_lawsOf 64 = .ok (.iaload, 1) := by decide +kernel
theorem dX6_lawsOf_65 : decode cX6_lawsOf 65 = .ok (.iload_n 1, 1) := by decide +kernel
theorem dX6_lawsOf_66 : decode cX6_lawsOf 66 = .ok (.if_icmp .ne 15, 3) := by decide +kernel
theorem dX6_lawsOf_69 : decode cX6_lawsOf 69 = .ok (.aload_n 0, 1) := by decide +kernel
theorem dX6_lawsOf_70 : decode cX6_lawsOf 70 = .ok (.getfield 45, 3) := by decide +kernel
theorem dX6_lawsOf_73 : decode cX6_lawsOf 73 = .ok (.iload 6, 2) := by decide +kernel
theorem dX6_lawsOf_75 : decode cX6_lawsOf 75 = .ok (.iaload, 1) := by decide +kernel
theorem dX6_lawsOf_76 : decode cX6_lawsOf 76 = .ok (.iload 4, 2) := by decide +kernel
theorem dX6_lawsOf_78 : decode cX6_lawsOf 78 = .ok (.if_icmp .ne 7, 3) := by decide +kernel
theorem dX6_lawsOf_81 : decode cX6_lawsOf 81 = .ok (.iconst 1, 1) := by decide +kernel
theorem dX6_lawsOf_82 : decode cX6_lawsOf 82 = .ok (.goto 4, 3) := by decide +kernel
theorem dX6_lawsOf_85 : decode cX6_lawsOf 85 = .ok (.iconst 0, 1) := by decide +kernel
theorem dX6_lawsOf_86 : decode cX6_lawsOf 86 = .ok (.istore 5, 2) := by decide +kernel
theorem dX6_lawsOf_88 : decode cX6_lawsOf 88 = .ok (.iinc 6 1, 3) := by decide +kernel
theorem dX6_lawsOf_91 : decode cX6_lawsOf 91 = .ok (.goto (-47), 3) := by decide +kernel
theorem dX6_lawsOf_94 : decode cX6_lawsOf 94 = .ok (.iload_n 2, 1) := by decide +kernel
theorem dX6_lawsOf_95 : decode cX6_lawsOf 95 = .ok (.iload 5, 2) := by decide +kernel
theorem dX6_lawsOf_97 : decode cX6_lawsOf 97 = .ok (.ifCond .eq 9, 3) := by decide +kernel
theorem dX6_lawsOf_100 : decode cX6_lawsOf 100 = .ok (.iconst 1, 1) := by decide +kernel
theorem dX6_lawsOf_101 : decode cX6_lawsOf 101 = .ok (.iload_n 3, 1) := by decide +kernel
theorem dX6_lawsOf_102 : decode cX6_lawsOf 102 = .ok (.ishl, 1) := by decide +kernel
theorem dX6_lawsOf_103 : decode cX6_lawsOf 103 = .ok (.goto 4, 3) := by decide +kernel
theorem dX6_lawsOf_106 : decode cX6_lawsOf 106 = .ok (.iconst 0, 1) := by decide +kernel
theorem dX6_lawsOf_107 : decode cX6_lawsOf 107 = .ok (.ior, 1) := by decide +kernel
theorem dX6_lawsOf_108 : decode cX6_lawsOf 108 = .ok (.istore_n 2, 1) := by decide +kernel
theorem dX6_lawsOf_109 : decode cX6_lawsOf 109 = .ok (.iinc 3 1, 3) := by decide +kernel
theorem dX6_lawsOf_112 : decode cX6_lawsOf 112 = .ok (.goto (-108), 3) := by decide +kernel
theorem dX6_lawsOf_115 : decode cX6_lawsOf 115 = .ok (.iload_n 2, 1) := by decide +kernel
theorem dX6_lawsOf_116 : decode cX6_lawsOf 116 = .ok (.ireturn, 1) := by decide +kernel
set_option maxRecDepth 20000 in
theorem ggX6_laws_X6_isRider : GoodIn wsX6_laws wsX6_isRider := goodIn_r _ [5, 6, 7, 8, 4, 9, 34, 35, 36, 37, 38, 39, 40, 41, 42, 43, 44, 45, 46, 47, 48, 49, 50, 51, 52, 53, 54] (by decide +kernel) (by decide +kernel)
set_option maxRecDepth 20000 in
theorem gX6_laws_X6_isRider : GoodIn wsX6_laws (wsV RX6 107 RX6 yX6_isRider wsX6_isRider) := goodIn_app (goodIn_of _ (by decide +kernel)) ggX6_laws_X6_isRider
set_option maxRecDepth 20000 in
theorem ggX6_laws_X6_lawsOf : GoodIn wsX6_laws wsX6_lawsOf := goodIn_r _ [13, 14, 15, 16, 17, 18, 19, 20, 4, 21, 22, 23, 24, 25, 6, 26, 27, 28, 29, 30, 31, 32, 33, 34, 35, 36, 37, 38, 39, 40, 41, 42, 43, 44, 45, 46, 47, 48, 49, 50, 51, 52, 53, 54] (by decide +kernel) (by decide +kernel)
set_option maxRecDepth 20000 in
theorem gX6_laws_X6_lawsOf : GoodIn wsX6_laws (wsV RX6 166 RX6 yX6_lawsOf wsX6_lawsOf) := goodIn_app (goodIn_of _ (by decide +kernel)) ggX6_laws_X6_lawsOf
theorem dX6_laws_0 : decode cX6_laws 0 = .ok (.aload_n 0, 1) := by decide +kernel
theorem dX6_laws_1 : decode cX6_laws 1 = .ok (.iload_n 1, 1) := by decide +kernel
theorem dX6_laws_2 : decode cX6_laws 2 = .ok (.invokevirtual 107, 3) := by decide +kernel
theorem dX6_laws_5 : decode cX6_laws 5 = .ok (.ifCond .eq 11, 3) := by decide +kernel
theorem dX6_laws_8 : decode cX6_laws 8 = .ok (.aload_n 0, 1) := by decide +kernel
theorem dX6_laws_9 : decode cX6_laws 9 = .ok (.iload_n 1, 1) := by decide +kernel
theorem dX6_laws_10 : decode cX6_laws 10 = .ok (.invokevirtual 166, 3) := by decide +kernel
theorem dX6_laws_13 : decode cX6_laws 13 = .ok (.goto 4, 3) := by decide +kernel
theorem dX6_laws_16 : decode cX6_laws 16 = .ok (.iconst (-1), 1) := by decide +kernel
theorem dX6_laws_17 : decode cX6_laws 17 = .ok (.ireturn, 1) := by decide +kernel
set_option maxRecDepth 20000 in
theorem ggX6_likely_X6_isAboard : GoodIn wsX6_likely wsX6_isAboard := goodIn_r _ [7] (by decide +kernel) (by decide +kernel)
set_option maxRecDepth 20000 in
theorem gX6_likely_X6_isAboard : GoodIn wsX6_likely (wsV RX6 110 RX6 yX6_isAboard wsX6_isAboard) := goodIn_app (goodIn_of _ (by decide +kernel)) ggX6_likely_X6_isAboard
set_option maxRecDepth 20000 in
theorem ggX6_likely_X6_lawsOf : GoodIn wsX6_likely wsX6_lawsOf := goodIn_r _ [11, 2, 12, 13, 14, 3, 4, 5, 6, 7, 15, 16, 17, 18, 1, 19, 20, 21, 22, 23, 24, 25, 26, 30, 31, 32, 33, 34, 35, 36, 37, 38, 39, 40, 41, 42, 43, 44, 45, 46, 47, 48, 49, 50] (by decide +kernel) (by decide +kernel)
set_option maxRecDepth 20000 in
theorem gX6_likely_X6_lawsOf : GoodIn wsX6_likely (wsV RX6 166 RX6 yX6_lawsOf wsX6_lawsOf) := goodIn_app (goodIn_of _ (by decide +kernel)) ggX6_likely_X6_lawsOf
set_option maxRecDepth 20000 in
theorem ggX6_likely_X6_manyOf : GoodIn wsX6_likely wsX6_manyOf := goodIn_r _ [29] (by decide +kernel) (by decide +kernel)
set_option maxRecDepth 20000 in
theorem gX6_likely_X6_manyOf : GoodIn wsX6_likely (va_wsS RX6 146 yX6_manyOf wsX6_manyOf) := goodIn_app (goodIn_of _ (by decide +kernel)) ggX6_likely_X6_manyOf
theorem dX6_likely_0 : decode cX6_likely 0 = .ok (.iconst 1, 1) := by decide +kernel
theorem dX6_likely_1 : decode cX6_likely 1 = .ok (.istore_n 1, 1) := by decide +kernel
theorem dX6_likely_2 : decode cX6_likely 2 = .ok (.iconst 0, 1) := by decide +kernel
theorem dX6_likely_3 : decode cX6_likely 3 = .ok (.istore_n 2, 1) := by decide +kernel
theorem dX6_likely_4 : decode cX6_likely 4 = .ok (.iload_n 2, 1) := by decide +kernel
theorem dX6_likely_5 : decode cX6_likely 5 = .ok (.aload_n 0, 1) := by decide +kernel
theorem dX6_likely_6 : decode cX6_likely 6 = .ok (.getfield 13, 3) := by decide +kernel
theorem dX6_likely_9 : decode cX6_likely 9 = .ok (.iconst 0, 1) := by decide +kernel
theorem dX6_likely_10 : decode cX6_likely 10 = .ok (.iaload, 1) := by decide +kernel
theorem dX6_likely_11 : decode cX6_likely 11 = .ok (.if_icmp .ge 36, 3) := by decide +kernel
theorem dX6_likely_14 : decode cX6_likely 14 = .ok (.iload_n 1, 1) := by decide +kernel
theorem dX6_likely_15 : decode cX6_likely 15 = .ok (.aload_n 0, 1) := by decide +kernel
theorem dX6_likely_16 : decode cX6_likely 16 = .ok (.aload_n 0, 1) := by decide +kernel
theorem dX6_likely_17 : decode cX6_likely 17 = .ok (.getfield 29, 3) := by decide +kernel
theorem dX6_likely_20 : decode cX6_likely 20 = .ok (.iload_n 2, 1) := by decide +kernel
theorem dX6_likely_21 : decode cX6_likely 21 = .ok (.invokevirtual 110, 3) := by decide +kernel
theorem dX6_likely_24 : decode cX6_likely 24 = .ok (.ifCond .eq 14, 3) := by decide +kernel
theorem dX6_likely_27 : decode cX6_likely 27 = .ok (.aload_n 0, 1) := by decide +kernel
theorem dX6_likely_28 : decode cX6_likely 28 = .ok (.iload_n 2, 1) := by decide +kernel
theorem dX6_likely_29 : decode cX6_likely 29 = .ok (.invokevirtual 166, 3) := by decide +kernel
theorem dX6_likely_32 : decode cX6_likely 32 = .ok (.invokestatic 146, 3) := by decide +kernel
theorem dX6_likely_35 : decode cX6_likely 35 = .ok (.goto 4, 3) := by decide +kernel
theorem dX6_likely_38 : decode cX6_likely 38 = .ok (.iconst 1, 1) := by decide +kernel
theorem dX6_likely_39 : decode cX6_likely 39 = .ok (.imul, 1) := by decide +kernel
theorem dX6_likely_40 : decode cX6_likely 40 = .ok (.istore_n 1, 1) := by decide +kernel
theorem dX6_likely_41 : decode cX6_likely 41 = .ok (.iinc 2 1, 3) := by decide +kernel
theorem dX6_likely_44 : decode cX6_likely 44 = .ok (.goto (-40), 3) := by decide +kernel
theorem dX6_likely_47 : decode cX6_likely 47 = .ok (.iload_n 1, 1) := by decide +kernel
theorem dX6_likely_48 : decode cX6_likely 48 = .ok (.ireturn, 1) := by decide +kernel
set_option maxRecDepth 20000 in
theorem ggX6_mark_X6_in : GoodIn wsX6_mark wsX6_in := goodIn_r _ [14] (by decide +kernel) (by decide +kernel)
set_option maxRecDepth 20000 in
theorem gX6_mark_X6_in : GoodIn wsX6_mark (va_wsS RX6 54 yX6_in wsX6_in) := goodIn_app (goodIn_of _ (by decide +kernel)) ggX6_mark_X6_in
set_option maxRecDepth 20000 in
theorem ggX6_mark_X6_isRider : GoodIn wsX6_mark wsX6_isRider := goodIn_r _ [18, 3, 11, 12, 13, 14, 19, 20, 21, 22, 23, 24, 25, 26, 27, 28, 29, 30, 31, 32, 33, 34, 35, 36, 37, 38, 39] (by decide +kernel) (by decide +kernel)
set_option maxRecDepth 20000 in
theorem gX6_mark_X6_isRider : GoodIn wsX6_mark (wsV RX6 107 RX6 yX6_isRider wsX6_isRider) := goodIn_app (goodIn_of _ (by decide +kernel)) ggX6_mark_X6_isRider
theorem dX6_mark_0 : decode cX6_mark 0 = .ok (.iload_n 1, 1) := by decide +kernel
theorem dX6_mark_1 : decode cX6_mark 1 = .ok (.iconst 0, 1) := by decide +kernel
theorem dX6_mark_2 : decode cX6_mark 2 = .ok (.iconst 5, 1) := by decide +kernel
theorem dX6_mark_3 : decode cX6_mark 3 = .ok (.invokestatic 54, 3) := by decide +kernel
theorem dX6_mark_6 : decode cX6_mark 6 = .ok (.ifCond .eq 11, 3) := by decide +kernel
theorem dX6_mark_9 : decode cX6_mark 9 = .ok (.aload_n 0, 1) := by decide +kernel
theorem dX6_mark_10 : decode cX6_mark 10 = .ok (.iload_n 2, 1) := by decide +kernel
theorem dX6_mark_11 : decode cX6_mark 11 = .ok (.invokevirtual 107, 3) := by decide +kernel
theorem dX6_mark_14 : decode cX6_mark 14 = .ok (.ifCond .ne 6, 3) := by decide +kernel
theorem dX6_mark_17 : decode cX6_mark 17 = .ok (.ldc 169, 2) := by decide +kernel
theorem dX6_mark_19 : decode cX6_mark 19 = .ok (.ireturn, 1) := by decide +kernel
theorem dX6_mark_20 : decode cX6_mark 20 = .ok (.aload_n 0, 1) := by decide +kernel
theorem dX6_mark_21 : decode cX6_mark 21 = .ok (.getfield 29, 3) := by decide +kernel
theorem dX6_mark_24 : decode cX6_mark 24 = .ok (.iconst 4, 1) := by decide +kernel
theorem dX6_mark_25 : decode cX6_mark 25 = .ok (.iload_n 2, 1) := by decide +kernel
theorem dX6_mark_26 : decode cX6_mark 26 = .ok (.iadd, 1) := by decide +kernel
theorem dX6_mark_27 : decode cX6_mark 27 = .ok (.iaload, 1) := by decide +kernel
theorem dX6_mark_28 : decode cX6_mark 28 = .ok (.istore_n 3, 1) := by decide +kernel
theorem dX6_mark_29 : decode cX6_mark 29 = .ok (.iload_n 3, 1) := by decide +kernel
theorem dX6_mark_30 : decode cX6_mark 30 = .ok (.istore 4, 2) := by decide +kernel
theorem dX6_mark_32 : decode cX6_mark 32 = .ok (.iconst 0, 1) := by decide +kernel
theorem dX6_mark_33 : decode cX6_mark 33 = .ok (.istore 5, 2) := by decide +kernel
theorem dX6_mark_35 : decode cX6_mark 35 = .ok (.iload 5, 2) := by decide +kernel
theorem dX6_mark_37 : decode cX6_mark 37 = .ok (.aload_n 0, 1) := by decide +kernel
theorem dX6_mark_38 : decode cX6_mark 38 = .ok (.getfield 13, 3) := by decide +kernel
theorem dX6_mark_41 : decode cX6_mark 41 = .ok (.iconst 0, 1) := by decide +kernel
theorem dX6_mark_42 : decode cX6_mark 42 = .ok (.iaload, 1) := by decide +kernel
theorem dX6_mark_43 : decode cX6_mark 43 = .ok (.if_icmp .ge 43, 3) := by decide +kernel
theorem dX6_mark_46 : decode cX6_mark 46 = .ok (.iload 4, 2) := by decide +kernel
theorem dX6_mark_48 : decode cX6_mark 48 = .ok (.iload 5, 2) := by decide +kernel
theorem dX6_mark_50 : decode cX6_mark 50 = .ok (.iload_n 2, 1) := by decide +kernel
theorem dX6_mark_51 : decode cX6_mark 51 = .ok (.if_icmp .eq 25, 3) := by decide +kernel
theorem dX6_mark_54 : decode cX6_mark 54 = .ok (.aload_n 0, 1) := by decide +kernel
theorem dX6_mark_55 : decode cX6_mark 55 = .ok (.getfield 29, 3) := by decide +kernel
theorem dX6_mark_58 : decode cX6_mark 58 = .ok (.bipush 16, 2) := by decide +kernel
theorem dX6_mark_60 : decode cX6_mark 60 = .ok (.bipush 6, 2) := by decide +kernel
theorem dX6_mark_62 : decode cX6_mark 62 = .ok (.iload 5, 2) := by decide +kernel
theorem dX6_mark_64 : decode cX6_mark 64 = .ok (.imul, 1) := by decide +kernel
theorem dX6_mark_65 : decode cX6_mark 65 = .ok (.iadd, 1) := by decide +kernel
theorem dX6_mark_66 : decode cX6_mark 66 = .ok (.iload_n 2, 1) := by decide +kernel
theorem dX6_mark_67 : decode cX6_mark 67 = .ok (.iadd, 1) := by decide +kernel
theorem dX6_mark_68 : decode cX6_mark 68 = .ok (.iaload, 1) := by decide +kernel
theorem dX6_mark_69 : decode cX6_mark 69 = .ok (.ifCond .le 7, 3) := by decide +kernel
theorem dX6_mark_72 : decode cX6_mark 72 = .ok (.iconst 1, 1) := by decide +kernel
theorem dX6_mark_73 : decode cX6_mark 73 = .ok (.goto 4, 3) := by decide +kernel
theorem dX6_mark_76 : decode cX6_mark 76 = .ok (.iconst 0, 1) := by decide +kernel
theorem dX6_mark_77 : decode cX6_mark 77 = .ok (.isub, 1) := by decide +kernel
theorem dX6_mark_78 : decode cX6_mark 78 = .ok (.istore 4, 2) := by decide +kernel
theorem dX6_mark_80 : decode cX6_mark 80 = .ok (.iinc 5 1, 3) := by decide +kernel
theorem dX6_mark_83 : decode cX6_mark 83 = .ok (.goto (-48), 3) := by decide +kernel
theorem dX6_mark_86 : decode cX6_mark 86 = .ok (.iload_n 1, 1) := by decide +kernel
theorem dX6_mark_87 : decode cX6_mark 87 = .ok (.tableswitch 121 0 4 #[33, 45, 66, 81, 104], 33) := by decide +kernel
theorem dX6_mark_120 : decode cX6_mark 120 = .ok (.aload_n 0, 1) := by decide +kernel
theorem dX6_mark_121 : decode cX6_mark 121 = .ok (.dup, 1) := by decide +kernel
theorem dX6_mark_122 : decode cX6_mark 122 = .ok (.getfield 170, 3) := by decide +kernel
theorem dX6_mark_125 : decode cX6_mark 125 = .ok (.lconst 1, 1) := by decide +kernel
theorem dX6_mark_126 : decode cX6_mark 126 = .ok (.ladd, 1) := by decide +kernel
theorem dX6_mark_127 : decode cX6_mark 127 = .ok (.putfield 170, 3) := by decide +kernel
theorem dX6_mark_130 : decode cX6_mark 130 = .ok (.iload_n 3, 1) := by decide +kernel
theorem dX6_mark_131 : decode cX6_mark 131 = .ok (.ireturn, 1) := by decide +kernel
theorem dX6_mark_132 : decode cX6_mark 132 = .ok (.aload_n 0, 1) := by decide +kernel
theorem dX6_mark_133 : decode cX6_mark 133 = .ok (.dup, 1) := by decide +kernel
theorem dX6_mark_134 : decode cX6_mark 134 = .ok (.getfield 170, 3) := by decide +kernel
theorem dX6_mark_137 : decode cX6_mark 137 = .ok (.ldc2_w 174, 3) := by decide +kernel
theorem dX6_mark_140 : decode cX6_mark 140 = .ok (.ladd, 1) := by decide +kernel
theorem dX6_mark_141 : decode cX6_mark 141 = .ok (.putfield 170, 3) := by decide +kernel
theorem dX6_mark_144 : decode cX6_mark 144 = .ok (.iload_n 3, 1) := by decide +kernel
theorem dX6_mark_145 : decode cX6_mark 145 = .ok (.aload_n 0, 1) := by decide +kernel
theorem dX6_mark_146 : decode cX6_mark 146 = .ok (.getfield 20, 3) := by decide +kernel
theorem dX6_mark_149 : decode cX6_mark 149 = .ok (.iload_n 2, 1) := by decide +kernel
theorem dX6_mark_150 : decode cX6_mark 150 = .ok (.iaload, 1) := by decide +kernel
theorem dX6_mark_151 : decode cX6_mark 151 = .ok (.iadd, 1) := by decide +kernel
theorem dX6_mark_152 : decode cX6_mark 152 = .ok (.ireturn, 1) := by decide +kernel
theorem dX6_mark_153 : decode cX6_mark 153 = .ok (.aload_n 0, 1) := by decide +kernel
theorem dX6_mark_154 : decode cX6_mark 154 = .ok (.dup, 1) := by decide +kernel
theorem dX6_mark_155 : decode cX6_mark 155 = .ok (.getfield 170, 3) := by decide +kernel
theorem dX6_mark_158 : decode cX6_mark 158 = .ok (.ldc2_w 176, 3) := by decide +kernel
theorem dX6_mark_161 : decode cX6_mark 161 = .ok (.ladd, 1) := by decide +kernel
theorem dX6_mark_162 : decode cX6_mark 162 = .ok (.putfield 170, 3) := by decide +kernel
theorem dX6_mark_165 : decode cX6_mark 165 = .ok (.iload 4, 2) := by decide +kernel
theorem dX6_mark_167 : decode cX6_mark 167 = .ok (.ireturn, 1) := by decide +kernel
theorem dX6_mark_168 : decode cX6_mark 168 = .ok (.aload_n 0, 1) := by decide +kernel
theorem dX6_mark_169 : decode cX6_mark 169 = .ok (.dup, 1) := by decide +kernel
theorem dX6_mark_170 : decode cX6_mark 170 = .ok (.getfield 170, 3) := by decide +kernel
theorem dX6_mark_173 : decode cX6_mark 173 = .ok (.ldc2_w 178, 3) := by decide +kernel
theorem dX6_mark_176 : decode cX6_mark 176 = .ok (.ladd, 1) := by decide +kernel
theorem dX6_mark_177 : decode cX6_mark 177 = .ok (.putfield 170, 3) := by decide +kernel
theorem dX6_mark_180 : decode cX6_mark 180 = .ok (.iconst 2, 1) := by decide +kernel
theorem dX6_mark_181 : decode cX6_mark 181 = .ok (.iload_n 3, 1) := by decide +kernel
theorem dX6_mark_182 : decode cX6_mark 182 = .ok (.aload_n 0, 1) := by decide +kernel
theorem dX6_mark_183 : decode cX6_mark 183 = .ok (.getfield 20, 3) := by decide +kernel
theorem dX6_mark_186 : decode cX6_mark 186 = .ok (.iload_n 2, 1) := by decide +kernel
theorem dX6_mark_187 : decode cX6_mark 187 = .ok (.iaload, 1) := by decide +kernel
theorem dX6_mark_188 : decode cX6_mark 188 = .ok (.iadd, 1) := by decide +kernel
theorem dX6_mark_189 : decode cX6_mark 189 = .ok (.imul, 1) := by decide +kernel
theorem dX6_mark_190 : decode cX6_mark 190 = .ok (.ireturn, 1) := by decide +kernel
theorem dX6_mark_191 : decode cX6_mark 191 = .ok (.aload_n 0, 1) := by decide +kernel
theorem dX6_mark_192 : decode cX6_mark 192 = .ok (.dup, 1) := by decide +kernel
theorem dX6_mark_193 : decode cX6_mark 193 = .ok (.getfield 170, 3) := by decide +kernel
theorem dX6_mark_196 : decode cX6_mark 196 = .ok (.ldc2_w 180, 3) := by decide +kernel
theorem dX6_mark_199 : decode cX6_mark 199 = .ok (.ladd, 1) := by decide +kernel
theorem dX6_mark_200 : decode cX6_mark 200 = .ok (.putfield 170, 3) := by decide +kernel
theorem dX6_mark_203 : decode cX6_mark 203 = .ok (.iload 4, 2) := by decide +kernel
theorem dX6_mark_205 : decode cX6_mark 205 = .ok (.iload_n 2, 1) := by decide +kernel
theorem dX6_mark_206 : decode cX6_mark 206 = .ok (.iadd, 1) := by decide +kernel
theorem dX6_mark_207 : decode cX6_mark 207 = .ok (.ireturn, 1) := by decide +kernel
theorem dX6_mark_208 : decode cX6_mark 208 = .ok (.aload_n 0, 1) := by decide +kernel
theorem dX6_mark_209 : decode cX6_mark 209 = .ok (.dup, 1) := by decide +kernel
theorem dX6_mark_210 : decode cX6_mark 210 = .ok (.getfield 170, 3) := by decide +kernel
theorem dX6_mark_213 : decode cX6_mark 213 = .ok (.ldc2_w 182, 3) := by decide +kernel
theorem dX6_mark_216 : decode cX6_mark 216 = .ok (.ladd, 1) := by decide +kernel
theorem dX6_mark_217 : decode cX6_mark 217 = .ok (.putfield 170, 3) := by decide +kernel
theorem dX6_mark_220 : decode cX6_mark 220 = .ok (.iload_n 3, 1) := by decide +kernel
theorem dX6_mark_221 : decode cX6_mark 221 = .ok (.aload_n 0, 1) := by decide +kernel
theorem dX6_mark_222 : decode cX6_mark 222 = .ok (.getfield 29, 3) := by decide +kernel
theorem dX6_mark_225 : decode cX6_mark 225 = .ok (.iconst 0, 1) := by decide +kernel
theorem dX6_mark_226 : decode cX6_mark 226 = .ok (.iaload, 1) := by decide +kernel
theorem dX6_mark_227 : decode cX6_mark 227 = .ok (.iadd, 1) := by decide +kernel
theorem dX6_mark_228 : decode cX6_mark 228 = .ok (.ireturn, 1) := by decide +kernel
set_option maxRecDepth 20000 in
theorem ggX6_keep_X6_in : GoodIn wsX6_keep wsX6_in := goodIn_r _ [6] (by decide +kernel) (by decide +kernel)
set_option maxRecDepth 20000 in
theorem gX6_keep_X6_in : GoodIn wsX6_keep (va_wsS RX6 54 yX6_in wsX6_in) := goodIn_app (goodIn_of _ (by decide +kernel)) ggX6_keep_X6_in
theorem dX6_keep_0 : decode cX6_keep 0 = .ok (.iload_n 1, 1) := by decide +kernel
theorem dX6_keep_1 : decode cX6_keep 1 = .ok (.iconst 0, 1) := by decide +kernel
theorem dX6_keep_2 : decode cX6_keep 2 = .ok (.iconst 1, 1) := by decide +kernel
theorem dX6_keep_3 : decode cX6_keep 3 = .ok (.invokestatic 54, 3) := by decide +kernel
theorem dX6_keep_6 : decode cX6_keep 6 = .ok (.ifCond .ne 5, 3) := by decide +kernel
theorem dX6_keep_9 : decode cX6_keep 9 = .ok (.iconst (-1), 1) := by decide +kernel
theorem dX6_keep_10 : decode cX6_keep 10 = .ok (.ireturn, 1) := by decide +kernel
theorem dX6_keep_11 : decode cX6_keep 11 = .ok (.iconst 0, 1) := by decide +kernel
theorem dX6_keep_12 : decode cX6_keep 12 = .ok (.istore_n 2, 1) := by decide +kernel
theorem dX6_keep_13 : decode cX6_keep 13 = .ok (.iload_n 2, 1) := by decide +kernel
theorem dX6_keep_14 : decode cX6_keep 14 = .ok (.sipush 573, 3) := by decide +kernel
theorem dX6_keep_17 : decode cX6_keep 17 = .ok (.if_icmp .ge 29, 3) := by decide +kernel
theorem dX6_keep_20 : decode cX6_keep 20 = .ok (.aload_n 0, 1) := by decide +kernel
theorem dX6_keep_21 : decode cX6_keep 21 = .ok (.getfield 29, 3) := by decide +kernel
theorem dX6_keep_24 : decode cX6_keep 24 = .ok (.sipush 573, 3) := by decide +kernel
theorem dX6_keep_27 : decode cX6_keep 27 = .ok (.iconst 1, 1) := by decide +kernel
theorem dX6_keep_28 : decode cX6_keep 28 = .ok (.iload_n 1, 1) := by decide +kernel
theorem dX6_keep_29 : decode cX6_keep 29 = .ok (.iadd, 1) := by decide +kernel
theorem dX6_keep_30 : decode cX6_keep 30 = .ok (.imul, 1) := by decide +kernel
theorem dX6_keep_31 : decode cX6_keep 31 = .ok (.iload_n 2, 1) := by decide +kernel
theorem dX6_keep_32 : decode cX6_keep 32 = .ok (.iadd, 1) := by decide +kernel
theorem dX6_keep_33 : decode cX6_keep 33 = .ok (.aload_n 0, 1) := by decide +kernel
theorem dX6_keep_34 : decode cX6_keep 34 = .ok (.getfield 29, 3) := by decide +kernel
theorem dX6_keep_37 : decode cX6_keep 37 = .ok (.iload_n 2, 1) := by decide +kernel
theorem dX6_keep_38 : decode cX6_keep 38 = .ok (.iaload, 1) := by decide +kernel
theorem dX6_keep_39 : decode cX6_keep 39 = .ok (.iastore, 1) := by decide +kernel
theorem dX6_keep_40 : decode cX6_keep 40 = .ok (.iinc 2 1, 3) := by decide +kernel
theorem dX6_keep_43 : decode cX6_keep 43 = .ok (.goto (-30), 3) := by decide +kernel
theorem dX6_keep_46 : decode cX6_keep 46 = .ok (.aload_n 0, 1) := by decide +kernel
theorem dX6_keep_47 : decode cX6_keep 47 = .ok (.getfield 32, 3) := by decide +kernel
theorem dX6_keep_50 : decode cX6_keep 50 = .ok (.iload_n 1, 1) := by decide +kernel
theorem dX6_keep_51 : decode cX6_keep 51 = .ok (.iconst 1, 1) := by decide +kernel
theorem dX6_keep_52 : decode cX6_keep 52 = .ok (.bastore, 1) := by decide +kernel
theorem dX6_keep_53 : decode cX6_keep 53 = .ok (.aload_n 0, 1) := by decide +kernel
theorem dX6_keep_54 : decode cX6_keep 54 = .ok (.getfield 29, 3) := by decide +kernel
theorem dX6_keep_57 : decode cX6_keep 57 = .ok (.iconst 0, 1) := by decide +kernel
theorem dX6_keep_58 : decode cX6_keep 58 = .ok (.iaload, 1) := by decide +kernel
theorem dX6_keep_59 : decode cX6_keep 59 = .ok (.ireturn, 1) := by decide +kernel
set_option maxRecDepth 20000 in
theorem ggX6_back_X6_in : GoodIn wsX6_back wsX6_in := goodIn_r _ [6] (by decide +kernel) (by decide +kernel)
set_option maxRecDepth 20000 in
theorem gX6_back_X6_in : GoodIn wsX6_back (va_wsS RX6 54 yX6_in wsX6_in) := goodIn_app (goodIn_of _ (by decide +kernel)) ggX6_back_X6_in
theorem dX6_back_0 : decode cX6_back 0 = .ok (.iload_n 1, 1) := by decide +kernel
theorem dX6_back_1 : decode cX6_back 1 = .ok (.iconst 0, 1) := by decide +kernel
theorem dX6_back_2 : decode cX6_back 2 = .ok (.iconst 1, 1) := by decide +kernel
theorem dX6_back_3 : decode cX6_back 3 = .ok (.invokestatic 54, 3) := by decide +kernel
theorem dX6_back_6 : decode cX6_back 6 = .ok (.ifCond .ne 5, 3) := by decide +kernel
theorem dX6_back_9 : decode cX6_back 9 = .ok (.iconst (-1), 1) := by decide +kernel
theorem dX6_back_10 : decode cX6_back 10 = .ok (.ireturn, 1) := by decide +kernel
theorem dX6_back_11 : decode cX6_back 11 = .ok (.aload_n 0, 1) := by decide +kernel
theorem dX6_back_12 : decode cX6_back 12 = .ok (.getfield 32, 3) := by decide +kernel
theorem dX6_back_15 : decode cX6_back 15 = .ok (.iload_n 1, 1) := by decide +kernel
theorem dX6_back_16 : decode cX6_back 16 = .ok (.baload, 1) := by decide +kernel
theorem dX6_back_17 : decode cX6_back 17 = .ok (.ifCond .ne 6, 3) := by decide +kernel
theorem dX6_back_20 : decode cX6_back 20 = .ok (.bipush (-2), 2) := by decide +kernel
theorem dX6_back_22 : decode cX6_back 22 = .ok (.ireturn, 1) := by decide +kernel
theorem dX6_back_23 : decode cX6_back 23 = .ok (.iconst 0, 1) := by decide +kernel
theorem dX6_back_24 : decode cX6_back 24 = .ok (.istore_n 2, 1) := by decide +kernel
theorem dX6_back_25 : decode cX6_back 25 = .ok (.iload_n 2, 1) := by decide +kernel
theorem dX6_back_26 : decode cX6_back 26 = .ok (.sipush 573, 3) := by decide +kernel
theorem dX6_back_29 : decode cX6_back 29 = .ok (.if_icmp .ge 29, 3) := by decide +kernel
theorem dX6_back_32 : decode cX6_back 32 = .ok (.aload_n 0, 1) := by decide +kernel
theorem dX6_back_33 : decode cX6_back 33 = .ok (.getfield 29, 3) := by decide +kernel
theorem dX6_back_36 : decode cX6_back 36 = .ok (.iload_n 2, 1) := by decide +kernel
theorem dX6_back_37 : decode cX6_back 37 = .ok (.aload_n 0, 1) := by decide +kernel
theorem dX6_back_38 : decode cX6_back 38 = .ok (.getfield 29, 3) := by decide +kernel
theorem dX6_back_41 : decode cX6_back 41 = .ok (.sipush 573, 3) := by decide +kernel
theorem dX6_back_44 : decode cX6_back 44 = .ok (.iconst 1, 1) := by decide +kernel
theorem dX6_back_45 : decode cX6_back 45 = .ok (.iload_n 1, 1) := by decide +kernel
theorem dX6_back_46 : decode cX6_back 46 = .ok (.iadd, 1) := by decide +kernel
theorem dX6_back_47 : decode cX6_back 47 = .ok (.imul, 1) := by decide +kernel
theorem dX6_back_48 : decode cX6_back 48 = .ok (.iload_n 2, 1) := by decide +kernel
theorem dX6_back_49 : decode cX6_back 49 = .ok (.iadd, 1) := by decide +kernel
theorem dX6_back_50 : decode cX6_back 50 = .ok (.iaload, 1) := by decide +kernel
theorem dX6_back_51 : decode cX6_back 51 = .ok (.iastore, 1) := by decide +kernel
theorem dX6_back_52 : decode cX6_back 52 = .ok (.iinc 2 1, 3) := by decide +kernel
theorem dX6_back_55 : decode cX6_back 55 = .ok (.goto (-30), 3) := by decide +kernel
theorem dX6_back_58 : decode cX6_back 58 = .ok (.aload_n 0, 1) := by decide +kernel
theorem dX6_back_59 : decode cX6_back 59 = .ok (.getfield 29, 3) := by decide +kernel
theorem dX6_back_62 : decode cX6_back 62 = .ok (.iconst 0, 1) := by decide +kernel
theorem dX6_back_63 : decode cX6_back 63 = .ok (.iaload, 1) := by decide +kernel
theorem dX6_back_64 : decode cX6_back 64 = .ok (.ireturn, 1) := by decide +kernel
theorem dX6_count_0 : decode cX6_count 0 = .ok (.iload_n 1, 1) := by decide +kernel
theorem dX6_count_1 : decode cX6_count 1 = .ok (.tableswitch 67 0 4 #[35, 42, 49, 54, 62], 35) := by decide +kernel
theorem dX6_count_36 : decode cX6_count 36 = .ok (.aload_n 0, 1) := by decide +kernel
theorem dX6_count_37 : decode cX6_count 37 = .ok (.getfield 13, 3) := by decide +kernel
theorem dX6_count_40 : decode cX6_count 40 = .ok (.iconst 0, 1) := by decide +kernel
theorem dX6_count_41 : decode cX6_count 41 = .ok (.iaload, 1) := by decide +kernel
theorem dX6_count_42 : decode cX6_count 42 = .ok (.ireturn, 1) := by decide +kernel
theorem dX6_count_43 : decode cX6_count 43 = .ok (.aload_n 0, 1) := by decide +kernel
theorem dX6_count_44 : decode cX6_count 44 = .ok (.getfield 26, 3) := by decide +kernel
theorem dX6_count_47 : decode cX6_count 47 = .ok (.iconst 0, 1) := by decide +kernel
theorem dX6_count_48 : decode cX6_count 48 = .ok (.iaload, 1) := by decide +kernel
theorem dX6_count_49 : decode cX6_count 49 = .ok (.ireturn, 1) := by decide +kernel
theorem dX6_count_50 : decode cX6_count 50 = .ok (.aload_n 0, 1) := by decide +kernel
theorem dX6_count_51 : decode cX6_count 51 = .ok (.getfield 96, 3) := by decide +kernel
theorem dX6_count_54 : decode cX6_count 54 = .ok (.ireturn, 1) := by decide +kernel
theorem dX6_count_55 : decode cX6_count 55 = .ok (.aload_n 0, 1) := by decide +kernel
theorem dX6_count_56 : decode cX6_count 56 = .ok (.getfield 29, 3) := by decide +kernel
theorem dX6_count_59 : decode cX6_count 59 = .ok (.bipush 52, 2) := by decide +kernel
theorem dX6_count_61 : decode cX6_count 61 = .ok (.iaload, 1) := by decide +kernel
theorem dX6_count_62 : decode cX6_count 62 = .ok (.ireturn, 1) := by decide +kernel
theorem dX6_count_63 : decode cX6_count 63 = .ok (.aload_n 0, 1) := by decide +kernel
theorem dX6_count_64 : decode cX6_count 64 = .ok (.getfield 58, 3) := by decide +kernel
theorem dX6_count_67 : decode cX6_count 67 = .ok (.ireturn, 1) := by decide +kernel
theorem dX6_count_68 : decode cX6_count 68 = .ok (.iconst (-1), 1) := by decide +kernel
theorem dX6_count_69 : decode cX6_count 69 = .ok (.ireturn, 1) := by decide +kernel
theorem dX6_trace_0 : decode cX6_trace 0 = .ok (.aload_n 0, 1) := by decide +kernel
theorem dX6_trace_1 : decode cX6_trace 1 = .ok (.getfield 170, 3) := by decide +kernel
theorem dX6_trace_4 : decode cX6_trace 4 = .ok (.lreturn, 1) := by decide +kernel
theorem dJ6_bitCount_0f7a4_0 : decode cJ6_bitCount_0f7a4 0 = .ok (.iload_n 0, 1) := by decide +kernel
theorem dJ6_bitCount_0f7a4_1 : decode cJ6_bitCount_0f7a4 1 = .ok (.iload_n 0, 1) := by decide +kernel
theorem dJ6_bitCount_0f7a4_2 : decode cJ6_bitCount_0f7a4 2 = .ok (.iconst 1, 1) := by decide +kernel
theorem dJ6_bitCount_0f7a4_3 : decode cJ6_bitCount_0f7a4 3 = .ok (.iushr, 1) := by decide +kernel
theorem dJ6_bitCount_0f7a4_4 : decode cJ6_bitCount_0f7a4 4 = .ok (.ldc_w 265, 3) := by decide +kernel
theorem dJ6_bitCount_0f7a4_7 : decode cJ6_bitCount_0f7a4 7 = .ok (.iand, 1) := by decide +kernel
theorem dJ6_bitCount_0f7a4_8 : decode cJ6_bitCount_0f7a4 8 = .ok (.isub, 1) := by decide +kernel
theorem dJ6_bitCount_0f7a4_9 : decode cJ6_bitCount_0f7a4 9 = .ok (.istore_n 0, 1) := by decide +kernel
theorem dJ6_bitCount_0f7a4_10 : decode cJ6_bitCount_0f7a4 10 = .ok (.iload_n 0, 1) := by decide +kernel
theorem dJ6_bitCount_0f7a4_11 : decode cJ6_bitCount_0f7a4 11 = .ok (.ldc_w 266, 3) := by decide +kernel
theorem dJ6_bitCount_0f7a4_14 : decode cJ6_bitCount_0f7a4 14 = .ok (.iand, 1) := by decide +kernel
theorem dJ6_bitCount_0f7a4_15 : decode cJ6_bitCount_0f7a4 15 = .ok (.iload_n 0, 1) := by decide +kernel
theorem dJ6_bitCount_0f7a4_16 : decode cJ6_bitCount_0f7a4 16 = .ok (.iconst 2, 1) := by decide +kernel
theorem dJ6_bitCount_0f7a4_17 : decode cJ6_bitCount_0f7a4 17 = .ok (.iushr, 1) := by decide +kernel
theorem dJ6_bitCount_0f7a4_18 : decode cJ6_bitCount_0f7a4 18 = .ok (.ldc_w 266, 3) := by decide +kernel
theorem dJ6_bitCount_0f7a4_21 : decode cJ6_bitCount_0f7a4 21 = .ok (.iand, 1) := by decide +kernel
theorem dJ6_bitCount_0f7a4_22 : decode cJ6_bitCount_0f7a4 22 = .ok (.iadd, 1) := by decide +kernel
theorem dJ6_bitCount_0f7a4_23 : decode cJ6_bitCount_0f7a4 23 = .ok (.istore_n 0, 1) := by decide +kernel
theorem dJ6_bitCount_0f7a4_24 : decode cJ6_bitCount_0f7a4 24 = .ok (.iload_n 0, 1) := by decide +kernel
theorem dJ6_bitCount_0f7a4_25 : decode cJ6_bitCount_0f7a4 25 = .ok (.iload_n 0, 1) := by decide +kernel
theorem dJ6_bitCount_0f7a4_26 : decode cJ6_bitCount_0f7a4 26 = .ok (.iconst 4, 1) := by decide +kernel
theorem dJ6_bitCount_0f7a4_27 : decode cJ6_bitCount_0f7a4 27 = .ok (.iushr, 1) := by decide +kernel
theorem dJ6_bitCount_0f7a4_28 : decode cJ6_bitCount_0f7a4 28 = .ok (.iadd, 1) := by decide +kernel
theorem dJ6_bitCount_0f7a4_29 : decode cJ6_bitCount_0f7a4 29 = .ok (.ldc_w 267, 3) := by decide +kernel
theorem dJ6_bitCount_0f7a4_32 : decode cJ6_bitCount_0f7a4 32 = .ok (.iand, 1) := by decide +kernel
theorem dJ6_bitCount_0f7a4_33 : decode cJ6_bitCount_0f7a4 33 = .ok (.istore_n 0, 1) := by decide +kernel
theorem dJ6_bitCount_0f7a4_34 : decode cJ6_bitCount_0f7a4 34 = .ok (.iload_n 0, 1) := by decide +kernel
theorem dJ6_bitCount_0f7a4_35 : decode cJ6_bitCount_0f7a4 35 = .ok (.iload_n 0, 1) := by decide +kernel
theorem dJ6_bitCount_0f7a4_36 : decode cJ6_bitCount_0f7a4 36 = .ok (.bipush 8, 2) := by decide +kernel
theorem dJ6_bitCount_0f7a4_38 : decode cJ6_bitCount_0f7a4 38 = .ok (.iushr, 1) := by decide +kernel
theorem dJ6_bitCount_0f7a4_39 : decode cJ6_bitCount_0f7a4 39 = .ok (.iadd, 1) := by decide +kernel
theorem dJ6_bitCount_0f7a4_40 : decode cJ6_bitCount_0f7a4 40 = .ok (.istore_n 0, 1) := by decide +kernel
theorem dJ6_bitCount_0f7a4_41 : decode cJ6_bitCount_0f7a4 41 = .ok (.iload_n 0, 1) := by decide +kernel
theorem dJ6_bitCount_0f7a4_42 : decode cJ6_bitCount_0f7a4 42 = .ok (.iload_n 0, 1) := by decide +kernel
theorem dJ6_bitCount_0f7a4_43 : decode cJ6_bitCount_0f7a4 43 = .ok (.bipush 16, 2) := by decide +kernel
theorem dJ6_bitCount_0f7a4_45 : decode cJ6_bitCount_0f7a4 45 = .ok (.iushr, 1) := by decide +kernel
theorem dJ6_bitCount_0f7a4_46 : decode cJ6_bitCount_0f7a4 46 = .ok (.iadd, 1) := by decide +kernel
theorem dJ6_bitCount_0f7a4_47 : decode cJ6_bitCount_0f7a4 47 = .ok (.istore_n 0, 1) := by decide +kernel
theorem dJ6_bitCount_0f7a4_48 : decode cJ6_bitCount_0f7a4 48 = .ok (.iload_n 0, 1) := by decide +kernel
theorem dJ6_bitCount_0f7a4_49 : decode cJ6_bitCount_0f7a4 49 = .ok (.bipush 63, 2) := by decide +kernel
theorem dJ6_bitCount_0f7a4_51 : decode cJ6_bitCount_0f7a4 51 = .ok (.iand, 1) := by decide +kernel
theorem dJ6_bitCount_0f7a4_52 : decode cJ6_bitCount_0f7a4 52 = .ok (.ireturn, 1) := by decide +kernel
theorem dJ9_abs_0f7a4_0 : decode cJ9_abs_0f7a4 0 = .ok (.iload_n 0, 1) := by decide +kernel
theorem dJ9_abs_0f7a4_1 : decode cJ9_abs_0f7a4 1 = .ok (.ifCond .ge 8, 3) := by decide +kernel
theorem dJ9_abs_0f7a4_4 : decode cJ9_abs_0f7a4 4 = .ok (.iload_n 0, 1) := by decide +kernel
theorem dJ9_abs_0f7a4_5 : decode cJ9_abs_0f7a4 5 = .ok (.ineg, 1) := by decide +kernel
theorem dJ9_abs_0f7a4_6 : decode cJ9_abs_0f7a4 6 = .ok (.goto 4, 3) := by decide +kernel
theorem dJ9_abs_0f7a4_9 : decode cJ9_abs_0f7a4 9 = .ok (.iload_n 0, 1) := by decide +kernel
theorem dJ9_abs_0f7a4_10 : decode cJ9_abs_0f7a4 10 = .ok (.ireturn, 1) := by decide +kernel
theorem dJ9_min_7cf53_0 : decode cJ9_min_7cf53 0 = .ok (.iload_n 0, 1) := by decide +kernel
theorem dJ9_min_7cf53_1 : decode cJ9_min_7cf53 1 = .ok (.iload_n 1, 1) := by decide +kernel
theorem dJ9_min_7cf53_2 : decode cJ9_min_7cf53 2 = .ok (.if_icmp .gt 7, 3) := by decide +kernel
theorem dJ9_min_7cf53_5 : decode cJ9_min_7cf53 5 = .ok (.iload_n 0, 1) := by decide +kernel
theorem dJ9_min_7cf53_6 : decode cJ9_min_7cf53 6 = .ok (.goto 4, 3) := by decide +kernel
theorem dJ9_min_7cf53_9 : decode cJ9_min_7cf53 9 = .ok (.iload_n 1, 1) := by decide +kernel
theorem dJ9_min_7cf53_10 : decode cJ9_min_7cf53 10 = .ok (.ireturn, 1) := by decide +kernel
set_option maxRecDepth 20000 in
theorem ggL_law_X5_init : GoodIn wsL_law wsX5_init := goodIn_r _ [8, 9, 10, 11, 12, 13, 14, 15, 16, 17, 18, 19, 20, 21, 22, 23, 24, 25, 26, 27, 28, 29, 30, 31, 32, 33, 34, 35, 36, 37, 38, 39, 40, 41, 42, 43, 44, 45, 46, 47, 48, 49, 50, 51, 52, 53, 54, 55, 56, 57, 58, 59, 60, 61, 62, 63, 64, 65, 66, 67, 2, 68, 69, 70, 71, 72, 73, 74, 75, 76, 77, 78, 79, 80, 81, 82, 83, 84, 85, 86, 87, 735, 736, 737, 738, 739, 740, 741, 703, 704, 705, 706, 707, 708, 709, 710, 711, 712, 713, 742, 743, 744, 745, 746, 747, 748, 749, 750, 751, 752, 753, 754, 755, 756, 757, 758, 759] (by decide +kernel) (by decide +kernel)
set_option maxRecDepth 20000 in
theorem gL_law_X5_init : GoodIn wsL_law (wsX5_init) := ggL_law_X5_init
set_option maxRecDepth 20000 in
theorem ggL_law_X6_init : GoodIn wsL_law wsX6_init := goodIn_r _ [90, 91, 10, 11, 92, 93, 30, 94, 95, 96, 97, 98, 99, 100, 101, 102, 103, 104, 105, 106, 107, 108, 5, 109, 110, 111, 112, 113, 114, 115, 714, 715, 716, 717, 718, 719, 720, 721, 722, 723, 724, 725, 726, 727, 728, 729, 730, 731, 732, 733, 734] (by decide +kernel) (by decide +kernel)
set_option maxRecDepth 20000 in
theorem gL_law_X6_init : GoodIn wsL_law (wsX6_init) := ggL_law_X6_init
set_option maxRecDepth 20000 in
theorem ggL_law_X5_type : GoodIn wsL_law wsX5_type := goodIn_r _ [119, 15, 120, 121, 122, 123, 14, 124, 125, 36, 703, 704, 705, 706, 707, 708, 709, 710, 711, 712, 713, 735, 736, 737, 738, 739, 740, 741] (by decide +kernel) (by decide +kernel)
set_option maxRecDepth 20000 in
theorem gL_law_X5_type : GoodIn wsL_law (wsV RL 13 RX5 yX5_type wsX5_type) := goodIn_app (goodIn_of _ (by decide +kernel)) ggL_law_X5_type
set_option maxRecDepth 20000 in
theorem ggL_law_X6_type : GoodIn wsL_law wsX6_type := goodIn_r _ [129, 130, 93, 131, 132, 5, 133, 714, 715, 716, 717, 718, 719, 720, 721, 722, 723, 724, 725, 726, 727, 728, 729, 730, 731, 732, 733, 734] (by decide +kernel) (by decide +kernel)
set_option maxRecDepth 20000 in
theorem gL_law_X6_type : GoodIn wsL_law (wsV RL 17 RX6 yX6_type wsX6_type) := goodIn_app (goodIn_of _ (by decide +kernel)) ggL_law_X6_type
set_option maxRecDepth 20000 in
theorem ggL_law_X5_clear : GoodIn wsL_law wsX5_clear := goodIn_r _ [137, 15, 120, 703, 704, 705, 706, 707, 708, 709, 710, 711, 712, 713, 735, 736, 737, 738, 739, 740, 741] (by decide +kernel) (by decide +kernel)
set_option maxRecDepth 20000 in
theorem gL_law_X5_clear : GoodIn wsL_law (wsV RL 18 RX5 yX5_clear wsX5_clear) := goodIn_app (goodIn_of _ (by decide +kernel)) ggL_law_X5_clear
set_option maxRecDepth 20000 in
theorem ggL_law_X6_clear : GoodIn wsL_law wsX6_clear := goodIn_r _ [141, 130, 714, 715, 716, 717, 718, 719, 720, 721, 722, 723, 724, 725, 726, 727, 728, 729, 730, 731, 732, 733, 734] (by decide +kernel) (by decide +kernel)
set_option maxRecDepth 20000 in
theorem gL_law_X6_clear : GoodIn wsL_law (wsV RL 22 RX6 yX6_clear wsX6_clear) := goodIn_app (goodIn_of _ (by decide +kernel)) ggL_law_X6_clear
set_option maxRecDepth 20000 in
theorem ggL_law_X5_car : GoodIn wsL_law wsX5_car := goodIn_r _ [145, 15, 20, 19, 120, 146, 147, 148, 149, 14, 150, 151, 152, 153, 154, 155, 156, 157, 18, 158, 159, 160, 40, 161, 162, 163, 164, 165, 125, 36, 166, 167, 168, 169, 170, 171, 172, 173, 174, 175, 176, 177, 178, 179, 180, 181, 182, 183, 184, 185, 186, 187, 188, 189, 190, 191, 192, 193, 194, 195, 196, 197, 198, 199, 200, 201, 202, 203, 204, 205, 206, 207, 208, 209, 210, 211, 41, 212, 85, 86, 87, 42, 43, 65, 66, 67, 2, 68, 24, 69, 70, 71, 72, 73, 74, 75, 76, 28, 77, 78, 79, 80, 81, 82, 83, 56, 84, 57, 58, 703, 704, 705, 706, 707, 708, 709, 710, 711, 712, 713, 735, 736, 737, 738, 739, 740, 741, 742, 743, 744, 745, 746, 747, 748, 749, 757, 758, 759, 750, 751, 752, 753, 754, 755, 756] (by decide +kernel) (by decide +kernel)
set_option maxRecDepth 20000 in
theorem gL_law_X5_car : GoodIn wsL_law (wsV RL 23 RX5 yX5_car wsX5_car) := goodIn_app (goodIn_of _ (by decide +kernel)) ggL_law_X5_car
set_option maxRecDepth 20000 in
theorem ggL_law_X6_car : GoodIn wsL_law wsX6_car := goodIn_r _ [216, 217, 218, 219, 130, 106, 107, 108, 5, 109, 94, 98, 110, 220, 221, 222, 223, 224, 225, 226, 227, 228, 229, 93, 131, 132, 133, 230, 231, 232, 233, 234, 235, 236, 237, 238, 239, 240, 241, 95, 96, 97, 242, 243, 244, 245, 111, 112, 113, 114, 99, 115, 101, 714, 715, 716, 717, 718, 719, 720, 721, 722, 723, 724, 725, 726, 727, 728, 729, 730, 731, 732, 733, 734] (by decide +kernel) (by decide +kernel)
set_option maxRecDepth 20000 in
theorem gL_law_X6_car : GoodIn wsL_law (wsV RL 26 RX6 yX6_car wsX6_car) := goodIn_app (goodIn_of _ (by decide +kernel)) ggL_law_X6_car
set_option maxRecDepth 20000 in
theorem ggL_law_X5_rider : GoodIn wsL_law wsX5_rider := goodIn_r _ [249, 24, 69, 250, 19, 251, 252, 253, 254, 255, 256, 257, 2, 258, 259, 260, 261, 262, 28, 263, 80, 264, 265, 266, 267, 268, 269, 270, 271, 272, 273, 180, 274, 275, 276, 277, 278, 279, 280, 281, 282, 283, 284, 285, 286, 287, 288, 289, 58, 290, 291, 292, 703, 704, 705, 706, 707, 708, 709, 710, 711, 712, 713, 748, 749, 750, 751, 752, 753, 754, 755, 756, 742, 743, 744, 745, 746, 747] (by decide +kernel) (by decide +kernel)
set_option maxRecDepth 20000 in
theorem gL_law_X5_rider : GoodIn wsL_law (wsV RL 27 RX5 yX5_rider wsX5_rider) := goodIn_app (goodIn_of _ (by decide +kernel)) ggL_law_X5_rider
set_option maxRecDepth 20000 in
theorem ggL_law_X6_rider : GoodIn wsL_law wsX6_rider := goodIn_r _ [296, 99, 96, 97, 297, 298, 299, 5, 300, 94, 131, 132, 133, 301, 302, 303, 304, 305, 306, 307, 308, 309, 310, 311, 312, 313, 314, 315, 316, 317, 318, 319, 320, 321, 322, 323, 714, 715, 716, 717, 718, 719, 720, 721, 722, 723, 724, 725, 726, 727, 728, 729, 730, 731, 732, 733, 734] (by decide +kernel) (by decide +kernel)
set_option maxRecDepth 20000 in
theorem gL_law_X6_rider : GoodIn wsL_law (wsV RL 31 RX6 yX6_rider wsX6_rider) := goodIn_app (goodIn_of _ (by decide +kernel)) ggL_law_X6_rider
set_option maxRecDepth 20000 in
theorem ggL_law_X5_latest : GoodIn wsL_law wsX5_latest := goodIn_r _ [327, 24, 69, 328, 329, 330, 2, 331, 255, 256, 257, 258, 19, 259, 286, 287, 288, 28, 289, 58, 703, 704, 705, 706, 707, 708, 709, 710, 711, 712, 713, 748, 749, 742, 743, 744, 745, 746, 747, 750, 751, 752, 753, 754, 755, 756] (by decide +kernel) (by decide +kernel)
set_option maxRecDepth 20000 in
theorem gL_law_X5_latest : GoodIn wsL_law (wsV RL 32 RX5 yX5_latest wsX5_latest) := goodIn_app (goodIn_of _ (by decide +kernel)) ggL_law_X5_latest
set_option maxRecDepth 20000 in
theorem ggL_law_X6_latest : GoodIn wsL_law wsX6_latest := goodIn_r _ [335, 99, 297, 298, 299, 5, 300, 94, 131, 132, 133, 714, 715, 716, 717, 718, 719, 720, 721, 722, 723, 724, 725, 726, 727, 728, 729, 730, 731, 732, 733, 734] (by decide +kernel) (by decide +kernel)
set_option maxRecDepth 20000 in
theorem gL_law_X6_latest : GoodIn wsL_law (wsV RL 35 RX6 yX6_latest wsX6_latest) := goodIn_app (goodIn_of _ (by decide +kernel)) ggL_law_X6_latest
set_option maxRecDepth 20000 in
theorem ggL_law_X5_rides : GoodIn wsL_law wsX5_rides := goodIn_r _ [339, 24, 69, 340, 70, 341, 342, 343, 51, 344, 64, 345, 346, 347, 348, 349, 350, 351, 352, 353, 28, 354, 78, 80, 81, 82, 56, 84, 85, 86, 87, 57, 58, 355, 356, 357, 2, 358, 19, 259, 252, 264, 265, 266, 267, 250, 260, 261, 262, 263, 268, 269, 270, 271, 272, 273, 180, 274, 275, 276, 277, 278, 251, 279, 280, 281, 282, 359, 360, 361, 362, 703, 704, 705, 706, 707, 708, 709, 710, 711, 712, 713, 748, 749, 750, 751, 752, 753, 754, 755, 756, 757, 758, 759, 742, 743, 744, 745, 746, 747] (by decide +kernel) (by decide +kernel)
set_option maxRecDepth 20000 in
theorem gL_law_X5_rides : GoodIn wsL_law (wsV RL 36 RX5 yX5_rides wsX5_rides) := goodIn_app (goodIn_of _ (by decide +kernel)) ggL_law_X5_rides
set_option maxRecDepth 20000 in
theorem ggL_law_X6_rides : GoodIn wsL_law wsX6_rides := goodIn_r _ [366, 99, 367, 368, 369, 5, 370, 371, 372, 373, 374, 94, 97, 301, 302, 303, 304, 305, 306, 307, 308, 309, 310, 311, 312, 96, 313, 314, 315, 375, 376, 377, 714, 715, 716, 717, 718, 719, 720, 721, 722, 723, 724, 725, 726, 727, 728, 729, 730, 731, 732, 733, 734] (by decide +kernel) (by decide +kernel)
set_option maxRecDepth 20000 in
theorem gL_law_X6_rides : GoodIn wsL_law (wsV RL 39 RX6 yX6_rides wsX6_rides) := goodIn_app (goodIn_of _ (by decide +kernel)) ggL_law_X6_rides
set_option maxRecDepth 20000 in
theorem ggL_law_X5_thinks : GoodIn wsL_law wsX5_thinks := goodIn_r _ [381, 24, 69, 70, 382, 328, 329, 330, 2, 331, 255, 256, 257, 258, 19, 259, 260, 261, 262, 28, 263, 80, 341, 342, 343, 51, 344, 64, 345, 346, 347, 348, 349, 350, 351, 352, 353, 354, 78, 81, 82, 56, 84, 85, 86, 87, 57, 58, 359, 360, 361, 362, 703, 704, 705, 706, 707, 708, 709, 710, 711, 712, 713, 748, 749, 750, 751, 752, 753, 754, 755, 756, 742, 743, 744, 745, 746, 747, 757, 758, 759] (by decide +kernel) (by decide +kernel)
set_option maxRecDepth 20000 in
theorem gL_law_X5_thinks : GoodIn wsL_law (wsV RL 40 RX5 yX5_thinks wsX5_thinks) := goodIn_app (goodIn_of _ (by decide +kernel)) ggL_law_X5_thinks
set_option maxRecDepth 20000 in
theorem ggL_law_X6_thinks : GoodIn wsL_law wsX6_thinks := goodIn_r _ [386, 99, 297, 298, 299, 5, 300, 94, 131, 132, 133, 301, 302, 303, 304, 367, 368, 369, 370, 375, 376, 377, 714, 715, 716, 717, 718, 719, 720, 721, 722, 723, 724, 725, 726, 727, 728, 729, 730, 731, 732, 733, 734] (by decide +kernel) (by decide +kernel)
set_option maxRecDepth 20000 in
theorem gL_law_X6_thinks : GoodIn wsL_law (wsV RL 43 RX6 yX6_thinks wsX6_thinks) := goodIn_app (goodIn_of _ (by decide +kernel)) ggL_law_X6_thinks
set_option maxRecDepth 20000 in
theorem ggL_law_X5_rings : GoodIn wsL_law wsX5_rings := goodIn_r _ [390, 24, 69, 70, 254, 255, 256, 257, 2, 258, 19, 259, 260, 261, 262, 28, 263, 80, 341, 342, 343, 51, 344, 64, 345, 346, 347, 348, 349, 350, 351, 352, 353, 354, 78, 81, 82, 56, 84, 85, 86, 87, 57, 58, 283, 284, 285, 286, 287, 288, 289, 391, 392, 393, 394, 703, 704, 705, 706, 707, 708, 709, 710, 711, 712, 713, 748, 749, 750, 751, 752, 753, 754, 755, 756, 742, 743, 744, 745, 746, 747, 757, 758, 759] (by decide +kernel) (by decide +kernel)
set_option maxRecDepth 20000 in
theorem gL_law_X5_rings : GoodIn wsL_law (wsV RL 44 RX5 yX5_rings wsX5_rings) := goodIn_app (goodIn_of _ (by decide +kernel)) ggL_law_X5_rings
set_option maxRecDepth 20000 in
theorem ggL_law_X6_rings : GoodIn wsL_law wsX6_rings := goodIn_r _ [398, 99, 297, 298, 299, 5, 300, 94, 131, 132, 133, 301, 302, 303, 304, 316, 317, 318, 319, 399, 400, 401, 402, 367, 368, 369, 370, 714, 715, 716, 717, 718, 719, 720, 721, 722, 723, 724, 725, 726, 727, 728, 729, 730, 731, 732, 733, 734] (by decide +kernel) (by decide +kernel)
set_option maxRecDepth 20000 in
theorem gL_law_X6_rings : GoodIn wsL_law (wsV RL 47 RX6 yX6_rings wsX6_rings) := goodIn_app (goodIn_of _ (by decide +kernel)) ggL_law_X6_rings
set_option maxRecDepth 20000 in
theorem ggL_law_X5_twice : GoodIn wsL_law wsX5_twice := goodIn_r _ [406, 24, 69, 70, 255, 256, 257, 2, 258, 19, 259, 260, 261, 262, 28, 263, 80, 341, 342, 343, 51, 344, 64, 345, 346, 347, 348, 349, 350, 351, 352, 353, 354, 78, 81, 82, 56, 84, 85, 86, 87, 57, 58, 290, 291, 292, 286, 287, 288, 289, 391, 392, 393, 394, 703, 704, 705, 706, 707, 708, 709, 710, 711, 712, 713, 748, 749, 742, 743, 744, 745, 746, 747, 750, 751, 752, 753, 754, 755, 756, 757, 758, 759] (by decide +kernel) (by decide +kernel)
set_option maxRecDepth 20000 in
theorem gL_law_X5_twice : GoodIn wsL_law (wsV RL 48 RX5 yX5_twice wsX5_twice) := goodIn_app (goodIn_of _ (by decide +kernel)) ggL_law_X5_twice
set_option maxRecDepth 20000 in
theorem ggL_law_X6_twice : GoodIn wsL_law wsX6_twice := goodIn_r _ [410, 99, 297, 298, 299, 5, 300, 94, 131, 132, 133, 301, 302, 303, 304, 320, 321, 322, 323, 399, 400, 401, 402, 367, 368, 369, 370, 714, 715, 716, 717, 718, 719, 720, 721, 722, 723, 724, 725, 726, 727, 728, 729, 730, 731, 732, 733, 734] (by decide +kernel) (by decide +kernel)
set_option maxRecDepth 20000 in
theorem gL_law_X6_twice : GoodIn wsL_law (wsV RL 51 RX6 yX6_twice wsX6_twice) := goodIn_app (goodIn_of _ (by decide +kernel)) ggL_law_X6_twice
set_option maxRecDepth 20000 in
theorem ggL_law_X5_seats : GoodIn wsL_law wsX5_seats := goodIn_r _ [414, 24, 69, 250, 70, 255, 256, 257, 2, 258, 19, 259, 260, 261, 262, 28, 263, 80, 341, 342, 343, 51, 344, 64, 345, 346, 347, 348, 349, 350, 351, 352, 353, 354, 78, 81, 82, 56, 84, 85, 86, 87, 57, 58, 703, 704, 705, 706, 707, 708, 709, 710, 711, 712, 713, 748, 749, 750, 751, 752, 753, 754, 755, 756, 742, 743, 744, 745, 746, 747, 757, 758, 759] (by decide +kernel) (by decide +kernel)
set_option maxRecDepth 20000 in
theorem gL_law_X5_seats : GoodIn wsL_law (wsV RL 52 RX5 yX5_seats wsX5_seats) := goodIn_app (goodIn_of _ (by decide +kernel)) ggL_law_X5_seats
set_option maxRecDepth 20000 in
theorem ggL_law_X6_seats : GoodIn wsL_law wsX6_seats := goodIn_r _ [418, 99, 297, 298, 299, 5, 300, 94, 131, 132, 133, 301, 302, 303, 304, 367, 368, 369, 370, 714, 715, 716, 717, 718, 719, 720, 721, 722, 723, 724, 725, 726, 727, 728, 729, 730, 731, 732, 733, 734] (by decide +kernel) (by decide +kernel)
set_option maxRecDepth 20000 in
theorem gL_law_X6_seats : GoodIn wsL_law (wsV RL 55 RX6 yX6_seats wsX6_seats) := goodIn_app (goodIn_of _ (by decide +kernel)) ggL_law_X6_seats
set_option maxRecDepth 20000 in
theorem ggL_law_X5_boards : GoodIn wsL_law wsX5_boards := goodIn_r _ [422, 24, 69, 70, 254, 253, 255, 256, 257, 2, 258, 19, 259, 260, 261, 262, 28, 263, 80, 341, 342, 343, 51, 344, 64, 345, 346, 347, 348, 349, 350, 351, 352, 353, 354, 78, 81, 82, 56, 84, 85, 86, 87, 57, 58, 423, 424, 425, 426, 427, 428, 429, 703, 704, 705, 706, 707, 708, 709, 710, 711, 712, 713, 748, 749, 750, 751, 752, 753, 754, 755, 756, 742, 743, 744, 745, 746, 747, 757, 758, 759] (by decide +kernel) (by decide +kernel)
set_option maxRecDepth 20000 in
theorem gL_law_X5_boards : GoodIn wsL_law (wsV RL 56 RX5 yX5_boards wsX5_boards) := goodIn_app (goodIn_of _ (by decide +kernel)) ggL_law_X5_boards
set_option maxRecDepth 20000 in
theorem ggL_law_X6_boards : GoodIn wsL_law wsX6_boards := goodIn_r _ [433, 99, 297, 298, 299, 5, 300, 94, 131, 132, 133, 301, 302, 303, 304, 367, 368, 369, 370, 434, 435, 436, 714, 715, 716, 717, 718, 719, 720, 721, 722, 723, 724, 725, 726, 727, 728, 729, 730, 731, 732, 733, 734] (by decide +kernel) (by decide +kernel)
set_option maxRecDepth 20000 in
theorem gL_law_X6_boards : GoodIn wsL_law (wsV RL 59 RX6 yX6_boards wsX6_boards) := goodIn_app (goodIn_of _ (by decide +kernel)) ggL_law_X6_boards
set_option maxRecDepth 20000 in
theorem ggL_law_X5_undo : GoodIn wsL_law wsX5_undo := goodIn_r _ [440, 24, 70, 71, 69, 441, 442, 443, 51, 444, 345, 64, 347, 348, 349, 350, 346, 351, 352, 353, 28, 354, 78, 80, 81, 82, 56, 84, 85, 86, 87, 57, 58, 703, 704, 705, 706, 707, 708, 709, 710, 711, 712, 713, 748, 749, 757, 758, 759, 750, 751, 752, 753, 754, 755, 756] (by decide +kernel) (by decide +kernel)
set_option maxRecDepth 20000 in
theorem gL_law_X5_undo : GoodIn wsL_law (wsV RL 60 RX5 yX5_undo wsX5_undo) := goodIn_app (goodIn_of _ (by decide +kernel)) ggL_law_X5_undo
set_option maxRecDepth 20000 in
theorem ggL_law_X6_undo : GoodIn wsL_law wsX6_undo := goodIn_r _ [448, 99, 714, 715, 716, 717, 718, 719, 720, 721, 722, 723, 724, 725, 726, 727, 728, 729, 730, 731, 732, 733, 734] (by decide +kernel) (by decide +kernel)
set_option maxRecDepth 20000 in
theorem gL_law_X6_undo : GoodIn wsL_law (wsV RL 63 RX6 yX6_undo wsX6_undo) := goodIn_app (goodIn_of _ (by decide +kernel)) ggL_law_X6_undo
set_option maxRecDepth 20000 in
theorem ggL_law_X5_now : GoodIn wsL_law wsX5_now := goodIn_r _ [452, 24, 69, 340, 254, 382, 453, 19, 454, 703, 704, 705, 706, 707, 708, 709, 710, 711, 712, 713, 748, 749, 750, 751, 752, 753, 754, 755, 756, 742, 743, 744, 745, 746, 747] (by decide +kernel) (by decide +kernel)
set_option maxRecDepth 20000 in
theorem gL_law_X5_now : GoodIn wsL_law (wsV RL 64 RX5 yX5_now wsX5_now) := goodIn_app (goodIn_of _ (by decide +kernel)) ggL_law_X5_now
set_option maxRecDepth 20000 in
theorem ggL_law_X6_now : GoodIn wsL_law wsX6_now := goodIn_r _ [458, 99, 98, 714, 715, 716, 717, 718, 719, 720, 721, 722, 723, 724, 725, 726, 727, 728, 729, 730, 731, 732, 733, 734] (by decide +kernel) (by decide +kernel)
set_option maxRecDepth 20000 in
theorem gL_law_X6_now : GoodIn wsL_law (wsV RL 67 RX6 yX6_now wsX6_now) := goodIn_app (goodIn_of _ (by decide +kernel)) ggL_law_X6_now
set_option maxRecDepth 20000 in
theorem ggL_law_X5_row : GoodIn wsL_law wsX5_row := goodIn_r _ [462, 24, 69, 254, 463, 464, 465, 28, 466, 80, 467, 468, 2, 469, 470, 471, 472, 283, 284, 285, 286, 287, 288, 289, 58, 473, 474, 475, 476, 477, 478, 703, 704, 705, 706, 707, 708, 709, 710, 711, 712, 713, 748, 749, 750, 751, 752, 753, 754, 755, 756] (by decide +kernel) (by decide +kernel)
set_option maxRecDepth 20000 in
theorem gL_law_X5_row : GoodIn wsL_law (wsV RL 68 RX5 yX5_row wsX5_row) := goodIn_app (goodIn_of _ (by decide +kernel)) ggL_law_X5_row
set_option maxRecDepth 20000 in
theorem ggL_law_X6_row : GoodIn wsL_law wsX6_row := goodIn_r _ [482, 99, 103, 483, 484, 485, 5, 486, 94, 131, 132, 133, 487, 488, 489, 490, 434, 435, 436, 491, 492, 493, 494, 316, 317, 318, 319, 714, 715, 716, 717, 718, 719, 720, 721, 722, 723, 724, 725, 726, 727, 728, 729, 730, 731, 732, 733, 734] (by decide +kernel) (by decide +kernel)
set_option maxRecDepth 20000 in
theorem gL_law_X6_row : GoodIn wsL_law (wsV RL 71 RX6 yX6_row wsX6_row) := goodIn_app (goodIn_of _ (by decide +kernel)) ggL_law_X6_row
set_option maxRecDepth 20000 in
theorem ggL_law_X5_soon : GoodIn wsL_law wsX5_soon := goodIn_r _ [498, 24, 69, 254, 29, 463, 464, 465, 28, 466, 80, 467, 468, 2, 469, 470, 471, 472, 283, 284, 285, 286, 287, 288, 289, 58, 499, 352, 353, 354, 78, 81, 82, 56, 84, 85, 86, 87, 57, 355, 356, 357, 358, 340, 19, 259, 252, 264, 265, 266, 267, 250, 260, 261, 262, 263, 268, 269, 270, 271, 272, 273, 180, 274, 275, 276, 277, 278, 251, 279, 280, 281, 282, 359, 360, 361, 362, 703, 704, 705, 706, 707, 708, 709, 710, 711, 712, 713, 748, 749, 750, 751, 752, 753, 754, 755, 756, 742, 743, 744, 745, 746, 747] (by decide +kernel) (by decide +kernel)
set_option maxRecDepth 20000 in
theorem gL_law_X5_soon : GoodIn wsL_law (wsV RL 72 RX5 yX5_soon wsX5_soon) := goodIn_app (goodIn_of _ (by decide +kernel)) ggL_law_X5_soon
set_option maxRecDepth 20000 in
theorem ggL_law_X6_soon : GoodIn wsL_law wsX6_soon := goodIn_r _ [503, 102, 483, 484, 485, 5, 486, 94, 99, 131, 132, 133, 504, 505, 506, 507, 487, 488, 489, 490, 434, 435, 436, 491, 492, 493, 494, 103, 316, 317, 318, 319, 371, 372, 373, 374, 97, 301, 302, 303, 304, 305, 306, 307, 308, 309, 310, 311, 312, 96, 313, 314, 315, 375, 376, 377, 714, 715, 716, 717, 718, 719, 720, 721, 722, 723, 724, 725, 726, 727, 728, 729, 730, 731, 732, 733, 734] (by decide +kernel) (by decide +kernel)
set_option maxRecDepth 20000 in
theorem gL_law_X6_soon : GoodIn wsL_law (wsV RL 75 RX6 yX6_soon wsX6_soon) := goodIn_app (goodIn_of _ (by decide +kernel)) ggL_law_X6_soon
set_option maxRecDepth 20000 in
theorem ggL_law_X5_odds : GoodIn wsL_law wsX5_odds := goodIn_r _ [511, 512, 513, 514, 2, 515, 24, 69, 328, 329, 330, 331, 255, 256, 257, 258, 19, 259, 260, 261, 262, 28, 263, 80, 516, 517, 518, 519, 286, 287, 288, 289, 58, 520, 521, 522, 523, 524, 525, 526, 527, 528, 529, 530, 531, 532, 533, 703, 704, 705, 706, 707, 708, 709, 710, 711, 712, 713, 748, 749, 742, 743, 744, 745, 746, 747, 750, 751, 752, 753, 754, 755, 756] (by decide +kernel) (by decide +kernel)
set_option maxRecDepth 20000 in
theorem gL_law_X5_odds : GoodIn wsL_law (wsV RL 76 RX5 yX5_odds wsX5_odds) := goodIn_app (goodIn_of _ (by decide +kernel)) ggL_law_X5_odds
set_option maxRecDepth 20000 in
theorem ggL_law_X6_odds : GoodIn wsL_law wsX6_odds := goodIn_r _ [537, 99, 94, 538, 539, 540, 5, 541, 297, 298, 299, 300, 131, 132, 133, 301, 302, 303, 304, 714, 715, 716, 717, 718, 719, 720, 721, 722, 723, 724, 725, 726, 727, 728, 729, 730, 731, 732, 733, 734] (by decide +kernel) (by decide +kernel)
set_option maxRecDepth 20000 in
theorem gL_law_X6_odds : GoodIn wsL_law (wsV RL 80 RX6 yX6_odds wsX6_odds) := goodIn_app (goodIn_of _ (by decide +kernel)) ggL_law_X6_odds
set_option maxRecDepth 20000 in
theorem ggL_law_X5_circle : GoodIn wsL_law wsX5_circle := goodIn_r _ [545, 24, 69, 255, 256, 257, 2, 258, 19, 259, 260, 261, 262, 28, 263, 80, 546, 547, 548, 549, 252, 264, 265, 266, 267, 250, 268, 269, 270, 271, 272, 273, 180, 274, 275, 276, 277, 278, 251, 279, 280, 281, 282, 423, 424, 425, 426, 427, 428, 429, 550, 551, 552, 703, 704, 705, 706, 707, 708, 709, 710, 711, 712, 713, 748, 749, 742, 743, 744, 745, 746, 747, 750, 751, 752, 753, 754, 755, 756] (by decide +kernel) (by decide +kernel)
set_option maxRecDepth 20000 in
theorem gL_law_X5_circle : GoodIn wsL_law (wsV RL 81 RX5 yX5_circle wsX5_circle) := goodIn_app (goodIn_of _ (by decide +kernel)) ggL_law_X5_circle
set_option maxRecDepth 20000 in
theorem ggL_law_X6_circle : GoodIn wsL_law wsX6_circle := goodIn_r _ [556, 99, 97, 538, 539, 540, 5, 541, 297, 298, 299, 300, 94, 131, 132, 133, 301, 302, 303, 304, 305, 306, 307, 308, 309, 310, 311, 312, 96, 313, 314, 315, 714, 715, 716, 717, 718, 719, 720, 721, 722, 723, 724, 725, 726, 727, 728, 729, 730, 731, 732, 733, 734] (by decide +kernel) (by decide +kernel)
set_option maxRecDepth 20000 in
theorem gL_law_X6_circle : GoodIn wsL_law (wsV RL 84 RX6 yX6_circle wsX6_circle) := goodIn_app (goodIn_of _ (by decide +kernel)) ggL_law_X6_circle
set_option maxRecDepth 20000 in
theorem ggL_law_X5_chair : GoodIn wsL_law wsX5_chair := goodIn_r _ [560, 24, 69, 512, 513, 514, 2, 515, 328, 329, 330, 331, 255, 256, 257, 258, 19, 259, 260, 261, 262, 28, 263, 80, 268, 269, 270, 271, 250, 272, 273, 180, 274, 703, 704, 705, 706, 707, 708, 709, 710, 711, 712, 713, 748, 749, 742, 743, 744, 745, 746, 747, 750, 751, 752, 753, 754, 755, 756] (by decide +kernel) (by decide +kernel)
set_option maxRecDepth 20000 in
theorem gL_law_X5_chair : GoodIn wsL_law (wsV RL 85 RX5 yX5_chair wsX5_chair) := goodIn_app (goodIn_of _ (by decide +kernel)) ggL_law_X5_chair
set_option maxRecDepth 20000 in
theorem ggL_law_X6_chair : GoodIn wsL_law wsX6_chair := goodIn_r _ [564, 102, 538, 539, 540, 5, 541, 99, 297, 298, 299, 300, 94, 131, 132, 133, 301, 302, 303, 304, 504, 505, 506, 507, 305, 306, 307, 308, 309, 310, 311, 312, 96, 313, 314, 315, 714, 715, 716, 717, 718, 719, 720, 721, 722, 723, 724, 725, 726, 727, 728, 729, 730, 731, 732, 733, 734] (by decide +kernel) (by decide +kernel)
set_option maxRecDepth 20000 in
theorem gL_law_X6_chair : GoodIn wsL_law (wsV RL 88 RX6 yX6_chair wsX6_chair) := goodIn_app (goodIn_of _ (by decide +kernel)) ggL_law_X6_chair
set_option maxRecDepth 20000 in
theorem ggL_law_X5_saw : GoodIn wsL_law wsX5_saw := goodIn_r _ [568, 72, 31, 32, 512, 513, 514, 2, 515, 24, 69, 328, 329, 330, 331, 255, 256, 257, 258, 19, 259, 260, 261, 262, 28, 263, 80, 703, 704, 705, 706, 707, 708, 709, 710, 711, 712, 713, 748, 749, 742, 743, 744, 745, 746, 747, 750, 751, 752, 753, 754, 755, 756] (by decide +kernel) (by decide +kernel)
set_option maxRecDepth 20000 in
theorem gL_law_X5_saw : GoodIn wsL_law (wsV RL 89 RX5 yX5_saw wsX5_saw) := goodIn_app (goodIn_of _ (by decide +kernel)) ggL_law_X5_saw
set_option maxRecDepth 20000 in
theorem ggL_law_X6_saw : GoodIn wsL_law wsX6_saw := goodIn_r _ [572, 115, 104, 105, 538, 539, 540, 5, 541, 99, 297, 298, 299, 300, 94, 131, 132, 133, 301, 302, 303, 304, 714, 715, 716, 717, 718, 719, 720, 721, 722, 723, 724, 725, 726, 727, 728, 729, 730, 731, 732, 733, 734] (by decide +kernel) (by decide +kernel)
set_option maxRecDepth 20000 in
theorem gL_law_X6_saw : GoodIn wsL_law (wsV RL 92 RX6 yX6_saw wsX6_saw) := goodIn_app (goodIn_of _ (by decide +kernel)) ggL_law_X6_saw
set_option maxRecDepth 20000 in
theorem ggL_law_X5_forget : GoodIn wsL_law wsX5_forget := goodIn_r _ [576, 72, 703, 704, 705, 706, 707, 708, 709, 710, 711, 712, 713] (by decide +kernel) (by decide +kernel)
set_option maxRecDepth 20000 in
theorem gL_law_X5_forget : GoodIn wsL_law (wsV RL 93 RX5 yX5_forget wsX5_forget) := goodIn_app (goodIn_of _ (by decide +kernel)) ggL_law_X5_forget
set_option maxRecDepth 20000 in
theorem ggL_law_X6_forget : GoodIn wsL_law wsX6_forget := goodIn_r _ [580, 115, 714, 715, 716, 717, 718, 719, 720, 721, 722, 723, 724, 725, 726, 727, 728, 729, 730, 731, 732, 733, 734] (by decide +kernel) (by decide +kernel)
set_option maxRecDepth 20000 in
theorem gL_law_X6_forget : GoodIn wsL_law (wsV RL 96 RX6 yX6_forget wsX6_forget) := goodIn_app (goodIn_of _ (by decide +kernel)) ggL_law_X6_forget
set_option maxRecDepth 20000 in
theorem ggL_law_X5_laws : GoodIn wsL_law wsX5_laws := goodIn_r _ [584, 255, 256, 257, 2, 258, 19, 259, 585, 586, 587, 588, 589, 590, 591, 592, 24, 69, 72, 31, 32, 264, 265, 266, 267, 250, 260, 261, 262, 28, 263, 80, 268, 269, 270, 271, 272, 273, 180, 274, 275, 276, 277, 278, 251, 279, 280, 281, 282, 703, 704, 705, 706, 707, 708, 709, 710, 711, 712, 713, 742, 743, 744, 745, 746, 747, 748, 749, 750, 751, 752, 753, 754, 755, 756] (by decide +kernel) (by decide +kernel)
set_option maxRecDepth 20000 in
theorem gL_law_X5_laws : GoodIn wsL_law (wsV RL 97 RX5 yX5_laws wsX5_laws) := goodIn_app (goodIn_of _ (by decide +kernel)) ggL_law_X5_laws
set_option maxRecDepth 20000 in
theorem ggL_law_X6_laws : GoodIn wsL_law wsX6_laws := goodIn_r _ [596, 297, 298, 299, 5, 300, 94, 131, 132, 133, 597, 598, 599, 600, 99, 115, 104, 105, 301, 302, 303, 304, 305, 306, 307, 308, 309, 310, 311, 312, 96, 313, 314, 315, 714, 715, 716, 717, 718, 719, 720, 721, 722, 723, 724, 725, 726, 727, 728, 729, 730, 731, 732, 733, 734] (by decide +kernel) (by decide +kernel)
set_option maxRecDepth 20000 in
theorem gL_law_X6_laws : GoodIn wsL_law (wsV RL 100 RX6 yX6_laws wsX6_laws) := goodIn_app (goodIn_of _ (by decide +kernel)) ggL_law_X6_laws
set_option maxRecDepth 20000 in
theorem ggL_law_X5_likely : GoodIn wsL_law wsX5_likely := goodIn_r _ [604, 19, 259, 24, 69, 260, 261, 262, 28, 263, 80, 585, 586, 587, 2, 588, 589, 590, 591, 592, 72, 31, 32, 264, 265, 266, 267, 250, 268, 269, 270, 271, 272, 273, 180, 274, 275, 276, 277, 278, 251, 279, 280, 281, 282, 423, 424, 425, 426, 427, 428, 429, 703, 704, 705, 706, 707, 708, 709, 710, 711, 712, 713, 742, 743, 744, 745, 746, 747, 748, 749, 750, 751, 752, 753, 754, 755, 756] (by decide +kernel) (by decide +kernel)
set_option maxRecDepth 20000 in
theorem gL_law_X5_likely : GoodIn wsL_law (wsV RL 101 RX5 yX5_likely wsX5_likely) := goodIn_app (goodIn_of _ (by decide +kernel)) ggL_law_X5_likely
set_option maxRecDepth 20000 in
theorem ggL_law_X6_likely : GoodIn wsL_law wsX6_likely := goodIn_r _ [608, 94, 99, 301, 302, 303, 5, 304, 597, 598, 599, 600, 115, 104, 105, 305, 306, 307, 308, 309, 310, 311, 312, 96, 313, 314, 315, 434, 435, 436, 714, 715, 716, 717, 718, 719, 720, 721, 722, 723, 724, 725, 726, 727, 728, 729, 730, 731, 732, 733, 734] (by decide +kernel) (by decide +kernel)
set_option maxRecDepth 20000 in
theorem gL_law_X6_likely : GoodIn wsL_law (wsV RL 104 RX6 yX6_likely wsX6_likely) := goodIn_app (goodIn_of _ (by decide +kernel)) ggL_law_X6_likely
set_option maxRecDepth 20000 in
theorem ggL_law_X5_mark : GoodIn wsL_law wsX5_mark := goodIn_r _ [612, 613, 255, 256, 257, 2, 258, 19, 259, 614, 615, 616, 617, 618, 24, 69, 250, 619, 620, 621, 622, 623, 251, 624, 625, 626, 627, 628, 629, 630, 631, 632, 286, 287, 288, 28, 289, 58, 633, 634, 635, 636, 637, 638, 639, 640, 641, 642, 643, 644, 645, 646, 647, 340, 703, 704, 705, 706, 707, 708, 709, 710, 711, 712, 713, 742, 743, 744, 745, 746, 747, 748, 749, 750, 751, 752, 753, 754, 755, 756] (by decide +kernel) (by decide +kernel)
set_option maxRecDepth 20000 in
theorem gL_law_X5_mark : GoodIn wsL_law (wsV RL 105 RX5 yX5_mark wsX5_mark) := goodIn_app (goodIn_of _ (by decide +kernel)) ggL_law_X5_mark
set_option maxRecDepth 20000 in
theorem ggL_law_X6_mark : GoodIn wsL_law wsX6_mark := goodIn_r _ [651, 652, 99, 94, 653, 654, 96, 655, 656, 657, 658, 131, 132, 5, 133, 297, 298, 299, 300, 714, 715, 716, 717, 718, 719, 720, 721, 722, 723, 724, 725, 726, 727, 728, 729, 730, 731, 732, 733, 734] (by decide +kernel) (by decide +kernel)
set_option maxRecDepth 20000 in
theorem gL_law_X6_mark : GoodIn wsL_law (wsV RL 108 RX6 yX6_mark wsX6_mark) := goodIn_app (goodIn_of _ (by decide +kernel)) ggL_law_X6_mark
set_option maxRecDepth 20000 in
theorem ggL_law_X5_keep : GoodIn wsL_law wsX5_keep := goodIn_r _ [662, 25, 24, 73, 69, 340, 663, 664, 2, 665, 666, 667, 668, 23, 669, 48, 52, 670, 352, 353, 28, 354, 78, 80, 81, 82, 56, 84, 85, 86, 87, 57, 58, 671, 672, 673, 51, 674, 345, 346, 64, 347, 348, 349, 350, 351, 703, 704, 705, 706, 707, 708, 709, 710, 711, 712, 713, 748, 749, 750, 751, 752, 753, 754, 755, 756, 757, 758, 759] (by decide +kernel) (by decide +kernel)
set_option maxRecDepth 20000 in
theorem gL_law_X5_keep : GoodIn wsL_law (wsV RL 109 RX5 yX5_keep wsX5_keep) := goodIn_app (goodIn_of _ (by decide +kernel)) ggL_law_X5_keep
set_option maxRecDepth 20000 in
theorem ggL_law_X6_keep : GoodIn wsL_law wsX6_keep := goodIn_r _ [678, 99, 101, 131, 132, 5, 133, 714, 715, 716, 717, 718, 719, 720, 721, 722, 723, 724, 725, 726, 727, 728, 729, 730, 731, 732, 733, 734] (by decide +kernel) (by decide +kernel)
set_option maxRecDepth 20000 in
theorem gL_law_X6_keep : GoodIn wsL_law (wsV RL 112 RX6 yX6_keep wsX6_keep) := goodIn_app (goodIn_of _ (by decide +kernel)) ggL_law_X6_keep
set_option maxRecDepth 20000 in
theorem ggL_law_X5_back : GoodIn wsL_law wsX5_back := goodIn_r _ [682, 73, 24, 25, 69, 340, 663, 664, 2, 665, 666, 667, 668, 23, 669, 48, 52, 670, 352, 353, 28, 354, 78, 80, 81, 82, 56, 84, 85, 86, 87, 57, 58, 671, 672, 673, 51, 674, 345, 346, 64, 347, 348, 349, 350, 351, 703, 704, 705, 706, 707, 708, 709, 710, 711, 712, 713, 748, 749, 750, 751, 752, 753, 754, 755, 756, 757, 758, 759] (by decide +kernel) (by decide +kernel)
set_option maxRecDepth 20000 in
theorem gL_law_X5_back : GoodIn wsL_law (wsV RL 113 RX5 yX5_back wsX5_back) := goodIn_app (goodIn_of _ (by decide +kernel)) ggL_law_X5_back
set_option maxRecDepth 20000 in
theorem ggL_law_X6_back : GoodIn wsL_law wsX6_back := goodIn_r _ [686, 101, 99, 131, 132, 5, 133, 714, 715, 716, 717, 718, 719, 720, 721, 722, 723, 724, 725, 726, 727, 728, 729, 730, 731, 732, 733, 734] (by decide +kernel) (by decide +kernel)
set_option maxRecDepth 20000 in
theorem gL_law_X6_back : GoodIn wsL_law (wsV RL 116 RX6 yX6_back wsX6_back) := goodIn_app (goodIn_of _ (by decide +kernel)) ggL_law_X6_back
set_option maxRecDepth 20000 in
theorem ggL_law_X5_count : GoodIn wsL_law wsX5_count := goodIn_r _ [690, 19, 259, 454, 72, 24, 70, 71, 15, 120, 703, 704, 705, 706, 707, 708, 709, 710, 711, 712, 713, 742, 743, 744, 745, 746, 747, 748, 749, 757, 758, 759, 735, 736, 737, 738, 739, 740, 741] (by decide +kernel) (by decide +kernel)
set_option maxRecDepth 20000 in
theorem gL_law_X5_count : GoodIn wsL_law (wsV RL 117 RX5 yX5_count wsX5_count) := goodIn_app (goodIn_of _ (by decide +kernel)) ggL_law_X5_count
set_option maxRecDepth 20000 in
theorem ggL_law_X6_count : GoodIn wsL_law wsX6_count := goodIn_r _ [694, 94, 98, 115, 99, 130, 714, 715, 716, 717, 718, 719, 720, 721, 722, 723, 724, 725, 726, 727, 728, 729, 730, 731, 732, 733, 734] (by decide +kernel) (by decide +kernel)
set_option maxRecDepth 20000 in
theorem gL_law_X6_count : GoodIn wsL_law (wsV RL 120 RX6 yX6_count wsX6_count) := goodIn_app (goodIn_of _ (by decide +kernel)) ggL_law_X6_count
set_option maxRecDepth 20000 in
theorem ggL_law_X5_trace : GoodIn wsL_law wsX5_trace := goodIn_r _ [698, 618, 703, 704, 705, 706, 707, 708, 709, 710, 711, 712, 713] (by decide +kernel) (by decide +kernel)
set_option maxRecDepth 20000 in
theorem gL_law_X5_trace : GoodIn wsL_law (wsV RL 121 RX5 yX5_trace wsX5_trace) := goodIn_app (goodIn_of _ (by decide +kernel)) ggL_law_X5_trace
set_option maxRecDepth 20000 in
theorem ggL_law_X6_trace : GoodIn wsL_law wsX6_trace := goodIn_r _ [702, 653, 714, 715, 716, 717, 718, 719, 720, 721, 722, 723, 724, 725, 726, 727, 728, 729, 730, 731, 732, 733, 734] (by decide +kernel) (by decide +kernel)
set_option maxRecDepth 20000 in
theorem gL_law_X6_trace : GoodIn wsL_law (wsV RL 125 RX6 yX6_trace wsX6_trace) := goodIn_app (goodIn_of _ (by decide +kernel)) ggL_law_X6_trace
