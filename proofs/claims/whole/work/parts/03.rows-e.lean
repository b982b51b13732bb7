set_option maxRecDepth 20000 in
theorem gX6_rider_X6_whom : GoodIn wsX6_rider (wsV RX6 121 RX6 yX6_whom wsX6_whom) := goodIn_app (goodIn_of _ (by decide +kernel)) ggX6_rider_X6_whom
set_option maxRecDepth 20000 in
theorem ggX6_rider_X6_byRing : GoodIn wsX6_rider wsX6_byRing := goodIn_r _ [31, 9, 36, 37, 38, 39, 40, 41, 42, 43, 44, 45, 46, 47, 48, 49, 50, 51, 52, 53, 54, 55, 56] (by decide +kernel) (by decide +kernel)
set_option maxRecDepth 20000 in
theorem gX6_rider_X6_byRing : GoodIn wsX6_rider (wsV RX6 125 RX6 yX6_byRing wsX6_byRing) := goodIn_app (goodIn_of _ (by decide +kernel)) ggX6_rider_X6_byRing
set_option maxRecDepth 20000 in
theorem ggX6_rider_X6_byTwo : GoodIn wsX6_rider wsX6_byTwo := goodIn_r _ [35, 9, 1, 13, 14, 15, 7, 16, 36, 37, 38, 39, 40, 41, 42, 43, 44, 45, 46, 47, 48, 49, 50, 51, 52, 53, 54, 55, 56] (by decide +kernel) (by decide +kernel)
set_option maxRecDepth 20000 in
theorem gX6_rider_X6_byTwo : GoodIn wsX6_rider (wsV RX6 128 RX6 yX6_byTwo wsX6_byTwo) := goodIn_app (goodIn_of _ (by decide +kernel)) ggX6_rider_X6_byTwo
theorem dX6_rider_0 : decode cX6_rider 0 = .ok (.aload_n 0, 1) := by decide +kernel
theorem dX6_rider_1 : decode cX6_rider 1 = .ok (.iload_n 1, 1) := by decide +kernel
theorem dX6_rider_2 : decode cX6_rider 2 = .ok (.invokevirtual 107, 3) := by decide +kernel
theorem dX6_rider_5 : decode cX6_rider 5 = .ok (.ifCond .ne 5, 3) := by decide +kernel
theorem dX6_rider_8 : decode cX6_rider 8 = .ok (.iconst (-1), 1) := by decide +kernel
theorem dX6_rider_9 : decode cX6_rider 9 = .ok (.ireturn, 1) := by decide +kernel
theorem dX6_rider_10 : decode cX6_rider 10 = .ok (.aload_n 0, 1) := by decide +kernel
theorem dX6_rider_11 : decode cX6_rider 11 = .ok (.aload_n 0, 1) := by decide +kernel
theorem dX6_rider_12 : decode cX6_rider 12 = .ok (.getfield 29, 3) := by decide +kernel
theorem dX6_rider_15 : decode cX6_rider 15 = .ok (.iload_n 1, 1) := by decide +kernel
theorem dX6_rider_16 : decode cX6_rider 16 = .ok (.invokevirtual 110, 3) := by decide +kernel
theorem dX6_rider_19 : decode cX6_rider 19 = .ok (.istore_n 3, 1) := by decide +kernel
theorem dX6_rider_20 : decode cX6_rider 20 = .ok (.iload_n 2, 1) := by decide +kernel
theorem dX6_rider_21 : decode cX6_rider 21 = .ok (.tableswitch 155 0 7 #[47, 56, 63, 70, 80, 90, 115, 140], 47) := by decide +kernel
theorem dX6_rider_68 : decode cX6_rider 68 = .ok (.aload_n 0, 1) := by decide +kernel
theorem dX6_rider_69 : decode cX6_rider 69 = .ok (.getfield 29, 3) := by decide +kernel
theorem dX6_rider_72 : decode cX6_rider 72 = .ok (.iconst 4, 1) := by decide +kernel
theorem dX6_rider_73 : decode cX6_rider 73 = .ok (.iload_n 1, 1) := by decide +kernel
theorem dX6_rider_74 : decode cX6_rider 74 = .ok (.iadd, 1) := by decide +kernel
theorem dX6_rider_75 : decode cX6_rider 75 = .ok (.iaload, 1) := by decide +kernel
theorem dX6_rider_76 : decode cX6_rider 76 = .ok (.ireturn, 1) := by decide +kernel
theorem dX6_rider_77 : decode cX6_rider 77 = .ok (.aload_n 0, 1) := by decide +kernel
theorem dX6_rider_78 : decode cX6_rider 78 = .ok (.getfield 20, 3) := by decide +kernel
theorem dX6_rider_81 : decode cX6_rider 81 = .ok (.iload_n 1, 1) := by decide +kernel
theorem dX6_rider_82 : decode cX6_rider 82 = .ok (.iaload, 1) := by decide +kernel
theorem dX6_rider_83 : decode cX6_rider 83 = .ok (.ireturn, 1) := by decide +kernel
theorem dX6_rider_84 : decode cX6_rider 84 = .ok (.aload_n 0, 1) := by decide +kernel
theorem dX6_rider_85 : decode cX6_rider 85 = .ok (.getfield 23, 3) := by decide +kernel
theorem dX6_rider_88 : decode cX6_rider 88 = .ok (.iload_n 1, 1) := by decide +kernel
theorem dX6_rider_89 : decode cX6_rider 89 = .ok (.iaload, 1) := by decide +kernel
theorem dX6_rider_90 : decode cX6_rider 90 = .ok (.ireturn, 1) := by decide +kernel
theorem dX6_rider_91 : decode cX6_rider 91 = .ok (.iload_n 3, 1) := by decide +kernel
theorem dX6_rider_92 : decode cX6_rider 92 = .ok (.ifCond .eq 7, 3) := by decide +kernel
theorem dX6_rider_95 : decode cX6_rider 95 = .ok (.iconst 1, 1) := by decide +kernel
theorem dX6_rider_96 : decode cX6_rider 96 = .ok (.goto 4, 3) := by decide +kernel
theorem dX6_rider_99 : decode cX6_rider 99 = .ok (.iconst 0, 1) := by decide +kernel
theorem dX6_rider_100 : decode cX6_rider 100 = .ok (.ireturn, 1) := by decide +kernel
theorem dX6_rider_101 : decode cX6_rider 101 = .ok (.aload_n 0, 1) := by decide +kernel
theorem dX6_rider_102 : decode cX6_rider 102 = .ok (.getfield 29, 3) := by decide +kernel
theorem dX6_rider_105 : decode cX6_rider 105 = .ok (.bipush 10, 2) := by decide +kernel
theorem dX6_rider_107 : decode cX6_rider 107 = .ok (.iload_n 1, 1) := by decide +kernel
theorem dX6_rider_108 : decode cX6_rider 108 = .ok (.iadd, 1) := by decide +kernel
theorem dX6_rider_109 : decode cX6_rider 109 = .ok (.iaload, 1) := by decide +kernel
theorem dX6_rider_110 : decode cX6_rider 110 = .ok (.ireturn, 1) := by decide +kernel
theorem dX6_rider_111 : decode cX6_rider 111 = .ok (.iload_n 3, 1) := by decide +kernel
theorem dX6_rider_112 : decode cX6_rider 112 = .ok (.ifCond .eq 21, 3) := by decide +kernel
theorem dX6_rider_115 : decode cX6_rider 115 = .ok (.aload_n 0, 1) := by decide +kernel
theorem dX6_rider_116 : decode cX6_rider 116 = .ok (.aload_n 0, 1) := by decide +kernel
theorem dX6_rider_117 : decode cX6_rider 117 = .ok (.getfield 29, 3) := by decide +kernel
theorem dX6_rider_120 : decode cX6_rider 120 = .ok (.iload_n 1, 1) := by decide +kernel
theorem dX6_rider_121 : decode cX6_rider 121 = .ok (.aload_n 0, 1) := by decide +kernel
theorem dX6_rider_122 : decode cX6_rider 122 = .ok (.getfield 23, 3) := by decide +kernel
theorem dX6_rider_125 : decode cX6_rider 125 = .ok (.iload_n 1, 1) := by decide +kernel
theorem dX6_rider_126 : decode cX6_rider 126 = .ok (.iaload, 1) := by decide +kernel
theorem dX6_rider_127 : decode cX6_rider 127 = .ok (.invokevirtual 121, 3) := by decide +kernel
theorem dX6_rider_130 : decode cX6_rider 130 = .ok (.goto 5, 3) := by decide +kernel
theorem dX6_rider_133 : decode cX6_rider 133 = .ok (.bipush (-9), 2) := by decide +kernel
theorem dX6_rider_135 : decode cX6_rider 135 = .ok (.ireturn, 1) := by decide +kernel
theorem dX6_rider_136 : decode cX6_rider 136 = .ok (.iload_n 3, 1) := by decide +kernel
theorem dX6_rider_137 : decode cX6_rider 137 = .ok (.ifCond .eq 21, 3) := by decide +kernel
theorem dX6_rider_140 : decode cX6_rider 140 = .ok (.aload_n 0, 1) := by decide +kernel
theorem dX6_rider_141 : decode cX6_rider 141 = .ok (.aload_n 0, 1) := by decide +kernel
theorem dX6_rider_142 : decode cX6_rider 142 = .ok (.getfield 29, 3) := by decide +kernel
theorem dX6_rider_145 : decode cX6_rider 145 = .ok (.iload_n 1, 1) := by decide +kernel
theorem dX6_rider_146 : decode cX6_rider 146 = .ok (.aload_n 0, 1) := by decide +kernel
theorem dX6_rider_147 : decode cX6_rider 147 = .ok (.getfield 29, 3) := by decide +kernel
theorem dX6_rider_150 : decode cX6_rider 150 = .ok (.iconst 1, 1) := by decide +kernel
theorem dX6_rider_151 : decode cX6_rider 151 = .ok (.iaload, 1) := by decide +kernel
theorem dX6_rider_152 : decode cX6_rider 152 = .ok (.invokevirtual 125, 3) := by decide +kernel
theorem dX6_rider_155 : decode cX6_rider 155 = .ok (.goto 5, 3) := by decide +kernel
theorem dX6_rider_158 : decode cX6_rider 158 = .ok (.bipush (-9), 2) := by decide +kernel
theorem dX6_rider_160 : decode cX6_rider 160 = .ok (.ireturn, 1) := by decide +kernel
theorem dX6_rider_161 : decode cX6_rider 161 = .ok (.iload_n 3, 1) := by decide +kernel
theorem dX6_rider_162 : decode cX6_rider 162 = .ok (.ifCond .eq 11, 3) := by decide +kernel
theorem dX6_rider_165 : decode cX6_rider 165 = .ok (.aload_n 0, 1) := by decide +kernel
theorem dX6_rider_166 : decode cX6_rider 166 = .ok (.iload_n 1, 1) := by decide +kernel
theorem dX6_rider_167 : decode cX6_rider 167 = .ok (.invokevirtual 128, 3) := by decide +kernel
theorem dX6_rider_170 : decode cX6_rider 170 = .ok (.goto 5, 3) := by decide +kernel
theorem dX6_rider_173 : decode cX6_rider 173 = .ok (.bipush (-9), 2) := by decide +kernel
theorem dX6_rider_175 : decode cX6_rider 175 = .ok (.ireturn, 1) := by decide +kernel
theorem dX6_rider_176 : decode cX6_rider 176 = .ok (.iconst (-1), 1) := by decide +kernel
theorem dX6_rider_177 : decode cX6_rider 177 = .ok (.ireturn, 1) := by decide +kernel
set_option maxRecDepth 20000 in
theorem ggX6_latest_X6_isRider : GoodIn wsX6_latest wsX6_isRider := goodIn_r _ [6, 7, 8, 9, 5, 10, 11, 12, 13, 14, 15, 16, 17, 18, 19, 20, 21, 22, 23, 24, 25, 26, 27, 28, 29, 30, 31] (by decide +kernel) (by decide +kernel)
set_option maxRecDepth 20000 in
theorem gX6_latest_X6_isRider : GoodIn wsX6_latest (wsV RX6 107 RX6 yX6_isRider wsX6_isRider) := goodIn_app (goodIn_of _ (by decide +kernel)) ggX6_latest_X6_isRider
theorem dX6_latest_0 : decode cX6_latest 0 = .ok (.aload_n 0, 1) := by decide +kernel
theorem dX6_latest_1 : decode cX6_latest 1 = .ok (.iload_n 1, 1) := by decide +kernel
theorem dX6_latest_2 : decode cX6_latest 2 = .ok (.invokevirtual 107, 3) := by decide +kernel
theorem dX6_latest_5 : decode cX6_latest 5 = .ok (.ifCond .eq 33, 3) := by decide +kernel
theorem dX6_latest_8 : decode cX6_latest 8 = .ok (.aload_n 0, 1) := by decide +kernel
theorem dX6_latest_9 : decode cX6_latest 9 = .ok (.iload_n 2, 1) := by decide +kernel
theorem dX6_latest_10 : decode cX6_latest 10 = .ok (.invokevirtual 107, 3) := by decide +kernel
theorem dX6_latest_13 : decode cX6_latest 13 = .ok (.ifCond .eq 25, 3) := by decide +kernel
theorem dX6_latest_16 : decode cX6_latest 16 = .ok (.iload_n 1, 1) := by decide +kernel
theorem dX6_latest_17 : decode cX6_latest 17 = .ok (.iload_n 2, 1) := by decide +kernel
theorem dX6_latest_18 : decode cX6_latest 18 = .ok (.if_icmp .eq 20, 3) := by decide +kernel
theorem dX6_latest_21 : decode cX6_latest 21 = .ok (.aload_n 0, 1) := by decide +kernel
theorem dX6_latest_22 : decode cX6_latest 22 = .ok (.getfield 29, 3) := by decide +kernel
theorem dX6_latest_25 : decode cX6_latest 25 = .ok (.bipush 16, 2) := by decide +kernel
theorem dX6_latest_27 : decode cX6_latest 27 = .ok (.bipush 6, 2) := by decide +kernel
theorem dX6_latest_29 : decode cX6_latest 29 = .ok (.iload_n 1, 1) := by decide +kernel
theorem dX6_latest_30 : decode cX6_latest 30 = .ok (.imul, 1) := by decide +kernel
theorem dX6_latest_31 : decode cX6_latest 31 = .ok (.iadd, 1) := by decide +kernel
theorem dX6_latest_32 : decode cX6_latest 32 = .ok (.iload_n 2, 1) := by decide +kernel
theorem dX6_latest_33 : decode cX6_latest 33 = .ok (.iadd, 1) := by decide +kernel
theorem dX6_latest_34 : decode cX6_latest 34 = .ok (.iaload, 1) := by decide +kernel
theorem dX6_latest_35 : decode cX6_latest 35 = .ok (.goto 4, 3) := by decide +kernel
theorem dX6_latest_38 : decode cX6_latest 38 = .ok (.iconst (-1), 1) := by decide +kernel
theorem dX6_latest_39 : decode cX6_latest 39 = .ok (.ireturn, 1) := by decide +kernel
theorem dX6_know_0 : decode cX6_know 0 = .ok (.aload_n 0, 1) := by decide +kernel
theorem dX6_know_1 : decode cX6_know 1 = .ok (.getfield 29, 3) := by decide +kernel
theorem dX6_know_4 : decode cX6_know 4 = .ok (.bipush 52, 2) := by decide +kernel
theorem dX6_know_6 : decode cX6_know 6 = .ok (.iaload, 1) := by decide +kernel
theorem dX6_know_7 : decode cX6_know 7 = .ok (.bipush 10, 2) := by decide +kernel
theorem dX6_know_9 : decode cX6_know 9 = .ok (.if_icmp .ne 47, 3) := by decide +kernel
theorem dX6_know_12 : decode cX6_know 12 = .ok (.iconst 0, 1) := by decide +kernel
theorem dX6_know_13 : decode cX6_know 13 = .ok (.istore_n 1, 1) := by decide +kernel
theorem dX6_know_14 : decode cX6_know 14 = .ok (.iload_n 1, 1) := by decide +kernel
theorem dX6_know_15 : decode cX6_know 15 = .ok (.sipush 468, 3) := by decide +kernel
theorem dX6_know_18 : decode cX6_know 18 = .ok (.if_icmp .ge 27, 3) := by decide +kernel
theorem dX6_know_21 : decode cX6_know 21 = .ok (.aload_n 0, 1) := by decide +kernel
theorem dX6_know_22 : decode cX6_know 22 = .ok (.getfield 29, 3) := by decide +kernel
theorem dX6_know_25 : decode cX6_know 25 = .ok (.bipush 53, 2) := by decide +kernel
theorem dX6_know_27 : decode cX6_know 27 = .ok (.iload_n 1, 1) := by decide +kernel
theorem dX6_know_28 : decode cX6_know 28 = .ok (.iadd, 1) := by decide +kernel
theorem dX6_know_29 : decode cX6_know 29 = .ok (.aload_n 0, 1) := by decide +kernel
theorem dX6_know_30 : decode cX6_know 30 = .ok (.getfield 29, 3) := by decide +kernel
theorem dX6_know_33 : decode cX6_know 33 = .ok (.bipush 105, 2) := by decide +kernel
theorem dX6_know_35 : decode cX6_know 35 = .ok (.iload_n 1, 1) := by decide +kernel
theorem dX6_know_36 : decode cX6_know 36 = .ok (.iadd, 1) := by decide +kernel
theorem dX6_know_37 : decode cX6_know 37 = .ok (.iaload, 1) := by decide +kernel
theorem dX6_know_38 : decode cX6_know 38 = .ok (.iastore, 1) := by decide +kernel
theorem dX6_know_39 : decode cX6_know 39 = .ok (.iinc 1 1, 3) := by decide +kernel
theorem dX6_know_42 : decode cX6_know 42 = .ok (.goto (-28), 3) := by decide +kernel
theorem dX6_know_45 : decode cX6_know 45 = .ok (.aload_n 0, 1) := by decide +kernel
theorem dX6_know_46 : decode cX6_know 46 = .ok (.getfield 29, 3) := by decide +kernel
theorem dX6_know_49 : decode cX6_know 49 = .ok (.bipush 52, 2) := by decide +kernel
theorem dX6_know_51 : decode cX6_know 51 = .ok (.dup2, 1) := by decide +kernel
theorem dX6_know_52 : decode cX6_know 52 = .ok (.iaload, 1) := by decide +kernel
theorem dX6_know_53 : decode cX6_know 53 = .ok (.iconst 1, 1) := by decide +kernel
theorem dX6_know_54 : decode cX6_know 54 = .ok (.isub, 1) := by decide +kernel
theorem dX6_know_55 : decode cX6_know 55 = .ok (.iastore, 1) := by decide +kernel
theorem dX6_know_56 : decode cX6_know 56 = .ok (.iconst 0, 1) := by decide +kernel
theorem dX6_know_57 : decode cX6_know 57 = .ok (.istore_n 1, 1) := by decide +kernel
theorem dX6_know_58 : decode cX6_know 58 = .ok (.iload_n 1, 1) := by decide +kernel
theorem dX6_know_59 : decode cX6_know 59 = .ok (.bipush 52, 2) := by decide +kernel
theorem dX6_know_61 : decode cX6_know 61 = .ok (.if_icmp .ge 35, 3) := by decide +kernel
theorem dX6_know_64 : decode cX6_know 64 = .ok (.aload_n 0, 1) := by decide +kernel
theorem dX6_know_65 : decode cX6_know 65 = .ok (.getfield 29, 3) := by decide +kernel
theorem dX6_know_68 : decode cX6_know 68 = .ok (.bipush 53, 2) := by decide +kernel
theorem dX6_know_70 : decode cX6_know 70 = .ok (.bipush 52, 2) := by decide +kernel
theorem dX6_know_72 : decode cX6_know 72 = .ok (.aload_n 0, 1) := by decide +kernel
theorem dX6_know_73 : decode cX6_know 73 = .ok (.getfield 29, 3) := by decide +kernel
theorem dX6_know_76 : decode cX6_know 76 = .ok (.bipush 52, 2) := by decide +kernel
theorem dX6_know_78 : decode cX6_know 78 = .ok (.iaload, 1) := by decide +kernel
theorem dX6_know_79 : decode cX6_know 79 = .ok (.imul, 1) := by decide +kernel
theorem dX6_know_80 : decode cX6_know 80 = .ok (.iadd, 1) := by decide +kernel
theorem dX6_know_81 : decode cX6_know 81 = .ok (.iload_n 1, 1) := by decide +kernel
theorem dX6_know_82 : decode cX6_know 82 = .ok (.iadd, 1) := by decide +kernel
theorem dX6_know_83 : decode cX6_know 83 = .ok (.aload_n 0, 1) := by decide +kernel
theorem dX6_know_84 : decode cX6_know 84 = .ok (.getfield 29, 3) := by decide +kernel
theorem dX6_know_87 : decode cX6_know 87 = .ok (.iload_n 1, 1) := by decide +kernel
theorem dX6_know_88 : decode cX6_know 88 = .ok (.iaload, 1) := by decide +kernel
theorem dX6_know_89 : decode cX6_know 89 = .ok (.iastore, 1) := by decide +kernel
theorem dX6_know_90 : decode cX6_know 90 = .ok (.iinc 1 1, 3) := by decide +kernel
theorem dX6_know_93 : decode cX6_know 93 = .ok (.goto (-35), 3) := by decide +kernel
theorem dX6_know_96 : decode cX6_know 96 = .ok (.aload_n 0, 1) := by decide +kernel
theorem dX6_know_97 : decode cX6_know 97 = .ok (.getfield 29, 3) := by decide +kernel
theorem dX6_know_100 : decode cX6_know 100 = .ok (.bipush 52, 2) := by decide +kernel
theorem dX6_know_102 : decode cX6_know 102 = .ok (.dup2, 1) := by decide +kernel
theorem dX6_know_103 : decode cX6_know 103 = .ok (.iaload, 1) := by decide +kernel
theorem dX6_know_104 : decode cX6_know 104 = .ok (.iconst 1, 1) := by decide +kernel
theorem dX6_know_105 : decode cX6_know 105 = .ok (.iadd, 1) := by decide +kernel
theorem dX6_know_106 : decode cX6_know 106 = .ok (.iastore, 1) := by decide +kernel
theorem dX6_know_107 : decode cX6_know 107 = .ok (.return_, 1) := by decide +kernel
theorem dX6_think_0 : decode cX6_think 0 = .ok (.aload_n 0, 1) := by decide +kernel
theorem dX6_think_1 : decode cX6_think 1 = .ok (.iconst 2, 1) := by decide +kernel
theorem dX6_think_2 : decode cX6_think 2 = .ok (.dup2, 1) := by decide +kernel
theorem dX6_think_3 : decode cX6_think 3 = .ok (.iaload, 1) := by decide +kernel
theorem dX6_think_4 : decode cX6_think 4 = .ok (.iconst 1, 1) := by decide +kernel
theorem dX6_think_5 : decode cX6_think 5 = .ok (.iadd, 1) := by decide +kernel
theorem dX6_think_6 : decode cX6_think 6 = .ok (.iastore, 1) := by decide +kernel
theorem dX6_think_7 : decode cX6_think 7 = .ok (.aload_n 0, 1) := by decide +kernel
theorem dX6_think_8 : decode cX6_think 8 = .ok (.bipush 16, 2) := by decide +kernel
theorem dX6_think_10 : decode cX6_think 10 = .ok (.bipush 6, 2) := by decide +kernel
theorem dX6_think_12 : decode cX6_think 12 = .ok (.iload_n 1, 1) := by decide +kernel
theorem dX6_think_13 : decode cX6_think 13 = .ok (.imul, 1) := by decide +kernel
theorem dX6_think_14 : decode cX6_think 14 = .ok (.iadd, 1) := by decide +kernel
theorem dX6_think_15 : decode cX6_think 15 = .ok (.iload_n 2, 1) := by decide +kernel
theorem dX6_think_16 : decode cX6_think 16 = .ok (.iadd, 1) := by decide +kernel
theorem dX6_think_17 : decode cX6_think 17 = .ok (.aload_n 0, 1) := by decide +kernel
theorem dX6_think_18 : decode cX6_think 18 = .ok (.iconst 2, 1) := by decide +kernel
theorem dX6_think_19 : decode cX6_think 19 = .ok (.iaload, 1) := by decide +kernel
theorem dX6_think_20 : decode cX6_think 20 = .ok (.iastore, 1) := by decide +kernel
theorem dX6_think_21 : decode cX6_think 21 = .ok (.return_, 1) := by decide +kernel
set_option maxRecDepth 20000 in
theorem ggX6_ride_X6_isAboard : GoodIn wsX6_ride wsX6_isAboard := goodIn_r _ [7] (by decide +kernel) (by decide +kernel)
set_option maxRecDepth 20000 in
theorem gX6_ride_X6_isAboard : GoodIn wsX6_ride (wsV RX6 110 RX6 yX6_isAboard wsX6_isAboard) := goodIn_app (goodIn_of _ (by decide +kernel)) ggX6_ride_X6_isAboard
set_option maxRecDepth 20000 in
theorem ggX6_ride_X6_whom : GoodIn wsX6_ride wsX6_whom := goodIn_r _ [11, 1, 3, 4, 5, 6, 7, 12, 13, 14, 15, 16, 17, 18, 19, 23, 24, 25, 26, 27, 28, 29, 30, 31, 32, 33, 34, 35, 36, 37, 38, 39, 40, 41, 42, 43] (by decide +kernel) (by decide +kernel)
set_option maxRecDepth 20000 in
theorem gX6_ride_X6_whom : GoodIn wsX6_ride (wsV RX6 121 RX6 yX6_whom wsX6_whom) := goodIn_app (goodIn_of _ (by decide +kernel)) ggX6_ride_X6_whom
set_option maxRecDepth 20000 in
theorem ggX6_ride_X6_think : GoodIn wsX6_ride wsX6_think := goodIn_r _ [22] (by decide +kernel) (by decide +kernel)
set_option maxRecDepth 20000 in
theorem gX6_ride_X6_think : GoodIn wsX6_ride (va_wsS RX6 132 yX6_think wsX6_think) := goodIn_app (goodIn_of _ (by decide +kernel)) ggX6_ride_X6_think
theorem dX6_ride_0 : decode cX6_ride 0 = .ok (.aload_n 1, 1) := by decide +kernel
theorem dX6_ride_1 : decode cX6_ride 1 = .ok (.iconst 0, 1) := by decide +kernel
theorem dX6_ride_2 : decode cX6_ride 2 = .ok (.dup2, 1) := by decide +kernel
theorem dX6_ride_3 : decode cX6_ride 3 = .ok (.iaload, 1) := by decide +kernel
theorem dX6_ride_4 : decode cX6_ride 4 = .ok (.iconst 1, 1) := by decide +kernel
theorem dX6_ride_5 : decode cX6_ride 5 = .ok (.iadd, 1) := by decide +kernel
theorem dX6_ride_6 : decode cX6_ride 6 = .ok (.iastore, 1) := by decide +kernel
theorem dX6_ride_7 : decode cX6_ride 7 = .ok (.iconst 0, 1) := by decide +kernel
theorem dX6_ride_8 : decode cX6_ride 8 = .ok (.istore_n 2, 1) := by decide +kernel
theorem dX6_ride_9 : decode cX6_ride 9 = .ok (.iload_n 2, 1) := by decide +kernel
theorem dX6_ride_10 : decode cX6_ride 10 = .ok (.aload_n 0, 1) := by decide +kernel
theorem dX6_ride_11 : decode cX6_ride 11 = .ok (.getfield 13, 3) := by decide +kernel
theorem dX6_ride_14 : decode cX6_ride 14 = .ok (.iconst 0, 1) := by decide +kernel
theorem dX6_ride_15 : decode cX6_ride 15 = .ok (.iaload, 1) := by decide +kernel
theorem dX6_ride_16 : decode cX6_ride 16 = .ok (.if_icmp .ge 48, 3) := by decide +kernel
theorem dX6_ride_19 : decode cX6_ride 19 = .ok (.aload_n 0, 1) := by decide +kernel
theorem dX6_ride_20 : decode cX6_ride 20 = .ok (.aload_n 1, 1) := by decide +kernel
theorem dX6_ride_21 : decode cX6_ride 21 = .ok (.iload_n 2, 1) := by decide +kernel
theorem dX6_ride_22 : decode cX6_ride 22 = .ok (.invokevirtual 110, 3) := by decide +kernel
theorem dX6_ride_25 : decode cX6_ride 25 = .ok (.ifCond .eq 18, 3) := by decide +kernel
theorem dX6_ride_28 : decode cX6_ride 28 = .ok (.aload_n 0, 1) := by decide +kernel
theorem dX6_ride_29 : decode cX6_ride 29 = .ok (.aload_n 1, 1) := by decide +kernel
theorem dX6_ride_30 : decode cX6_ride 30 = .ok (.iload_n 2, 1) := by decide +kernel
theorem dX6_ride_31 : decode cX6_ride 31 = .ok (.aload_n 0, 1) := by decide +kernel
theorem dX6_ride_32 : decode cX6_ride 32 = .ok (.getfield 23, 3) := by decide +kernel
theorem dX6_ride_35 : decode cX6_ride 35 = .ok (.iload_n 2, 1) := by decide +kernel
theorem dX6_ride_36 : decode cX6_ride 36 = .ok (.iaload, 1) := by decide +kernel
theorem dX6_ride_37 : decode cX6_ride 37 = .ok (.invokevirtual 121, 3) := by decide +kernel
theorem dX6_ride_40 : decode cX6_ride 40 = .ok (.goto 5, 3) := by decide +kernel
theorem dX6_ride_43 : decode cX6_ride 43 = .ok (.bipush (-9), 2) := by decide +kernel
theorem dX6_ride_45 : decode cX6_ride 45 = .ok (.istore_n 3, 1) := by decide +kernel
theorem dX6_ride_46 : decode cX6_ride 46 = .ok (.iload_n 3, 1) := by decide +kernel
theorem dX6_ride_47 : decode cX6_ride 47 = .ok (.bipush (-9), 2) := by decide +kernel
theorem dX6_ride_49 : decode cX6_ride 49 = .ok (.if_icmp .eq 9, 3) := by decide +kernel
theorem dX6_ride_52 : decode cX6_ride 52 = .ok (.aload_n 1, 1) := by decide +kernel
theorem dX6_ride_53 : decode cX6_ride 53 = .ok (.iload_n 2, 1) := by decide +kernel
theorem dX6_ride_54 : decode cX6_ride 54 = .ok (.iload_n 3, 1) := by decide +kernel
theorem dX6_ride_55 : decode cX6_ride 55 = .ok (.invokestatic 132, 3) := by decide +kernel
theorem dX6_ride_58 : decode cX6_ride 58 = .ok (.iinc 2 1, 3) := by decide +kernel
theorem dX6_ride_61 : decode cX6_ride 61 = .ok (.goto (-52), 3) := by decide +kernel
theorem dX6_ride_64 : decode cX6_ride 64 = .ok (.return_, 1) := by decide +kernel
set_option maxRecDepth 20000 in
theorem ggX6_rides_X6_know : GoodIn wsX6_rides wsX6_know := goodIn_r _ [6, 1, 32, 33, 34, 35, 36, 37, 38, 39, 40, 41, 42, 43, 44, 45, 46, 47, 48, 49, 50, 51, 52] (by decide +kernel) (by decide +kernel)
set_option maxRecDepth 20000 in
theorem gX6_rides_X6_know : GoodIn wsX6_rides (wsV RX6 136 RX6 yX6_know wsX6_know) := goodIn_app (goodIn_of _ (by decide +kernel)) ggX6_rides_X6_know
set_option maxRecDepth 20000 in
theorem ggX6_rides_X6_ride : GoodIn wsX6_rides wsX6_ride := goodIn_r _ [10, 11, 12, 13, 14, 15, 5, 16, 17, 18, 19, 20, 21, 22, 23, 24, 25, 26, 27, 28, 29, 30, 31, 32, 33, 34, 35, 36, 37, 38, 39, 40, 41, 42, 43, 44, 45, 46, 47, 48, 49, 50, 51, 52] (by decide +kernel) (by decide +kernel)
set_option maxRecDepth 20000 in
theorem gX6_rides_X6_ride : GoodIn wsX6_rides (wsV RX6 139 RX6 yX6_ride wsX6_ride) := goodIn_app (goodIn_of _ (by decide +kernel)) ggX6_rides_X6_ride
theorem dX6_rides_0 : decode cX6_rides 0 = .ok (.aload_n 0, 1) := by decide +kernel
theorem dX6_rides_1 : decode cX6_rides 1 = .ok (.getfield 29, 3) := by decide +kernel
theorem dX6_rides_4 : decode cX6_rides 4 = .ok (.iconst 0, 1) := by decide +kernel
theorem dX6_rides_5 : decode cX6_rides 5 = .ok (.iaload, 1) := by decide +kernel
theorem dX6_rides_6 : decode cX6_rides 6 = .ok (.bipush 99, 2) := by decide +kernel
theorem dX6_rides_8 : decode cX6_rides 8 = .ok (.if_icmp .ne 6, 3) := by decide +kernel
theorem dX6_rides_11 : decode cX6_rides 11 = .ok (.bipush (-2), 2) := by decide +kernel
theorem dX6_rides_13 : decode cX6_rides 13 = .ok (.ireturn, 1) := by decide +kernel
theorem dX6_rides_14 : decode cX6_rides 14 = .ok (.aload_n 0, 1) := by decide +kernel
theorem dX6_rides_15 : decode cX6_rides 15 = .ok (.invokevirtual 136, 3) := by decide +kernel
theorem dX6_rides_18 : decode cX6_rides 18 = .ok (.aload_n 0, 1) := by decide +kernel
theorem dX6_rides_19 : decode cX6_rides 19 = .ok (.aload_n 0, 1) := by decide +kernel
theorem dX6_rides_20 : decode cX6_rides 20 = .ok (.getfield 29, 3) := by decide +kernel
theorem dX6_rides_23 : decode cX6_rides 23 = .ok (.invokevirtual 139, 3) := by decide +kernel
theorem dX6_rides_26 : decode cX6_rides 26 = .ok (.aload_n 0, 1) := by decide +kernel
theorem dX6_rides_27 : decode cX6_rides 27 = .ok (.getfield 29, 3) := by decide +kernel
theorem dX6_rides_30 : decode cX6_rides 30 = .ok (.iconst 0, 1) := by decide +kernel
theorem dX6_rides_31 : decode cX6_rides 31 = .ok (.iaload, 1) := by decide +kernel
theorem dX6_rides_32 : decode cX6_rides 32 = .ok (.ireturn, 1) := by decide +kernel
set_option maxRecDepth 20000 in
theorem ggX6_thinks_X6_isRider : GoodIn wsX6_thinks wsX6_isRider := goodIn_r _ [6, 7, 8, 9, 5, 10, 22, 23, 24, 25, 26, 27, 28, 29, 30, 31, 32, 33, 34, 35, 36, 37, 38, 39, 40, 41, 42] (by decide +kernel) (by decide +kernel)
set_option maxRecDepth 20000 in
theorem gX6_thinks_X6_isRider : GoodIn wsX6_thinks (wsV RX6 107 RX6 yX6_isRider wsX6_isRider) := goodIn_app (goodIn_of _ (by decide +kernel)) ggX6_thinks_X6_isRider
set_option maxRecDepth 20000 in
theorem ggX6_thinks_X6_isAboard : GoodIn wsX6_thinks wsX6_isAboard := goodIn_r _ [14] (by decide +kernel) (by decide +kernel)
set_option maxRecDepth 20000 in
theorem gX6_thinks_X6_isAboard : GoodIn wsX6_thinks (wsV RX6 110 RX6 yX6_isAboard wsX6_isAboard) := goodIn_app (goodIn_of _ (by decide +kernel)) ggX6_thinks_X6_isAboard
set_option maxRecDepth 20000 in
theorem ggX6_thinks_X6_know : GoodIn wsX6_thinks wsX6_know := goodIn_r _ [18, 1, 22, 23, 24, 25, 26, 27, 28, 29, 30, 31, 32, 33, 34, 35, 36, 37, 38, 39, 40, 41, 42] (by decide +kernel) (by decide +kernel)
set_option maxRecDepth 20000 in
theorem gX6_thinks_X6_know : GoodIn wsX6_thinks (wsV RX6 136 RX6 yX6_know wsX6_know) := goodIn_app (goodIn_of _ (by decide +kernel)) ggX6_thinks_X6_know
set_option maxRecDepth 20000 in
theorem ggX6_thinks_X6_think : GoodIn wsX6_thinks wsX6_think := goodIn_r _ [21] (by decide +kernel) (by decide +kernel)
set_option maxRecDepth 20000 in
theorem gX6_thinks_X6_think : GoodIn wsX6_thinks (va_wsS RX6 132 yX6_think wsX6_think) := goodIn_app (goodIn_of _ (by decide +kernel)) ggX6_thinks_X6_think
theorem dX6_thinks_0 : decode cX6_thinks 0 = .ok (.aload_n 0, 1) := by decide +kernel
theorem dX6_thinks_1 : decode cX6_thinks 1 = .ok (.iload_n 1, 1) := by decide +kernel
theorem dX6_thinks_2 : decode cX6_thinks 2 = .ok (.invokevirtual 107, 3) := by decide +kernel
theorem dX6_thinks_5 : decode cX6_thinks 5 = .ok (.ifCond .eq 16, 3) := by decide +kernel
theorem dX6_thinks_8 : decode cX6_thinks 8 = .ok (.aload_n 0, 1) := by decide +kernel
theorem dX6_thinks_9 : decode cX6_thinks 9 = .ok (.iload_n 2, 1) := by decide +kernel
theorem dX6_thinks_10 : decode cX6_thinks 10 = .ok (.invokevirtual 107, 3) := by decide +kernel
theorem dX6_thinks_13 : decode cX6_thinks 13 = .ok (.ifCond .eq 8, 3) := by decide +kernel
theorem dX6_thinks_16 : decode cX6_thinks 16 = .ok (.iload_n 1, 1) := by decide +kernel
theorem dX6_thinks_17 : decode cX6_thinks 17 = .ok (.iload_n 2, 1) := by decide +kernel
theorem dX6_thinks_18 : decode cX6_thinks 18 = .ok (.if_icmp .ne 5, 3) := by decide +kernel
theorem dX6_thinks_21 : decode cX6_thinks 21 = .ok (.iconst (-1), 1) := by decide +kernel
theorem dX6_thinks_22 : decode cX6_thinks 22 = .ok (.ireturn, 1) := by decide +kernel
theorem dX6_thinks_23 : decode cX6_thinks 23 = .ok (.aload_n 0, 1) := by decide +kernel
theorem dX6_thinks_24 : decode cX6_thinks 24 = .ok (.aload_n 0, 1) := by decide +kernel
theorem dX6_thinks_25 : decode cX6_thinks 25 = .ok (.getfield 29, 3) := by decide +kernel
theorem dX6_thinks_28 : decode cX6_thinks 28 = .ok (.iload_n 1, 1) := by decide +kernel
theorem dX6_thinks_29 : decode cX6_thinks 29 = .ok (.invokevirtual 110, 3) := by decide +kernel
theorem dX6_thinks_32 : decode cX6_thinks 32 = .ok (.ifCond .eq 15, 3) := by decide +kernel
theorem dX6_thinks_35 : decode cX6_thinks 35 = .ok (.aload_n 0, 1) := by decide +kernel
theorem dX6_thinks_36 : decode cX6_thinks 36 = .ok (.aload_n 0, 1) := by decide +kernel
theorem dX6_thinks_37 : decode cX6_thinks 37 = .ok (.getfield 29, 3) := by decide +kernel
theorem dX6_thinks_40 : decode cX6_thinks 40 = .ok (.iload_n 2, 1) := by decide +kernel
theorem dX6_thinks_41 : decode cX6_thinks 41 = .ok (.invokevirtual 110, 3) := by decide +kernel
theorem dX6_thinks_44 : decode cX6_thinks 44 = .ok (.ifCond .ne 6, 3) := by decide +kernel
theorem dX6_thinks_47 : decode cX6_thinks 47 = .ok (.bipush (-2), 2) := by decide +kernel
theorem dX6_thinks_49 : decode cX6_thinks 49 = .ok (.ireturn, 1) := by decide +kernel
theorem dX6_thinks_50 : decode cX6_thinks 50 = .ok (.aload_n 0, 1) := by decide +kernel
theorem dX6_thinks_51 : decode cX6_thinks 51 = .ok (.invokevirtual 136, 3) := by decide +kernel
theorem dX6_thinks_54 : decode cX6_thinks 54 = .ok (.aload_n 0, 1) := by decide +kernel
theorem dX6_thinks_55 : decode cX6_thinks 55 = .ok (.getfield 29, 3) := by decide +kernel
theorem dX6_thinks_58 : decode cX6_thinks 58 = .ok (.iload_n 1, 1) := by decide +kernel
theorem dX6_thinks_59 : decode cX6_thinks 59 = .ok (.iload_n 2, 1) := by decide +kernel
theorem dX6_thinks_60 : decode cX6_thinks 60 = .ok (.invokestatic 132, 3) := by decide +kernel
theorem dX6_thinks_63 : decode cX6_thinks 63 = .ok (.aload_n 0, 1) := by decide +kernel
theorem dX6_thinks_64 : decode cX6_thinks 64 = .ok (.getfield 29, 3) := by decide +kernel
theorem dX6_thinks_67 : decode cX6_thinks 67 = .ok (.iconst 2, 1) := by decide +kernel
theorem dX6_thinks_68 : decode cX6_thinks 68 = .ok (.iaload, 1) := by decide +kernel
theorem dX6_thinks_69 : decode cX6_thinks 69 = .ok (.ireturn, 1) := by decide +kernel
set_option maxRecDepth 20000 in
theorem ggX6_down_X6_know : GoodIn wsX6_down wsX6_know := goodIn_r _ [6, 1, 7, 8, 9, 10, 11, 12, 13, 14, 15, 16, 17, 18, 19, 20, 21, 22, 23, 24, 25, 26, 27] (by decide +kernel) (by decide +kernel)
set_option maxRecDepth 20000 in
theorem gX6_down_X6_know : GoodIn wsX6_down (wsV RX6 136 RX6 yX6_know wsX6_know) := goodIn_app (goodIn_of _ (by decide +kernel)) ggX6_down_X6_know
theorem dX6_down_0 : decode cX6_down 0 = .ok (.aload_n 0, 1) := by decide +kernel
theorem dX6_down_1 : decode cX6_down 1 = .ok (.invokevirtual 136, 3) := by decide +kernel
theorem dX6_down_4 : decode cX6_down 4 = .ok (.iload_n 1, 1) := by decide +kernel
theorem dX6_down_5 : decode cX6_down 5 = .ok (.bipush (-9), 2) := by decide +kernel
theorem dX6_down_7 : decode cX6_down 7 = .ok (.if_icmp .ne 16, 3) := by decide +kernel
theorem dX6_down_10 : decode cX6_down 10 = .ok (.aload_n 0, 1) := by decide +kernel
theorem dX6_down_11 : decode cX6_down 11 = .ok (.getfield 29, 3) := by decide +kernel
theorem dX6_down_14 : decode cX6_down 14 = .ok (.iconst 3, 1) := by decide +kernel
theorem dX6_down_15 : decode cX6_down 15 = .ok (.dup2, 1) := by decide +kernel
theorem dX6_down_16 : decode cX6_down 16 = .ok (.iaload, 1) := by decide +kernel
theorem dX6_down_17 : decode cX6_down 17 = .ok (.iconst 1, 1) := by decide +kernel
theorem dX6_down_18 : decode cX6_down 18 = .ok (.iadd, 1) := by decide +kernel
theorem dX6_down_19 : decode cX6_down 19 = .ok (.iastore, 1) := by decide +kernel
theorem dX6_down_20 : decode cX6_down 20 = .ok (.goto 32, 3) := by decide +kernel
theorem dX6_down_23 : decode cX6_down 23 = .ok (.aload_n 0, 1) := by decide +kernel
theorem dX6_down_24 : decode cX6_down 24 = .ok (.getfield 29, 3) := by decide +kernel
theorem dX6_down_27 : decode cX6_down 27 = .ok (.iconst 1, 1) := by decide +kernel
theorem dX6_down_28 : decode cX6_down 28 = .ok (.dup2, 1) := by decide +kernel
theorem dX6_down_29 : decode cX6_down 29 = .ok (.iaload, 1) := by decide +kernel
theorem dX6_down_30 : decode cX6_down 30 = .ok (.iconst 1, 1) := by decide +kernel
theorem dX6_down_31 : decode cX6_down 31 = .ok (.iload_n 1, 1) := by decide +kernel
theorem dX6_down_32 : decode cX6_down 32 = .ok (.ishl, 1) := by decide +kernel
theorem dX6_down_33 : decode cX6_down 33 = .ok (.iconst (-1), 1) := by decide +kernel
theorem dX6_down_34 : decode cX6_down 34 = .ok (.ixor, 1) := by decide +kernel
theorem dX6_down_35 : decode cX6_down 35 = .ok (.iand, 1) := by decide +kernel
theorem dX6_down_36 : decode cX6_down 36 = .ok (.iastore, 1) := by decide +kernel
theorem dX6_down_37 : decode cX6_down 37 = .ok (.aload_n 0, 1) := by decide +kernel
theorem dX6_down_38 : decode cX6_down 38 = .ok (.getfield 29, 3) := by decide +kernel
theorem dX6_down_41 : decode cX6_down 41 = .ok (.bipush 10, 2) := by decide +kernel
theorem dX6_down_43 : decode cX6_down 43 = .ok (.iload_n 1, 1) := by decide +kernel
theorem dX6_down_44 : decode cX6_down 44 = .ok (.iadd, 1) := by decide +kernel
theorem dX6_down_45 : decode cX6_down 45 = .ok (.aload_n 0, 1) := by decide +kernel
theorem dX6_down_46 : decode cX6_down 46 = .ok (.getfield 29, 3) := by decide +kernel
theorem dX6_down_49 : decode cX6_down 49 = .ok (.iconst 0, 1) := by decide +kernel
theorem dX6_down_50 : decode cX6_down 50 = .ok (.iaload, 1) := by decide +kernel
theorem dX6_down_51 : decode cX6_down 51 = .ok (.iastore, 1) := by decide +kernel
theorem dX6_down_52 : decode cX6_down 52 = .ok (.iload_n 1, 1) := by decide +kernel
theorem dX6_down_53 : decode cX6_down 53 = .ok (.ireturn, 1) := by decide +kernel
set_option maxRecDepth 20000 in
theorem ggX6_rings_X6_isRider : GoodIn wsX6_rings wsX6_isRider := goodIn_r _ [6, 7, 8, 9, 5, 10, 27, 28, 29, 30, 31, 32, 33, 34, 35, 36, 37, 38, 39, 40, 41, 42, 43, 44, 45, 46, 47] (by decide +kernel) (by decide +kernel)
set_option maxRecDepth 20000 in
theorem gX6_rings_X6_isRider : GoodIn wsX6_rings (wsV RX6 107 RX6 yX6_isRider wsX6_isRider) := goodIn_app (goodIn_of _ (by decide +kernel)) ggX6_rings_X6_isRider
set_option maxRecDepth 20000 in
theorem ggX6_rings_X6_isAboard : GoodIn wsX6_rings wsX6_isAboard := goodIn_r _ [14] (by decide +kernel) (by decide +kernel)
set_option maxRecDepth 20000 in
theorem gX6_rings_X6_isAboard : GoodIn wsX6_rings (wsV RX6 110 RX6 yX6_isAboard wsX6_isAboard) := goodIn_app (goodIn_of _ (by decide +kernel)) ggX6_rings_X6_isAboard
set_option maxRecDepth 20000 in
theorem ggX6_rings_X6_byRing : GoodIn wsX6_rings wsX6_byRing := goodIn_r _ [18, 7, 27, 28, 29, 30, 31, 32, 33, 34, 35, 36, 37, 38, 39, 40, 41, 42, 43, 44, 45, 46, 47] (by decide +kernel) (by decide +kernel)
set_option maxRecDepth 20000 in
theorem gX6_rings_X6_byRing : GoodIn wsX6_rings (wsV RX6 125 RX6 yX6_byRing wsX6_byRing) := goodIn_app (goodIn_of _ (by decide +kernel)) ggX6_rings_X6_byRing
set_option maxRecDepth 20000 in
theorem ggX6_rings_X6_down : GoodIn wsX6_rings wsX6_down := goodIn_r _ [22, 1, 23, 24, 25, 5, 26, 27, 28, 29, 30, 31, 32, 33, 34, 35, 36, 37, 38, 39, 40, 41, 42, 43, 44, 45, 46, 47] (by decide +kernel) (by decide +kernel)
set_option maxRecDepth 20000 in
theorem gX6_rings_X6_down : GoodIn wsX6_rings (wsV RX6 143 RX6 yX6_down wsX6_down) := goodIn_app (goodIn_of _ (by decide +kernel)) ggX6_rings_X6_down
theorem dX6_rings_0 : decode cX6_rings 0 = .ok (.aload_n 0, 1) := by decide +kernel
theorem dX6_rings_1 : decode cX6_rings 1 = .ok (.iload_n 1, 1) := by decide +kernel
theorem dX6_rings_2 : decode cX6_rings 2 = .ok (.invokevirtual 107, 3) := by decide +kernel
theorem dX6_rings_5 : decode cX6_rings 5 = .ok (.ifCond .ne 5, 3) := by decide +kernel
theorem dX6_rings_8 : decode cX6_rings 8 = .ok (.iconst (-1), 1) := by decide +kernel
theorem dX6_rings_9 : decode cX6_rings 9 = .ok (.ireturn, 1) := by decide +kernel
theorem dX6_rings_10 : decode cX6_rings 10 = .ok (.aload_n 0, 1) := by decide +kernel
theorem dX6_rings_11 : decode cX6_rings 11 = .ok (.aload_n 0, 1) := by decide +kernel
theorem dX6_rings_12 : decode cX6_rings 12 = .ok (.getfield 29, 3) := by decide +kernel
theorem dX6_rings_15 : decode cX6_rings 15 = .ok (.iload_n 1, 1) := by decide +kernel
theorem dX6_rings_16 : decode cX6_rings 16 = .ok (.invokevirtual 110, 3) := by decide +kernel
theorem dX6_rings_19 : decode cX6_rings 19 = .ok (.ifCond .eq 25, 3) := by decide +kernel
theorem dX6_rings_22 : decode cX6_rings 22 = .ok (.aload_n 0, 1) := by decide +kernel
theorem dX6_rings_23 : decode cX6_rings 23 = .ok (.aload_n 0, 1) := by decide +kernel
theorem dX6_rings_24 : decode cX6_rings 24 = .ok (.aload_n 0, 1) := by decide +kernel
theorem dX6_rings_25 : decode cX6_rings 25 = .ok (.getfield 29, 3) := by decide +kernel
theorem dX6_rings_28 : decode cX6_rings 28 = .ok (.iload_n 1, 1) := by decide +kernel
theorem dX6_rings_29 : decode cX6_rings 29 = .ok (.aload_n 0, 1) := by decide +kernel
theorem dX6_rings_30 : decode cX6_rings 30 = .ok (.getfield 29, 3) := by decide +kernel
theorem dX6_rings_33 : decode cX6_rings 33 = .ok (.iconst 1, 1) := by decide +kernel
theorem dX6_rings_34 : decode cX6_rings 34 = .ok (.iaload, 1) := by decide +kernel
theorem dX6_rings_35 : decode cX6_rings 35 = .ok (.invokevirtual 125, 3) := by decide +kernel
theorem dX6_rings_38 : decode cX6_rings 38 = .ok (.invokevirtual 143, 3) := by decide +kernel
theorem dX6_rings_41 : decode cX6_rings 41 = .ok (.goto 5, 3) := by decide +kernel
theorem dX6_rings_44 : decode cX6_rings 44 = .ok (.bipush (-2), 2) := by decide +kernel
theorem dX6_rings_46 : decode cX6_rings 46 = .ok (.ireturn, 1) := by decide +kernel
set_option maxRecDepth 20000 in
theorem ggX6_twice_X6_isRider : GoodIn wsX6_twice wsX6_isRider := goodIn_r _ [6, 7, 8, 9, 5, 10, 27, 28, 29, 30, 31, 32, 33, 34, 35, 36, 37, 38, 39, 40, 41, 42, 43, 44, 45, 46, 47] (by decide +kernel) (by decide +kernel)
set_option maxRecDepth 20000 in
theorem gX6_twice_X6_isRider : GoodIn wsX6_twice (wsV RX6 107 RX6 yX6_isRider wsX6_isRider) := goodIn_app (goodIn_of _ (by decide +kernel)) ggX6_twice_X6_isRider
set_option maxRecDepth 20000 in
theorem ggX6_twice_X6_isAboard : GoodIn wsX6_twice wsX6_isAboard := goodIn_r _ [14] (by decide +kernel) (by decide +kernel)
set_option maxRecDepth 20000 in
theorem gX6_twice_X6_isAboard : GoodIn wsX6_twice (wsV RX6 110 RX6 yX6_isAboard wsX6_isAboard) := goodIn_app (goodIn_of _ (by decide +kernel)) ggX6_twice_X6_isAboard
set_option maxRecDepth 20000 in
theorem ggX6_twice_X6_byTwo : GoodIn wsX6_twice wsX6_byTwo := goodIn_r _ [18, 7, 1, 11, 12, 13, 5, 14, 27, 28, 29, 30, 31, 32, 33, 34, 35, 36, 37, 38, 39, 40, 41, 42, 43, 44, 45, 46, 47] (by decide +kernel) (by decide +kernel)
set_option maxRecDepth 20000 in
theorem gX6_twice_X6_byTwo : GoodIn wsX6_twice (wsV RX6 128 RX6 yX6_byTwo wsX6_byTwo) := goodIn_app (goodIn_of _ (by decide +kernel)) ggX6_twice_X6_byTwo
set_option maxRecDepth 20000 in
theorem ggX6_twice_X6_down : GoodIn wsX6_twice wsX6_down := goodIn_r _ [22, 1, 23, 24, 25, 5, 26, 27, 28, 29, 30, 31, 32, 33, 34, 35, 36, 37, 38, 39, 40, 41, 42, 43, 44, 45, 46, 47] (by decide +kernel) (by decide +kernel)
set_option maxRecDepth 20000 in
theorem gX6_twice_X6_down : GoodIn wsX6_twice (wsV RX6 143 RX6 yX6_down wsX6_down) := goodIn_app (goodIn_of _ (by decide +kernel)) ggX6_twice_X6_down
theorem dX6_twice_0 : decode cX6_twice 0 = .ok (.aload_n 0, 1) := by decide +kernel
theorem dX6_twice_1 : decode cX6_twice 1 = .ok (.iload_n 1, 1) := by decide +kernel
theorem dX6_twice_2 : decode cX6_twice 2 = .ok (.invokevirtual 107, 3) := by decide +kernel
theorem dX6_twice_5 : decode cX6_twice 5 = .ok (.ifCond .ne 5, 3) := by decide +kernel
theorem dX6_twice_8 : decode cX6_twice 8 = .ok (.iconst (-1), 1) := by decide +kernel
theorem dX6_twice_9 : decode cX6_twice 9 = .ok (.ireturn, 1) := by decide +kernel
theorem dX6_twice_10 : decode cX6_twice 10 = .ok (.aload_n 0, 1) := by decide +kernel
theorem dX6_twice_11 : decode cX6_twice 11 = .ok (.aload_n 0, 1) := by decide +kernel
theorem dX6_twice_12 : decode cX6_twice 12 = .ok (.getfield 29, 3) := by decide +kernel
theorem dX6_twice_15 : decode cX6_twice 15 = .ok (.iload_n 1, 1) := by decide +kernel
theorem dX6_twice_16 : decode cX6_twice 16 = .ok (.invokevirtual 110, 3) := by decide +kernel
theorem dX6_twice_19 : decode cX6_twice 19 = .ok (.ifCond .eq 15, 3) := by decide +kernel
theorem dX6_twice_22 : decode cX6_twice 22 = .ok (.aload_n 0, 1) := by decide +kernel
theorem dX6_twice_23 : decode cX6_twice 23 = .ok (.aload_n 0, 1) := by decide +kernel
theorem dX6_twice_24 : decode cX6_twice 24 = .ok (.iload_n 1, 1) := by decide +kernel
theorem dX6_twice_25 : decode cX6_twice 25 = .ok (.invokevirtual 128, 3) := by decide +kernel
theorem dX6_twice_28 : decode cX6_twice 28 = .ok (.invokevirtual 143, 3) := by decide +kernel
theorem dX6_twice_31 : decode cX6_twice 31 = .ok (.goto 5, 3) := by decide +kernel
theorem dX6_twice_34 : decode cX6_twice 34 = .ok (.bipush (-2), 2) := by decide +kernel
theorem dX6_twice_36 : decode cX6_twice 36 = .ok (.ireturn, 1) := by decide +kernel
set_option maxRecDepth 20000 in
theorem ggX6_seats_X6_isRider : GoodIn wsX6_seats wsX6_isRider := goodIn_r _ [6, 7, 8, 9, 5, 10, 19, 20, 21, 22, 23, 24, 25, 26, 27, 28, 29, 30, 31, 32, 33, 34, 35, 36, 37, 38, 39] (by decide +kernel) (by decide +kernel)
set_option maxRecDepth 20000 in
theorem gX6_seats_X6_isRider : GoodIn wsX6_seats (wsV RX6 107 RX6 yX6_isRider wsX6_isRider) := goodIn_app (goodIn_of _ (by decide +kernel)) ggX6_seats_X6_isRider
set_option maxRecDepth 20000 in
theorem ggX6_seats_X6_in : GoodIn wsX6_seats wsX6_in := goodIn_r _ [10] (by decide +kernel) (by decide +kernel)
set_option maxRecDepth 20000 in
theorem gX6_seats_X6_in : GoodIn wsX6_seats (va_wsS RX6 54 yX6_in wsX6_in) := goodIn_app (goodIn_of _ (by decide +kernel)) ggX6_seats_X6_in
set_option maxRecDepth 20000 in
theorem ggX6_seats_X6_isAboard : GoodIn wsX6_seats wsX6_isAboard := goodIn_r _ [14] (by decide +kernel) (by decide +kernel)
set_option maxRecDepth 20000 in
theorem gX6_seats_X6_isAboard : GoodIn wsX6_seats (wsV RX6 110 RX6 yX6_isAboard wsX6_isAboard) := goodIn_app (goodIn_of _ (by decide +kernel)) ggX6_seats_X6_isAboard
set_option maxRecDepth 20000 in
theorem ggX6_seats_X6_know : GoodIn wsX6_seats wsX6_know := goodIn_r _ [18, 1, 19, 20, 21, 22, 23, 24, 25, 26, 27, 28, 29, 30, 31, 32, 33, 34, 35, 36, 37, 38, 39] (by decide +kernel) (by decide +kernel)
set_option maxRecDepth 20000 in
theorem gX6_seats_X6_know : GoodIn wsX6_seats (wsV RX6 136 RX6 yX6_know wsX6_know) := goodIn_app (goodIn_of _ (by decide +kernel)) ggX6_seats_X6_know
theorem dX6_seats_0 : decode cX6_seats 0 = .ok (.aload_n 0, 1) := by decide +kernel
theorem dX6_seats_1 : decode cX6_seats 1 = .ok (.iload_n 1, 1) := by decide +kernel
theorem dX6_seats_2 : decode cX6_seats 2 = .ok (.invokevirtual 107, 3) := by decide +kernel
theorem dX6_seats_5 : decode cX6_seats 5 = .ok (.ifCond .eq 13, 3) := by decide +kernel
theorem dX6_seats_8 : decode cX6_seats 8 = .ok (.iload_n 2, 1) := by decide +kernel
theorem dX6_seats_9 : decode cX6_seats 9 = .ok (.iconst 0, 1) := by decide +kernel
theorem dX6_seats_10 : decode cX6_seats 10 = .ok (.bipush 9, 2) := by decide +kernel
theorem dX6_seats_12 : decode cX6_seats 12 = .ok (.invokestatic 54, 3) := by decide +kernel
theorem dX6_seats_15 : decode cX6_seats 15 = .ok (.ifCond .ne 5, 3) := by decide +kernel
theorem dX6_seats_18 : decode cX6_seats 18 = .ok (.iconst (-1), 1) := by decide +kernel
theorem dX6_seats_19 : decode cX6_seats 19 = .ok (.ireturn, 1) := by decide +kernel
theorem dX6_seats_20 : decode cX6_seats 20 = .ok (.aload_n 0, 1) := by decide +kernel
theorem dX6_seats_21 : decode cX6_seats 21 = .ok (.getfield 29, 3) := by decide +kernel
theorem dX6_seats_24 : decode cX6_seats 24 = .ok (.iconst 4, 1) := by decide +kernel
theorem dX6_seats_25 : decode cX6_seats 25 = .ok (.iload_n 1, 1) := by decide +kernel
theorem dX6_seats_26 : decode cX6_seats 26 = .ok (.iadd, 1) := by decide +kernel
theorem dX6_seats_27 : decode cX6_seats 27 = .ok (.iaload, 1) := by decide +kernel
theorem dX6_seats_28 : decode cX6_seats 28 = .ok (.istore_n 3, 1) := by decide +kernel
theorem dX6_seats_29 : decode cX6_seats 29 = .ok (.aload_n 0, 1) := by decide +kernel
theorem dX6_seats_30 : decode cX6_seats 30 = .ok (.aload_n 0, 1) := by decide +kernel
theorem dX6_seats_31 : decode cX6_seats 31 = .ok (.getfield 29, 3) := by decide +kernel
theorem dX6_seats_34 : decode cX6_seats 34 = .ok (.iload_n 1, 1) := by decide +kernel
theorem dX6_seats_35 : decode cX6_seats 35 = .ok (.invokevirtual 110, 3) := by decide +kernel
theorem dX6_seats_38 : decode cX6_seats 38 = .ok (.ifCond .eq 8, 3) := by decide +kernel
theorem dX6_seats_41 : decode cX6_seats 41 = .ok (.iload_n 3, 1) := by decide +kernel
theorem dX6_seats_42 : decode cX6_seats 42 = .ok (.iload_n 2, 1) := by decide +kernel
theorem dX6_seats_43 : decode cX6_seats 43 = .ok (.if_icmp .ne 6, 3) := by decide +kernel
theorem dX6_seats_46 : decode cX6_seats 46 = .ok (.bipush (-2), 2) := by decide +kernel
theorem dX6_seats_48 : decode cX6_seats 48 = .ok (.ireturn, 1) := by decide +kernel
theorem dX6_seats_49 : decode cX6_seats 49 = .ok (.aload_n 0, 1) := by decide +kernel
theorem dX6_seats_50 : decode cX6_seats 50 = .ok (.invokevirtual 136, 3) := by decide +kernel
theorem dX6_seats_53 : decode cX6_seats 53 = .ok (.aload_n 0, 1) := by decide +kernel
theorem dX6_seats_54 : decode cX6_seats 54 = .ok (.getfield 29, 3) := by decide +kernel
theorem dX6_seats_57 : decode cX6_seats 57 = .ok (.iconst 4, 1) := by decide +kernel
theorem dX6_seats_58 : decode cX6_seats 58 = .ok (.iload_n 1, 1) := by decide +kernel
theorem dX6_seats_59 : decode cX6_seats 59 = .ok (.iadd, 1) := by decide +kernel
theorem dX6_seats_60 : decode cX6_seats 60 = .ok (.iload_n 2, 1) := by decide +kernel
theorem dX6_seats_61 : decode cX6_seats 61 = .ok (.iastore, 1) := by decide +kernel
theorem dX6_seats_62 : decode cX6_seats 62 = .ok (.iload_n 3, 1) := by decide +kernel
theorem dX6_seats_63 : decode cX6_seats 63 = .ok (.ireturn, 1) := by decide +kernel
set_option maxRecDepth 20000 in
theorem ggX6_boards_X6_isRider : GoodIn wsX6_boards wsX6_isRider := goodIn_r _ [6, 7, 8, 9, 5, 10, 22, 23, 24, 25, 26, 27, 28, 29, 30, 31, 32, 33, 34, 35, 36, 37, 38, 39, 40, 41, 42] (by decide +kernel) (by decide +kernel)
set_option maxRecDepth 20000 in
theorem gX6_boards_X6_isRider : GoodIn wsX6_boards (wsV RX6 107 RX6 yX6_isRider wsX6_isRider) := goodIn_app (goodIn_of _ (by decide +kernel)) ggX6_boards_X6_isRider
set_option maxRecDepth 20000 in
theorem ggX6_boards_X6_isAboard : GoodIn wsX6_boards wsX6_isAboard := goodIn_r _ [14] (by decide +kernel) (by decide +kernel)
set_option maxRecDepth 20000 in
theorem gX6_boards_X6_isAboard : GoodIn wsX6_boards (wsV RX6 110 RX6 yX6_isAboard wsX6_isAboard) := goodIn_app (goodIn_of _ (by decide +kernel)) ggX6_boards_X6_isAboard
set_option maxRecDepth 20000 in
theorem ggX6_boards_X6_know : GoodIn wsX6_boards wsX6_know := goodIn_r _ [18, 1, 22, 23, 24, 25, 26, 27, 28, 29, 30, 31, 32, 33, 34, 35, 36, 37, 38, 39, 40, 41, 42] (by decide +kernel) (by decide +kernel)
set_option maxRecDepth 20000 in
theorem gX6_boards_X6_know : GoodIn wsX6_boards (wsV RX6 136 RX6 yX6_know wsX6_know) := goodIn_app (goodIn_of _ (by decide +kernel)) ggX6_boards_X6_know
set_option maxRecDepth 20000 in
theorem ggX6_boards_X6_manyOf : GoodIn wsX6_boards wsX6_manyOf := goodIn_r _ [21] (by decide +kernel) (by decide +kernel)
set_option maxRecDepth 20000 in
theorem gX6_boards_X6_manyOf : GoodIn wsX6_boards (va_wsS RX6 146 yX6_manyOf wsX6_manyOf) := goodIn_app (goodIn_of _ (by decide +kernel)) ggX6_boards_X6_manyOf
theorem dX6_boards_0 : decode cX6_boards 0 = .ok (.aload_n 0, 1) := by decide +kernel
theorem dX6_boards_1 : decode cX6_boards 1 = .ok (.iload_n 1, 1) := by decide +kernel
theorem dX6_boards_2 : decode cX6_boards 2 = .ok (.invokevirtual 107, 3) := by decide +kernel
theorem dX6_boards_5 : decode cX6_boards 5 = .ok (.ifCond .ne 5, 3) := by decide +kernel
theorem dX6_boards_8 : decode cX6_boards 8 = .ok (.iconst (-1), 1) := by decide +kernel
theorem dX6_boards_9 : decode cX6_boards 9 = .ok (.ireturn, 1) := by decide +kernel
theorem dX6_boards_10 : decode cX6_boards 10 = .ok (.aload_n 0, 1) := by decide +kernel
theorem dX6_boards_11 : decode cX6_boards 11 = .ok (.aload_n 0, 1) := by decide +kernel
theorem dX6_boards_12 : decode cX6_boards 12 = .ok (.getfield 29, 3) := by decide +kernel
theorem dX6_boards_15 : decode cX6_boards 15 = .ok (.iload_n 1, 1) := by decide +kernel
theorem dX6_boards_16 : decode cX6_boards 16 = .ok (.invokevirtual 110, 3) := by decide +kernel
theorem dX6_boards_19 : decode cX6_boards 19 = .ok (.ifCond .eq 6, 3) := by decide +kernel
theorem dX6_boards_22 : decode cX6_boards 22 = .ok (.bipush (-2), 2) := by decide +kernel
theorem dX6_boards_24 : decode cX6_boards 24 = .ok (.ireturn, 1) := by decide +kernel
theorem dX6_boards_25 : decode cX6_boards 25 = .ok (.aload_n 0, 1) := by decide +kernel
theorem dX6_boards_26 : decode cX6_boards 26 = .ok (.invokevirtual 136, 3) := by decide +kernel
theorem dX6_boards_29 : decode cX6_boards 29 = .ok (.aload_n 0, 1) := by decide +kernel
theorem dX6_boards_30 : decode cX6_boards 30 = .ok (.getfield 29, 3) := by decide +kernel
theorem dX6_boards_33 : decode cX6_boards 33 = .ok (.iconst 1, 1) := by decide +kernel
theorem dX6_boards_34 : decode cX6_boards 34 = .ok (.dup2, 1) := by decide +kernel
theorem dX6_boards_35 : decode cX6_boards 35 = .ok (.iaload, 1) := by decide +kernel
theorem dX6_boards_36 : decode cX6_boards 36 = .ok (.iconst 1, 1) := by decide +kernel
theorem dX6_boards_37 : decode cX6_boards 37 = .ok (.iload_n 1, 1) := by decide +kernel
theorem dX6_boards_38 : decode cX6_boards 38 = .ok (.ishl, 1) := by decide +kernel
theorem dX6_boards_39 : decode cX6_boards 39 = .ok (.ior, 1) := by decide +kernel
theorem dX6_boards_40 : decode cX6_boards 40 = .ok (.iastore, 1) := by decide +kernel
theorem dX6_boards_41 : decode cX6_boards 41 = .ok (.aload_n 0, 1) := by decide +kernel
theorem dX6_boards_42 : decode cX6_boards 42 = .ok (.getfield 29, 3) := by decide +kernel
theorem dX6_boards_45 : decode cX6_boards 45 = .ok (.bipush 10, 2) := by decide +kernel
theorem dX6_boards_47 : decode cX6_boards 47 = .ok (.iload_n 1, 1) := by decide +kernel
theorem dX6_boards_48 : decode cX6_boards 48 = .ok (.iadd, 1) := by decide +kernel
theorem dX6_boards_49 : decode cX6_boards 49 = .ok (.bipush (-9), 2) := by decide +kernel
theorem dX6_boards_51 : decode cX6_boards 51 = .ok (.iastore, 1) := by decide +kernel
theorem dX6_boards_52 : decode cX6_boards 52 = .ok (.aload_n 0, 1) := by decide +kernel
theorem dX6_boards_53 : decode cX6_boards 53 = .ok (.getfield 29, 3) := by decide +kernel
theorem dX6_boards_56 : decode cX6_boards 56 = .ok (.iconst 1, 1) := by decide +kernel
theorem dX6_boards_57 : decode cX6_boards 57 = .ok (.iaload, 1) := by decide +kernel
theorem dX6_boards_58 : decode cX6_boards 58 = .ok (.invokestatic 146, 3) := by decide +kernel
theorem dX6_boards_61 : decode cX6_boards 61 = .ok (.ireturn, 1) := by decide +kernel
theorem dX6_undo_0 : decode cX6_undo 0 = .ok (.aload_n 0, 1) := by decide +kernel
theorem dX6_undo_1 : decode cX6_undo 1 = .ok (.getfield 29, 3) := by decide +kernel
theorem dX6_undo_4 : decode cX6_undo 4 = .ok (.bipush 52, 2) := by decide +kernel
theorem dX6_undo_6 : decode cX6_undo 6 = .ok (.iaload, 1) := by decide +kernel
theorem dX6_undo_7 : decode cX6_undo 7 = .ok (.ifCond .ne 6, 3) := by decide +kernel
theorem dX6_undo_10 : decode cX6_undo 10 = .ok (.bipush (-2), 2) := by decide +kernel
theorem dX6_undo_12 : decode cX6_undo 12 = .ok (.ireturn, 1) := by decide +kernel
theorem dX6_undo_13 : decode cX6_undo 13 = .ok (.aload_n 0, 1) := by decide +kernel
theorem dX6_undo_14 : decode cX6_undo 14 = .ok (.getfield 29, 3) := by decide +kernel
theorem dX6_undo_17 : decode cX6_undo 17 = .ok (.bipush 52, 2) := by decide +kernel
theorem dX6_undo_19 : decode cX6_undo 19 = .ok (.dup2, 1) := by decide +kernel
theorem dX6_undo_20 : decode cX6_undo 20 = .ok (.iaload, 1) := by decide +kernel
theorem dX6_undo_21 : decode cX6_undo 21 = .ok (.iconst 1, 1) := by decide +kernel
theorem dX6_undo_22 : decode cX6_undo 22 = .ok (.isub, 1) := by decide +kernel
theorem dX6_undo_23 : decode cX6_undo 23 = .ok (.iastore, 1) := by decide +kernel
theorem dX6_undo_24 : decode cX6_undo 24 = .ok (.iconst 0, 1) := by decide +kernel
theorem dX6_undo_25 : decode cX6_undo 25 = .ok (.istore_n 1, 1) := by decide +kernel
theorem dX6_undo_26 : decode cX6_undo 26 = .ok (.iload_n 1, 1) := by decide +kernel
theorem dX6_undo_27 : decode cX6_undo 27 = .ok (.bipush 52, 2) := by decide +kernel
theorem dX6_undo_29 : decode cX6_undo 29 = .ok (.if_icmp .ge 35, 3) := by decide +kernel
theorem dX6_undo_32 : decode cX6_undo 32 = .ok (.aload_n 0, 1) := by decide +kernel
theorem dX6_undo_33 : decode cX6_undo 33 = .ok (.getfield 29, 3) := by decide +kernel
theorem dX6_undo_36 : decode cX6_undo 36 = .ok (.iload_n 1, 1) := by decide +kernel
theorem dX6_undo_37 : decode cX6_undo 37 = .ok (.aload_n 0, 1) := by decide +kernel
theorem dX6_undo_38 : decode cX6_undo 38 = .ok (.getfield 29, 3) := by decide +kernel
theorem dX6_undo_41 : decode cX6_undo 41 = .ok (.bipush 53, 2) := by decide +kernel
theorem dX6_undo_43 : decode cX6_undo 43 = .ok (.bipush 52, 2) := by decide +kernel
theorem dX6_undo_45 : decode cX6_undo 45 = .ok (.aload_n 0, 1) := by decide +kernel
theorem dX6_undo_46 : decode cX6_undo 46 = .ok (.getfield 29, 3) := by decide +kernel
theorem dX6_undo_49 : decode cX6_undo 49 = .ok (.bipush 52, 2) := by decide +kernel
theorem dX6_undo_51 : decode cX6_undo 51 = .ok (.iaload, 1) := by decide +kernel
theorem dX6_undo_52 : decode cX6_undo 52 = .ok (.imul, 1) := by decide +kernel
theorem dX6_undo_53 : decode cX6_undo 53 = .ok (.iadd, 1) := by decide +kernel
theorem dX6_undo_54 : decode cX6_undo 54 = .ok (.iload_n 1, 1) := by decide +kernel
theorem dX6_undo_55 : decode cX6_undo 55 = .ok (.iadd, 1) := by decide +kernel
theorem dX6_undo_56 : decode cX6_undo 56 = .ok (.iaload, 1) := by decide +kernel
theorem dX6_undo_57 : decode cX6_undo 57 = .ok (.iastore, 1) := by decide +kernel
theorem dX6_undo_58 : decode cX6_undo 58 = .ok (.iinc 1 1, 3) := by decide +kernel
theorem dX6_undo_61 : decode cX6_undo 61 = .ok (.goto (-35), 3) := by decide +kernel
theorem dX6_undo_64 : decode cX6_undo 64 = .ok (.aload_n 0, 1) := by decide +kernel
theorem dX6_undo_65 : decode cX6_undo 65 = .ok (.getfield 29, 3) := by decide +kernel
theorem dX6_undo_68 : decode cX6_undo 68 = .ok (.bipush 52, 2) := by decide +kernel
theorem dX6_undo_70 : decode cX6_undo 70 = .ok (.iaload, 1) := by decide +kernel
theorem dX6_undo_71 : decode cX6_undo 71 = .ok (.ireturn, 1) := by decide +kernel
theorem dX6_now_0 : decode cX6_now 0 = .ok (.iload_n 1, 1) := by decide +kernel
theorem dX6_now_1 : decode cX6_now 1 = .ok (.tableswitch 63 0 4 #[35, 35, 35, 35, 42], 35) := by decide +kernel
theorem dX6_now_36 : decode cX6_now 36 = .ok (.aload_n 0, 1) := by decide +kernel
theorem dX6_now_37 : decode cX6_now 37 = .ok (.getfield 29, 3) := by decide +kernel
theorem dX6_now_40 : decode cX6_now 40 = .ok (.iload_n 1, 1) := by decide +kernel
theorem dX6_now_41 : decode cX6_now 41 = .ok (.iaload, 1) := by decide +kernel
theorem dX6_now_42 : decode cX6_now 42 = .ok (.ireturn, 1) := by decide +kernel
theorem dX6_now_43 : decode cX6_now 43 = .ok (.aload_n 0, 1) := by decide +kernel
theorem dX6_now_44 : decode cX6_now 44 = .ok (.getfield 29, 3) := by decide +kernel
theorem dX6_now_47 : decode cX6_now 47 = .ok (.iconst 0, 1) := by decide +kernel
theorem dX6_now_48 : decode cX6_now 48 = .ok (.iaload, 1) := by decide +kernel
theorem dX6_now_49 : decode cX6_now 49 = .ok (.aload_n 0, 1) := by decide +kernel
theorem dX6_now_50 : decode cX6_now 50 = .ok (.getfield 26, 3) := by decide +kernel
theorem dX6_now_53 : decode cX6_now 53 = .ok (.iconst 0, 1) := by decide +kernel
theorem dX6_now_54 : decode cX6_now 54 = .ok (.iaload, 1) := by decide +kernel
theorem dX6_now_55 : decode cX6_now 55 = .ok (.if_icmp .lt 7, 3) := by decide +kernel
theorem dX6_now_58 : decode cX6_now 58 = .ok (.iconst 1, 1) := by decide +kernel
theorem dX6_now_59 : decode cX6_now 59 = .ok (.goto 4, 3) := by decide +kernel
theorem dX6_now_62 : decode cX6_now 62 = .ok (.iconst 0, 1) := by decide +kernel
theorem dX6_now_63 : decode cX6_now 63 = .ok (.ireturn, 1) := by decide +kernel
theorem dX6_now_64 : decode cX6_now 64 = .ok (.iconst (-1), 1) := by decide +kernel
theorem dX6_now_65 : decode cX6_now 65 = .ok (.ireturn, 1) := by decide +kernel
set_option maxRecDepth 20000 in
theorem ggX6_doesGo_X6_byRing : GoodIn wsX6_doesGo wsX6_byRing := goodIn_r _ [7, 2, 8, 9, 10, 11, 12, 13, 14, 15, 16, 17, 18, 19, 20, 21, 22, 23, 24, 25, 26, 27, 28] (by decide +kernel) (by decide +kernel)
set_option maxRecDepth 20000 in
theorem gX6_doesGo_X6_byRing : GoodIn wsX6_doesGo (wsV RX6 125 RX6 yX6_byRing wsX6_byRing) := goodIn_app (goodIn_of _ (by decide +kernel)) ggX6_doesGo_X6_byRing
theorem dX6_doesGo_0 : decode cX6_doesGo 0 = .ok (.iload_n 2, 1) := by decide +kernel
theorem dX6_doesGo_1 : decode cX6_doesGo 1 = .ok (.istore 5, 2) := by decide +kernel
theorem dX6_doesGo_3 : decode cX6_doesGo 3 = .ok (.iload_n 3, 1) := by decide +kernel
theorem dX6_doesGo_4 : decode cX6_doesGo 4 = .ok (.iconst 1, 1) := by decide +kernel
theorem dX6_doesGo_5 : decode cX6_doesGo 5 = .ok (.isub, 1) := by decide +kernel
theorem dX6_doesGo_6 : decode cX6_doesGo 6 = .ok (.istore 6, 2) := by decide +kernel
theorem dX6_doesGo_8 : decode cX6_doesGo 8 = .ok (.iload 6, 2) := by decide +kernel
theorem dX6_doesGo_10 : decode cX6_doesGo 10 = .ok (.ifCond .lt 28, 3) := by decide +kernel
theorem dX6_doesGo_13 : decode cX6_doesGo 13 = .ok (.aload_n 0, 1) := by decide +kernel
theorem dX6_doesGo_14 : decode cX6_doesGo 14 = .ok (.getfield 39, 3) := by decide +kernel
theorem dX6_doesGo_17 : decode cX6_doesGo 17 = .ok (.iload 6, 2) := by decide +kernel
theorem dX6_doesGo_19 : decode cX6_doesGo 19 = .ok (.iload 5, 2) := by decide +kernel
theorem dX6_doesGo_21 : decode cX6_doesGo 21 = .ok (.bipush 6, 2) := by decide +kernel
theorem dX6_doesGo_23 : decode cX6_doesGo 23 = .ok (.irem, 1) := by decide +kernel
theorem dX6_doesGo_24 : decode cX6_doesGo 24 = .ok (.iastore, 1) := by decide +kernel
theorem dX6_doesGo_25 : decode cX6_doesGo 25 = .ok (.iload 5, 2) := by decide +kernel
theorem dX6_doesGo_27 : decode cX6_doesGo 27 = .ok (.bipush 6, 2) := by decide +kernel
theorem dX6_doesGo_29 : decode cX6_doesGo 29 = .ok (.idiv, 1) := by decide +kernel
theorem dX6_doesGo_30 : decode cX6_doesGo 30 = .ok (.istore 5, 2) := by decide +kernel
theorem dX6_doesGo_32 : decode cX6_doesGo 32 = .ok (.iinc 6 (-1), 3) := by decide +kernel
theorem dX6_doesGo_35 : decode cX6_doesGo 35 = .ok (.goto (-27), 3) := by decide +kernel
theorem dX6_doesGo_38 : decode cX6_doesGo 38 = .ok (.aload_n 1, 1) := by decide +kernel
theorem dX6_doesGo_39 : decode cX6_doesGo 39 = .ok (.iconst 1, 1) := by decide +kernel
theorem dX6_doesGo_40 : decode cX6_doesGo 40 = .ok (.iaload, 1) := by decide +kernel
theorem dX6_doesGo_41 : decode cX6_doesGo 41 = .ok (.istore 6, 2) := by decide +kernel
theorem dX6_doesGo_43 : decode cX6_doesGo 43 = .ok (.iconst 0, 1) := by decide +kernel
theorem dX6_doesGo_44 : decode cX6_doesGo 44 = .ok (.istore 7, 2) := by decide +kernel
theorem dX6_doesGo_46 : decode cX6_doesGo 46 = .ok (.iconst 0, 1) := by decide +kernel
theorem dX6_doesGo_47 : decode cX6_doesGo 47 = .ok (.istore 8, 2) := by decide +kernel
theorem dX6_doesGo_49 : decode cX6_doesGo 49 = .ok (.iload 8, 2) := by decide +kernel
theorem dX6_doesGo_51 : decode cX6_doesGo 51 = .ok (.iload_n 3, 1) := by decide +kernel
theorem dX6_doesGo_52 : decode cX6_doesGo 52 = .ok (.if_icmp .ge 105, 3) := by decide +kernel
theorem dX6_doesGo_55 : decode cX6_doesGo 55 = .ok (.aload_n 0, 1) := by decide +kernel
theorem dX6_doesGo_56 : decode cX6_doesGo 56 = .ok (.getfield 39, 3) := by decide +kernel
theorem dX6_doesGo_59 : decode cX6_doesGo 59 = .ok (.iload 8, 2) := by decide +kernel
theorem dX6_doesGo_61 : decode cX6_doesGo 61 = .ok (.iaload, 1) := by decide +kernel
theorem dX6_doesGo_62 : decode cX6_doesGo 62 = .ok (.istore 9, 2) := by decide +kernel
theorem dX6_doesGo_64 : decode cX6_doesGo 64 = .ok (.iload 9, 2) := by decide +kernel
theorem dX6_doesGo_66 : decode cX6_doesGo 66 = .ok (.aload_n 0, 1) := by decide +kernel
theorem dX6_doesGo_67 : decode cX6_doesGo 67 = .ok (.getfield 13, 3) := by decide +kernel
theorem dX6_doesGo_70 : decode cX6_doesGo 70 = .ok (.iconst 0, 1) := by decide +kernel
theorem dX6_doesGo_71 : decode cX6_doesGo 71 = .ok (.iaload, 1) := by decide +kernel
theorem dX6_doesGo_72 : decode cX6_doesGo 72 = .ok (.if_icmp .ge 36, 3) := by decide +kernel
theorem dX6_doesGo_75 : decode cX6_doesGo 75 = .ok (.iload 6, 2) := by decide +kernel
theorem dX6_doesGo_77 : decode cX6_doesGo 77 = .ok (.iload 9, 2) := by decide +kernel
theorem dX6_doesGo_79 : decode cX6_doesGo 79 = .ok (.ishr, 1) := by decide +kernel
theorem dX6_doesGo_80 : decode cX6_doesGo 80 = .ok (.iconst 1, 1) := by decide +kernel
theorem dX6_doesGo_81 : decode cX6_doesGo 81 = .ok (.iand, 1) := by decide +kernel
theorem dX6_doesGo_82 : decode cX6_doesGo 82 = .ok (.iconst 1, 1) := by decide +kernel
theorem dX6_doesGo_83 : decode cX6_doesGo 83 = .ok (.if_icmp .ne 25, 3) := by decide +kernel
theorem dX6_doesGo_86 : decode cX6_doesGo 86 = .ok (.iload 7, 2) := by decide +kernel
theorem dX6_doesGo_88 : decode cX6_doesGo 88 = .ok (.iload 9, 2) := by decide +kernel
theorem dX6_doesGo_90 : decode cX6_doesGo 90 = .ok (.ishr, 1) := by decide +kernel
theorem dX6_doesGo_91 : decode cX6_doesGo 91 = .ok (.iconst 1, 1) := by decide +kernel
theorem dX6_doesGo_92 : decode cX6_doesGo 92 = .ok (.iand, 1) := by decide +kernel
theorem dX6_doesGo_93 : decode cX6_doesGo 93 = .ok (.ifCond .ne 15, 3) := by decide +kernel
theorem dX6_doesGo_96 : decode cX6_doesGo 96 = .ok (.aload_n 0, 1) := by decide +kernel
theorem dX6_doesGo_97 : decode cX6_doesGo 97 = .ok (.aload_n 1, 1) := by decide +kernel
theorem dX6_doesGo_98 : decode cX6_doesGo 98 = .ok (.iload 9, 2) := by decide +kernel
theorem dX6_doesGo_100 : decode cX6_doesGo 100 = .ok (.iload 6, 2) := by decide +kernel
theorem dX6_doesGo_102 : decode cX6_doesGo 102 = .ok (.invokevirtual 125, 3) := by decide +kernel
theorem dX6_doesGo_105 : decode cX6_doesGo 105 = .ok (.goto 5, 3) := by decide +kernel
theorem dX6_doesGo_108 : decode cX6_doesGo 108 = .ok (.bipush (-9), 2) := by decide +kernel
theorem dX6_doesGo_110 : decode cX6_doesGo 110 = .ok (.istore 10, 2) := by decide +kernel
theorem dX6_doesGo_112 : decode cX6_doesGo 112 = .ok (.iload 10, 2) := by decide +kernel
theorem dX6_doesGo_114 : decode cX6_doesGo 114 = .ok (.bipush (-9), 2) := by decide +kernel
theorem dX6_doesGo_116 : decode cX6_doesGo 116 = .ok (.if_icmp .eq 13, 3) := by decide +kernel
theorem dX6_doesGo_119 : decode cX6_doesGo 119 = .ok (.iload 4, 2) := by decide +kernel
theorem dX6_doesGo_121 : decode cX6_doesGo 121 = .ok (.iload 10, 2) := by decide +kernel
theorem dX6_doesGo_123 : decode cX6_doesGo 123 = .ok (.ishr, 1) := by decide +kernel
theorem dX6_doesGo_124 : decode cX6_doesGo 124 = .ok (.iconst 1, 1) := by decide +kernel
theorem dX6_doesGo_125 : decode cX6_doesGo 125 = .ok (.iand, 1) := by decide +kernel
theorem dX6_doesGo_126 : decode cX6_doesGo 126 = .ok (.ifCond .ne 5, 3) := by decide +kernel
theorem dX6_doesGo_129 : decode cX6_doesGo 129 = .ok (.iconst 0, 1) := by decide +kernel
theorem dX6_doesGo_130 : decode cX6_doesGo 130 = .ok (.ireturn, 1) := by decide +kernel
theorem dX6_doesGo_131 : decode cX6_doesGo 131 = .ok (.iload 7, 2) := by decide +kernel
theorem dX6_doesGo_133 : decode cX6_doesGo 133 = .ok (.iconst 1, 1) := by decide +kernel
theorem dX6_doesGo_134 : decode cX6_doesGo 134 = .ok (.iload 9, 2) := by decide +kernel
theorem dX6_doesGo_136 : decode cX6_doesGo 136 = .ok (.ishl, 1) := by decide +kernel
theorem dX6_doesGo_137 : decode cX6_doesGo 137 = .ok (.ior, 1) := by decide +kernel
theorem dX6_doesGo_138 : decode cX6_doesGo 138 = .ok (.istore 7, 2) := by decide +kernel
theorem dX6_doesGo_140 : decode cX6_doesGo 140 = .ok (.iload 6, 2) := by decide +kernel
theorem dX6_doesGo_142 : decode cX6_doesGo 142 = .ok (.iconst 1, 1) := by decide +kernel
theorem dX6_doesGo_143 : decode cX6_doesGo 143 = .ok (.iload 10, 2) := by decide +kernel
theorem dX6_doesGo_145 : decode cX6_doesGo 145 = .ok (.ishl, 1) := by decide +kernel
theorem dX6_doesGo_146 : decode cX6_doesGo 146 = .ok (.iconst (-1), 1) := by decide +kernel
theorem dX6_doesGo_147 : decode cX6_doesGo 147 = .ok (.ixor, 1) := by decide +kernel
theorem dX6_doesGo_148 : decode cX6_doesGo 148 = .ok (.iand, 1) := by decide +kernel
theorem dX6_doesGo_149 : decode cX6_doesGo 149 = .ok (.istore 6, 2) := by decide +kernel
theorem dX6_doesGo_151 : decode cX6_doesGo 151 = .ok (.iinc 8 1, 3) := by decide +kernel
theorem dX6_doesGo_154 : decode cX6_doesGo 154 = .ok (.goto (-105), 3) := by decide +kernel
theorem dX6_doesGo_157 : decode cX6_doesGo 157 = .ok (.iconst 1, 1) := by decide +kernel
theorem dX6_doesGo_158 : decode cX6_doesGo 158 = .ok (.ireturn, 1) := by decide +kernel
set_option maxRecDepth 20000 in
theorem ggX6_rowsOf_X6_manyOf : GoodIn wsX6_rowsOf wsX6_manyOf := goodIn_r _ [4] (by decide +kernel) (by decide +kernel)
set_option maxRecDepth 20000 in
theorem gX6_rowsOf_X6_manyOf : GoodIn wsX6_rowsOf (va_wsS RX6 146 yX6_manyOf wsX6_manyOf) := goodIn_app (goodIn_of _ (by decide +kernel)) ggX6_rowsOf_X6_manyOf
set_option maxRecDepth 20000 in
theorem ggX6_rowsOf_X6_doesGo : GoodIn wsX6_rowsOf wsX6_doesGo := goodIn_r _ [8, 9, 10, 11, 12, 13, 3, 14, 15, 16, 17, 18, 19, 20, 21, 22, 23, 24, 25, 26, 27, 28, 29, 30, 31, 32, 33, 34, 35] (by decide +kernel) (by decide +kernel)
set_option maxRecDepth 20000 in
theorem gX6_rowsOf_X6_doesGo : GoodIn wsX6_rowsOf (wsV RX6 149 RX6 yX6_doesGo wsX6_doesGo) := goodIn_app (goodIn_of _ (by decide +kernel)) ggX6_rowsOf_X6_doesGo
theorem dX6_rowsOf_0 : decode cX6_rowsOf 0 = .ok (.iconst 1, 1) := by decide +kernel
theorem dX6_rowsOf_1 : decode cX6_rowsOf 1 = .ok (.istore_n 3, 1) := by decide +kernel
theorem dX6_rowsOf_2 : decode cX6_rowsOf 2 = .ok (.iconst 0, 1) := by decide +kernel
theorem dX6_rowsOf_3 : decode cX6_rowsOf 3 = .ok (.istore 4, 2) := by decide +kernel
theorem dX6_rowsOf_5 : decode cX6_rowsOf 5 = .ok (.iload 4, 2) := by decide +kernel
theorem dX6_rowsOf_7 : decode cX6_rowsOf 7 = .ok (.iload_n 2, 1) := by decide +kernel
theorem dX6_rowsOf_8 : decode cX6_rowsOf 8 = .ok (.invokestatic 146, 3) := by decide +kernel
theorem dX6_rowsOf_11 : decode cX6_rowsOf 11 = .ok (.if_icmp .ge 14, 3) := by decide +kernel
theorem dX6_rowsOf_14 : decode cX6_rowsOf 14 = .ok (.iload_n 3, 1) := by decide +kernel
theorem dX6_rowsOf_15 : decode cX6_rowsOf 15 = .ok (.bipush 6, 2) := by decide +kernel
theorem dX6_rowsOf_17 : decode cX6_rowsOf 17 = .ok (.imul, 1) := by decide +kernel
theorem dX6_rowsOf_18 : decode cX6_rowsOf 18 = .ok (.istore_n 3, 1) := by decide +kernel
theorem dX6_rowsOf_19 : decode cX6_rowsOf 19 = .ok (.iinc 4 1, 3) := by decide +kernel
theorem dX6_rowsOf_22 : decode cX6_rowsOf 22 = .ok (.goto (-17), 3) := by decide +kernel
theorem dX6_rowsOf_25 : decode cX6_rowsOf 25 = .ok (.iconst 0, 1) := by decide +kernel
theorem dX6_rowsOf_26 : decode cX6_rowsOf 26 = .ok (.istore 4, 2) := by decide +kernel
theorem dX6_rowsOf_28 : decode cX6_rowsOf 28 = .ok (.iconst 0, 1) := by decide +kernel
theorem dX6_rowsOf_29 : decode cX6_rowsOf 29 = .ok (.istore 5, 2) := by decide +kernel
theorem dX6_rowsOf_31 : decode cX6_rowsOf 31 = .ok (.iconst 0, 1) := by decide +kernel
theorem dX6_rowsOf_32 : decode cX6_rowsOf 32 = .ok (.istore 6, 2) := by decide +kernel
theorem dX6_rowsOf_34 : decode cX6_rowsOf 34 = .ok (.iload 6, 2) := by decide +kernel
theorem dX6_rowsOf_36 : decode cX6_rowsOf 36 = .ok (.iload_n 3, 1) := by decide +kernel
theorem dX6_rowsOf_37 : decode cX6_rowsOf 37 = .ok (.if_icmp .ge 41, 3) := by decide +kernel
theorem dX6_rowsOf_40 : decode cX6_rowsOf 40 = .ok (.aload_n 0, 1) := by decide +kernel
theorem dX6_rowsOf_41 : decode cX6_rowsOf 41 = .ok (.aload_n 1, 1) := by decide +kernel
theorem dX6_rowsOf_42 : decode cX6_rowsOf 42 = .ok (.iload 6, 2) := by decide +kernel
theorem dX6_rowsOf_44 : decode cX6_rowsOf 44 = .ok (.iload_n 2, 1) := by decide +kernel
theorem dX6_rowsOf_45 : decode cX6_rowsOf 45 = .ok (.invokestatic 146, 3) := by decide +kernel
theorem dX6_rowsOf_48 : decode cX6_rowsOf 48 = .ok (.iload_n 2, 1) := by decide +kernel
theorem dX6_rowsOf_49 : decode cX6_rowsOf 49 = .ok (.invokevirtual 149, 3) := by decide +kernel
theorem dX6_rowsOf_52 : decode cX6_rowsOf 52 = .ok (.ifCond .eq 20, 3) := by decide +kernel
theorem dX6_rowsOf_55 : decode cX6_rowsOf 55 = .ok (.iload 4, 2) := by decide +kernel
theorem dX6_rowsOf_57 : decode cX6_rowsOf 57 = .ok (.ifCond .ne 8, 3) := by decide +kernel
theorem dX6_rowsOf_60 : decode cX6_rowsOf 60 = .ok (.iload 6, 2) := by decide +kernel
theorem dX6_rowsOf_62 : decode cX6_rowsOf 62 = .ok (.goto 5, 3) := by decide +kernel
theorem dX6_rowsOf_65 : decode cX6_rowsOf 65 = .ok (.iload 5, 2) := by decide +kernel
theorem dX6_rowsOf_67 : decode cX6_rowsOf 67 = .ok (.istore 5, 2) := by decide +kernel
theorem dX6_rowsOf_69 : decode cX6_rowsOf 69 = .ok (.iinc 4 1, 3) := by decide +kernel
theorem dX6_rowsOf_72 : decode cX6_rowsOf 72 = .ok (.iinc 6 1, 3) := by decide +kernel
theorem dX6_rowsOf_75 : decode cX6_rowsOf 75 = .ok (.goto (-41), 3) := by decide +kernel
theorem dX6_rowsOf_78 : decode cX6_rowsOf 78 = .ok (.aload_n 0, 1) := by decide +kernel
theorem dX6_rowsOf_79 : decode cX6_rowsOf 79 = .ok (.aload_n 1, 1) := by decide +kernel
theorem dX6_rowsOf_80 : decode cX6_rowsOf 80 = .ok (.iload 5, 2) := by decide +kernel
theorem dX6_rowsOf_82 : decode cX6_rowsOf 82 = .ok (.iload_n 2, 1) := by decide +kernel
theorem dX6_rowsOf_83 : decode cX6_rowsOf 83 = .ok (.invokestatic 146, 3) := by decide +kernel
theorem dX6_rowsOf_86 : decode cX6_rowsOf 86 = .ok (.iload_n 2, 1) := by decide +kernel
theorem dX6_rowsOf_87 : decode cX6_rowsOf 87 = .ok (.invokevirtual 149, 3) := by decide +kernel
theorem dX6_rowsOf_90 : decode cX6_rowsOf 90 = .ok (.pop, 1) := by decide +kernel
theorem dX6_rowsOf_91 : decode cX6_rowsOf 91 = .ok (.iload 4, 2) := by decide +kernel
theorem dX6_rowsOf_93 : decode cX6_rowsOf 93 = .ok (.ireturn, 1) := by decide +kernel
set_option maxRecDepth 20000 in
theorem ggX6_isSet_X6_in : GoodIn wsX6_isSet wsX6_in := goodIn_r _ [6] (by decide +kernel) (by decide +kernel)
set_option maxRecDepth 20000 in
theorem gX6_isSet_X6_in : GoodIn wsX6_isSet (va_wsS RX6 54 yX6_in wsX6_in) := goodIn_app (goodIn_of _ (by decide +kernel)) ggX6_isSet_X6_in
theorem dX6_isSet_0 : decode cX6_isSet 0 = .ok (.iload_n 1, 1) := by decide +kernel
theorem dX6_isSet_1 : decode cX6_isSet 1 = .ok (.iconst 0, 1) := by decide +kernel
theorem dX6_isSet_2 : decode cX6_isSet 2 = .ok (.iconst 1, 1) := by decide +kernel
theorem dX6_isSet_3 : decode cX6_isSet 3 = .ok (.aload_n 0, 1) := by decide +kernel
theorem dX6_isSet_4 : decode cX6_isSet 4 = .ok (.getfield 13, 3) := by decide +kernel
theorem dX6_isSet_7 : decode cX6_isSet 7 = .ok (.iconst 0, 1) := by decide +kernel
theorem dX6_isSet_8 : decode cX6_isSet 8 = .ok (.iaload, 1) := by decide +kernel
theorem dX6_isSet_9 : decode cX6_isSet 9 = .ok (.ishl, 1) := by decide +kernel
theorem dX6_isSet_10 : decode cX6_isSet 10 = .ok (.iconst 1, 1) := by decide +kernel
theorem dX6_isSet_11 : decode cX6_isSet 11 = .ok (.isub, 1) := by decide +kernel
theorem dX6_isSet_12 : decode cX6_isSet 12 = .ok (.invokestatic 54, 3) := by decide +kernel
theorem dX6_isSet_15 : decode cX6_isSet 15 = .ok (.ifCond .eq 20, 3) := by decide +kernel
theorem dX6_isSet_18 : decode cX6_isSet 18 = .ok (.iload_n 1, 1) := by decide +kernel
theorem dX6_isSet_19 : decode cX6_isSet 19 = .ok (.aload_n 0, 1) := by decide +kernel
theorem dX6_isSet_20 : decode cX6_isSet 20 = .ok (.getfield 29, 3) := by decide +kernel
theorem dX6_isSet_23 : decode cX6_isSet 23 = .ok (.iconst 1, 1) := by decide +kernel
theorem dX6_isSet_24 : decode cX6_isSet 24 = .ok (.iaload, 1) := by decide +kernel
theorem dX6_isSet_25 : decode cX6_isSet 25 = .ok (.iconst (-1), 1) := by decide +kernel
theorem dX6_isSet_26 : decode cX6_isSet 26 = .ok (.ixor, 1) := by decide +kernel
theorem dX6_isSet_27 : decode cX6_isSet 27 = .ok (.iand, 1) := by decide +kernel
theorem dX6_isSet_28 : decode cX6_isSet 28 = .ok (.ifCond .ne 7, 3) := by decide +kernel
theorem dX6_isSet_31 : decode cX6_isSet 31 = .ok (.iconst 1, 1) := by decide +kernel
theorem dX6_isSet_32 : decode cX6_isSet 32 = .ok (.goto 4, 3) := by decide +kernel
theorem dX6_isSet_35 : decode cX6_isSet 35 = .ok (.iconst 0, 1) := by decide +kernel
theorem dX6_isSet_36 : decode cX6_isSet 36 = .ok (.ireturn, 1) := by decide +kernel
set_option maxRecDepth 20000 in
theorem ggX6_row_X6_isSet : GoodIn wsX6_row wsX6_isSet := goodIn_r _ [7, 8, 1, 9, 10, 6, 11, 27, 28, 29, 30, 31, 32, 33, 34, 35, 36, 37, 38, 39, 40, 41, 42, 43, 44, 45, 46, 47] (by decide +kernel) (by decide +kernel)
set_option maxRecDepth 20000 in
theorem gX6_row_X6_isSet : GoodIn wsX6_row (wsV RX6 153 RX6 yX6_isSet wsX6_isSet) := goodIn_app (goodIn_of _ (by decide +kernel)) ggX6_row_X6_isSet
set_option maxRecDepth 20000 in
theorem ggX6_row_X6_in : GoodIn wsX6_row wsX6_in := goodIn_r _ [11] (by decide +kernel) (by decide +kernel)
set_option maxRecDepth 20000 in
theorem gX6_row_X6_in : GoodIn wsX6_row (va_wsS RX6 54 yX6_in wsX6_in) := goodIn_app (goodIn_of _ (by decide +kernel)) ggX6_row_X6_in
set_option maxRecDepth 20000 in
theorem ggX6_row_X6_rowsOf : GoodIn wsX6_row wsX6_rowsOf := goodIn_r _ [15, 16, 17, 6, 18, 19, 20, 21, 22, 2, 8, 23, 24, 25, 26, 27, 28, 29, 30, 31, 32, 33, 34, 35, 36, 37, 38, 39, 40, 41, 42, 43, 44, 45, 46, 47] (by decide +kernel) (by decide +kernel)
set_option maxRecDepth 20000 in
theorem gX6_row_X6_rowsOf : GoodIn wsX6_row (wsV RX6 156 RX6 yX6_rowsOf wsX6_rowsOf) := goodIn_app (goodIn_of _ (by decide +kernel)) ggX6_row_X6_rowsOf
set_option maxRecDepth 20000 in
theorem ggX6_row_X6_manyOf : GoodIn wsX6_row wsX6_manyOf := goodIn_r _ [18] (by decide +kernel) (by decide +kernel)
set_option maxRecDepth 20000 in
theorem gX6_row_X6_manyOf : GoodIn wsX6_row (va_wsS RX6 146 yX6_manyOf wsX6_manyOf) := goodIn_app (goodIn_of _ (by decide +kernel)) ggX6_row_X6_manyOf
theorem dX6_row_0 : decode cX6_row 0 = .ok (.aload_n 0, 1) := by decide +kernel
theorem dX6_row_1 : decode cX6_row 1 = .ok (.iload_n 1, 1) := by decide +kernel
theorem dX6_row_2 : decode cX6_row 2 = .ok (.invokevirtual 153, 3) := by decide +kernel
theorem dX6_row_5 : decode cX6_row 5 = .ok (.ifCond .eq 12, 3) := by decide +kernel
theorem dX6_row_8 : decode cX6_row 8 = .ok (.iload_n 2, 1) := by decide +kernel
theorem dX6_row_9 : decode cX6_row 9 = .ok (.iconst (-1), 1) := by decide +kernel
theorem dX6_row_10 : decode cX6_row 10 = .ok (.iconst 5, 1) := by decide +kernel
theorem dX6_row_11 : decode cX6_row 11 = .ok (.invokestatic 54, 3) := by decide +kernel
theorem dX6_row_14 : decode cX6_row 14 = .ok (.ifCond .ne 5, 3) := by decide +kernel
theorem dX6_row_17 : decode cX6_row 17 = .ok (.iconst (-1), 1) := by decide +kernel
theorem dX6_row_18 : decode cX6_row 18 = .ok (.ireturn, 1) := by decide +kernel
theorem dX6_row_19 : decode cX6_row 19 = .ok (.aload_n 0, 1) := by decide +kernel
theorem dX6_row_20 : decode cX6_row 20 = .ok (.aload_n 0, 1) := by decide +kernel
theorem dX6_row_21 : decode cX6_row 21 = .ok (.getfield 29, 3) := by decide +kernel
theorem dX6_row_24 : decode cX6_row 24 = .ok (.iload_n 1, 1) := by decide +kernel
theorem dX6_row_25 : decode cX6_row 25 = .ok (.invokevirtual 156, 3) := by decide +kernel
theorem dX6_row_28 : decode cX6_row 28 = .ok (.istore_n 3, 1) := by decide +kernel
theorem dX6_row_29 : decode cX6_row 29 = .ok (.iload_n 2, 1) := by decide +kernel
theorem dX6_row_30 : decode cX6_row 30 = .ok (.iconst (-1), 1) := by decide +kernel
theorem dX6_row_31 : decode cX6_row 31 = .ok (.if_icmp .ne 7, 3) := by decide +kernel
theorem dX6_row_34 : decode cX6_row 34 = .ok (.iload_n 3, 1) := by decide +kernel
theorem dX6_row_35 : decode cX6_row 35 = .ok (.goto 26, 3) := by decide +kernel
theorem dX6_row_38 : decode cX6_row 38 = .ok (.iload_n 3, 1) := by decide +kernel
theorem dX6_row_39 : decode cX6_row 39 = .ok (.ifCond .le 20, 3) := by decide +kernel
theorem dX6_row_42 : decode cX6_row 42 = .ok (.iload_n 2, 1) := by decide +kernel
theorem dX6_row_43 : decode cX6_row 43 = .ok (.iload_n 1, 1) := by decide +kernel
theorem dX6_row_44 : decode cX6_row 44 = .ok (.invokestatic 146, 3) := by decide +kernel
theorem dX6_row_47 : decode cX6_row 47 = .ok (.if_icmp .ge 12, 3) := by decide +kernel
theorem dX6_row_50 : decode cX6_row 50 = .ok (.aload_n 0, 1) := by decide +kernel
theorem dX6_row_51 : decode cX6_row 51 = .ok (.getfield 39, 3) := by decide +kernel
theorem dX6_row_54 : decode cX6_row 54 = .ok (.iload_n 2, 1) := by decide +kernel
theorem dX6_row_55 : decode cX6_row 55 = .ok (.iaload, 1) := by decide +kernel
theorem dX6_row_56 : decode cX6_row 56 = .ok (.goto 5, 3) := by decide +kernel
theorem dX6_row_59 : decode cX6_row 59 = .ok (.bipush (-9), 2) := by decide +kernel
theorem dX6_row_61 : decode cX6_row 61 = .ok (.ireturn, 1) := by decide +kernel
set_option maxRecDepth 20000 in
theorem ggX6_soon_X6_isSet : GoodIn wsX6_soon wsX6_isSet := goodIn_r _ [6, 7, 8, 9, 10, 5, 11, 56, 57, 58, 59, 60, 61, 62, 63, 64, 65, 66, 67, 68, 69, 70, 71, 72, 73, 74, 75, 76] (by decide +kernel) (by decide +kernel)
set_option maxRecDepth 20000 in
theorem gX6_soon_X6_isSet : GoodIn wsX6_soon (wsV RX6 153 RX6 yX6_isSet wsX6_isSet) := goodIn_app (goodIn_of _ (by decide +kernel)) ggX6_soon_X6_isSet
set_option maxRecDepth 20000 in
theorem ggX6_soon_X6_take : GoodIn wsX6_soon wsX6_take := goodIn_r _ [15, 1, 8, 56, 57, 58, 59, 60, 61, 62, 63, 64, 65, 66, 67, 68, 69, 70, 71, 72, 73, 74, 75, 76] (by decide +kernel) (by decide +kernel)
set_option maxRecDepth 20000 in
theorem gX6_soon_X6_take : GoodIn wsX6_soon (wsV RX6 160 RX6 yX6_take wsX6_take) := goodIn_app (goodIn_of _ (by decide +kernel)) ggX6_soon_X6_take
set_option maxRecDepth 20000 in
theorem ggX6_soon_X6_rowsOf : GoodIn wsX6_soon wsX6_rowsOf := goodIn_r _ [19, 20, 21, 5, 22, 23, 24, 25, 26, 27, 7, 28, 29, 30, 31, 56, 57, 58, 59, 60, 61, 62, 63, 64, 65, 66, 67, 68, 69, 70, 71, 72, 73, 74, 75, 76] (by decide +kernel) (by decide +kernel)
set_option maxRecDepth 20000 in
theorem gX6_soon_X6_rowsOf : GoodIn wsX6_soon (wsV RX6 156 RX6 yX6_rowsOf wsX6_rowsOf) := goodIn_app (goodIn_of _ (by decide +kernel)) ggX6_soon_X6_rowsOf
set_option maxRecDepth 20000 in
theorem ggX6_soon_X6_ride : GoodIn wsX6_soon wsX6_ride := goodIn_r _ [35, 7, 36, 37, 38, 39, 5, 40, 41, 42, 43, 44, 45, 46, 47, 48, 49, 50, 51, 52, 53, 54, 55, 56, 57, 58, 59, 60, 61, 62, 63, 64, 65, 66, 67, 68, 69, 70, 71, 72, 73, 74, 75, 76] (by decide +kernel) (by decide +kernel)
set_option maxRecDepth 20000 in
theorem gX6_soon_X6_ride : GoodIn wsX6_soon (wsV RX6 139 RX6 yX6_ride wsX6_ride) := goodIn_app (goodIn_of _ (by decide +kernel)) ggX6_soon_X6_ride
theorem dX6_soon_0 : decode cX6_soon 0 = .ok (.aload_n 0, 1) := by decide +kernel
theorem dX6_soon_1 : decode cX6_soon 1 = .ok (.iload_n 1, 1) := by decide +kernel
theorem dX6_soon_2 : decode cX6_soon 2 = .ok (.invokevirtual 153, 3) := by decide +kernel
theorem dX6_soon_5 : decode cX6_soon 5 = .ok (.ifCond .ne 5, 3) := by decide +kernel
theorem dX6_soon_8 : decode cX6_soon 8 = .ok (.iconst (-1), 1) := by decide +kernel
theorem dX6_soon_9 : decode cX6_soon 9 = .ok (.ireturn, 1) := by decide +kernel
theorem dX6_soon_10 : decode cX6_soon 10 = .ok (.aload_n 0, 1) := by decide +kernel
theorem dX6_soon_11 : decode cX6_soon 11 = .ok (.invokevirtual 160, 3) := by decide +kernel
theorem dX6_soon_14 : decode cX6_soon 14 = .ok (.iconst 0, 1) := by decide +kernel
theorem dX6_soon_15 : decode cX6_soon 15 = .ok (.istore_n 2, 1) := by decide +kernel
theorem dX6_soon_16 : decode cX6_soon 16 = .ok (.iload_n 2, 1) := by decide +kernel
theorem dX6_soon_17 : decode cX6_soon 17 = .ok (.bipush 20, 2) := by decide +kernel
theorem dX6_soon_19 : decode cX6_soon 19 = .ok (.if_icmp .gt 31, 3) := by decide +kernel
theorem dX6_soon_22 : decode cX6_soon 22 = .ok (.aload_n 0, 1) := by decide +kernel
theorem dX6_soon_23 : decode cX6_soon 23 = .ok (.aload_n 0, 1) := by decide +kernel
theorem dX6_soon_24 : decode cX6_soon 24 = .ok (.getfield 36, 3) := by decide +kernel
theorem dX6_soon_27 : decode cX6_soon 27 = .ok (.iload_n 1, 1) := by decide +kernel
theorem dX6_soon_28 : decode cX6_soon 28 = .ok (.invokevirtual 156, 3) := by decide +kernel
theorem dX6_soon_31 : decode cX6_soon 31 = .ok (.ifCond .le 5, 3) := by decide +kernel
theorem dX6_soon_34 : decode cX6_soon 34 = .ok (.iload_n 2, 1) := by decide +kernel
theorem dX6_soon_35 : decode cX6_soon 35 = .ok (.ireturn, 1) := by decide +kernel
theorem dX6_soon_36 : decode cX6_soon 36 = .ok (.aload_n 0, 1) := by decide +kernel
theorem dX6_soon_37 : decode cX6_soon 37 = .ok (.aload_n 0, 1) := by decide +kernel
theorem dX6_soon_38 : decode cX6_soon 38 = .ok (.getfield 36, 3) := by decide +kernel
theorem dX6_soon_41 : decode cX6_soon 41 = .ok (.invokevirtual 139, 3) := by decide +kernel
theorem dX6_soon_44 : decode cX6_soon 44 = .ok (.iinc 2 1, 3) := by decide +kernel
theorem dX6_soon_47 : decode cX6_soon 47 = .ok (.goto (-31), 3) := by decide +kernel
theorem dX6_soon_50 : decode cX6_soon 50 = .ok (.bipush (-9), 2) := by decide +kernel
theorem dX6_soon_52 : decode cX6_soon 52 = .ok (.ireturn, 1) := by decide +kernel
set_option maxRecDepth 20000 in
theorem ggX6_odds_X6_isHere : GoodIn wsX6_odds wsX6_isHere := goodIn_r _ [7, 1, 8, 9, 10, 6, 11, 2, 12, 13, 14, 15, 16, 17, 18, 19, 20, 21, 22, 23, 24, 25, 26, 27, 28, 29, 30, 31, 32, 33, 34, 35, 36, 37, 38, 39] (by decide +kernel) (by decide +kernel)
set_option maxRecDepth 20000 in
theorem gX6_odds_X6_isHere : GoodIn wsX6_odds (wsV RX6 163 RX6 yX6_isHere wsX6_isHere) := goodIn_app (goodIn_of _ (by decide +kernel)) ggX6_odds_X6_isHere
set_option maxRecDepth 20000 in
theorem ggX6_odds_X6_in : GoodIn wsX6_odds wsX6_in := goodIn_r _ [14] (by decide +kernel) (by decide +kernel)
set_option maxRecDepth 20000 in
theorem gX6_odds_X6_in : GoodIn wsX6_odds (va_wsS RX6 54 yX6_in wsX6_in) := goodIn_app (goodIn_of _ (by decide +kernel)) ggX6_odds_X6_in
set_option maxRecDepth 20000 in
theorem ggX6_odds_X6_isAboard : GoodIn wsX6_odds wsX6_isAboard := goodIn_r _ [18] (by decide +kernel) (by decide +kernel)
set_option maxRecDepth 20000 in
theorem gX6_odds_X6_isAboard : GoodIn wsX6_odds (wsV RX6 110 RX6 yX6_isAboard wsX6_isAboard) := goodIn_app (goodIn_of _ (by decide +kernel)) ggX6_odds_X6_isAboard
theorem dX6_odds_0 : decode cX6_odds 0 = .ok (.aload_n 0, 1) := by decide +kernel
theorem dX6_odds_1 : decode cX6_odds 1 = .ok (.iload_n 1, 1) := by decide +kernel
theorem dX6_odds_2 : decode cX6_odds 2 = .ok (.invokevirtual 163, 3) := by decide +kernel
theorem dX6_odds_5 : decode cX6_odds 5 = .ok (.ifCond .eq 36, 3) := by decide +kernel
theorem dX6_odds_8 : decode cX6_odds 8 = .ok (.aload_n 0, 1) := by decide +kernel
theorem dX6_odds_9 : decode cX6_odds 9 = .ok (.iload_n 2, 1) := by decide +kernel
theorem dX6_odds_10 : decode cX6_odds 10 = .ok (.invokevirtual 163, 3) := by decide +kernel
theorem dX6_odds_13 : decode cX6_odds 13 = .ok (.ifCond .eq 28, 3) := by decide +kernel
theorem dX6_odds_16 : decode cX6_odds 16 = .ok (.iload_n 1, 1) := by decide +kernel
theorem dX6_odds_17 : decode cX6_odds 17 = .ok (.iload_n 2, 1) := by decide +kernel
theorem dX6_odds_18 : decode cX6_odds 18 = .ok (.if_icmp .eq 23, 3) := by decide +kernel
theorem dX6_odds_21 : decode cX6_odds 21 = .ok (.iload_n 3, 1) := by decide +kernel
theorem dX6_odds_22 : decode cX6_odds 22 = .ok (.iconst 0, 1) := by decide +kernel
theorem dX6_odds_23 : decode cX6_odds 23 = .ok (.bipush 10, 2) := by decide +kernel
theorem dX6_odds_25 : decode cX6_odds 25 = .ok (.invokestatic 54, 3) := by decide +kernel
theorem dX6_odds_28 : decode cX6_odds 28 = .ok (.ifCond .eq 13, 3) := by decide +kernel
theorem dX6_odds_31 : decode cX6_odds 31 = .ok (.iload 4, 2) := by decide +kernel
theorem dX6_odds_33 : decode cX6_odds 33 = .ok (.iconst 0, 1) := by decide +kernel
theorem dX6_odds_34 : decode cX6_odds 34 = .ok (.iconst 1, 1) := by decide +kernel
theorem dX6_odds_35 : decode cX6_odds 35 = .ok (.invokestatic 54, 3) := by decide +kernel
theorem dX6_odds_38 : decode cX6_odds 38 = .ok (.ifCond .ne 5, 3) := by decide +kernel
theorem dX6_odds_41 : decode cX6_odds 41 = .ok (.iconst (-1), 1) := by decide +kernel
theorem dX6_odds_42 : decode cX6_odds 42 = .ok (.ireturn, 1) := by decide +kernel
theorem dX6_odds_43 : decode cX6_odds 43 = .ok (.aload_n 0, 1) := by decide +kernel
theorem dX6_odds_44 : decode cX6_odds 44 = .ok (.getfield 29, 3) := by decide +kernel
theorem dX6_odds_47 : decode cX6_odds 47 = .ok (.bipush 16, 2) := by decide +kernel
theorem dX6_odds_49 : decode cX6_odds 49 = .ok (.bipush 6, 2) := by decide +kernel
theorem dX6_odds_51 : decode cX6_odds 51 = .ok (.iload_n 2, 1) := by decide +kernel
theorem dX6_odds_52 : decode cX6_odds 52 = .ok (.imul, 1) := by decide +kernel
theorem dX6_odds_53 : decode cX6_odds 53 = .ok (.iadd, 1) := by decide +kernel
theorem dX6_odds_54 : decode cX6_odds 54 = .ok (.iload_n 1, 1) := by decide +kernel
theorem dX6_odds_55 : decode cX6_odds 55 = .ok (.iadd, 1) := by decide +kernel
theorem dX6_odds_56 : decode cX6_odds 56 = .ok (.iaload, 1) := by decide +kernel
theorem dX6_odds_57 : decode cX6_odds 57 = .ok (.istore 5, 2) := by decide +kernel
theorem dX6_odds_59 : decode cX6_odds 59 = .ok (.iload 5, 2) := by decide +kernel
theorem dX6_odds_61 : decode cX6_odds 61 = .ok (.ifCond .le 10, 3) := by decide +kernel
theorem dX6_odds_64 : decode cX6_odds 64 = .ok (.bipush 10, 2) := by decide +kernel
theorem dX6_odds_66 : decode cX6_odds 66 = .ok (.iload_n 3, 1) := by decide +kernel
theorem dX6_odds_67 : decode cX6_odds 67 = .ok (.isub, 1) := by decide +kernel
theorem dX6_odds_68 : decode cX6_odds 68 = .ok (.goto 4, 3) := by decide +kernel
theorem dX6_odds_71 : decode cX6_odds 71 = .ok (.iconst 0, 1) := by decide +kernel
theorem dX6_odds_72 : decode cX6_odds 72 = .ok (.istore 6, 2) := by decide +kernel
theorem dX6_odds_74 : decode cX6_odds 74 = .ok (.bipush 10, 2) := by decide +kernel
theorem dX6_odds_76 : decode cX6_odds 76 = .ok (.istore 7, 2) := by decide +kernel
theorem dX6_odds_78 : decode cX6_odds 78 = .ok (.iconst 0, 1) := by decide +kernel
theorem dX6_odds_79 : decode cX6_odds 79 = .ok (.istore 8, 2) := by decide +kernel
theorem dX6_odds_81 : decode cX6_odds 81 = .ok (.iload 8, 2) := by decide +kernel
theorem dX6_odds_83 : decode cX6_odds 83 = .ok (.aload_n 0, 1) := by decide +kernel
theorem dX6_odds_84 : decode cX6_odds 84 = .ok (.getfield 13, 3) := by decide +kernel
theorem dX6_odds_87 : decode cX6_odds 87 = .ok (.iconst 0, 1) := by decide +kernel
theorem dX6_odds_88 : decode cX6_odds 88 = .ok (.iaload, 1) := by decide +kernel
theorem dX6_odds_89 : decode cX6_odds 89 = .ok (.if_icmp .ge 67, 3) := by decide +kernel
theorem dX6_odds_92 : decode cX6_odds 92 = .ok (.iload 8, 2) := by decide +kernel
theorem dX6_odds_94 : decode cX6_odds 94 = .ok (.iload_n 1, 1) := by decide +kernel
theorem dX6_odds_95 : decode cX6_odds 95 = .ok (.if_icmp .eq 55, 3) := by decide +kernel
theorem dX6_odds_98 : decode cX6_odds 98 = .ok (.iload 8, 2) := by decide +kernel
theorem dX6_odds_100 : decode cX6_odds 100 = .ok (.iload_n 2, 1) := by decide +kernel
theorem dX6_odds_101 : decode cX6_odds 101 = .ok (.if_icmp .eq 49, 3) := by decide +kernel
theorem dX6_odds_104 : decode cX6_odds 104 = .ok (.aload_n 0, 1) := by decide +kernel
theorem dX6_odds_105 : decode cX6_odds 105 = .ok (.aload_n 0, 1) := by decide +kernel
theorem dX6_odds_106 : decode cX6_odds 106 = .ok (.getfield 29, 3) := by decide +kernel
theorem dX6_odds_109 : decode cX6_odds 109 = .ok (.iload 8, 2) := by decide +kernel
theorem dX6_odds_111 : decode cX6_odds 111 = .ok (.invokevirtual 110, 3) := by decide +kernel
theorem dX6_odds_114 : decode cX6_odds 114 = .ok (.ifCond .eq 36, 3) := by decide +kernel
theorem dX6_odds_117 : decode cX6_odds 117 = .ok (.aload_n 0, 1) := by decide +kernel
theorem dX6_odds_118 : decode cX6_odds 118 = .ok (.getfield 29, 3) := by decide +kernel
theorem dX6_odds_121 : decode cX6_odds 121 = .ok (.bipush 16, 2) := by decide +kernel
theorem dX6_odds_123 : decode cX6_odds 123 = .ok (.bipush 6, 2) := by decide +kernel
theorem dX6_odds_125 : decode cX6_odds 125 = .ok (.iload 8, 2) := by decide +kernel
theorem dX6_odds_127 : decode cX6_odds 127 = .ok (.imul, 1) := by decide +kernel
theorem dX6_odds_128 : decode cX6_odds 128 = .ok (.iadd, 1) := by decide +kernel
theorem dX6_odds_129 : decode cX6_odds 129 = .ok (.iload_n 1, 1) := by decide +kernel
theorem dX6_odds_130 : decode cX6_odds 130 = .ok (.iadd, 1) := by decide +kernel
theorem dX6_odds_131 : decode cX6_odds 131 = .ok (.iaload, 1) := by decide +kernel
theorem dX6_odds_132 : decode cX6_odds 132 = .ok (.iload 5, 2) := by decide +kernel
theorem dX6_odds_134 : decode cX6_odds 134 = .ok (.if_icmp .le 16, 3) := by decide +kernel
theorem dX6_odds_137 : decode cX6_odds 137 = .ok (.iload 6, 2) := by decide +kernel
theorem dX6_odds_139 : decode cX6_odds 139 = .ok (.iload_n 3, 1) := by decide +kernel
theorem dX6_odds_140 : decode cX6_odds 140 = .ok (.imul, 1) := by decide +kernel
theorem dX6_odds_141 : decode cX6_odds 141 = .ok (.istore 6, 2) := by decide +kernel
theorem dX6_odds_143 : decode cX6_odds 143 = .ok (.iload 7, 2) := by decide +kernel
theorem dX6_odds_145 : decode cX6_odds 145 = .ok (.bipush 10, 2) := by decide +kernel
theorem dX6_odds_147 : decode cX6_odds 147 = .ok (.imul, 1) := by decide +kernel
theorem dX6_odds_148 : decode cX6_odds 148 = .ok (.istore 7, 2) := by decide +kernel
theorem dX6_odds_150 : decode cX6_odds 150 = .ok (.iinc 8 1, 3) := by decide +kernel
theorem dX6_odds_153 : decode cX6_odds 153 = .ok (.goto (-72), 3) := by decide +kernel
