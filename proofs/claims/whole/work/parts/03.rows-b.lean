theorem dX5_car_17 : decode cX5_car 17 = .ok (.bipush (-10), 2) := by decide +kernel
theorem dX5_car_19 : decode cX5_car 19 = .ok (.iload_n 1, 1) := by decide +kernel
theorem dX5_car_20 : decode cX5_car 20 = .ok (.isub, 1) := by decide +kernel
theorem dX5_car_21 : decode cX5_car 21 = .ok (.ireturn, 1) := by decide +kernel
theorem dX5_car_22 : decode cX5_car 22 = .ok (.aload_n 0, 1) := by decide +kernel
theorem dX5_car_23 : decode cX5_car 23 = .ok (.getfield 19, 3) := by decide +kernel
theorem dX5_car_26 : decode cX5_car 26 = .ok (.aload_n 0, 1) := by decide +kernel
theorem dX5_car_27 : decode cX5_car 27 = .ok (.getfield 23, 3) := by decide +kernel
theorem dX5_car_30 : decode cX5_car 30 = .ok (.invokevirtual 66, 3) := by decide +kernel
theorem dX5_car_33 : decode cX5_car 33 = .ok (.aload_n 0, 1) := by decide +kernel
theorem dX5_car_34 : decode cX5_car 34 = .ok (.getfield 12, 3) := by decide +kernel
theorem dX5_car_37 : decode cX5_car 37 = .ok (.iconst 0, 1) := by decide +kernel
theorem dX5_car_38 : decode cX5_car 38 = .ok (.putfield 58, 3) := by decide +kernel
theorem dX5_car_41 : decode cX5_car 41 = .ok (.aload_n 0, 1) := by decide +kernel
theorem dX5_car_42 : decode cX5_car 42 = .ok (.invokevirtual 51, 3) := by decide +kernel
theorem dX5_car_45 : decode cX5_car 45 = .ok (.aload_n 0, 1) := by decide +kernel
theorem dX5_car_46 : decode cX5_car 46 = .ok (.getfield 19, 3) := by decide +kernel
theorem dX5_car_49 : decode cX5_car 49 = .ok (.getfield 70, 3) := by decide +kernel
theorem dX5_car_52 : decode cX5_car 52 = .ok (.ireturn, 1) := by decide +kernel
set_option maxRecDepth 20000 in
theorem ggX5_rider_X5_isRider : GoodIn wsX5_rider wsX5_isRider := goodIn_r _ [13, 4, 14, 52, 53, 54, 55, 56, 57, 58, 59, 60, 61, 62, 72, 73, 74, 75, 76, 77] (by decide +kernel) (by decide +kernel)
set_option maxRecDepth 20000 in
theorem gX5_rider_X5_isRider : GoodIn wsX5_rider (wsV RX5 73 RX5 yX5_isRider wsX5_isRider) := goodIn_app (goodIn_of _ (by decide +kernel)) ggX5_rider_X5_isRider
set_option maxRecDepth 20000 in
theorem ggX5_rider_X1_isAboard : GoodIn wsX5_rider wsX1_isAboard := goodIn_r _ [19, 20, 65, 66, 67, 68, 69, 70, 71] (by decide +kernel) (by decide +kernel)
set_option maxRecDepth 20000 in
theorem gX5_rider_X1_isAboard : GoodIn wsX5_rider (wsV RX5 88 RX1 yX1_isAboard wsX1_isAboard) := goodIn_app (goodIn_of _ (by decide +kernel)) ggX5_rider_X1_isAboard
set_option maxRecDepth 20000 in
theorem ggX5_rider_X5_whom : GoodIn wsX5_rider wsX5_whom := goodIn_r _ [24, 3, 15, 16, 17, 18, 19, 20, 25, 26, 27, 12, 28, 4, 14, 29, 30, 31, 32, 33, 34, 35, 36, 5, 37, 38, 39, 40, 65, 66, 67, 68, 69, 70, 71, 52, 53, 54, 55, 56, 57, 58, 59, 60, 61, 62, 72, 73, 74, 75, 76, 77] (by decide +kernel) (by decide +kernel)
set_option maxRecDepth 20000 in
theorem gX5_rider_X5_whom : GoodIn wsX5_rider (wsV RX5 94 RX5 yX5_whom wsX5_whom) := goodIn_app (goodIn_of _ (by decide +kernel)) ggX5_rider_X5_whom
set_option maxRecDepth 20000 in
theorem ggX5_rider_X5_downByRing : GoodIn wsX5_rider wsX5_downByRing := goodIn_r _ [43, 44, 45, 46, 18, 47, 48, 65, 66, 67, 68, 69, 70, 71] (by decide +kernel) (by decide +kernel)
set_option maxRecDepth 20000 in
theorem gX5_rider_X5_downByRing : GoodIn wsX5_rider (va_wsS RX5 101 yX5_downByRing wsX5_downByRing) := goodIn_app (goodIn_of _ (by decide +kernel)) ggX5_rider_X5_downByRing
set_option maxRecDepth 20000 in
theorem ggX5_rider_X5_downByDoubleRing : GoodIn wsX5_rider wsX5_downByDoubleRing := goodIn_r _ [51, 44, 45, 46, 18, 47, 48, 15, 16, 17, 19, 20, 65, 66, 67, 68, 69, 70, 71] (by decide +kernel) (by decide +kernel)
set_option maxRecDepth 20000 in
theorem gX5_rider_X5_downByDoubleRing : GoodIn wsX5_rider (va_wsS RX5 104 yX5_downByDoubleRing wsX5_downByDoubleRing) := goodIn_app (goodIn_of _ (by decide +kernel)) ggX5_rider_X5_downByDoubleRing
theorem dX5_rider_0 : decode cX5_rider 0 = .ok (.aload_n 0, 1) := by decide +kernel
theorem dX5_rider_1 : decode cX5_rider 1 = .ok (.iload_n 1, 1) := by decide +kernel
theorem dX5_rider_2 : decode cX5_rider 2 = .ok (.invokevirtual 73, 3) := by decide +kernel
theorem dX5_rider_5 : decode cX5_rider 5 = .ok (.ifCond .ne 5, 3) := by decide +kernel
theorem dX5_rider_8 : decode cX5_rider 8 = .ok (.iconst (-1), 1) := by decide +kernel
theorem dX5_rider_9 : decode cX5_rider 9 = .ok (.ireturn, 1) := by decide +kernel
theorem dX5_rider_10 : decode cX5_rider 10 = .ok (.aload_n 0, 1) := by decide +kernel
theorem dX5_rider_11 : decode cX5_rider 11 = .ok (.getfield 29, 3) := by decide +kernel
theorem dX5_rider_14 : decode cX5_rider 14 = .ok (.getfield 76, 3) := by decide +kernel
theorem dX5_rider_17 : decode cX5_rider 17 = .ok (.astore_n 3, 1) := by decide +kernel
theorem dX5_rider_18 : decode cX5_rider 18 = .ok (.iload_n 2, 1) := by decide +kernel
theorem dX5_rider_19 : decode cX5_rider 19 = .ok (.tableswitch 151 0 7 #[45, 52, 62, 72, 86, 93, 109, 132], 45) := by decide +kernel
theorem dX5_rider_64 : decode cX5_rider 64 = .ok (.aload_n 3, 1) := by decide +kernel
theorem dX5_rider_65 : decode cX5_rider 65 = .ok (.getfield 79, 3) := by decide +kernel
theorem dX5_rider_68 : decode cX5_rider 68 = .ok (.iload_n 1, 1) := by decide +kernel
theorem dX5_rider_69 : decode cX5_rider 69 = .ok (.iaload, 1) := by decide +kernel
theorem dX5_rider_70 : decode cX5_rider 70 = .ok (.ireturn, 1) := by decide +kernel
theorem dX5_rider_71 : decode cX5_rider 71 = .ok (.aload_n 0, 1) := by decide +kernel
theorem dX5_rider_72 : decode cX5_rider 72 = .ok (.getfield 19, 3) := by decide +kernel
theorem dX5_rider_75 : decode cX5_rider 75 = .ok (.getfield 82, 3) := by decide +kernel
theorem dX5_rider_78 : decode cX5_rider 78 = .ok (.iload_n 1, 1) := by decide +kernel
theorem dX5_rider_79 : decode cX5_rider 79 = .ok (.iaload, 1) := by decide +kernel
theorem dX5_rider_80 : decode cX5_rider 80 = .ok (.ireturn, 1) := by decide +kernel
theorem dX5_rider_81 : decode cX5_rider 81 = .ok (.aload_n 0, 1) := by decide +kernel
theorem dX5_rider_82 : decode cX5_rider 82 = .ok (.getfield 19, 3) := by decide +kernel
theorem dX5_rider_85 : decode cX5_rider 85 = .ok (.getfield 85, 3) := by decide +kernel
theorem dX5_rider_88 : decode cX5_rider 88 = .ok (.iload_n 1, 1) := by decide +kernel
theorem dX5_rider_89 : decode cX5_rider 89 = .ok (.iaload, 1) := by decide +kernel
theorem dX5_rider_90 : decode cX5_rider 90 = .ok (.ireturn, 1) := by decide +kernel
theorem dX5_rider_91 : decode cX5_rider 91 = .ok (.aload_n 3, 1) := by decide +kernel
theorem dX5_rider_92 : decode cX5_rider 92 = .ok (.iload_n 1, 1) := by decide +kernel
theorem dX5_rider_93 : decode cX5_rider 93 = .ok (.invokevirtual 88, 3) := by decide +kernel
theorem dX5_rider_96 : decode cX5_rider 96 = .ok (.ifCond .eq 7, 3) := by decide +kernel
theorem dX5_rider_99 : decode cX5_rider 99 = .ok (.iconst 1, 1) := by decide +kernel
theorem dX5_rider_100 : decode cX5_rider 100 = .ok (.goto 4, 3) := by decide +kernel
theorem dX5_rider_103 : decode cX5_rider 103 = .ok (.iconst 0, 1) := by decide +kernel
theorem dX5_rider_104 : decode cX5_rider 104 = .ok (.ireturn, 1) := by decide +kernel
theorem dX5_rider_105 : decode cX5_rider 105 = .ok (.aload_n 3, 1) := by decide +kernel
theorem dX5_rider_106 : decode cX5_rider 106 = .ok (.getfield 91, 3) := by decide +kernel
theorem dX5_rider_109 : decode cX5_rider 109 = .ok (.iload_n 1, 1) := by decide +kernel
theorem dX5_rider_110 : decode cX5_rider 110 = .ok (.iaload, 1) := by decide +kernel
theorem dX5_rider_111 : decode cX5_rider 111 = .ok (.ireturn, 1) := by decide +kernel
theorem dX5_rider_112 : decode cX5_rider 112 = .ok (.aload_n 0, 1) := by decide +kernel
theorem dX5_rider_113 : decode cX5_rider 113 = .ok (.aload_n 3, 1) := by decide +kernel
theorem dX5_rider_114 : decode cX5_rider 114 = .ok (.iload_n 1, 1) := by decide +kernel
theorem dX5_rider_115 : decode cX5_rider 115 = .ok (.aload_n 0, 1) := by decide +kernel
theorem dX5_rider_116 : decode cX5_rider 116 = .ok (.getfield 19, 3) := by decide +kernel
theorem dX5_rider_119 : decode cX5_rider 119 = .ok (.getfield 85, 3) := by decide +kernel
theorem dX5_rider_122 : decode cX5_rider 122 = .ok (.iload_n 1, 1) := by decide +kernel
theorem dX5_rider_123 : decode cX5_rider 123 = .ok (.iaload, 1) := by decide +kernel
theorem dX5_rider_124 : decode cX5_rider 124 = .ok (.invokevirtual 94, 3) := by decide +kernel
theorem dX5_rider_127 : decode cX5_rider 127 = .ok (.ireturn, 1) := by decide +kernel
theorem dX5_rider_128 : decode cX5_rider 128 = .ok (.aload_n 3, 1) := by decide +kernel
theorem dX5_rider_129 : decode cX5_rider 129 = .ok (.iload_n 1, 1) := by decide +kernel
theorem dX5_rider_130 : decode cX5_rider 130 = .ok (.invokevirtual 88, 3) := by decide +kernel
theorem dX5_rider_133 : decode cX5_rider 133 = .ok (.ifCond .eq 15, 3) := by decide +kernel
theorem dX5_rider_136 : decode cX5_rider 136 = .ok (.aload_n 3, 1) := by decide +kernel
theorem dX5_rider_137 : decode cX5_rider 137 = .ok (.aload_n 3, 1) := by decide +kernel
theorem dX5_rider_138 : decode cX5_rider 138 = .ok (.getfield 98, 3) := by decide +kernel
theorem dX5_rider_141 : decode cX5_rider 141 = .ok (.iload_n 1, 1) := by decide +kernel
theorem dX5_rider_142 : decode cX5_rider 142 = .ok (.invokestatic 101, 3) := by decide +kernel
theorem dX5_rider_145 : decode cX5_rider 145 = .ok (.goto 5, 3) := by decide +kernel
theorem dX5_rider_148 : decode cX5_rider 148 = .ok (.bipush (-9), 2) := by decide +kernel
theorem dX5_rider_150 : decode cX5_rider 150 = .ok (.ireturn, 1) := by decide +kernel
theorem dX5_rider_151 : decode cX5_rider 151 = .ok (.aload_n 3, 1) := by decide +kernel
theorem dX5_rider_152 : decode cX5_rider 152 = .ok (.iload_n 1, 1) := by decide +kernel
theorem dX5_rider_153 : decode cX5_rider 153 = .ok (.invokevirtual 88, 3) := by decide +kernel
theorem dX5_rider_156 : decode cX5_rider 156 = .ok (.ifCond .eq 11, 3) := by decide +kernel
theorem dX5_rider_159 : decode cX5_rider 159 = .ok (.aload_n 3, 1) := by decide +kernel
theorem dX5_rider_160 : decode cX5_rider 160 = .ok (.iload_n 1, 1) := by decide +kernel
theorem dX5_rider_161 : decode cX5_rider 161 = .ok (.invokestatic 104, 3) := by decide +kernel
theorem dX5_rider_164 : decode cX5_rider 164 = .ok (.goto 5, 3) := by decide +kernel
theorem dX5_rider_167 : decode cX5_rider 167 = .ok (.bipush (-9), 2) := by decide +kernel
theorem dX5_rider_169 : decode cX5_rider 169 = .ok (.ireturn, 1) := by decide +kernel
theorem dX5_rider_170 : decode cX5_rider 170 = .ok (.iconst (-1), 1) := by decide +kernel
theorem dX5_rider_171 : decode cX5_rider 171 = .ok (.ireturn, 1) := by decide +kernel
set_option maxRecDepth 20000 in
theorem ggX5_latest_X5_isPair : GoodIn wsX5_latest wsX5_isPair := goodIn_r _ [7, 8, 9, 10, 6, 11, 12, 13, 20, 21, 22, 23, 24, 25, 26, 27, 28, 29, 30, 33, 34, 35, 36, 37, 38] (by decide +kernel) (by decide +kernel)
set_option maxRecDepth 20000 in
theorem gX5_latest_X5_isPair : GoodIn wsX5_latest (wsV RX5 108 RX5 yX5_isPair wsX5_isPair) := goodIn_app (goodIn_of _ (by decide +kernel)) ggX5_latest_X5_isPair
set_option maxRecDepth 20000 in
theorem ggX5_latest_X1_thoughtOf : GoodIn wsX5_latest wsX1_thoughtOf := goodIn_r _ [18, 19, 39, 40, 41, 42, 43, 44, 45] (by decide +kernel) (by decide +kernel)
set_option maxRecDepth 20000 in
theorem gX5_latest_X1_thoughtOf : GoodIn wsX5_latest (wsV RX5 112 RX1 yX1_thoughtOf wsX1_thoughtOf) := goodIn_app (goodIn_of _ (by decide +kernel)) ggX5_latest_X1_thoughtOf
theorem dX5_latest_0 : decode cX5_latest 0 = .ok (.aload_n 0, 1) := by decide +kernel
theorem dX5_latest_1 : decode cX5_latest 1 = .ok (.iload_n 1, 1) := by decide +kernel
theorem dX5_latest_2 : decode cX5_latest 2 = .ok (.iload_n 2, 1) := by decide +kernel
theorem dX5_latest_3 : decode cX5_latest 3 = .ok (.invokevirtual 108, 3) := by decide +kernel
theorem dX5_latest_6 : decode cX5_latest 6 = .ok (.ifCond .eq 18, 3) := by decide +kernel
theorem dX5_latest_9 : decode cX5_latest 9 = .ok (.aload_n 0, 1) := by decide +kernel
theorem dX5_latest_10 : decode cX5_latest 10 = .ok (.getfield 29, 3) := by decide +kernel
theorem dX5_latest_13 : decode cX5_latest 13 = .ok (.getfield 76, 3) := by decide +kernel
theorem dX5_latest_16 : decode cX5_latest 16 = .ok (.iload_n 1, 1) := by decide +kernel
theorem dX5_latest_17 : decode cX5_latest 17 = .ok (.iload_n 2, 1) := by decide +kernel
theorem dX5_latest_18 : decode cX5_latest 18 = .ok (.invokevirtual 112, 3) := by decide +kernel
theorem dX5_latest_21 : decode cX5_latest 21 = .ok (.goto 4, 3) := by decide +kernel
theorem dX5_latest_24 : decode cX5_latest 24 = .ok (.iconst (-1), 1) := by decide +kernel
theorem dX5_latest_25 : decode cX5_latest 25 = .ok (.ireturn, 1) := by decide +kernel
set_option maxRecDepth 20000 in
theorem ggX5_rides_X2_push : GoodIn wsX5_rides wsX2_push := goodIn_r _ [9, 10, 11, 12, 13, 14, 15, 8, 16, 17, 18, 19, 20, 21, 22, 23, 24, 25, 26, 27, 28, 29, 30, 31, 32, 91, 92, 93, 84, 85, 86, 87, 88, 89, 90] (by decide +kernel) (by decide +kernel)
set_option maxRecDepth 20000 in
theorem gX5_rides_X2_push : GoodIn wsX5_rides (wsV RX5 123 RX2 yX2_push wsX2_push) := goodIn_app (goodIn_of _ (by decide +kernel)) ggX5_rides_X2_push
set_option maxRecDepth 20000 in
theorem ggX5_rides_X5_ride : GoodIn wsX5_rides wsX5_ride := goodIn_r _ [37, 3, 38, 39, 40, 41, 42, 43, 36, 44, 45, 46, 47, 48, 20, 49, 23, 50, 51, 52, 53, 54, 55, 56, 57, 58, 59, 60, 61, 62, 63, 64, 65, 66, 67, 68, 69, 70, 24, 32, 84, 85, 86, 87, 88, 89, 90, 71, 72, 73, 74, 75, 76, 77, 78, 79, 80, 81, 94, 95, 96, 97, 98, 99] (by decide +kernel) (by decide +kernel)
set_option maxRecDepth 20000 in
theorem gX5_rides_X5_ride : GoodIn wsX5_rides (wsV RX5 129 RX5 yX5_ride wsX5_ride) := goodIn_app (goodIn_of _ (by decide +kernel)) ggX5_rides_X5_ride
theorem dX5_rides_0 : decode cX5_rides 0 = .ok (.aload_n 0, 1) := by decide +kernel
theorem dX5_rides_1 : decode cX5_rides 1 = .ok (.getfield 29, 3) := by decide +kernel
theorem dX5_rides_4 : decode cX5_rides 4 = .ok (.getfield 76, 3) := by decide +kernel
theorem dX5_rides_7 : decode cX5_rides 7 = .ok (.astore_n 1, 1) := by decide +kernel
theorem dX5_rides_8 : decode cX5_rides 8 = .ok (.aload_n 1, 1) := by decide +kernel
theorem dX5_rides_9 : decode cX5_rides 9 = .ok (.getfield 116, 3) := by decide +kernel
theorem dX5_rides_12 : decode cX5_rides 12 = .ok (.bipush 99, 2) := by decide +kernel
theorem dX5_rides_14 : decode cX5_rides 14 = .ok (.if_icmp .lt 6, 3) := by decide +kernel
theorem dX5_rides_17 : decode cX5_rides 17 = .ok (.bipush (-2), 2) := by decide +kernel
theorem dX5_rides_19 : decode cX5_rides 19 = .ok (.ireturn, 1) := by decide +kernel
theorem dX5_rides_20 : decode cX5_rides 20 = .ok (.aload_n 0, 1) := by decide +kernel
theorem dX5_rides_21 : decode cX5_rides 21 = .ok (.getfield 29, 3) := by decide +kernel
theorem dX5_rides_24 : decode cX5_rides 24 = .ok (.getfield 119, 3) := by decide +kernel
theorem dX5_rides_27 : decode cX5_rides 27 = .ok (.aload_n 1, 1) := by decide +kernel
theorem dX5_rides_28 : decode cX5_rides 28 = .ok (.invokevirtual 123, 3) := by decide +kernel
theorem dX5_rides_31 : decode cX5_rides 31 = .ok (.aload_n 0, 1) := by decide +kernel
theorem dX5_rides_32 : decode cX5_rides 32 = .ok (.aload_n 1, 1) := by decide +kernel
theorem dX5_rides_33 : decode cX5_rides 33 = .ok (.invokevirtual 129, 3) := by decide +kernel
theorem dX5_rides_36 : decode cX5_rides 36 = .ok (.aload_n 1, 1) := by decide +kernel
theorem dX5_rides_37 : decode cX5_rides 37 = .ok (.getfield 116, 3) := by decide +kernel
theorem dX5_rides_40 : decode cX5_rides 40 = .ok (.ireturn, 1) := by decide +kernel
set_option maxRecDepth 20000 in
theorem ggX5_thinks_X5_isPair : GoodIn wsX5_thinks wsX5_isPair := goodIn_r _ [9, 10, 11, 12, 8, 13, 14, 15, 52, 53, 54, 55, 56, 57, 58, 59, 60, 61, 62, 72, 73, 74, 75, 76, 77] (by decide +kernel) (by decide +kernel)
set_option maxRecDepth 20000 in
theorem gX5_thinks_X5_isPair : GoodIn wsX5_thinks (wsV RX5 108 RX5 yX5_isPair wsX5_isPair) := goodIn_app (goodIn_of _ (by decide +kernel)) ggX5_thinks_X5_isPair
set_option maxRecDepth 20000 in
theorem ggX5_thinks_X1_isAboard : GoodIn wsX5_thinks wsX1_isAboard := goodIn_r _ [20, 21, 65, 66, 67, 68, 69, 70, 71] (by decide +kernel) (by decide +kernel)
set_option maxRecDepth 20000 in
theorem gX5_thinks_X1_isAboard : GoodIn wsX5_thinks (wsV RX5 88 RX1 yX1_isAboard wsX1_isAboard) := goodIn_app (goodIn_of _ (by decide +kernel)) ggX5_thinks_X1_isAboard
set_option maxRecDepth 20000 in
theorem ggX5_thinks_X2_push : GoodIn wsX5_thinks wsX2_push := goodIn_r _ [26, 27, 28, 29, 30, 31, 32, 25, 33, 34, 35, 36, 19, 37, 38, 21, 39, 40, 41, 42, 43, 44, 45, 46, 47, 78, 79, 80, 65, 66, 67, 68, 69, 70, 71] (by decide +kernel) (by decide +kernel)
set_option maxRecDepth 20000 in
theorem gX5_thinks_X2_push : GoodIn wsX5_thinks (wsV RX5 123 RX2 yX2_push wsX2_push) := goodIn_app (goodIn_of _ (by decide +kernel)) ggX5_thinks_X2_push
set_option maxRecDepth 20000 in
theorem ggX5_thinks_X1_think : GoodIn wsX5_thinks wsX1_think := goodIn_r _ [51, 39, 47, 65, 66, 67, 68, 69, 70, 71] (by decide +kernel) (by decide +kernel)
set_option maxRecDepth 20000 in
theorem gX5_thinks_X1_think : GoodIn wsX5_thinks (wsV RX5 132 RX1 yX1_think wsX1_think) := goodIn_app (goodIn_of _ (by decide +kernel)) ggX5_thinks_X1_think
theorem dX5_thinks_0 : decode cX5_thinks 0 = .ok (.aload_n 0, 1) := by decide +kernel
theorem dX5_thinks_1 : decode cX5_thinks 1 = .ok (.getfield 29, 3) := by decide +kernel
theorem dX5_thinks_4 : decode cX5_thinks 4 = .ok (.getfield 76, 3) := by decide +kernel
theorem dX5_thinks_7 : decode cX5_thinks 7 = .ok (.astore_n 3, 1) := by decide +kernel
theorem dX5_thinks_8 : decode cX5_thinks 8 = .ok (.aload_n 0, 1) := by decide +kernel
theorem dX5_thinks_9 : decode cX5_thinks 9 = .ok (.iload_n 1, 1) := by decide +kernel
theorem dX5_thinks_10 : decode cX5_thinks 10 = .ok (.iload_n 2, 1) := by decide +kernel
theorem dX5_thinks_11 : decode cX5_thinks 11 = .ok (.invokevirtual 108, 3) := by decide +kernel
theorem dX5_thinks_14 : decode cX5_thinks 14 = .ok (.ifCond .ne 5, 3) := by decide +kernel
theorem dX5_thinks_17 : decode cX5_thinks 17 = .ok (.iconst (-1), 1) := by decide +kernel
theorem dX5_thinks_18 : decode cX5_thinks 18 = .ok (.ireturn, 1) := by decide +kernel
theorem dX5_thinks_19 : decode cX5_thinks 19 = .ok (.aload_n 3, 1) := by decide +kernel
theorem dX5_thinks_20 : decode cX5_thinks 20 = .ok (.iload_n 1, 1) := by decide +kernel
theorem dX5_thinks_21 : decode cX5_thinks 21 = .ok (.invokevirtual 88, 3) := by decide +kernel
theorem dX5_thinks_24 : decode cX5_thinks 24 = .ok (.ifCond .eq 11, 3) := by decide +kernel
theorem dX5_thinks_27 : decode cX5_thinks 27 = .ok (.aload_n 3, 1) := by decide +kernel
theorem dX5_thinks_28 : decode cX5_thinks 28 = .ok (.iload_n 2, 1) := by decide +kernel
theorem dX5_thinks_29 : decode cX5_thinks 29 = .ok (.invokevirtual 88, 3) := by decide +kernel
theorem dX5_thinks_32 : decode cX5_thinks 32 = .ok (.ifCond .ne 6, 3) := by decide +kernel
theorem dX5_thinks_35 : decode cX5_thinks 35 = .ok (.bipush (-2), 2) := by decide +kernel
theorem dX5_thinks_37 : decode cX5_thinks 37 = .ok (.ireturn, 1) := by decide +kernel
theorem dX5_thinks_38 : decode cX5_thinks 38 = .ok (.aload_n 0, 1) := by decide +kernel
theorem dX5_thinks_39 : decode cX5_thinks 39 = .ok (.getfield 29, 3) := by decide +kernel
theorem dX5_thinks_42 : decode cX5_thinks 42 = .ok (.getfield 119, 3) := by decide +kernel
theorem dX5_thinks_45 : decode cX5_thinks 45 = .ok (.aload_n 3, 1) := by decide +kernel
theorem dX5_thinks_46 : decode cX5_thinks 46 = .ok (.invokevirtual 123, 3) := by decide +kernel
theorem dX5_thinks_49 : decode cX5_thinks 49 = .ok (.aload_n 3, 1) := by decide +kernel
theorem dX5_thinks_50 : decode cX5_thinks 50 = .ok (.iload_n 1, 1) := by decide +kernel
theorem dX5_thinks_51 : decode cX5_thinks 51 = .ok (.iload_n 2, 1) := by decide +kernel
theorem dX5_thinks_52 : decode cX5_thinks 52 = .ok (.invokevirtual 132, 3) := by decide +kernel
theorem dX5_thinks_55 : decode cX5_thinks 55 = .ok (.aload_n 3, 1) := by decide +kernel
theorem dX5_thinks_56 : decode cX5_thinks 56 = .ok (.getfield 136, 3) := by decide +kernel
theorem dX5_thinks_59 : decode cX5_thinks 59 = .ok (.ireturn, 1) := by decide +kernel
set_option maxRecDepth 20000 in
theorem ggX5_rings_X5_isRider : GoodIn wsX5_rings wsX5_isRider := goodIn_r _ [9, 10, 11, 55, 56, 57, 58, 59, 60, 61, 62, 63, 64, 65, 75, 76, 77, 78, 79, 80] (by decide +kernel) (by decide +kernel)
set_option maxRecDepth 20000 in
theorem gX5_rings_X5_isRider : GoodIn wsX5_rings (wsV RX5 73 RX5 yX5_isRider wsX5_isRider) := goodIn_app (goodIn_of _ (by decide +kernel)) ggX5_rings_X5_isRider
set_option maxRecDepth 20000 in
theorem ggX5_rings_X1_isAboard : GoodIn wsX5_rings wsX1_isAboard := goodIn_r _ [16, 17, 68, 69, 70, 71, 72, 73, 74] (by decide +kernel) (by decide +kernel)
set_option maxRecDepth 20000 in
theorem gX5_rings_X1_isAboard : GoodIn wsX5_rings (wsV RX5 88 RX1 yX1_isAboard wsX1_isAboard) := goodIn_app (goodIn_of _ (by decide +kernel)) ggX5_rings_X1_isAboard
set_option maxRecDepth 20000 in
theorem ggX5_rings_X2_push : GoodIn wsX5_rings wsX2_push := goodIn_r _ [22, 23, 24, 25, 26, 27, 28, 21, 29, 30, 31, 32, 15, 33, 34, 17, 35, 36, 37, 38, 39, 40, 41, 42, 43, 81, 82, 83, 68, 69, 70, 71, 72, 73, 74] (by decide +kernel) (by decide +kernel)
set_option maxRecDepth 20000 in
theorem gX5_rings_X2_push : GoodIn wsX5_rings (wsV RX5 123 RX2 yX2_push wsX2_push) := goodIn_app (goodIn_of _ (by decide +kernel)) ggX5_rings_X2_push
set_option maxRecDepth 20000 in
theorem ggX5_rings_X5_downByRing : GoodIn wsX5_rings wsX5_downByRing := goodIn_r _ [46, 47, 48, 49, 15, 50, 43, 68, 69, 70, 71, 72, 73, 74] (by decide +kernel) (by decide +kernel)
set_option maxRecDepth 20000 in
theorem gX5_rings_X5_downByRing : GoodIn wsX5_rings (va_wsS RX5 101 yX5_downByRing wsX5_downByRing) := goodIn_app (goodIn_of _ (by decide +kernel)) ggX5_rings_X5_downByRing
set_option maxRecDepth 20000 in
theorem ggX5_rings_X1_getDown : GoodIn wsX5_rings wsX1_getDown := goodIn_r _ [54, 36, 17, 42, 34, 68, 69, 70, 71, 72, 73, 74] (by decide +kernel) (by decide +kernel)
set_option maxRecDepth 20000 in
theorem gX5_rings_X1_getDown : GoodIn wsX5_rings (wsV RX5 139 RX1 yX1_getDown wsX1_getDown) := goodIn_app (goodIn_of _ (by decide +kernel)) ggX5_rings_X1_getDown
theorem dX5_rings_0 : decode cX5_rings 0 = .ok (.aload_n 0, 1) := by decide +kernel
theorem dX5_rings_1 : decode cX5_rings 1 = .ok (.getfield 29, 3) := by decide +kernel
theorem dX5_rings_4 : decode cX5_rings 4 = .ok (.getfield 76, 3) := by decide +kernel
theorem dX5_rings_7 : decode cX5_rings 7 = .ok (.astore_n 2, 1) := by decide +kernel
theorem dX5_rings_8 : decode cX5_rings 8 = .ok (.aload_n 0, 1) := by decide +kernel
theorem dX5_rings_9 : decode cX5_rings 9 = .ok (.iload_n 1, 1) := by decide +kernel
theorem dX5_rings_10 : decode cX5_rings 10 = .ok (.invokevirtual 73, 3) := by decide +kernel
theorem dX5_rings_13 : decode cX5_rings 13 = .ok (.ifCond .ne 5, 3) := by decide +kernel
theorem dX5_rings_16 : decode cX5_rings 16 = .ok (.iconst (-1), 1) := by decide +kernel
theorem dX5_rings_17 : decode cX5_rings 17 = .ok (.ireturn, 1) := by decide +kernel
theorem dX5_rings_18 : decode cX5_rings 18 = .ok (.aload_n 2, 1) := by decide +kernel
theorem dX5_rings_19 : decode cX5_rings 19 = .ok (.iload_n 1, 1) := by decide +kernel
theorem dX5_rings_20 : decode cX5_rings 20 = .ok (.invokevirtual 88, 3) := by decide +kernel
theorem dX5_rings_23 : decode cX5_rings 23 = .ok (.ifCond .ne 6, 3) := by decide +kernel
theorem dX5_rings_26 : decode cX5_rings 26 = .ok (.bipush (-2), 2) := by decide +kernel
theorem dX5_rings_28 : decode cX5_rings 28 = .ok (.ireturn, 1) := by decide +kernel
theorem dX5_rings_29 : decode cX5_rings 29 = .ok (.aload_n 0, 1) := by decide +kernel
theorem dX5_rings_30 : decode cX5_rings 30 = .ok (.getfield 29, 3) := by decide +kernel
theorem dX5_rings_33 : decode cX5_rings 33 = .ok (.getfield 119, 3) := by decide +kernel
theorem dX5_rings_36 : decode cX5_rings 36 = .ok (.aload_n 2, 1) := by decide +kernel
theorem dX5_rings_37 : decode cX5_rings 37 = .ok (.invokevirtual 123, 3) := by decide +kernel
theorem dX5_rings_40 : decode cX5_rings 40 = .ok (.aload_n 2, 1) := by decide +kernel
theorem dX5_rings_41 : decode cX5_rings 41 = .ok (.aload_n 2, 1) := by decide +kernel
theorem dX5_rings_42 : decode cX5_rings 42 = .ok (.aload_n 2, 1) := by decide +kernel
theorem dX5_rings_43 : decode cX5_rings 43 = .ok (.getfield 98, 3) := by decide +kernel
theorem dX5_rings_46 : decode cX5_rings 46 = .ok (.iload_n 1, 1) := by decide +kernel
theorem dX5_rings_47 : decode cX5_rings 47 = .ok (.invokestatic 101, 3) := by decide +kernel
theorem dX5_rings_50 : decode cX5_rings 50 = .ok (.invokevirtual 139, 3) := by decide +kernel
theorem dX5_rings_53 : decode cX5_rings 53 = .ok (.ireturn, 1) := by decide +kernel
set_option maxRecDepth 20000 in
theorem ggX5_twice_X5_isRider : GoodIn wsX5_twice wsX5_isRider := goodIn_r _ [8, 9, 10, 54, 55, 56, 57, 58, 59, 60, 61, 62, 63, 64, 67, 68, 69, 70, 71, 72] (by decide +kernel) (by decide +kernel)
set_option maxRecDepth 20000 in
theorem gX5_twice_X5_isRider : GoodIn wsX5_twice (wsV RX5 73 RX5 yX5_isRider wsX5_isRider) := goodIn_app (goodIn_of _ (by decide +kernel)) ggX5_twice_X5_isRider
set_option maxRecDepth 20000 in
theorem ggX5_twice_X1_isAboard : GoodIn wsX5_twice wsX1_isAboard := goodIn_r _ [15, 16, 73, 74, 75, 76, 77, 78, 79] (by decide +kernel) (by decide +kernel)
set_option maxRecDepth 20000 in
theorem gX5_twice_X1_isAboard : GoodIn wsX5_twice (wsV RX5 88 RX1 yX1_isAboard wsX1_isAboard) := goodIn_app (goodIn_of _ (by decide +kernel)) ggX5_twice_X1_isAboard
set_option maxRecDepth 20000 in
theorem ggX5_twice_X2_push : GoodIn wsX5_twice wsX2_push := goodIn_r _ [21, 22, 23, 24, 25, 26, 27, 20, 28, 29, 30, 31, 14, 32, 33, 16, 34, 35, 36, 37, 38, 39, 40, 41, 42, 80, 81, 82, 73, 74, 75, 76, 77, 78, 79] (by decide +kernel) (by decide +kernel)
set_option maxRecDepth 20000 in
theorem gX5_twice_X2_push : GoodIn wsX5_twice (wsV RX5 123 RX2 yX2_push wsX2_push) := goodIn_app (goodIn_of _ (by decide +kernel)) ggX5_twice_X2_push
set_option maxRecDepth 20000 in
theorem ggX5_twice_X5_downByDoubleRing : GoodIn wsX5_twice wsX5_downByDoubleRing := goodIn_r _ [45, 46, 47, 48, 14, 49, 42, 11, 12, 13, 15, 16, 73, 74, 75, 76, 77, 78, 79] (by decide +kernel) (by decide +kernel)
set_option maxRecDepth 20000 in
theorem gX5_twice_X5_downByDoubleRing : GoodIn wsX5_twice (va_wsS RX5 104 yX5_downByDoubleRing wsX5_downByDoubleRing) := goodIn_app (goodIn_of _ (by decide +kernel)) ggX5_twice_X5_downByDoubleRing
set_option maxRecDepth 20000 in
theorem ggX5_twice_X1_getDown : GoodIn wsX5_twice wsX1_getDown := goodIn_r _ [53, 35, 16, 41, 33, 73, 74, 75, 76, 77, 78, 79] (by decide +kernel) (by decide +kernel)
set_option maxRecDepth 20000 in
theorem gX5_twice_X1_getDown : GoodIn wsX5_twice (wsV RX5 139 RX1 yX1_getDown wsX1_getDown) := goodIn_app (goodIn_of _ (by decide +kernel)) ggX5_twice_X1_getDown
theorem dX5_twice_0 : decode cX5_twice 0 = .ok (.aload_n 0, 1) := by decide +kernel
theorem dX5_twice_1 : decode cX5_twice 1 = .ok (.getfield 29, 3) := by decide +kernel
theorem dX5_twice_4 : decode cX5_twice 4 = .ok (.getfield 76, 3) := by decide +kernel
theorem dX5_twice_7 : decode cX5_twice 7 = .ok (.astore_n 2, 1) := by decide +kernel
theorem dX5_twice_8 : decode cX5_twice 8 = .ok (.aload_n 0, 1) := by decide +kernel
theorem dX5_twice_9 : decode cX5_twice 9 = .ok (.iload_n 1, 1) := by decide +kernel
theorem dX5_twice_10 : decode cX5_twice 10 = .ok (.invokevirtual 73, 3) := by decide +kernel
theorem dX5_twice_13 : decode cX5_twice 13 = .ok (.ifCond .ne 5, 3) := by decide +kernel
theorem dX5_twice_16 : decode cX5_twice 16 = .ok (.iconst (-1), 1) := by decide +kernel
theorem dX5_twice_17 : decode cX5_twice 17 = .ok (.ireturn, 1) := by decide +kernel
theorem dX5_twice_18 : decode cX5_twice 18 = .ok (.aload_n 2, 1) := by decide +kernel
theorem dX5_twice_19 : decode cX5_twice 19 = .ok (.iload_n 1, 1) := by decide +kernel
theorem dX5_twice_20 : decode cX5_twice 20 = .ok (.invokevirtual 88, 3) := by decide +kernel
theorem dX5_twice_23 : decode cX5_twice 23 = .ok (.ifCond .ne 6, 3) := by decide +kernel
theorem dX5_twice_26 : decode cX5_twice 26 = .ok (.bipush (-2), 2) := by decide +kernel
theorem dX5_twice_28 : decode cX5_twice 28 = .ok (.ireturn, 1) := by decide +kernel
theorem dX5_twice_29 : decode cX5_twice 29 = .ok (.aload_n 0, 1) := by decide +kernel
theorem dX5_twice_30 : decode cX5_twice 30 = .ok (.getfield 29, 3) := by decide +kernel
theorem dX5_twice_33 : decode cX5_twice 33 = .ok (.getfield 119, 3) := by decide +kernel
theorem dX5_twice_36 : decode cX5_twice 36 = .ok (.aload_n 2, 1) := by decide +kernel
theorem dX5_twice_37 : decode cX5_twice 37 = .ok (.invokevirtual 123, 3) := by decide +kernel
theorem dX5_twice_40 : decode cX5_twice 40 = .ok (.aload_n 2, 1) := by decide +kernel
theorem dX5_twice_41 : decode cX5_twice 41 = .ok (.aload_n 2, 1) := by decide +kernel
theorem dX5_twice_42 : decode cX5_twice 42 = .ok (.iload_n 1, 1) := by decide +kernel
theorem dX5_twice_43 : decode cX5_twice 43 = .ok (.invokestatic 104, 3) := by decide +kernel
theorem dX5_twice_46 : decode cX5_twice 46 = .ok (.invokevirtual 139, 3) := by decide +kernel
theorem dX5_twice_49 : decode cX5_twice 49 = .ok (.ireturn, 1) := by decide +kernel
set_option maxRecDepth 20000 in
theorem ggX5_seats_X5_isRider : GoodIn wsX5_seats wsX5_isRider := goodIn_r _ [9, 10, 11, 44, 45, 46, 47, 48, 49, 50, 51, 52, 53, 54, 64, 65, 66, 67, 68, 69] (by decide +kernel) (by decide +kernel)
set_option maxRecDepth 20000 in
theorem gX5_seats_X5_isRider : GoodIn wsX5_seats (wsV RX5 73 RX5 yX5_isRider wsX5_isRider) := goodIn_app (goodIn_of _ (by decide +kernel)) ggX5_seats_X5_isRider
set_option maxRecDepth 20000 in
theorem ggX5_seats_X1_isAboard : GoodIn wsX5_seats wsX1_isAboard := goodIn_r _ [16, 17, 57, 58, 59, 60, 61, 62, 63] (by decide +kernel) (by decide +kernel)
set_option maxRecDepth 20000 in
theorem gX5_seats_X1_isAboard : GoodIn wsX5_seats (wsV RX5 88 RX1 yX1_isAboard wsX1_isAboard) := goodIn_app (goodIn_of _ (by decide +kernel)) ggX5_seats_X1_isAboard
set_option maxRecDepth 20000 in
theorem ggX5_seats_X2_push : GoodIn wsX5_seats wsX2_push := goodIn_r _ [22, 23, 24, 25, 26, 27, 28, 21, 29, 30, 31, 32, 15, 33, 34, 17, 35, 36, 37, 38, 39, 40, 41, 42, 43, 70, 71, 72, 57, 58, 59, 60, 61, 62, 63] (by decide +kernel) (by decide +kernel)
set_option maxRecDepth 20000 in
theorem gX5_seats_X2_push : GoodIn wsX5_seats (wsV RX5 123 RX2 yX2_push wsX2_push) := goodIn_app (goodIn_of _ (by decide +kernel)) ggX5_seats_X2_push
theorem dX5_seats_0 : decode cX5_seats 0 = .ok (.aload_n 0, 1) := by decide +kernel
theorem dX5_seats_1 : decode cX5_seats 1 = .ok (.getfield 29, 3) := by decide +kernel
theorem dX5_seats_4 : decode cX5_seats 4 = .ok (.getfield 76, 3) := by decide +kernel
theorem dX5_seats_7 : decode cX5_seats 7 = .ok (.astore_n 3, 1) := by decide +kernel
theorem dX5_seats_8 : decode cX5_seats 8 = .ok (.aload_n 0, 1) := by decide +kernel
theorem dX5_seats_9 : decode cX5_seats 9 = .ok (.iload_n 1, 1) := by decide +kernel
theorem dX5_seats_10 : decode cX5_seats 10 = .ok (.invokevirtual 73, 3) := by decide +kernel
theorem dX5_seats_13 : decode cX5_seats 13 = .ok (.ifCond .eq 13, 3) := by decide +kernel
theorem dX5_seats_16 : decode cX5_seats 16 = .ok (.iload_n 2, 1) := by decide +kernel
theorem dX5_seats_17 : decode cX5_seats 17 = .ok (.ifCond .lt 9, 3) := by decide +kernel
theorem dX5_seats_20 : decode cX5_seats 20 = .ok (.iload_n 2, 1) := by decide +kernel
theorem dX5_seats_21 : decode cX5_seats 21 = .ok (.bipush 9, 2) := by decide +kernel
theorem dX5_seats_23 : decode cX5_seats 23 = .ok (.if_icmp .le 5, 3) := by decide +kernel
theorem dX5_seats_26 : decode cX5_seats 26 = .ok (.iconst (-1), 1) := by decide +kernel
theorem dX5_seats_27 : decode cX5_seats 27 = .ok (.ireturn, 1) := by decide +kernel
theorem dX5_seats_28 : decode cX5_seats 28 = .ok (.aload_n 3, 1) := by decide +kernel
theorem dX5_seats_29 : decode cX5_seats 29 = .ok (.getfield 79, 3) := by decide +kernel
theorem dX5_seats_32 : decode cX5_seats 32 = .ok (.iload_n 1, 1) := by decide +kernel
theorem dX5_seats_33 : decode cX5_seats 33 = .ok (.iaload, 1) := by decide +kernel
theorem dX5_seats_34 : decode cX5_seats 34 = .ok (.istore 4, 2) := by decide +kernel
theorem dX5_seats_36 : decode cX5_seats 36 = .ok (.aload_n 3, 1) := by decide +kernel
theorem dX5_seats_37 : decode cX5_seats 37 = .ok (.iload_n 1, 1) := by decide +kernel
theorem dX5_seats_38 : decode cX5_seats 38 = .ok (.invokevirtual 88, 3) := by decide +kernel
theorem dX5_seats_41 : decode cX5_seats 41 = .ok (.ifCond .eq 9, 3) := by decide +kernel
theorem dX5_seats_44 : decode cX5_seats 44 = .ok (.iload 4, 2) := by decide +kernel
theorem dX5_seats_46 : decode cX5_seats 46 = .ok (.iload_n 2, 1) := by decide +kernel
theorem dX5_seats_47 : decode cX5_seats 47 = .ok (.if_icmp .ne 6, 3) := by decide +kernel
theorem dX5_seats_50 : decode cX5_seats 50 = .ok (.bipush (-2), 2) := by decide +kernel
theorem dX5_seats_52 : decode cX5_seats 52 = .ok (.ireturn, 1) := by decide +kernel
theorem dX5_seats_53 : decode cX5_seats 53 = .ok (.aload_n 0, 1) := by decide +kernel
theorem dX5_seats_54 : decode cX5_seats 54 = .ok (.getfield 29, 3) := by decide +kernel
theorem dX5_seats_57 : decode cX5_seats 57 = .ok (.getfield 119, 3) := by decide +kernel
theorem dX5_seats_60 : decode cX5_seats 60 = .ok (.aload_n 3, 1) := by decide +kernel
theorem dX5_seats_61 : decode cX5_seats 61 = .ok (.invokevirtual 123, 3) := by decide +kernel
theorem dX5_seats_64 : decode cX5_seats 64 = .ok (.aload_n 3, 1) := by decide +kernel
theorem dX5_seats_65 : decode cX5_seats 65 = .ok (.getfield 79, 3) := by decide +kernel
theorem dX5_seats_68 : decode cX5_seats 68 = .ok (.iload_n 1, 1) := by decide +kernel
theorem dX5_seats_69 : decode cX5_seats 69 = .ok (.iload_n 2, 1) := by decide +kernel
theorem dX5_seats_70 : decode cX5_seats 70 = .ok (.iastore, 1) := by decide +kernel
theorem dX5_seats_71 : decode cX5_seats 71 = .ok (.iload 4, 2) := by decide +kernel
theorem dX5_seats_73 : decode cX5_seats 73 = .ok (.ireturn, 1) := by decide +kernel
set_option maxRecDepth 20000 in
theorem ggX5_boards_X5_isRider : GoodIn wsX5_boards wsX5_isRider := goodIn_r _ [10, 11, 12, 52, 53, 54, 55, 56, 57, 58, 59, 60, 61, 62, 72, 73, 74, 75, 76, 77] (by decide +kernel) (by decide +kernel)
set_option maxRecDepth 20000 in
theorem gX5_boards_X5_isRider : GoodIn wsX5_boards (wsV RX5 73 RX5 yX5_isRider wsX5_isRider) := goodIn_app (goodIn_of _ (by decide +kernel)) ggX5_boards_X5_isRider
set_option maxRecDepth 20000 in
theorem ggX5_boards_X1_isAboard : GoodIn wsX5_boards wsX1_isAboard := goodIn_r _ [17, 18, 65, 66, 67, 68, 69, 70, 71] (by decide +kernel) (by decide +kernel)
set_option maxRecDepth 20000 in
theorem gX5_boards_X1_isAboard : GoodIn wsX5_boards (wsV RX5 88 RX1 yX1_isAboard wsX1_isAboard) := goodIn_app (goodIn_of _ (by decide +kernel)) ggX5_boards_X1_isAboard
set_option maxRecDepth 20000 in
theorem ggX5_boards_X2_push : GoodIn wsX5_boards wsX2_push := goodIn_r _ [23, 24, 25, 26, 27, 28, 29, 22, 30, 31, 32, 33, 16, 34, 35, 18, 36, 37, 38, 39, 40, 41, 42, 43, 44, 78, 79, 80, 65, 66, 67, 68, 69, 70, 71] (by decide +kernel) (by decide +kernel)
set_option maxRecDepth 20000 in
theorem gX5_boards_X2_push : GoodIn wsX5_boards (wsV RX5 123 RX2 yX2_push wsX2_push) := goodIn_app (goodIn_of _ (by decide +kernel)) ggX5_boards_X2_push
set_option maxRecDepth 20000 in
theorem ggX5_boards_J6_bitCount_0f7a4 : GoodIn wsX5_boards wsJ6_bitCount_0f7a4 := goodIn_r _ [48, 49, 50, 51] (by decide +kernel) (by decide +kernel)
set_option maxRecDepth 20000 in
theorem gX5_boards_J6_bitCount_0f7a4 : GoodIn wsX5_boards (va_wsS RX5 143 yJ6_bitCount_0f7a4 wsJ6_bitCount_0f7a4) := goodIn_app (goodIn_of _ (by decide +kernel)) ggX5_boards_J6_bitCount_0f7a4
theorem dX5_boards_0 : decode cX5_boards 0 = .ok (.aload_n 0, 1) := by decide +kernel
theorem dX5_boards_1 : decode cX5_boards 1 = .ok (.getfield 29, 3) := by decide +kernel
theorem dX5_boards_4 : decode cX5_boards 4 = .ok (.getfield 76, 3) := by decide +kernel
theorem dX5_boards_7 : decode cX5_boards 7 = .ok (.astore_n 2, 1) := by decide +kernel
theorem dX5_boards_8 : decode cX5_boards 8 = .ok (.aload_n 0, 1) := by decide +kernel
theorem dX5_boards_9 : decode cX5_boards 9 = .ok (.iload_n 1, 1) := by decide +kernel
theorem dX5_boards_10 : decode cX5_boards 10 = .ok (.invokevirtual 73, 3) := by decide +kernel
theorem dX5_boards_13 : decode cX5_boards 13 = .ok (.ifCond .ne 5, 3) := by decide +kernel
theorem dX5_boards_16 : decode cX5_boards 16 = .ok (.iconst (-1), 1) := by decide +kernel
theorem dX5_boards_17 : decode cX5_boards 17 = .ok (.ireturn, 1) := by decide +kernel
theorem dX5_boards_18 : decode cX5_boards 18 = .ok (.aload_n 2, 1) := by decide +kernel
theorem dX5_boards_19 : decode cX5_boards 19 = .ok (.iload_n 1, 1) := by decide +kernel
theorem dX5_boards_20 : decode cX5_boards 20 = .ok (.invokevirtual 88, 3) := by decide +kernel
theorem dX5_boards_23 : decode cX5_boards 23 = .ok (.ifCond .eq 6, 3) := by decide +kernel
theorem dX5_boards_26 : decode cX5_boards 26 = .ok (.bipush (-2), 2) := by decide +kernel
theorem dX5_boards_28 : decode cX5_boards 28 = .ok (.ireturn, 1) := by decide +kernel
theorem dX5_boards_29 : decode cX5_boards 29 = .ok (.aload_n 0, 1) := by decide +kernel
theorem dX5_boards_30 : decode cX5_boards 30 = .ok (.getfield 29, 3) := by decide +kernel
theorem dX5_boards_33 : decode cX5_boards 33 = .ok (.getfield 119, 3) := by decide +kernel
theorem dX5_boards_36 : decode cX5_boards 36 = .ok (.aload_n 2, 1) := by decide +kernel
theorem dX5_boards_37 : decode cX5_boards 37 = .ok (.invokevirtual 123, 3) := by decide +kernel
theorem dX5_boards_40 : decode cX5_boards 40 = .ok (.aload_n 2, 1) := by decide +kernel
theorem dX5_boards_41 : decode cX5_boards 41 = .ok (.dup, 1) := by decide +kernel
theorem dX5_boards_42 : decode cX5_boards 42 = .ok (.getfield 98, 3) := by decide +kernel
theorem dX5_boards_45 : decode cX5_boards 45 = .ok (.iconst 1, 1) := by decide +kernel
theorem dX5_boards_46 : decode cX5_boards 46 = .ok (.iload_n 1, 1) := by decide +kernel
theorem dX5_boards_47 : decode cX5_boards 47 = .ok (.ishl, 1) := by decide +kernel
theorem dX5_boards_48 : decode cX5_boards 48 = .ok (.ior, 1) := by decide +kernel
theorem dX5_boards_49 : decode cX5_boards 49 = .ok (.putfield 98, 3) := by decide +kernel
theorem dX5_boards_52 : decode cX5_boards 52 = .ok (.aload_n 2, 1) := by decide +kernel
theorem dX5_boards_53 : decode cX5_boards 53 = .ok (.getfield 91, 3) := by decide +kernel
theorem dX5_boards_56 : decode cX5_boards 56 = .ok (.iload_n 1, 1) := by decide +kernel
theorem dX5_boards_57 : decode cX5_boards 57 = .ok (.bipush (-9), 2) := by decide +kernel
theorem dX5_boards_59 : decode cX5_boards 59 = .ok (.iastore, 1) := by decide +kernel
theorem dX5_boards_60 : decode cX5_boards 60 = .ok (.aload_n 2, 1) := by decide +kernel
theorem dX5_boards_61 : decode cX5_boards 61 = .ok (.getfield 98, 3) := by decide +kernel
theorem dX5_boards_64 : decode cX5_boards 64 = .ok (.invokestatic 143, 3) := by decide +kernel
theorem dX5_boards_67 : decode cX5_boards 67 = .ok (.ireturn, 1) := by decide +kernel
set_option maxRecDepth 20000 in
theorem ggX5_undo_X2_popInto : GoodIn wsX5_undo wsX2_popInto := goodIn_r _ [9, 10, 11, 12, 13, 14, 8, 15, 16, 17, 18, 19, 20, 21, 22, 23, 24, 25, 26, 27, 28, 29, 30, 31, 32, 46, 47, 48, 49, 50, 51, 52, 53, 54, 55] (by decide +kernel) (by decide +kernel)
set_option maxRecDepth 20000 in
theorem gX5_undo_X2_popInto : GoodIn wsX5_undo (wsV RX5 151 RX2 yX2_popInto wsX2_popInto) := goodIn_app (goodIn_of _ (by decide +kernel)) ggX5_undo_X2_popInto
theorem dX5_undo_0 : decode cX5_undo 0 = .ok (.aload_n 0, 1) := by decide +kernel
theorem dX5_undo_1 : decode cX5_undo 1 = .ok (.getfield 29, 3) := by decide +kernel
theorem dX5_undo_4 : decode cX5_undo 4 = .ok (.getfield 119, 3) := by decide +kernel
theorem dX5_undo_7 : decode cX5_undo 7 = .ok (.getfield 148, 3) := by decide +kernel
theorem dX5_undo_10 : decode cX5_undo 10 = .ok (.ifCond .ne 6, 3) := by decide +kernel
theorem dX5_undo_13 : decode cX5_undo 13 = .ok (.bipush (-2), 2) := by decide +kernel
theorem dX5_undo_15 : decode cX5_undo 15 = .ok (.ireturn, 1) := by decide +kernel
theorem dX5_undo_16 : decode cX5_undo 16 = .ok (.aload_n 0, 1) := by decide +kernel
theorem dX5_undo_17 : decode cX5_undo 17 = .ok (.getfield 29, 3) := by decide +kernel
theorem dX5_undo_20 : decode cX5_undo 20 = .ok (.getfield 119, 3) := by decide +kernel
theorem dX5_undo_23 : decode cX5_undo 23 = .ok (.aload_n 0, 1) := by decide +kernel
theorem dX5_undo_24 : decode cX5_undo 24 = .ok (.getfield 29, 3) := by decide +kernel
theorem dX5_undo_27 : decode cX5_undo 27 = .ok (.getfield 76, 3) := by decide +kernel
theorem dX5_undo_30 : decode cX5_undo 30 = .ok (.invokevirtual 151, 3) := by decide +kernel
theorem dX5_undo_33 : decode cX5_undo 33 = .ok (.aload_n 0, 1) := by decide +kernel
theorem dX5_undo_34 : decode cX5_undo 34 = .ok (.getfield 29, 3) := by decide +kernel
theorem dX5_undo_37 : decode cX5_undo 37 = .ok (.getfield 119, 3) := by decide +kernel
theorem dX5_undo_40 : decode cX5_undo 40 = .ok (.getfield 148, 3) := by decide +kernel
theorem dX5_undo_43 : decode cX5_undo 43 = .ok (.ireturn, 1) := by decide +kernel
theorem dX5_now_0 : decode cX5_now 0 = .ok (.aload_n 0, 1) := by decide +kernel
theorem dX5_now_1 : decode cX5_now 1 = .ok (.getfield 29, 3) := by decide +kernel
theorem dX5_now_4 : decode cX5_now 4 = .ok (.getfield 76, 3) := by decide +kernel
theorem dX5_now_7 : decode cX5_now 7 = .ok (.astore_n 2, 1) := by decide +kernel
theorem dX5_now_8 : decode cX5_now 8 = .ok (.iload_n 1, 1) := by decide +kernel
theorem dX5_now_9 : decode cX5_now 9 = .ok (.tableswitch 75 0 4 #[35, 40, 45, 50, 55], 35) := by decide +kernel
theorem dX5_now_44 : decode cX5_now 44 = .ok (.aload_n 2, 1) := by decide +kernel
theorem dX5_now_45 : decode cX5_now 45 = .ok (.getfield 116, 3) := by decide +kernel
theorem dX5_now_48 : decode cX5_now 48 = .ok (.ireturn, 1) := by decide +kernel
theorem dX5_now_49 : decode cX5_now 49 = .ok (.aload_n 2, 1) := by decide +kernel
theorem dX5_now_50 : decode cX5_now 50 = .ok (.getfield 98, 3) := by decide +kernel
theorem dX5_now_53 : decode cX5_now 53 = .ok (.ireturn, 1) := by decide +kernel
theorem dX5_now_54 : decode cX5_now 54 = .ok (.aload_n 2, 1) := by decide +kernel
theorem dX5_now_55 : decode cX5_now 55 = .ok (.getfield 136, 3) := by decide +kernel
theorem dX5_now_58 : decode cX5_now 58 = .ok (.ireturn, 1) := by decide +kernel
theorem dX5_now_59 : decode cX5_now 59 = .ok (.aload_n 2, 1) := by decide +kernel
theorem dX5_now_60 : decode cX5_now 60 = .ok (.getfield 154, 3) := by decide +kernel
theorem dX5_now_63 : decode cX5_now 63 = .ok (.ireturn, 1) := by decide +kernel
theorem dX5_now_64 : decode cX5_now 64 = .ok (.aload_n 2, 1) := by decide +kernel
theorem dX5_now_65 : decode cX5_now 65 = .ok (.getfield 116, 3) := by decide +kernel
theorem dX5_now_68 : decode cX5_now 68 = .ok (.aload_n 0, 1) := by decide +kernel
theorem dX5_now_69 : decode cX5_now 69 = .ok (.getfield 19, 3) := by decide +kernel
theorem dX5_now_72 : decode cX5_now 72 = .ok (.getfield 157, 3) := by decide +kernel
theorem dX5_now_75 : decode cX5_now 75 = .ok (.if_icmp .lt 7, 3) := by decide +kernel
theorem dX5_now_78 : decode cX5_now 78 = .ok (.iconst 1, 1) := by decide +kernel
theorem dX5_now_79 : decode cX5_now 79 = .ok (.goto 4, 3) := by decide +kernel
theorem dX5_now_82 : decode cX5_now 82 = .ok (.iconst 0, 1) := by decide +kernel
theorem dX5_now_83 : decode cX5_now 83 = .ok (.ireturn, 1) := by decide +kernel
theorem dX5_now_84 : decode cX5_now 84 = .ok (.iconst (-1), 1) := by decide +kernel
theorem dX5_now_85 : decode cX5_now 85 = .ok (.ireturn, 1) := by decide +kernel
set_option maxRecDepth 20000 in
theorem ggX5_row_X1_areAboard : GoodIn wsX5_row wsX1_areAboard := goodIn_r _ [8, 9, 44, 45, 46, 47, 48, 49, 50] (by decide +kernel) (by decide +kernel)
set_option maxRecDepth 20000 in
theorem gX5_row_X1_areAboard : GoodIn wsX5_row (wsV RX5 160 RX1 yX1_areAboard wsX1_areAboard) := goodIn_app (goodIn_of _ (by decide +kernel)) ggX5_row_X1_areAboard
set_option maxRecDepth 20000 in
theorem ggX5_row_X5_rowsFrom : GoodIn wsX5_row wsX5_rowsFrom := goodIn_r _ [13, 14, 15, 12, 16, 17, 18, 19, 20, 21, 22, 7, 23, 24, 10, 11, 44, 45, 46, 47, 48, 49, 50] (by decide +kernel) (by decide +kernel)
set_option maxRecDepth 20000 in
theorem gX5_row_X5_rowsFrom : GoodIn wsX5_row (va_wsS RX5 163 yX5_rowsFrom wsX5_rowsFrom) := goodIn_app (goodIn_of _ (by decide +kernel)) ggX5_row_X5_rowsFrom
set_option maxRecDepth 20000 in
theorem ggX5_row_X5_ringerAt : GoodIn wsX5_row wsX5_ringerAt := goodIn_r _ [27, 3, 28, 29, 12, 30, 14, 15, 16, 17, 18, 19, 20, 21, 22, 7, 23, 24, 10, 11, 13, 44, 45, 46, 47, 48, 49, 50] (by decide +kernel) (by decide +kernel)
set_option maxRecDepth 20000 in
theorem gX5_row_X5_ringerAt : GoodIn wsX5_row (va_wsS RX5 167 yX5_ringerAt wsX5_ringerAt) := goodIn_app (goodIn_of _ (by decide +kernel)) ggX5_row_X5_ringerAt
theorem dX5_row_0 : decode cX5_row 0 = .ok (.aload_n 0, 1) := by decide +kernel
theorem dX5_row_1 : decode cX5_row 1 = .ok (.getfield 29, 3) := by decide +kernel
theorem dX5_row_4 : decode cX5_row 4 = .ok (.getfield 76, 3) := by decide +kernel
theorem dX5_row_7 : decode cX5_row 7 = .ok (.astore_n 3, 1) := by decide +kernel
theorem dX5_row_8 : decode cX5_row 8 = .ok (.aload_n 3, 1) := by decide +kernel
theorem dX5_row_9 : decode cX5_row 9 = .ok (.iload_n 1, 1) := by decide +kernel
theorem dX5_row_10 : decode cX5_row 10 = .ok (.invokevirtual 160, 3) := by decide +kernel
theorem dX5_row_13 : decode cX5_row 13 = .ok (.ifCond .eq 14, 3) := by decide +kernel
theorem dX5_row_16 : decode cX5_row 16 = .ok (.iload_n 2, 1) := by decide +kernel
theorem dX5_row_17 : decode cX5_row 17 = .ok (.iconst (-1), 1) := by decide +kernel
theorem dX5_row_18 : decode cX5_row 18 = .ok (.if_icmp .lt 9, 3) := by decide +kernel
theorem dX5_row_21 : decode cX5_row 21 = .ok (.iload_n 2, 1) := by decide +kernel
theorem dX5_row_22 : decode cX5_row 22 = .ok (.bipush 6, 2) := by decide +kernel
theorem dX5_row_24 : decode cX5_row 24 = .ok (.if_icmp .lt 5, 3) := by decide +kernel
theorem dX5_row_27 : decode cX5_row 27 = .ok (.iconst (-1), 1) := by decide +kernel
theorem dX5_row_28 : decode cX5_row 28 = .ok (.ireturn, 1) := by decide +kernel
theorem dX5_row_29 : decode cX5_row 29 = .ok (.iload_n 2, 1) := by decide +kernel
theorem dX5_row_30 : decode cX5_row 30 = .ok (.ifCond .ge 17, 3) := by decide +kernel
theorem dX5_row_33 : decode cX5_row 33 = .ok (.aload_n 3, 1) := by decide +kernel
theorem dX5_row_34 : decode cX5_row 34 = .ok (.iload_n 1, 1) := by decide +kernel
theorem dX5_row_35 : decode cX5_row 35 = .ok (.aload_n 3, 1) := by decide +kernel
theorem dX5_row_36 : decode cX5_row 36 = .ok (.getfield 98, 3) := by decide +kernel
theorem dX5_row_39 : decode cX5_row 39 = .ok (.iconst 0, 1) := by decide +kernel
theorem dX5_row_40 : decode cX5_row 40 = .ok (.iconst 0, 1) := by decide +kernel
theorem dX5_row_41 : decode cX5_row 41 = .ok (.invokestatic 163, 3) := by decide +kernel
theorem dX5_row_44 : decode cX5_row 44 = .ok (.goto 9, 3) := by decide +kernel
theorem dX5_row_47 : decode cX5_row 47 = .ok (.aload_n 3, 1) := by decide +kernel
theorem dX5_row_48 : decode cX5_row 48 = .ok (.iload_n 1, 1) := by decide +kernel
theorem dX5_row_49 : decode cX5_row 49 = .ok (.iload_n 2, 1) := by decide +kernel
theorem dX5_row_50 : decode cX5_row 50 = .ok (.invokestatic 167, 3) := by decide +kernel
theorem dX5_row_53 : decode cX5_row 53 = .ok (.ireturn, 1) := by decide +kernel
set_option maxRecDepth 20000 in
theorem ggX5_soon_X1_areAboard : GoodIn wsX5_soon wsX1_areAboard := goodIn_r _ [9, 10, 90, 91, 92, 93, 94, 95, 96] (by decide +kernel) (by decide +kernel)
set_option maxRecDepth 20000 in
theorem gX5_soon_X1_areAboard : GoodIn wsX5_soon (wsV RX5 160 RX1 yX1_areAboard wsX1_areAboard) := goodIn_app (goodIn_of _ (by decide +kernel)) ggX5_soon_X1_areAboard
set_option maxRecDepth 20000 in
theorem ggX5_soon_X5_rowsFrom : GoodIn wsX5_soon wsX5_rowsFrom := goodIn_r _ [14, 15, 16, 13, 17, 18, 19, 20, 21, 22, 23, 8, 24, 25, 11, 12, 90, 91, 92, 93, 94, 95, 96] (by decide +kernel) (by decide +kernel)
set_option maxRecDepth 20000 in
theorem gX5_soon_X5_rowsFrom : GoodIn wsX5_soon (va_wsS RX5 163 yX5_rowsFrom wsX5_rowsFrom) := goodIn_app (goodIn_of _ (by decide +kernel)) ggX5_soon_X5_rowsFrom
set_option maxRecDepth 20000 in
theorem ggX5_soon_X1_copyFrom : GoodIn wsX5_soon wsX1_copyFrom := goodIn_r _ [29, 30, 10, 31, 32, 33, 34, 35, 36, 37, 38, 25, 90, 91, 92, 93, 94, 95, 96] (by decide +kernel) (by decide +kernel)
set_option maxRecDepth 20000 in
theorem gX5_soon_X1_copyFrom : GoodIn wsX5_soon (wsV RX5 170 RX1 yX1_copyFrom wsX1_copyFrom) := goodIn_app (goodIn_of _ (by decide +kernel)) ggX5_soon_X1_copyFrom
set_option maxRecDepth 20000 in
theorem ggX5_soon_X5_ride : GoodIn wsX5_soon wsX5_ride := goodIn_r _ [42, 43, 44, 45, 46, 47, 48, 49, 13, 50, 51, 52, 53, 54, 8, 55, 10, 56, 57, 58, 59, 60, 61, 62, 63, 64, 65, 66, 67, 68, 69, 70, 71, 72, 73, 74, 75, 76, 31, 25, 90, 91, 92, 93, 94, 95, 96, 77, 78, 79, 80, 81, 82, 83, 84, 85, 86, 87, 97, 98, 99, 100, 101, 102] (by decide +kernel) (by decide +kernel)
set_option maxRecDepth 20000 in
theorem gX5_soon_X5_ride : GoodIn wsX5_soon (wsV RX5 129 RX5 yX5_ride wsX5_ride) := goodIn_app (goodIn_of _ (by decide +kernel)) ggX5_soon_X5_ride
theorem dX5_soon_0 : decode cX5_soon 0 = .ok (.aload_n 0, 1) := by decide +kernel
theorem dX5_soon_1 : decode cX5_soon 1 = .ok (.getfield 29, 3) := by decide +kernel
theorem dX5_soon_4 : decode cX5_soon 4 = .ok (.getfield 76, 3) := by decide +kernel
theorem dX5_soon_7 : decode cX5_soon 7 = .ok (.astore_n 2, 1) := by decide +kernel
theorem dX5_soon_8 : decode cX5_soon 8 = .ok (.aload_n 2, 1) := by decide +kernel
theorem dX5_soon_9 : decode cX5_soon 9 = .ok (.iload_n 1, 1) := by decide +kernel
theorem dX5_soon_10 : decode cX5_soon 10 = .ok (.invokevirtual 160, 3) := by decide +kernel
theorem dX5_soon_13 : decode cX5_soon 13 = .ok (.ifCond .ne 5, 3) := by decide +kernel
theorem dX5_soon_16 : decode cX5_soon 16 = .ok (.iconst (-1), 1) := by decide +kernel
theorem dX5_soon_17 : decode cX5_soon 17 = .ok (.ireturn, 1) := by decide +kernel
theorem dX5_soon_18 : decode cX5_soon 18 = .ok (.aload_n 2, 1) := by decide +kernel
theorem dX5_soon_19 : decode cX5_soon 19 = .ok (.iload_n 1, 1) := by decide +kernel
theorem dX5_soon_20 : decode cX5_soon 20 = .ok (.aload_n 2, 1) := by decide +kernel
theorem dX5_soon_21 : decode cX5_soon 21 = .ok (.getfield 98, 3) := by decide +kernel
theorem dX5_soon_24 : decode cX5_soon 24 = .ok (.iconst 0, 1) := by decide +kernel
theorem dX5_soon_25 : decode cX5_soon 25 = .ok (.iconst 0, 1) := by decide +kernel
theorem dX5_soon_26 : decode cX5_soon 26 = .ok (.invokestatic 163, 3) := by decide +kernel
theorem dX5_soon_29 : decode cX5_soon 29 = .ok (.ifCond .le 5, 3) := by decide +kernel
theorem dX5_soon_32 : decode cX5_soon 32 = .ok (.iconst 0, 1) := by decide +kernel
theorem dX5_soon_33 : decode cX5_soon 33 = .ok (.ireturn, 1) := by decide +kernel
theorem dX5_soon_34 : decode cX5_soon 34 = .ok (.aload_n 0, 1) := by decide +kernel
theorem dX5_soon_35 : decode cX5_soon 35 = .ok (.getfield 40, 3) := by decide +kernel
theorem dX5_soon_38 : decode cX5_soon 38 = .ok (.aload_n 2, 1) := by decide +kernel
theorem dX5_soon_39 : decode cX5_soon 39 = .ok (.invokevirtual 170, 3) := by decide +kernel
theorem dX5_soon_42 : decode cX5_soon 42 = .ok (.aload_n 0, 1) := by decide +kernel
theorem dX5_soon_43 : decode cX5_soon 43 = .ok (.aload_n 0, 1) := by decide +kernel
theorem dX5_soon_44 : decode cX5_soon 44 = .ok (.getfield 40, 3) := by decide +kernel
theorem dX5_soon_47 : decode cX5_soon 47 = .ok (.invokevirtual 129, 3) := by decide +kernel
theorem dX5_soon_50 : decode cX5_soon 50 = .ok (.aload_n 0, 1) := by decide +kernel
theorem dX5_soon_51 : decode cX5_soon 51 = .ok (.getfield 40, 3) := by decide +kernel
theorem dX5_soon_54 : decode cX5_soon 54 = .ok (.iload_n 1, 1) := by decide +kernel
theorem dX5_soon_55 : decode cX5_soon 55 = .ok (.aload_n 0, 1) := by decide +kernel
theorem dX5_soon_56 : decode cX5_soon 56 = .ok (.getfield 40, 3) := by decide +kernel
theorem dX5_soon_59 : decode cX5_soon 59 = .ok (.getfield 98, 3) := by decide +kernel
theorem dX5_soon_62 : decode cX5_soon 62 = .ok (.iconst 0, 1) := by decide +kernel
theorem dX5_soon_63 : decode cX5_soon 63 = .ok (.iconst 0, 1) := by decide +kernel
theorem dX5_soon_64 : decode cX5_soon 64 = .ok (.invokestatic 163, 3) := by decide +kernel
theorem dX5_soon_67 : decode cX5_soon 67 = .ok (.ifCond .le 7, 3) := by decide +kernel
theorem dX5_soon_70 : decode cX5_soon 70 = .ok (.iconst 1, 1) := by decide +kernel
theorem dX5_soon_71 : decode cX5_soon 71 = .ok (.goto 5, 3) := by decide +kernel
theorem dX5_soon_74 : decode cX5_soon 74 = .ok (.bipush (-9), 2) := by decide +kernel
theorem dX5_soon_76 : decode cX5_soon 76 = .ok (.ireturn, 1) := by decide +kernel
set_option maxRecDepth 20000 in
theorem ggX5_odds_X5_isPairAboard : GoodIn wsX5_odds wsX5_isPairAboard := goodIn_r _ [5, 6, 7, 8, 9, 10, 4, 11, 12, 13, 14, 15, 16, 17, 18, 19, 20, 21, 22, 23, 47, 48, 49, 50, 51, 52, 53, 54, 55, 56, 57, 58, 59, 60, 61, 62, 63, 64, 65, 66, 67, 68, 69, 70, 71, 72] (by decide +kernel) (by decide +kernel)
set_option maxRecDepth 20000 in
theorem gX5_odds_X5_isPairAboard : GoodIn wsX5_odds (wsV RX5 172 RX5 yX5_isPairAboard wsX5_isPairAboard) := goodIn_app (goodIn_of _ (by decide +kernel)) ggX5_odds_X5_isPairAboard
set_option maxRecDepth 20000 in
theorem ggX5_odds_X5_oddsUpper : GoodIn wsX5_odds wsX5_oddsUpper := goodIn_r _ [27, 6, 7, 28, 29, 30, 21, 31, 32, 33, 34, 35, 4, 36, 16, 17, 18, 19, 20, 22, 23, 37, 38, 39, 47, 48, 49, 50, 51, 52, 53, 54, 55, 56, 57, 58, 59, 66, 67, 68, 69, 70, 71, 72, 60, 61, 62, 63, 64, 65] (by decide +kernel) (by decide +kernel)
set_option maxRecDepth 20000 in
theorem gX5_odds_X5_oddsUpper : GoodIn wsX5_odds (wsV RX5 175 RX5 yX5_oddsUpper wsX5_oddsUpper) := goodIn_app (goodIn_of _ (by decide +kernel)) ggX5_odds_X5_oddsUpper
set_option maxRecDepth 20000 in
theorem ggX5_odds_X5_oddsLower : GoodIn wsX5_odds wsX5_oddsLower := goodIn_r _ [43, 33, 34, 35, 4, 36, 6, 7, 16, 17, 28, 29, 30, 21, 31, 32, 18, 19, 20, 22, 23, 37, 38, 39, 47, 48, 49, 50, 51, 52, 53, 54, 55, 56, 57, 58, 59, 60, 61, 62, 63, 64, 65, 66, 67, 68, 69, 70, 71, 72] (by decide +kernel) (by decide +kernel)
set_option maxRecDepth 20000 in
theorem gX5_odds_X5_oddsLower : GoodIn wsX5_odds (wsV RX5 179 RX5 yX5_oddsLower wsX5_oddsLower) := goodIn_app (goodIn_of _ (by decide +kernel)) ggX5_odds_X5_oddsLower
set_option maxRecDepth 20000 in
theorem ggX5_odds_X5_commonDivisor : GoodIn wsX5_odds wsX5_commonDivisor := goodIn_r _ [46] (by decide +kernel) (by decide +kernel)
set_option maxRecDepth 20000 in
theorem gX5_odds_X5_commonDivisor : GoodIn wsX5_odds (va_wsS RX5 182 yX5_commonDivisor wsX5_commonDivisor) := goodIn_app (goodIn_of _ (by decide +kernel)) ggX5_odds_X5_commonDivisor
theorem dX5_odds_0 : decode cX5_odds 0 = .ok (.aload_n 0, 1) := by decide +kernel
theorem dX5_odds_1 : decode cX5_odds 1 = .ok (.iload_n 1, 1) := by decide +kernel
theorem dX5_odds_2 : decode cX5_odds 2 = .ok (.iload_n 2, 1) := by decide +kernel
theorem dX5_odds_3 : decode cX5_odds 3 = .ok (.invokevirtual 172, 3) := by decide +kernel
theorem dX5_odds_6 : decode cX5_odds 6 = .ok (.ifCond .eq 24, 3) := by decide +kernel
theorem dX5_odds_9 : decode cX5_odds 9 = .ok (.iload_n 3, 1) := by decide +kernel
theorem dX5_odds_10 : decode cX5_odds 10 = .ok (.ifCond .lt 20, 3) := by decide +kernel
theorem dX5_odds_13 : decode cX5_odds 13 = .ok (.iload_n 3, 1) := by decide +kernel
theorem dX5_odds_14 : decode cX5_odds 14 = .ok (.bipush 10, 2) := by decide +kernel
theorem dX5_odds_16 : decode cX5_odds 16 = .ok (.if_icmp .gt 14, 3) := by decide +kernel
theorem dX5_odds_19 : decode cX5_odds 19 = .ok (.iload 4, 2) := by decide +kernel
theorem dX5_odds_21 : decode cX5_odds 21 = .ok (.ifCond .lt 9, 3) := by decide +kernel
theorem dX5_odds_24 : decode cX5_odds 24 = .ok (.iload 4, 2) := by decide +kernel
theorem dX5_odds_26 : decode cX5_odds 26 = .ok (.iconst 1, 1) := by decide +kernel
theorem dX5_odds_27 : decode cX5_odds 27 = .ok (.if_icmp .le 5, 3) := by decide +kernel
theorem dX5_odds_30 : decode cX5_odds 30 = .ok (.iconst (-1), 1) := by decide +kernel
theorem dX5_odds_31 : decode cX5_odds 31 = .ok (.ireturn, 1) := by decide +kernel
theorem dX5_odds_32 : decode cX5_odds 32 = .ok (.aload_n 0, 1) := by decide +kernel
theorem dX5_odds_33 : decode cX5_odds 33 = .ok (.iload_n 1, 1) := by decide +kernel
theorem dX5_odds_34 : decode cX5_odds 34 = .ok (.iload_n 2, 1) := by decide +kernel
theorem dX5_odds_35 : decode cX5_odds 35 = .ok (.iload_n 3, 1) := by decide +kernel
theorem dX5_odds_36 : decode cX5_odds 36 = .ok (.invokevirtual 175, 3) := by decide +kernel
theorem dX5_odds_39 : decode cX5_odds 39 = .ok (.istore 5, 2) := by decide +kernel
theorem dX5_odds_41 : decode cX5_odds 41 = .ok (.aload_n 0, 1) := by decide +kernel
theorem dX5_odds_42 : decode cX5_odds 42 = .ok (.iload_n 1, 1) := by decide +kernel
theorem dX5_odds_43 : decode cX5_odds 43 = .ok (.iload_n 2, 1) := by decide +kernel
theorem dX5_odds_44 : decode cX5_odds 44 = .ok (.invokevirtual 179, 3) := by decide +kernel
theorem dX5_odds_47 : decode cX5_odds 47 = .ok (.istore 6, 2) := by decide +kernel
theorem dX5_odds_49 : decode cX5_odds 49 = .ok (.iload 6, 2) := by decide +kernel
theorem dX5_odds_51 : decode cX5_odds 51 = .ok (.iload 5, 2) := by decide +kernel
theorem dX5_odds_53 : decode cX5_odds 53 = .ok (.invokestatic 182, 3) := by decide +kernel
theorem dX5_odds_56 : decode cX5_odds 56 = .ok (.istore 7, 2) := by decide +kernel
theorem dX5_odds_58 : decode cX5_odds 58 = .ok (.iload 7, 2) := by decide +kernel
theorem dX5_odds_60 : decode cX5_odds 60 = .ok (.iconst 1, 1) := by decide +kernel
theorem dX5_odds_61 : decode cX5_odds 61 = .ok (.if_icmp .ge 5, 3) := by decide +kernel
theorem dX5_odds_64 : decode cX5_odds 64 = .ok (.iconst (-1), 1) := by decide +kernel
theorem dX5_odds_65 : decode cX5_odds 65 = .ok (.ireturn, 1) := by decide +kernel
theorem dX5_odds_66 : decode cX5_odds 66 = .ok (.iload 4, 2) := by decide +kernel
theorem dX5_odds_68 : decode cX5_odds 68 = .ok (.ifCond .ne 8, 3) := by decide +kernel
theorem dX5_odds_71 : decode cX5_odds 71 = .ok (.iload 5, 2) := by decide +kernel
theorem dX5_odds_73 : decode cX5_odds 73 = .ok (.goto 5, 3) := by decide +kernel
theorem dX5_odds_76 : decode cX5_odds 76 = .ok (.iload 6, 2) := by decide +kernel
theorem dX5_odds_78 : decode cX5_odds 78 = .ok (.iload 7, 2) := by decide +kernel
theorem dX5_odds_80 : decode cX5_odds 80 = .ok (.idiv, 1) := by decide +kernel
theorem dX5_odds_81 : decode cX5_odds 81 = .ok (.ireturn, 1) := by decide +kernel
set_option maxRecDepth 20000 in
theorem ggX5_circle_X5_isRider : GoodIn wsX5_circle wsX5_isRider := goodIn_r _ [7, 8, 9, 53, 54, 55, 56, 57, 58, 59, 60, 61, 62, 63, 66, 67, 68, 69, 70, 71] (by decide +kernel) (by decide +kernel)
set_option maxRecDepth 20000 in
theorem gX5_circle_X5_isRider : GoodIn wsX5_circle (wsV RX5 73 RX5 yX5_isRider wsX5_isRider) := goodIn_app (goodIn_of _ (by decide +kernel)) ggX5_circle_X5_isRider
set_option maxRecDepth 20000 in
theorem ggX5_circle_X1_isAboard : GoodIn wsX5_circle wsX1_isAboard := goodIn_r _ [14, 15, 72, 73, 74, 75, 76, 77, 78] (by decide +kernel) (by decide +kernel)
set_option maxRecDepth 20000 in
theorem gX5_circle_X1_isAboard : GoodIn wsX5_circle (wsV RX5 88 RX1 yX1_isAboard wsX1_isAboard) := goodIn_app (goodIn_of _ (by decide +kernel)) ggX5_circle_X1_isAboard
set_option maxRecDepth 20000 in
theorem ggX5_circle_X5_circleOf : GoodIn wsX5_circle wsX5_circleOf := goodIn_r _ [19, 8, 9, 20, 21, 22, 23, 6, 24, 25, 10, 11, 12, 13, 14, 15, 26, 27, 28, 29, 30, 31, 32, 33, 34, 35, 36, 37, 38, 39, 40, 41, 42, 53, 54, 55, 56, 57, 58, 59, 60, 61, 62, 63, 66, 67, 68, 69, 70, 71, 72, 73, 74, 75, 76, 77, 78] (by decide +kernel) (by decide +kernel)
set_option maxRecDepth 20000 in
theorem gX5_circle_X5_circleOf : GoodIn wsX5_circle (wsV RX5 185 RX5 yX5_circleOf wsX5_circleOf) := goodIn_app (goodIn_of _ (by decide +kernel)) ggX5_circle_X5_circleOf
set_option maxRecDepth 20000 in
theorem ggX5_circle_J6_bitCount_0f7a4 : GoodIn wsX5_circle wsJ6_bitCount_0f7a4 := goodIn_r _ [46, 47, 48, 49] (by decide +kernel) (by decide +kernel)
set_option maxRecDepth 20000 in
theorem gX5_circle_J6_bitCount_0f7a4 : GoodIn wsX5_circle (va_wsS RX5 143 yJ6_bitCount_0f7a4 wsJ6_bitCount_0f7a4) := goodIn_app (goodIn_of _ (by decide +kernel)) ggX5_circle_J6_bitCount_0f7a4
set_option maxRecDepth 20000 in
theorem ggX5_circle_X5_lowestOf : GoodIn wsX5_circle wsX5_lowestOf := goodIn_r _ [52] (by decide +kernel) (by decide +kernel)
set_option maxRecDepth 20000 in
theorem gX5_circle_X5_lowestOf : GoodIn wsX5_circle (va_wsS RX5 188 yX5_lowestOf wsX5_lowestOf) := goodIn_app (goodIn_of _ (by decide +kernel)) ggX5_circle_X5_lowestOf
theorem dX5_circle_0 : decode cX5_circle 0 = .ok (.aload_n 0, 1) := by decide +kernel
theorem dX5_circle_1 : decode cX5_circle 1 = .ok (.getfield 29, 3) := by decide +kernel
theorem dX5_circle_4 : decode cX5_circle 4 = .ok (.getfield 76, 3) := by decide +kernel
theorem dX5_circle_7 : decode cX5_circle 7 = .ok (.astore_n 3, 1) := by decide +kernel
theorem dX5_circle_8 : decode cX5_circle 8 = .ok (.aload_n 0, 1) := by decide +kernel
theorem dX5_circle_9 : decode cX5_circle 9 = .ok (.iload_n 1, 1) := by decide +kernel
theorem dX5_circle_10 : decode cX5_circle 10 = .ok (.invokevirtual 73, 3) := by decide +kernel
theorem dX5_circle_13 : decode cX5_circle 13 = .ok (.ifCond .eq 20, 3) := by decide +kernel
theorem dX5_circle_16 : decode cX5_circle 16 = .ok (.aload_n 3, 1) := by decide +kernel
theorem dX5_circle_17 : decode cX5_circle 17 = .ok (.iload_n 1, 1) := by decide +kernel
theorem dX5_circle_18 : decode cX5_circle 18 = .ok (.invokevirtual 88, 3) := by decide +kernel
theorem dX5_circle_21 : decode cX5_circle 21 = .ok (.ifCond .eq 12, 3) := by decide +kernel
theorem dX5_circle_24 : decode cX5_circle 24 = .ok (.iload_n 2, 1) := by decide +kernel
theorem dX5_circle_25 : decode cX5_circle 25 = .ok (.ifCond .lt 8, 3) := by decide +kernel
theorem dX5_circle_28 : decode cX5_circle 28 = .ok (.iload_n 2, 1) := by decide +kernel
theorem dX5_circle_29 : decode cX5_circle 29 = .ok (.iconst 1, 1) := by decide +kernel
theorem dX5_circle_30 : decode cX5_circle 30 = .ok (.if_icmp .le 5, 3) := by decide +kernel
theorem dX5_circle_33 : decode cX5_circle 33 = .ok (.iconst (-1), 1) := by decide +kernel
theorem dX5_circle_34 : decode cX5_circle 34 = .ok (.ireturn, 1) := by decide +kernel
theorem dX5_circle_35 : decode cX5_circle 35 = .ok (.aload_n 0, 1) := by decide +kernel
theorem dX5_circle_36 : decode cX5_circle 36 = .ok (.aload_n 3, 1) := by decide +kernel
theorem dX5_circle_37 : decode cX5_circle 37 = .ok (.iload_n 1, 1) := by decide +kernel
theorem dX5_circle_38 : decode cX5_circle 38 = .ok (.invokevirtual 185, 3) := by decide +kernel
theorem dX5_circle_41 : decode cX5_circle 41 = .ok (.istore 4, 2) := by decide +kernel
theorem dX5_circle_43 : decode cX5_circle 43 = .ok (.iload 4, 2) := by decide +kernel
theorem dX5_circle_45 : decode cX5_circle 45 = .ok (.ifCond .ne 6, 3) := by decide +kernel
theorem dX5_circle_48 : decode cX5_circle 48 = .ok (.bipush (-9), 2) := by decide +kernel
theorem dX5_circle_50 : decode cX5_circle 50 = .ok (.ireturn, 1) := by decide +kernel
theorem dX5_circle_51 : decode cX5_circle 51 = .ok (.iload_n 2, 1) := by decide +kernel
theorem dX5_circle_52 : decode cX5_circle 52 = .ok (.ifCond .ne 11, 3) := by decide +kernel
theorem dX5_circle_55 : decode cX5_circle 55 = .ok (.iload 4, 2) := by decide +kernel
theorem dX5_circle_57 : decode cX5_circle 57 = .ok (.invokestatic 143, 3) := by decide +kernel
theorem dX5_circle_60 : decode cX5_circle 60 = .ok (.goto 8, 3) := by decide +kernel
theorem dX5_circle_63 : decode cX5_circle 63 = .ok (.iload 4, 2) := by decide +kernel
theorem dX5_circle_65 : decode cX5_circle 65 = .ok (.invokestatic 188, 3) := by decide +kernel
theorem dX5_circle_68 : decode cX5_circle 68 = .ok (.ireturn, 1) := by decide +kernel
set_option maxRecDepth 20000 in
theorem ggX5_chair_X5_isPairAboard : GoodIn wsX5_chair wsX5_isPairAboard := goodIn_r _ [7, 1, 2, 8, 9, 10, 6, 11, 12, 13, 14, 15, 16, 17, 18, 19, 20, 21, 22, 23, 33, 34, 35, 36, 37, 38, 39, 40, 41, 42, 43, 44, 45, 46, 47, 48, 49, 50, 51, 52, 53, 54, 55, 56, 57, 58] (by decide +kernel) (by decide +kernel)
set_option maxRecDepth 20000 in
theorem gX5_chair_X5_isPairAboard : GoodIn wsX5_chair (wsV RX5 172 RX5 yX5_isPairAboard wsX5_isPairAboard) := goodIn_app (goodIn_of _ (by decide +kernel)) ggX5_chair_X5_isPairAboard
set_option maxRecDepth 20000 in
theorem ggX5_chair_X5_nearest : GoodIn wsX5_chair wsX5_nearest := goodIn_r _ [27, 16, 17, 28, 29, 30, 31, 32, 18, 19, 20, 21, 22, 23, 33, 34, 35, 36, 37, 38, 39, 40, 41, 42, 43, 46, 47, 48, 49, 50, 51, 52, 53, 54, 55, 56, 57, 58] (by decide +kernel) (by decide +kernel)
set_option maxRecDepth 20000 in
theorem gX5_chair_X5_nearest : GoodIn wsX5_chair (wsV RX5 191 RX5 yX5_nearest wsX5_nearest) := goodIn_app (goodIn_of _ (by decide +kernel)) ggX5_chair_X5_nearest
theorem dX5_chair_0 : decode cX5_chair 0 = .ok (.aload_n 0, 1) := by decide +kernel
theorem dX5_chair_1 : decode cX5_chair 1 = .ok (.iload_n 1, 1) := by decide +kernel
theorem dX5_chair_2 : decode cX5_chair 2 = .ok (.iload_n 2, 1) := by decide +kernel
theorem dX5_chair_3 : decode cX5_chair 3 = .ok (.invokevirtual 172, 3) := by decide +kernel
theorem dX5_chair_6 : decode cX5_chair 6 = .ok (.ifCond .ne 5, 3) := by decide +kernel
theorem dX5_chair_9 : decode cX5_chair 9 = .ok (.iconst (-1), 1) := by decide +kernel
theorem dX5_chair_10 : decode cX5_chair 10 = .ok (.ireturn, 1) := by decide +kernel
theorem dX5_chair_11 : decode cX5_chair 11 = .ok (.iconst 0, 1) := by decide +kernel
theorem dX5_chair_12 : decode cX5_chair 12 = .ok (.istore_n 3, 1) := by decide +kernel
theorem dX5_chair_13 : decode cX5_chair 13 = .ok (.iload_n 3, 1) := by decide +kernel
theorem dX5_chair_14 : decode cX5_chair 14 = .ok (.bipush 9, 2) := by decide +kernel
theorem dX5_chair_16 : decode cX5_chair 16 = .ok (.if_icmp .gt 28, 3) := by decide +kernel
theorem dX5_chair_19 : decode cX5_chair 19 = .ok (.aload_n 0, 1) := by decide +kernel
theorem dX5_chair_20 : decode cX5_chair 20 = .ok (.aload_n 0, 1) := by decide +kernel
theorem dX5_chair_21 : decode cX5_chair 21 = .ok (.getfield 29, 3) := by decide +kernel
theorem dX5_chair_24 : decode cX5_chair 24 = .ok (.getfield 76, 3) := by decide +kernel
theorem dX5_chair_27 : decode cX5_chair 27 = .ok (.iload_n 1, 1) := by decide +kernel
theorem dX5_chair_28 : decode cX5_chair 28 = .ok (.iload_n 3, 1) := by decide +kernel
theorem dX5_chair_29 : decode cX5_chair 29 = .ok (.invokevirtual 191, 3) := by decide +kernel
theorem dX5_chair_32 : decode cX5_chair 32 = .ok (.iload_n 2, 1) := by decide +kernel
theorem dX5_chair_33 : decode cX5_chair 33 = .ok (.if_icmp .ne 5, 3) := by decide +kernel
theorem dX5_chair_36 : decode cX5_chair 36 = .ok (.iload_n 3, 1) := by decide +kernel
theorem dX5_chair_37 : decode cX5_chair 37 = .ok (.ireturn, 1) := by decide +kernel
theorem dX5_chair_38 : decode cX5_chair 38 = .ok (.iinc 3 1, 3) := by decide +kernel
theorem dX5_chair_41 : decode cX5_chair 41 = .ok (.goto (-28), 3) := by decide +kernel
theorem dX5_chair_44 : decode cX5_chair 44 = .ok (.bipush (-9), 2) := by decide +kernel
theorem dX5_chair_46 : decode cX5_chair 46 = .ok (.ireturn, 1) := by decide +kernel
set_option maxRecDepth 20000 in
theorem ggX5_saw_X5_isPairAboard : GoodIn wsX5_saw wsX5_isPairAboard := goodIn_r _ [8, 9, 10, 11, 12, 13, 7, 14, 15, 16, 17, 18, 19, 20, 21, 22, 23, 24, 25, 26, 27, 28, 29, 30, 31, 32, 33, 34, 35, 36, 37, 38, 39, 40, 41, 42, 43, 44, 45, 46, 47, 48, 49, 50, 51, 52] (by decide +kernel) (by decide +kernel)
set_option maxRecDepth 20000 in
theorem gX5_saw_X5_isPairAboard : GoodIn wsX5_saw (wsV RX5 172 RX5 yX5_isPairAboard wsX5_isPairAboard) := goodIn_app (goodIn_of _ (by decide +kernel)) ggX5_saw_X5_isPairAboard
theorem dX5_saw_0 : decode cX5_saw 0 = .ok (.aload_n 0, 1) := by decide +kernel
theorem dX5_saw_1 : decode cX5_saw 1 = .ok (.iload_n 1, 1) := by decide +kernel
theorem dX5_saw_2 : decode cX5_saw 2 = .ok (.iload_n 2, 1) := by decide +kernel
theorem dX5_saw_3 : decode cX5_saw 3 = .ok (.invokevirtual 172, 3) := by decide +kernel
theorem dX5_saw_6 : decode cX5_saw 6 = .ok (.ifCond .ne 5, 3) := by decide +kernel
theorem dX5_saw_9 : decode cX5_saw 9 = .ok (.iconst (-1), 1) := by decide +kernel
theorem dX5_saw_10 : decode cX5_saw 10 = .ok (.ireturn, 1) := by decide +kernel
theorem dX5_saw_11 : decode cX5_saw 11 = .ok (.aload_n 0, 1) := by decide +kernel
theorem dX5_saw_12 : decode cX5_saw 12 = .ok (.getfield 194, 3) := by decide +kernel
theorem dX5_saw_15 : decode cX5_saw 15 = .ok (.bipush 6, 2) := by decide +kernel
theorem dX5_saw_17 : decode cX5_saw 17 = .ok (.if_icmp .lt 6, 3) := by decide +kernel
theorem dX5_saw_20 : decode cX5_saw 20 = .ok (.bipush (-3), 2) := by decide +kernel
theorem dX5_saw_22 : decode cX5_saw 22 = .ok (.ireturn, 1) := by decide +kernel
theorem dX5_saw_23 : decode cX5_saw 23 = .ok (.aload_n 0, 1) := by decide +kernel
theorem dX5_saw_24 : decode cX5_saw 24 = .ok (.getfield 44, 3) := by decide +kernel
theorem dX5_saw_27 : decode cX5_saw 27 = .ok (.aload_n 0, 1) := by decide +kernel
theorem dX5_saw_28 : decode cX5_saw 28 = .ok (.getfield 194, 3) := by decide +kernel
theorem dX5_saw_31 : decode cX5_saw 31 = .ok (.iload_n 1, 1) := by decide +kernel
theorem dX5_saw_32 : decode cX5_saw 32 = .ok (.iastore, 1) := by decide +kernel
theorem dX5_saw_33 : decode cX5_saw 33 = .ok (.aload_n 0, 1) := by decide +kernel
theorem dX5_saw_34 : decode cX5_saw 34 = .ok (.getfield 48, 3) := by decide +kernel
theorem dX5_saw_37 : decode cX5_saw 37 = .ok (.aload_n 0, 1) := by decide +kernel
theorem dX5_saw_38 : decode cX5_saw 38 = .ok (.getfield 194, 3) := by decide +kernel
theorem dX5_saw_41 : decode cX5_saw 41 = .ok (.iload_n 2, 1) := by decide +kernel
theorem dX5_saw_42 : decode cX5_saw 42 = .ok (.iastore, 1) := by decide +kernel
theorem dX5_saw_43 : decode cX5_saw 43 = .ok (.aload_n 0, 1) := by decide +kernel
theorem dX5_saw_44 : decode cX5_saw 44 = .ok (.dup, 1) := by decide +kernel
theorem dX5_saw_45 : decode cX5_saw 45 = .ok (.getfield 194, 3) := by decide +kernel
theorem dX5_saw_48 : decode cX5_saw 48 = .ok (.iconst 1, 1) := by decide +kernel
theorem dX5_saw_49 : decode cX5_saw 49 = .ok (.iadd, 1) := by decide +kernel
theorem dX5_saw_50 : decode cX5_saw 50 = .ok (.putfield 194, 3) := by decide +kernel
theorem dX5_saw_53 : decode cX5_saw 53 = .ok (.aload_n 0, 1) := by decide +kernel
theorem dX5_saw_54 : decode cX5_saw 54 = .ok (.getfield 194, 3) := by decide +kernel
theorem dX5_saw_57 : decode cX5_saw 57 = .ok (.ireturn, 1) := by decide +kernel
theorem dX5_forget_0 : decode cX5_forget 0 = .ok (.aload_n 0, 1) := by decide +kernel
theorem dX5_forget_1 : decode cX5_forget 1 = .ok (.getfield 194, 3) := by decide +kernel
theorem dX5_forget_4 : decode cX5_forget 4 = .ok (.istore_n 1, 1) := by decide +kernel
theorem dX5_forget_5 : decode cX5_forget 5 = .ok (.aload_n 0, 1) := by decide +kernel
theorem dX5_forget_6 : decode cX5_forget 6 = .ok (.iconst 0, 1) := by decide +kernel
theorem dX5_forget_7 : decode cX5_forget 7 = .ok (.putfield 194, 3) := by decide +kernel
theorem dX5_forget_10 : decode cX5_forget 10 = .ok (.iload_n 1, 1) := by decide +kernel
theorem dX5_forget_11 : decode cX5_forget 11 = .ok (.ireturn, 1) := by decide +kernel
set_option maxRecDepth 20000 in
theorem ggX5_laws_X5_isRider : GoodIn wsX5_laws wsX5_isRider := goodIn_r _ [5, 6, 7, 49, 50, 51, 52, 53, 54, 55, 56, 57, 58, 59, 60, 61, 62, 63, 64, 65] (by decide +kernel) (by decide +kernel)
set_option maxRecDepth 20000 in
theorem gX5_laws_X5_isRider : GoodIn wsX5_laws (wsV RX5 73 RX5 yX5_isRider wsX5_isRider) := goodIn_app (goodIn_of _ (by decide +kernel)) ggX5_laws_X5_isRider
set_option maxRecDepth 20000 in
theorem ggX5_laws_X5_fittingLaws : GoodIn wsX5_laws wsX5_fittingLaws := goodIn_r _ [11, 12, 13, 14, 4, 15, 16, 17, 18, 19, 20, 21, 22, 23, 24, 25, 26, 27, 28, 29, 30, 31, 32, 33, 34, 35, 6, 7, 36, 37, 38, 39, 40, 41, 42, 43, 44, 45, 46, 47, 48, 49, 50, 51, 52, 53, 54, 55, 56, 57, 58, 59, 66, 67, 68, 69, 70, 71, 72, 73, 74, 60, 61, 62, 63, 64, 65] (by decide +kernel) (by decide +kernel)
set_option maxRecDepth 20000 in
theorem gX5_laws_X5_fittingLaws : GoodIn wsX5_laws (wsV RX5 197 RX5 yX5_fittingLaws wsX5_fittingLaws) := goodIn_app (goodIn_of _ (by decide +kernel)) ggX5_laws_X5_fittingLaws
theorem dX5_laws_0 : decode cX5_laws 0 = .ok (.aload_n 0, 1) := by decide +kernel
theorem dX5_laws_1 : decode cX5_laws 1 = .ok (.iload_n 1, 1) := by decide +kernel
theorem dX5_laws_2 : decode cX5_laws 2 = .ok (.invokevirtual 73, 3) := by decide +kernel
theorem dX5_laws_5 : decode cX5_laws 5 = .ok (.ifCond .eq 11, 3) := by decide +kernel
theorem dX5_laws_8 : decode cX5_laws 8 = .ok (.aload_n 0, 1) := by decide +kernel
theorem dX5_laws_9 : decode cX5_laws 9 = .ok (.iload_n 1, 1) := by decide +kernel
theorem dX5_laws_10 : decode cX5_laws 10 = .ok (.invokevirtual 197, 3) := by decide +kernel
theorem dX5_laws_13 : decode cX5_laws 13 = .ok (.goto 4, 3) := by decide +kernel
theorem dX5_laws_16 : decode cX5_laws 16 = .ok (.iconst (-1), 1) := by decide +kernel
theorem dX5_laws_17 : decode cX5_laws 17 = .ok (.ireturn, 1) := by decide +kernel
set_option maxRecDepth 20000 in
theorem ggX5_likely_X1_isAboard : GoodIn wsX5_likely wsX1_isAboard := goodIn_r _ [9, 10, 71, 72, 73, 74, 75, 76, 77] (by decide +kernel) (by decide +kernel)
set_option maxRecDepth 20000 in
theorem gX5_likely_X1_isAboard : GoodIn wsX5_likely (wsV RX5 88 RX1 yX1_isAboard wsX1_isAboard) := goodIn_app (goodIn_of _ (by decide +kernel)) ggX5_likely_X1_isAboard
set_option maxRecDepth 20000 in
theorem ggX5_likely_X5_fittingLaws : GoodIn wsX5_likely wsX5_fittingLaws := goodIn_r _ [15, 16, 17, 18, 14, 19, 3, 4, 20, 21, 22, 23, 24, 25, 26, 27, 5, 6, 7, 8, 9, 10, 28, 29, 30, 31, 1, 2, 32, 33, 34, 35, 36, 37, 38, 39, 40, 41, 42, 43, 44, 52, 53, 54, 55, 56, 57, 58, 59, 60, 61, 62, 69, 70, 71, 72, 73, 74, 75, 76, 77, 63, 64, 65, 66, 67, 68] (by decide +kernel) (by decide +kernel)
set_option maxRecDepth 20000 in
theorem gX5_likely_X5_fittingLaws : GoodIn wsX5_likely (wsV RX5 197 RX5 yX5_fittingLaws wsX5_fittingLaws) := goodIn_app (goodIn_of _ (by decide +kernel)) ggX5_likely_X5_fittingLaws
set_option maxRecDepth 20000 in
theorem ggX5_likely_J6_bitCount_0f7a4 : GoodIn wsX5_likely wsJ6_bitCount_0f7a4 := goodIn_r _ [48, 49, 50, 51] (by decide +kernel) (by decide +kernel)
set_option maxRecDepth 20000 in
theorem gX5_likely_J6_bitCount_0f7a4 : GoodIn wsX5_likely (va_wsS RX5 143 yJ6_bitCount_0f7a4 wsJ6_bitCount_0f7a4) := goodIn_app (goodIn_of _ (by decide +kernel)) ggX5_likely_J6_bitCount_0f7a4
theorem dX5_likely_0 : decode cX5_likely 0 = .ok (.iconst 1, 1) := by decide +kernel
theorem dX5_likely_1 : decode cX5_likely 1 = .ok (.istore_n 1, 1) := by decide +kernel
theorem dX5_likely_2 : decode cX5_likely 2 = .ok (.iconst 0, 1) := by decide +kernel
theorem dX5_likely_3 : decode cX5_likely 3 = .ok (.istore_n 2, 1) := by decide +kernel
theorem dX5_likely_4 : decode cX5_likely 4 = .ok (.iload_n 2, 1) := by decide +kernel
theorem dX5_likely_5 : decode cX5_likely 5 = .ok (.aload_n 0, 1) := by decide +kernel
theorem dX5_likely_6 : decode cX5_likely 6 = .ok (.getfield 19, 3) := by decide +kernel
theorem dX5_likely_9 : decode cX5_likely 9 = .ok (.getfield 200, 3) := by decide +kernel
theorem dX5_likely_12 : decode cX5_likely 12 = .ok (.if_icmp .ge 34, 3) := by decide +kernel
theorem dX5_likely_15 : decode cX5_likely 15 = .ok (.aload_n 0, 1) := by decide +kernel
theorem dX5_likely_16 : decode cX5_likely 16 = .ok (.getfield 29, 3) := by decide +kernel
theorem dX5_likely_19 : decode cX5_likely 19 = .ok (.getfield 76, 3) := by decide +kernel
theorem dX5_likely_22 : decode cX5_likely 22 = .ok (.iload_n 2, 1) := by decide +kernel
theorem dX5_likely_23 : decode cX5_likely 23 = .ok (.invokevirtual 88, 3) := by decide +kernel
theorem dX5_likely_26 : decode cX5_likely 26 = .ok (.ifCond .eq 14, 3) := by decide +kernel
theorem dX5_likely_29 : decode cX5_likely 29 = .ok (.iload_n 1, 1) := by decide +kernel
theorem dX5_likely_30 : decode cX5_likely 30 = .ok (.aload_n 0, 1) := by decide +kernel
theorem dX5_likely_31 : decode cX5_likely 31 = .ok (.iload_n 2, 1) := by decide +kernel
theorem dX5_likely_32 : decode cX5_likely 32 = .ok (.invokevirtual 197, 3) := by decide +kernel
theorem dX5_likely_35 : decode cX5_likely 35 = .ok (.invokestatic 143, 3) := by decide +kernel
theorem dX5_likely_38 : decode cX5_likely 38 = .ok (.imul, 1) := by decide +kernel
theorem dX5_likely_39 : decode cX5_likely 39 = .ok (.istore_n 1, 1) := by decide +kernel
theorem dX5_likely_40 : decode cX5_likely 40 = .ok (.iinc 2 1, 3) := by decide +kernel
theorem dX5_likely_43 : decode cX5_likely 43 = .ok (.goto (-39), 3) := by decide +kernel
theorem dX5_likely_46 : decode cX5_likely 46 = .ok (.iload_n 1, 1) := by decide +kernel
theorem dX5_likely_47 : decode cX5_likely 47 = .ok (.ireturn, 1) := by decide +kernel
set_option maxRecDepth 20000 in
theorem ggX5_mark_X5_isRider : GoodIn wsX5_mark wsX5_isRider := goodIn_r _ [6, 7, 8, 54, 55, 56, 57, 58, 59, 60, 61, 62, 63, 64, 65, 66, 67, 68, 69, 70] (by decide +kernel) (by decide +kernel)
set_option maxRecDepth 20000 in
theorem gX5_mark_X5_isRider : GoodIn wsX5_mark (wsV RX5 73 RX5 yX5_isRider wsX5_isRider) := goodIn_app (goodIn_of _ (by decide +kernel)) ggX5_mark_X5_isRider
set_option maxRecDepth 20000 in
theorem ggX5_mark_X5_riderMark : GoodIn wsX5_mark wsX5_riderMark := goodIn_r _ [12, 13, 14, 15, 16, 54, 55, 56, 57, 58, 59, 60, 61, 62, 63, 64, 71, 72, 73, 74, 75, 76, 77, 78, 79] (by decide +kernel) (by decide +kernel)
set_option maxRecDepth 20000 in
theorem gX5_mark_X5_riderMark : GoodIn wsX5_mark (wsV RX5 204 RX5 yX5_riderMark wsX5_riderMark) := goodIn_app (goodIn_of _ (by decide +kernel)) ggX5_mark_X5_riderMark
set_option maxRecDepth 20000 in
theorem ggX5_mark_X5_nunMark : GoodIn wsX5_mark wsX5_nunMark := goodIn_r _ [20, 13, 21, 7, 22, 9, 10, 11, 5, 12, 14, 15, 16, 54, 55, 56, 57, 58, 59, 60, 61, 62, 63, 64, 65, 66, 67, 68, 69, 70, 71, 72, 73, 74, 75, 76, 77, 78, 79] (by decide +kernel) (by decide +kernel)
set_option maxRecDepth 20000 in
theorem gX5_mark_X5_nunMark : GoodIn wsX5_mark (wsV RX5 207 RX5 yX5_nunMark wsX5_nunMark) := goodIn_app (goodIn_of _ (by decide +kernel)) ggX5_mark_X5_nunMark
set_option maxRecDepth 20000 in
theorem ggX5_mark_X5_boyMark : GoodIn wsX5_mark wsX5_boyMark := goodIn_r _ [26, 13, 27, 9, 10, 11, 5, 12, 14, 15, 16, 28, 29, 30, 31, 7, 8, 32, 33, 34, 35, 36, 37, 54, 55, 56, 57, 58, 59, 60, 61, 62, 63, 64, 71, 72, 73, 74, 75, 76, 77, 78, 79, 65, 66, 67, 68, 69, 70] (by decide +kernel) (by decide +kernel)
set_option maxRecDepth 20000 in
theorem gX5_mark_X5_boyMark : GoodIn wsX5_mark (wsV RX5 210 RX5 yX5_boyMark wsX5_boyMark) := goodIn_app (goodIn_of _ (by decide +kernel)) ggX5_mark_X5_boyMark
set_option maxRecDepth 20000 in
theorem ggX5_mark_X5_widowerMark : GoodIn wsX5_mark wsX5_widowerMark := goodIn_r _ [41, 13, 42, 17, 18, 19, 5, 20, 21, 7, 22, 9, 10, 11, 12, 14, 15, 16, 54, 55, 56, 57, 58, 59, 60, 61, 62, 63, 64, 65, 66, 67, 68, 69, 70, 71, 72, 73, 74, 75, 76, 77, 78, 79] (by decide +kernel) (by decide +kernel)
set_option maxRecDepth 20000 in
theorem gX5_mark_X5_widowerMark : GoodIn wsX5_mark (wsV RX5 213 RX5 yX5_widowerMark wsX5_widowerMark) := goodIn_app (goodIn_of _ (by decide +kernel)) ggX5_mark_X5_widowerMark
set_option maxRecDepth 20000 in
theorem ggX5_mark_X5_girlMark : GoodIn wsX5_mark wsX5_girlMark := goodIn_r _ [46, 13, 47, 23, 24, 25, 5, 26, 27, 9, 10, 11, 12, 14, 15, 16, 28, 29, 30, 31, 7, 8, 32, 33, 34, 35, 36, 37, 54, 55, 56, 57, 58, 59, 60, 61, 62, 63, 64, 71, 72, 73, 74, 75, 76, 77, 78, 79, 65, 66, 67, 68, 69, 70] (by decide +kernel) (by decide +kernel)
set_option maxRecDepth 20000 in
theorem gX5_mark_X5_girlMark : GoodIn wsX5_mark (wsV RX5 216 RX5 yX5_girlMark wsX5_girlMark) := goodIn_app (goodIn_of _ (by decide +kernel)) ggX5_mark_X5_girlMark
set_option maxRecDepth 20000 in
theorem ggX5_mark_X5_driverMark : GoodIn wsX5_mark wsX5_driverMark := goodIn_r _ [51, 13, 52, 14, 15, 53, 9, 10, 11, 5, 12, 16, 54, 55, 56, 57, 58, 59, 60, 61, 62, 63, 64, 71, 72, 73, 74, 75, 76, 77, 78, 79] (by decide +kernel) (by decide +kernel)
set_option maxRecDepth 20000 in
theorem gX5_mark_X5_driverMark : GoodIn wsX5_mark (wsV RX5 219 RX5 yX5_driverMark wsX5_driverMark) := goodIn_app (goodIn_of _ (by decide +kernel)) ggX5_mark_X5_driverMark
theorem dX5_mark_0 : decode cX5_mark 0 = .ok (.aload_n 0, 1) := by decide +kernel
theorem dX5_mark_1 : decode cX5_mark 1 = .ok (.iload_n 2, 1) := by decide +kernel
theorem dX5_mark_2 : decode cX5_mark 2 = .ok (.invokevirtual 73, 3) := by decide +kernel
theorem dX5_mark_5 : decode cX5_mark 5 = .ok (.ifCond .ne 6, 3) := by decide +kernel
theorem dX5_mark_8 : decode cX5_mark 8 = .ok (.ldc 203, 2) := by decide +kernel
theorem dX5_mark_10 : decode cX5_mark 10 = .ok (.ireturn, 1) := by decide +kernel
theorem dX5_mark_11 : decode cX5_mark 11 = .ok (.iload_n 1, 1) := by decide +kernel
theorem dX5_mark_12 : decode cX5_mark 12 = .ok (.tableswitch 76 0 5 #[40, 46, 52, 58, 64, 70], 40) := by decide +kernel
theorem dX5_mark_52 : decode cX5_mark 52 = .ok (.aload_n 0, 1) := by decide +kernel
theorem dX5_mark_53 : decode cX5_mark 53 = .ok (.iload_n 2, 1) := by decide +kernel
theorem dX5_mark_54 : decode cX5_mark 54 = .ok (.invokevirtual 204, 3) := by decide +kernel
theorem dX5_mark_57 : decode cX5_mark 57 = .ok (.ireturn, 1) := by decide +kernel
theorem dX5_mark_58 : decode cX5_mark 58 = .ok (.aload_n 0, 1) := by decide +kernel
theorem dX5_mark_59 : decode cX5_mark 59 = .ok (.iload_n 2, 1) := by decide +kernel
theorem dX5_mark_60 : decode cX5_mark 60 = .ok (.invokevirtual 207, 3) := by decide +kernel
theorem dX5_mark_63 : decode cX5_mark 63 = .ok (.ireturn, 1) := by decide +kernel
theorem dX5_mark_64 : decode cX5_mark 64 = .ok (.aload_n 0, 1) := by decide +kernel
theorem dX5_mark_65 : decode cX5_mark 65 = .ok (.iload_n 2, 1) := by decide +kernel
theorem dX5_mark_66 : decode cX5_mark 66 = .ok (.invokevirtual 210, 3) := by decide +kernel
theorem dX5_mark_69 : decode cX5_mark 69 = .ok (.ireturn, 1) := by decide +kernel
theorem dX5_mark_70 : decode cX5_mark 70 = .ok (.aload_n 0, 1) := by decide +kernel
theorem dX5_mark_71 : decode cX5_mark 71 = .ok (.iload_n 2, 1) := by decide +kernel
theorem dX5_mark_72 : decode cX5_mark 72 = .ok (.invokevirtual 213, 3) := by decide +kernel
theorem dX5_mark_75 : decode cX5_mark 75 = .ok (.ireturn, 1) := by decide +kernel
theorem dX5_mark_76 : decode cX5_mark 76 = .ok (.aload_n 0, 1) := by decide +kernel
theorem dX5_mark_77 : decode cX5_mark 77 = .ok (.iload_n 2, 1) := by decide +kernel
theorem dX5_mark_78 : decode cX5_mark 78 = .ok (.invokevirtual 216, 3) := by decide +kernel
theorem dX5_mark_81 : decode cX5_mark 81 = .ok (.ireturn, 1) := by decide +kernel
theorem dX5_mark_82 : decode cX5_mark 82 = .ok (.aload_n 0, 1) := by decide +kernel
theorem dX5_mark_83 : decode cX5_mark 83 = .ok (.iload_n 2, 1) := by decide +kernel
theorem dX5_mark_84 : decode cX5_mark 84 = .ok (.invokevirtual 219, 3) := by decide +kernel
theorem dX5_mark_87 : decode cX5_mark 87 = .ok (.ireturn, 1) := by decide +kernel
theorem dX5_mark_88 : decode cX5_mark 88 = .ok (.ldc 203, 2) := by decide +kernel
theorem dX5_mark_90 : decode cX5_mark 90 = .ok (.ireturn, 1) := by decide +kernel
set_option maxRecDepth 20000 in
theorem ggX5_keep_X5_isImage : GoodIn wsX5_keep wsX5_isImage := goodIn_r _ [9] (by decide +kernel) (by decide +kernel)
set_option maxRecDepth 20000 in
theorem gX5_keep_X5_isImage : GoodIn wsX5_keep (va_wsS RX5 222 yX5_isImage wsX5_isImage) := goodIn_app (goodIn_of _ (by decide +kernel)) ggX5_keep_X5_isImage
set_option maxRecDepth 20000 in
theorem ggX5_keep_X0_copyFrom : GoodIn wsX5_keep wsX0_copyFrom := goodIn_r _ [14, 15, 16, 17, 18, 19, 20, 21, 22, 23, 24, 25, 26, 27, 28, 29, 30, 31, 32, 33, 34, 35, 36, 37, 38, 39, 40, 41, 42, 43, 44, 45, 57, 58, 59, 60, 61, 62, 63, 64, 65, 66, 67, 68] (by decide +kernel) (by decide +kernel)
set_option maxRecDepth 20000 in
theorem gX5_keep_X0_copyFrom : GoodIn wsX5_keep (wsV RX5 225 RX0 yX0_copyFrom wsX0_copyFrom) := goodIn_app (goodIn_of _ (by decide +kernel)) ggX5_keep_X0_copyFrom
theorem dX5_keep_0 : decode cX5_keep 0 = .ok (.iload_n 1, 1) := by decide +kernel
theorem dX5_keep_1 : decode cX5_keep 1 = .ok (.invokestatic 222, 3) := by decide +kernel
theorem dX5_keep_4 : decode cX5_keep 4 = .ok (.ifCond .ne 5, 3) := by decide +kernel
theorem dX5_keep_7 : decode cX5_keep 7 = .ok (.iconst (-1), 1) := by decide +kernel
theorem dX5_keep_8 : decode cX5_keep 8 = .ok (.ireturn, 1) := by decide +kernel
theorem dX5_keep_9 : decode cX5_keep 9 = .ok (.aload_n 0, 1) := by decide +kernel
theorem dX5_keep_10 : decode cX5_keep 10 = .ok (.getfield 33, 3) := by decide +kernel
theorem dX5_keep_13 : decode cX5_keep 13 = .ok (.iload_n 1, 1) := by decide +kernel
theorem dX5_keep_14 : decode cX5_keep 14 = .ok (.aaload, 1) := by decide +kernel
theorem dX5_keep_15 : decode cX5_keep 15 = .ok (.aload_n 0, 1) := by decide +kernel
theorem dX5_keep_16 : decode cX5_keep 16 = .ok (.getfield 29, 3) := by decide +kernel
theorem dX5_keep_19 : decode cX5_keep 19 = .ok (.invokevirtual 225, 3) := by decide +kernel
theorem dX5_keep_22 : decode cX5_keep 22 = .ok (.aload_n 0, 1) := by decide +kernel
theorem dX5_keep_23 : decode cX5_keep 23 = .ok (.dup, 1) := by decide +kernel
theorem dX5_keep_24 : decode cX5_keep 24 = .ok (.getfield 228, 3) := by decide +kernel
theorem dX5_keep_27 : decode cX5_keep 27 = .ok (.iconst 1, 1) := by decide +kernel
theorem dX5_keep_28 : decode cX5_keep 28 = .ok (.iload_n 1, 1) := by decide +kernel
theorem dX5_keep_29 : decode cX5_keep 29 = .ok (.ishl, 1) := by decide +kernel
theorem dX5_keep_30 : decode cX5_keep 30 = .ok (.ior, 1) := by decide +kernel
theorem dX5_keep_31 : decode cX5_keep 31 = .ok (.putfield 228, 3) := by decide +kernel
theorem dX5_keep_34 : decode cX5_keep 34 = .ok (.aload_n 0, 1) := by decide +kernel
theorem dX5_keep_35 : decode cX5_keep 35 = .ok (.getfield 29, 3) := by decide +kernel
theorem dX5_keep_38 : decode cX5_keep 38 = .ok (.getfield 76, 3) := by decide +kernel
theorem dX5_keep_41 : decode cX5_keep 41 = .ok (.getfield 116, 3) := by decide +kernel
theorem dX5_keep_44 : decode cX5_keep 44 = .ok (.ireturn, 1) := by decide +kernel
set_option maxRecDepth 20000 in
theorem ggX5_back_X5_isImage : GoodIn wsX5_back wsX5_isImage := goodIn_r _ [9] (by decide +kernel) (by decide +kernel)
set_option maxRecDepth 20000 in
theorem gX5_back_X5_isImage : GoodIn wsX5_back (va_wsS RX5 222 yX5_isImage wsX5_isImage) := goodIn_app (goodIn_of _ (by decide +kernel)) ggX5_back_X5_isImage
set_option maxRecDepth 20000 in
theorem ggX5_back_X0_copyFrom : GoodIn wsX5_back wsX0_copyFrom := goodIn_r _ [14, 15, 16, 17, 18, 19, 20, 21, 22, 23, 24, 25, 26, 27, 28, 29, 30, 31, 32, 33, 34, 35, 36, 37, 38, 39, 40, 41, 42, 43, 44, 45, 57, 58, 59, 60, 61, 62, 63, 64, 65, 66, 67, 68] (by decide +kernel) (by decide +kernel)
set_option maxRecDepth 20000 in
theorem gX5_back_X0_copyFrom : GoodIn wsX5_back (wsV RX5 225 RX0 yX0_copyFrom wsX0_copyFrom) := goodIn_app (goodIn_of _ (by decide +kernel)) ggX5_back_X0_copyFrom
theorem dX5_back_0 : decode cX5_back 0 = .ok (.iload_n 1, 1) := by decide +kernel
theorem dX5_back_1 : decode cX5_back 1 = .ok (.invokestatic 222, 3) := by decide +kernel
theorem dX5_back_4 : decode cX5_back 4 = .ok (.ifCond .ne 5, 3) := by decide +kernel
theorem dX5_back_7 : decode cX5_back 7 = .ok (.iconst (-1), 1) := by decide +kernel
theorem dX5_back_8 : decode cX5_back 8 = .ok (.ireturn, 1) := by decide +kernel
theorem dX5_back_9 : decode cX5_back 9 = .ok (.aload_n 0, 1) := by decide +kernel
theorem dX5_back_10 : decode cX5_back 10 = .ok (.getfield 228, 3) := by decide +kernel
theorem dX5_back_13 : decode cX5_back 13 = .ok (.iload_n 1, 1) := by decide +kernel
theorem dX5_back_14 : decode cX5_back 14 = .ok (.ishr, 1) := by decide +kernel
theorem dX5_back_15 : decode cX5_back 15 = .ok (.iconst 1, 1) := by decide +kernel
theorem dX5_back_16 : decode cX5_back 16 = .ok (.iand, 1) := by decide +kernel
theorem dX5_back_17 : decode cX5_back 17 = .ok (.ifCond .ne 6, 3) := by decide +kernel
theorem dX5_back_20 : decode cX5_back 20 = .ok (.bipush (-2), 2) := by decide +kernel
theorem dX5_back_22 : decode cX5_back 22 = .ok (.ireturn, 1) := by decide +kernel
theorem dX5_back_23 : decode cX5_back 23 = .ok (.aload_n 0, 1) := by decide +kernel
theorem dX5_back_24 : decode cX5_back 24 = .ok (.getfield 29, 3) := by decide +kernel
theorem dX5_back_27 : decode cX5_back 27 = .ok (.aload_n 0, 1) := by decide +kernel
theorem dX5_back_28 : decode cX5_back 28 = .ok (.getfield 33, 3) := by decide +kernel
theorem dX5_back_31 : decode cX5_back 31 = .ok (.iload_n 1, 1) := by decide +kernel
theorem dX5_back_32 : decode cX5_back 32 = .ok (.aaload, 1) := by decide +kernel
theorem dX5_back_33 : decode cX5_back 33 = .ok (.invokevirtual 225, 3) := by decide +kernel
theorem dX5_back_36 : decode cX5_back 36 = .ok (.aload_n 0, 1) := by decide +kernel
theorem dX5_back_37 : decode cX5_back 37 = .ok (.getfield 29, 3) := by decide +kernel
theorem dX5_back_40 : decode cX5_back 40 = .ok (.getfield 76, 3) := by decide +kernel
theorem dX5_back_43 : decode cX5_back 43 = .ok (.getfield 116, 3) := by decide +kernel
theorem dX5_back_46 : decode cX5_back 46 = .ok (.ireturn, 1) := by decide +kernel
theorem dX5_count_0 : decode cX5_count 0 = .ok (.iload_n 1, 1) := by decide +kernel
theorem dX5_count_1 : decode cX5_count 1 = .ok (.tableswitch 75 0 4 #[35, 43, 51, 56, 67], 35) := by decide +kernel
theorem dX5_count_36 : decode cX5_count 36 = .ok (.aload_n 0, 1) := by decide +kernel
theorem dX5_count_37 : decode cX5_count 37 = .ok (.getfield 19, 3) := by decide +kernel
theorem dX5_count_40 : decode cX5_count 40 = .ok (.getfield 200, 3) := by decide +kernel
theorem dX5_count_43 : decode cX5_count 43 = .ok (.ireturn, 1) := by decide +kernel
