theorem dX5_count_44 : decode cX5_count 44 = .ok (.aload_n 0, 1) := by decide +kernel
theorem dX5_count_45 : decode cX5_count 45 = .ok (.getfield 19, 3) := by decide +kernel
theorem dX5_count_48 : decode cX5_count 48 = .ok (.getfield 157, 3) := by decide +kernel
theorem dX5_count_51 : decode cX5_count 51 = .ok (.ireturn, 1) := by decide +kernel
theorem dX5_count_52 : decode cX5_count 52 = .ok (.aload_n 0, 1) := by decide +kernel
theorem dX5_count_53 : decode cX5_count 53 = .ok (.getfield 194, 3) := by decide +kernel
theorem dX5_count_56 : decode cX5_count 56 = .ok (.ireturn, 1) := by decide +kernel
theorem dX5_count_57 : decode cX5_count 57 = .ok (.aload_n 0, 1) := by decide +kernel
theorem dX5_count_58 : decode cX5_count 58 = .ok (.getfield 29, 3) := by decide +kernel
theorem dX5_count_61 : decode cX5_count 61 = .ok (.getfield 119, 3) := by decide +kernel
theorem dX5_count_64 : decode cX5_count 64 = .ok (.getfield 148, 3) := by decide +kernel
theorem dX5_count_67 : decode cX5_count 67 = .ok (.ireturn, 1) := by decide +kernel
theorem dX5_count_68 : decode cX5_count 68 = .ok (.aload_n 0, 1) := by decide +kernel
theorem dX5_count_69 : decode cX5_count 69 = .ok (.getfield 12, 3) := by decide +kernel
theorem dX5_count_72 : decode cX5_count 72 = .ok (.getfield 58, 3) := by decide +kernel
theorem dX5_count_75 : decode cX5_count 75 = .ok (.ireturn, 1) := by decide +kernel
theorem dX5_count_76 : decode cX5_count 76 = .ok (.iconst (-1), 1) := by decide +kernel
theorem dX5_count_77 : decode cX5_count 77 = .ok (.ireturn, 1) := by decide +kernel
theorem dX5_trace_0 : decode cX5_trace 0 = .ok (.aload_n 0, 1) := by decide +kernel
theorem dX5_trace_1 : decode cX5_trace 1 = .ok (.getfield 231, 3) := by decide +kernel
theorem dX5_trace_4 : decode cX5_trace 4 = .ok (.lreturn, 1) := by decide +kernel
theorem dX5_isRider_0 : decode cX5_isRider 0 = .ok (.iload_n 1, 1) := by decide +kernel
theorem dX5_isRider_1 : decode cX5_isRider 1 = .ok (.ifCond .lt 18, 3) := by decide +kernel
theorem dX5_isRider_4 : decode cX5_isRider 4 = .ok (.iload_n 1, 1) := by decide +kernel
theorem dX5_isRider_5 : decode cX5_isRider 5 = .ok (.aload_n 0, 1) := by decide +kernel
theorem dX5_isRider_6 : decode cX5_isRider 6 = .ok (.getfield 19, 3) := by decide +kernel
theorem dX5_isRider_9 : decode cX5_isRider 9 = .ok (.getfield 200, 3) := by decide +kernel
theorem dX5_isRider_12 : decode cX5_isRider 12 = .ok (.if_icmp .ge 7, 3) := by decide +kernel
theorem dX5_isRider_15 : decode cX5_isRider 15 = .ok (.iconst 1, 1) := by decide +kernel
theorem dX5_isRider_16 : decode cX5_isRider 16 = .ok (.goto 4, 3) := by decide +kernel
theorem dX5_isRider_19 : decode cX5_isRider 19 = .ok (.iconst 0, 1) := by decide +kernel
theorem dX5_isRider_20 : decode cX5_isRider 20 = .ok (.ireturn, 1) := by decide +kernel
set_option maxRecDepth 20000 in
theorem ggX5_isPair_X5_isRider : GoodIn wsX5_isPair wsX5_isRider := goodIn_r _ [5, 6, 7, 8, 9, 10, 11, 12, 13, 14, 15, 16, 17, 18, 19, 20, 21, 22, 23, 24] (by decide +kernel) (by decide +kernel)
set_option maxRecDepth 20000 in
theorem gX5_isPair_X5_isRider : GoodIn wsX5_isPair (wsV RX5 73 RX5 yX5_isRider wsX5_isRider) := goodIn_app (goodIn_of _ (by decide +kernel)) ggX5_isPair_X5_isRider
theorem dX5_isPair_0 : decode cX5_isPair 0 = .ok (.aload_n 0, 1) := by decide +kernel
theorem dX5_isPair_1 : decode cX5_isPair 1 = .ok (.iload_n 1, 1) := by decide +kernel
theorem dX5_isPair_2 : decode cX5_isPair 2 = .ok (.invokevirtual 73, 3) := by decide +kernel
theorem dX5_isPair_5 : decode cX5_isPair 5 = .ok (.ifCond .eq 20, 3) := by decide +kernel
theorem dX5_isPair_8 : decode cX5_isPair 8 = .ok (.aload_n 0, 1) := by decide +kernel
theorem dX5_isPair_9 : decode cX5_isPair 9 = .ok (.iload_n 2, 1) := by decide +kernel
theorem dX5_isPair_10 : decode cX5_isPair 10 = .ok (.invokevirtual 73, 3) := by decide +kernel
theorem dX5_isPair_13 : decode cX5_isPair 13 = .ok (.ifCond .eq 12, 3) := by decide +kernel
theorem dX5_isPair_16 : decode cX5_isPair 16 = .ok (.iload_n 1, 1) := by decide +kernel
theorem dX5_isPair_17 : decode cX5_isPair 17 = .ok (.iload_n 2, 1) := by decide +kernel
theorem dX5_isPair_18 : decode cX5_isPair 18 = .ok (.if_icmp .eq 7, 3) := by decide +kernel
theorem dX5_isPair_21 : decode cX5_isPair 21 = .ok (.iconst 1, 1) := by decide +kernel
theorem dX5_isPair_22 : decode cX5_isPair 22 = .ok (.goto 4, 3) := by decide +kernel
theorem dX5_isPair_25 : decode cX5_isPair 25 = .ok (.iconst 0, 1) := by decide +kernel
theorem dX5_isPair_26 : decode cX5_isPair 26 = .ok (.ireturn, 1) := by decide +kernel
set_option maxRecDepth 20000 in
theorem ggX5_isPairAboard_X5_isPair : GoodIn wsX5_isPairAboard wsX5_isPair := goodIn_r _ [7, 8, 9, 10, 6, 11, 12, 13, 20, 21, 22, 23, 24, 25, 26, 27, 28, 29, 30, 33, 34, 35, 36, 37, 38] (by decide +kernel) (by decide +kernel)
set_option maxRecDepth 20000 in
theorem gX5_isPairAboard_X5_isPair : GoodIn wsX5_isPairAboard (wsV RX5 108 RX5 yX5_isPair wsX5_isPair) := goodIn_app (goodIn_of _ (by decide +kernel)) ggX5_isPairAboard_X5_isPair
set_option maxRecDepth 20000 in
theorem ggX5_isPairAboard_X1_isAboard : GoodIn wsX5_isPairAboard wsX1_isAboard := goodIn_r _ [18, 19, 39, 40, 41, 42, 43, 44, 45] (by decide +kernel) (by decide +kernel)
set_option maxRecDepth 20000 in
theorem gX5_isPairAboard_X1_isAboard : GoodIn wsX5_isPairAboard (wsV RX5 88 RX1 yX1_isAboard wsX1_isAboard) := goodIn_app (goodIn_of _ (by decide +kernel)) ggX5_isPairAboard_X1_isAboard
theorem dX5_isPairAboard_0 : decode cX5_isPairAboard 0 = .ok (.aload_n 0, 1) := by decide +kernel
theorem dX5_isPairAboard_1 : decode cX5_isPairAboard 1 = .ok (.iload_n 1, 1) := by decide +kernel
theorem dX5_isPairAboard_2 : decode cX5_isPairAboard 2 = .ok (.iload_n 2, 1) := by decide +kernel
theorem dX5_isPairAboard_3 : decode cX5_isPairAboard 3 = .ok (.invokevirtual 108, 3) := by decide +kernel
theorem dX5_isPairAboard_6 : decode cX5_isPairAboard 6 = .ok (.ifCond .eq 35, 3) := by decide +kernel
theorem dX5_isPairAboard_9 : decode cX5_isPairAboard 9 = .ok (.aload_n 0, 1) := by decide +kernel
theorem dX5_isPairAboard_10 : decode cX5_isPairAboard 10 = .ok (.getfield 29, 3) := by decide +kernel
theorem dX5_isPairAboard_13 : decode cX5_isPairAboard 13 = .ok (.getfield 76, 3) := by decide +kernel
theorem dX5_isPairAboard_16 : decode cX5_isPairAboard 16 = .ok (.iload_n 1, 1) := by decide +kernel
theorem dX5_isPairAboard_17 : decode cX5_isPairAboard 17 = .ok (.invokevirtual 88, 3) := by decide +kernel
theorem dX5_isPairAboard_20 : decode cX5_isPairAboard 20 = .ok (.ifCond .eq 21, 3) := by decide +kernel
theorem dX5_isPairAboard_23 : decode cX5_isPairAboard 23 = .ok (.aload_n 0, 1) := by decide +kernel
theorem dX5_isPairAboard_24 : decode cX5_isPairAboard 24 = .ok (.getfield 29, 3) := by decide +kernel
theorem dX5_isPairAboard_27 : decode cX5_isPairAboard 27 = .ok (.getfield 76, 3) := by decide +kernel
theorem dX5_isPairAboard_30 : decode cX5_isPairAboard 30 = .ok (.iload_n 2, 1) := by decide +kernel
theorem dX5_isPairAboard_31 : decode cX5_isPairAboard 31 = .ok (.invokevirtual 88, 3) := by decide +kernel
theorem dX5_isPairAboard_34 : decode cX5_isPairAboard 34 = .ok (.ifCond .eq 7, 3) := by decide +kernel
theorem dX5_isPairAboard_37 : decode cX5_isPairAboard 37 = .ok (.iconst 1, 1) := by decide +kernel
theorem dX5_isPairAboard_38 : decode cX5_isPairAboard 38 = .ok (.goto 4, 3) := by decide +kernel
theorem dX5_isPairAboard_41 : decode cX5_isPairAboard 41 = .ok (.iconst 0, 1) := by decide +kernel
theorem dX5_isPairAboard_42 : decode cX5_isPairAboard 42 = .ok (.ireturn, 1) := by decide +kernel
theorem dX5_isImage_0 : decode cX5_isImage 0 = .ok (.iload_n 0, 1) := by decide +kernel
theorem dX5_isImage_1 : decode cX5_isImage 1 = .ok (.ifCond .lt 12, 3) := by decide +kernel
theorem dX5_isImage_4 : decode cX5_isImage 4 = .ok (.iload_n 0, 1) := by decide +kernel
theorem dX5_isImage_5 : decode cX5_isImage 5 = .ok (.iconst 2, 1) := by decide +kernel
theorem dX5_isImage_6 : decode cX5_isImage 6 = .ok (.if_icmp .ge 7, 3) := by decide +kernel
theorem dX5_isImage_9 : decode cX5_isImage 9 = .ok (.iconst 1, 1) := by decide +kernel
theorem dX5_isImage_10 : decode cX5_isImage 10 = .ok (.goto 4, 3) := by decide +kernel
theorem dX5_isImage_13 : decode cX5_isImage 13 = .ok (.iconst 0, 1) := by decide +kernel
theorem dX5_isImage_14 : decode cX5_isImage 14 = .ok (.ireturn, 1) := by decide +kernel
set_option maxRecDepth 20000 in
theorem ggX5_startAnew_X1_begin : GoodIn wsX5_startAnew wsX1_begin := goodIn_r _ [12, 13, 14, 15, 16, 17, 18, 19, 20, 21, 22, 23, 24, 25, 42, 43, 44, 45, 46, 47, 48, 49, 50, 51, 52, 53, 54] (by decide +kernel) (by decide +kernel)
set_option maxRecDepth 20000 in
theorem gX5_startAnew_X1_begin : GoodIn wsX5_startAnew (wsV RX5 235 RX1 yX1_begin wsX1_begin) := goodIn_app (goodIn_of _ (by decide +kernel)) ggX5_startAnew_X1_begin
theorem dX5_startAnew_0 : decode cX5_startAnew 0 = .ok (.aload_n 0, 1) := by decide +kernel
theorem dX5_startAnew_1 : decode cX5_startAnew 1 = .ok (.getfield 29, 3) := by decide +kernel
theorem dX5_startAnew_4 : decode cX5_startAnew 4 = .ok (.getfield 76, 3) := by decide +kernel
theorem dX5_startAnew_7 : decode cX5_startAnew 7 = .ok (.aload_n 0, 1) := by decide +kernel
theorem dX5_startAnew_8 : decode cX5_startAnew 8 = .ok (.getfield 19, 3) := by decide +kernel
theorem dX5_startAnew_11 : decode cX5_startAnew 11 = .ok (.invokevirtual 235, 3) := by decide +kernel
theorem dX5_startAnew_14 : decode cX5_startAnew 14 = .ok (.aload_n 0, 1) := by decide +kernel
theorem dX5_startAnew_15 : decode cX5_startAnew 15 = .ok (.getfield 29, 3) := by decide +kernel
theorem dX5_startAnew_18 : decode cX5_startAnew 18 = .ok (.getfield 119, 3) := by decide +kernel
theorem dX5_startAnew_21 : decode cX5_startAnew 21 = .ok (.iconst 0, 1) := by decide +kernel
theorem dX5_startAnew_22 : decode cX5_startAnew 22 = .ok (.putfield 148, 3) := by decide +kernel
theorem dX5_startAnew_25 : decode cX5_startAnew 25 = .ok (.aload_n 0, 1) := by decide +kernel
theorem dX5_startAnew_26 : decode cX5_startAnew 26 = .ok (.iconst 0, 1) := by decide +kernel
theorem dX5_startAnew_27 : decode cX5_startAnew 27 = .ok (.putfield 194, 3) := by decide +kernel
theorem dX5_startAnew_30 : decode cX5_startAnew 30 = .ok (.aload_n 0, 1) := by decide +kernel
theorem dX5_startAnew_31 : decode cX5_startAnew 31 = .ok (.iconst 0, 1) := by decide +kernel
theorem dX5_startAnew_32 : decode cX5_startAnew 32 = .ok (.putfield 228, 3) := by decide +kernel
theorem dX5_startAnew_35 : decode cX5_startAnew 35 = .ok (.return_, 1) := by decide +kernel
set_option maxRecDepth 20000 in
theorem ggX5_whom_X1_isAboard : GoodIn wsX5_whom wsX1_isAboard := goodIn_r _ [6, 7, 28, 29, 30, 31, 32, 33, 34] (by decide +kernel) (by decide +kernel)
set_option maxRecDepth 20000 in
theorem gX5_whom_X1_isAboard : GoodIn wsX5_whom (wsV RX5 88 RX1 yX1_isAboard wsX1_isAboard) := goodIn_app (goodIn_of _ (by decide +kernel)) ggX5_whom_X1_isAboard
set_option maxRecDepth 20000 in
theorem ggX5_whom_X5_nearest : GoodIn wsX5_whom wsX5_nearest := goodIn_r _ [12, 13, 14, 1, 15, 16, 17, 18, 2, 3, 4, 5, 6, 7, 35, 36, 37, 38, 39, 40, 41, 42, 43, 44, 45, 46, 47, 48, 49, 50, 51, 28, 29, 30, 31, 32, 33, 34] (by decide +kernel) (by decide +kernel)
set_option maxRecDepth 20000 in
theorem gX5_whom_X5_nearest : GoodIn wsX5_whom (wsV RX5 191 RX5 yX5_nearest wsX5_nearest) := goodIn_app (goodIn_of _ (by decide +kernel)) ggX5_whom_X5_nearest
set_option maxRecDepth 20000 in
theorem ggX5_whom_X5_fairest : GoodIn wsX5_whom wsX5_fairest := goodIn_r _ [22, 13, 14, 23, 2, 3, 4, 5, 6, 7, 35, 36, 37, 38, 39, 40, 41, 42, 43, 44, 45, 46, 47, 48, 49, 50, 51, 28, 29, 30, 31, 32, 33, 34] (by decide +kernel) (by decide +kernel)
set_option maxRecDepth 20000 in
theorem gX5_whom_X5_fairest : GoodIn wsX5_whom (wsV RX5 238 RX5 yX5_fairest wsX5_fairest) := goodIn_app (goodIn_of _ (by decide +kernel)) ggX5_whom_X5_fairest
set_option maxRecDepth 20000 in
theorem ggX5_whom_X5_nextAboard : GoodIn wsX5_whom wsX5_nextAboard := goodIn_r _ [27, 13, 14, 2, 3, 4, 5, 6, 7, 35, 36, 37, 38, 39, 40, 41, 42, 43, 44, 45, 46, 47, 48, 49, 50, 51, 28, 29, 30, 31, 32, 33, 34] (by decide +kernel) (by decide +kernel)
set_option maxRecDepth 20000 in
theorem gX5_whom_X5_nextAboard : GoodIn wsX5_whom (wsV RX5 241 RX5 yX5_nextAboard wsX5_nextAboard) := goodIn_app (goodIn_of _ (by decide +kernel)) ggX5_whom_X5_nextAboard
theorem dX5_whom_0 : decode cX5_whom 0 = .ok (.aload_n 1, 1) := by decide +kernel
theorem dX5_whom_1 : decode cX5_whom 1 = .ok (.iload_n 2, 1) := by decide +kernel
theorem dX5_whom_2 : decode cX5_whom 2 = .ok (.invokevirtual 88, 3) := by decide +kernel
theorem dX5_whom_5 : decode cX5_whom 5 = .ok (.ifCond .ne 6, 3) := by decide +kernel
theorem dX5_whom_8 : decode cX5_whom 8 = .ok (.bipush (-9), 2) := by decide +kernel
theorem dX5_whom_10 : decode cX5_whom 10 = .ok (.ireturn, 1) := by decide +kernel
theorem dX5_whom_11 : decode cX5_whom 11 = .ok (.iload_n 3, 1) := by decide +kernel
theorem dX5_whom_12 : decode cX5_whom 12 = .ok (.lookupswitch 48 #[(0, 28), (1, 41)], 28) := by decide +kernel
theorem dX5_whom_40 : decode cX5_whom 40 = .ok (.aload_n 0, 1) := by decide +kernel
theorem dX5_whom_41 : decode cX5_whom 41 = .ok (.aload_n 1, 1) := by decide +kernel
theorem dX5_whom_42 : decode cX5_whom 42 = .ok (.iload_n 2, 1) := by decide +kernel
theorem dX5_whom_43 : decode cX5_whom 43 = .ok (.aload_n 1, 1) := by decide +kernel
theorem dX5_whom_44 : decode cX5_whom 44 = .ok (.getfield 79, 3) := by decide +kernel
theorem dX5_whom_47 : decode cX5_whom 47 = .ok (.iload_n 2, 1) := by decide +kernel
theorem dX5_whom_48 : decode cX5_whom 48 = .ok (.iaload, 1) := by decide +kernel
theorem dX5_whom_49 : decode cX5_whom 49 = .ok (.invokevirtual 191, 3) := by decide +kernel
theorem dX5_whom_52 : decode cX5_whom 52 = .ok (.ireturn, 1) := by decide +kernel
theorem dX5_whom_53 : decode cX5_whom 53 = .ok (.aload_n 0, 1) := by decide +kernel
theorem dX5_whom_54 : decode cX5_whom 54 = .ok (.aload_n 1, 1) := by decide +kernel
theorem dX5_whom_55 : decode cX5_whom 55 = .ok (.iload_n 2, 1) := by decide +kernel
theorem dX5_whom_56 : decode cX5_whom 56 = .ok (.invokevirtual 238, 3) := by decide +kernel
theorem dX5_whom_59 : decode cX5_whom 59 = .ok (.ireturn, 1) := by decide +kernel
theorem dX5_whom_60 : decode cX5_whom 60 = .ok (.aload_n 0, 1) := by decide +kernel
theorem dX5_whom_61 : decode cX5_whom 61 = .ok (.aload_n 1, 1) := by decide +kernel
theorem dX5_whom_62 : decode cX5_whom 62 = .ok (.iload_n 2, 1) := by decide +kernel
theorem dX5_whom_63 : decode cX5_whom 63 = .ok (.invokevirtual 241, 3) := by decide +kernel
theorem dX5_whom_66 : decode cX5_whom 66 = .ok (.ireturn, 1) := by decide +kernel
set_option maxRecDepth 20000 in
theorem ggX5_nearest_X1_isAboard : GoodIn wsX5_nearest wsX1_isAboard := goodIn_r _ [12, 13, 31, 32, 33, 34, 35, 36, 37] (by decide +kernel) (by decide +kernel)
set_option maxRecDepth 20000 in
theorem gX5_nearest_X1_isAboard : GoodIn wsX5_nearest (wsV RX5 88 RX1 yX1_isAboard wsX1_isAboard) := goodIn_app (goodIn_of _ (by decide +kernel)) ggX5_nearest_X1_isAboard
theorem dX5_nearest_0 : decode cX5_nearest 0 = .ok (.bipush (-9), 2) := by decide +kernel
theorem dX5_nearest_2 : decode cX5_nearest 2 = .ok (.istore 4, 2) := by decide +kernel
theorem dX5_nearest_4 : decode cX5_nearest 4 = .ok (.iconst 0, 1) := by decide +kernel
theorem dX5_nearest_5 : decode cX5_nearest 5 = .ok (.istore 5, 2) := by decide +kernel
theorem dX5_nearest_7 : decode cX5_nearest 7 = .ok (.iconst 0, 1) := by decide +kernel
theorem dX5_nearest_8 : decode cX5_nearest 8 = .ok (.istore 6, 2) := by decide +kernel
theorem dX5_nearest_10 : decode cX5_nearest 10 = .ok (.iload 6, 2) := by decide +kernel
theorem dX5_nearest_12 : decode cX5_nearest 12 = .ok (.aload_n 0, 1) := by decide +kernel
theorem dX5_nearest_13 : decode cX5_nearest 13 = .ok (.getfield 19, 3) := by decide +kernel
theorem dX5_nearest_16 : decode cX5_nearest 16 = .ok (.getfield 200, 3) := by decide +kernel
theorem dX5_nearest_19 : decode cX5_nearest 19 = .ok (.if_icmp .ge 60, 3) := by decide +kernel
theorem dX5_nearest_22 : decode cX5_nearest 22 = .ok (.aload_n 1, 1) := by decide +kernel
theorem dX5_nearest_23 : decode cX5_nearest 23 = .ok (.getfield 79, 3) := by decide +kernel
theorem dX5_nearest_26 : decode cX5_nearest 26 = .ok (.iload 6, 2) := by decide +kernel
theorem dX5_nearest_28 : decode cX5_nearest 28 = .ok (.iaload, 1) := by decide +kernel
theorem dX5_nearest_29 : decode cX5_nearest 29 = .ok (.iload_n 3, 1) := by decide +kernel
theorem dX5_nearest_30 : decode cX5_nearest 30 = .ok (.isub, 1) := by decide +kernel
theorem dX5_nearest_31 : decode cX5_nearest 31 = .ok (.invokestatic 244, 3) := by decide +kernel
theorem dX5_nearest_34 : decode cX5_nearest 34 = .ok (.istore 7, 2) := by decide +kernel
theorem dX5_nearest_36 : decode cX5_nearest 36 = .ok (.iload 6, 2) := by decide +kernel
theorem dX5_nearest_38 : decode cX5_nearest 38 = .ok (.iload_n 2, 1) := by decide +kernel
theorem dX5_nearest_39 : decode cX5_nearest 39 = .ok (.if_icmp .eq 34, 3) := by decide +kernel
theorem dX5_nearest_42 : decode cX5_nearest 42 = .ok (.aload_n 1, 1) := by decide +kernel
theorem dX5_nearest_43 : decode cX5_nearest 43 = .ok (.iload 6, 2) := by decide +kernel
theorem dX5_nearest_45 : decode cX5_nearest 45 = .ok (.invokevirtual 88, 3) := by decide +kernel
theorem dX5_nearest_48 : decode cX5_nearest 48 = .ok (.ifCond .eq 25, 3) := by decide +kernel
theorem dX5_nearest_51 : decode cX5_nearest 51 = .ok (.iload 4, 2) := by decide +kernel
theorem dX5_nearest_53 : decode cX5_nearest 53 = .ok (.bipush (-9), 2) := by decide +kernel
theorem dX5_nearest_55 : decode cX5_nearest 55 = .ok (.if_icmp .eq 10, 3) := by decide +kernel
theorem dX5_nearest_58 : decode cX5_nearest 58 = .ok (.iload 7, 2) := by decide +kernel
theorem dX5_nearest_60 : decode cX5_nearest 60 = .ok (.iload 5, 2) := by decide +kernel
theorem dX5_nearest_62 : decode cX5_nearest 62 = .ok (.if_icmp .ge 11, 3) := by decide +kernel
theorem dX5_nearest_65 : decode cX5_nearest 65 = .ok (.iload 6, 2) := by decide +kernel
theorem dX5_nearest_67 : decode cX5_nearest 67 = .ok (.istore 4, 2) := by decide +kernel
theorem dX5_nearest_69 : decode cX5_nearest 69 = .ok (.iload 7, 2) := by decide +kernel
theorem dX5_nearest_71 : decode cX5_nearest 71 = .ok (.istore 5, 2) := by decide +kernel
theorem dX5_nearest_73 : decode cX5_nearest 73 = .ok (.iinc 6 1, 3) := by decide +kernel
theorem dX5_nearest_76 : decode cX5_nearest 76 = .ok (.goto (-66), 3) := by decide +kernel
theorem dX5_nearest_79 : decode cX5_nearest 79 = .ok (.iload 4, 2) := by decide +kernel
theorem dX5_nearest_81 : decode cX5_nearest 81 = .ok (.ireturn, 1) := by decide +kernel
set_option maxRecDepth 20000 in
theorem ggX5_fairest_X1_isAboard : GoodIn wsX5_fairest wsX1_isAboard := goodIn_r _ [8, 9, 27, 28, 29, 30, 31, 32, 33] (by decide +kernel) (by decide +kernel)
set_option maxRecDepth 20000 in
theorem gX5_fairest_X1_isAboard : GoodIn wsX5_fairest (wsV RX5 88 RX1 yX1_isAboard wsX1_isAboard) := goodIn_app (goodIn_of _ (by decide +kernel)) ggX5_fairest_X1_isAboard
theorem dX5_fairest_0 : decode cX5_fairest 0 = .ok (.bipush (-9), 2) := by decide +kernel
theorem dX5_fairest_2 : decode cX5_fairest 2 = .ok (.istore_n 3, 1) := by decide +kernel
theorem dX5_fairest_3 : decode cX5_fairest 3 = .ok (.iconst 0, 1) := by decide +kernel
theorem dX5_fairest_4 : decode cX5_fairest 4 = .ok (.istore 4, 2) := by decide +kernel
theorem dX5_fairest_6 : decode cX5_fairest 6 = .ok (.iconst 0, 1) := by decide +kernel
theorem dX5_fairest_7 : decode cX5_fairest 7 = .ok (.istore 5, 2) := by decide +kernel
theorem dX5_fairest_9 : decode cX5_fairest 9 = .ok (.iload 5, 2) := by decide +kernel
theorem dX5_fairest_11 : decode cX5_fairest 11 = .ok (.aload_n 0, 1) := by decide +kernel
theorem dX5_fairest_12 : decode cX5_fairest 12 = .ok (.getfield 19, 3) := by decide +kernel
theorem dX5_fairest_15 : decode cX5_fairest 15 = .ok (.getfield 200, 3) := by decide +kernel
theorem dX5_fairest_18 : decode cX5_fairest 18 = .ok (.if_icmp .ge 56, 3) := by decide +kernel
theorem dX5_fairest_21 : decode cX5_fairest 21 = .ok (.aload_n 0, 1) := by decide +kernel
theorem dX5_fairest_22 : decode cX5_fairest 22 = .ok (.getfield 19, 3) := by decide +kernel
theorem dX5_fairest_25 : decode cX5_fairest 25 = .ok (.getfield 82, 3) := by decide +kernel
theorem dX5_fairest_28 : decode cX5_fairest 28 = .ok (.iload 5, 2) := by decide +kernel
theorem dX5_fairest_30 : decode cX5_fairest 30 = .ok (.iaload, 1) := by decide +kernel
theorem dX5_fairest_31 : decode cX5_fairest 31 = .ok (.istore 6, 2) := by decide +kernel
theorem dX5_fairest_33 : decode cX5_fairest 33 = .ok (.iload 5, 2) := by decide +kernel
theorem dX5_fairest_35 : decode cX5_fairest 35 = .ok (.iload_n 2, 1) := by decide +kernel
theorem dX5_fairest_36 : decode cX5_fairest 36 = .ok (.if_icmp .eq 32, 3) := by decide +kernel
theorem dX5_fairest_39 : decode cX5_fairest 39 = .ok (.aload_n 1, 1) := by decide +kernel
theorem dX5_fairest_40 : decode cX5_fairest 40 = .ok (.iload 5, 2) := by decide +kernel
theorem dX5_fairest_42 : decode cX5_fairest 42 = .ok (.invokevirtual 88, 3) := by decide +kernel
theorem dX5_fairest_45 : decode cX5_fairest 45 = .ok (.ifCond .eq 23, 3) := by decide +kernel
theorem dX5_fairest_48 : decode cX5_fairest 48 = .ok (.iload_n 3, 1) := by decide +kernel
theorem dX5_fairest_49 : decode cX5_fairest 49 = .ok (.bipush (-9), 2) := by decide +kernel
theorem dX5_fairest_51 : decode cX5_fairest 51 = .ok (.if_icmp .eq 10, 3) := by decide +kernel
theorem dX5_fairest_54 : decode cX5_fairest 54 = .ok (.iload 6, 2) := by decide +kernel
theorem dX5_fairest_56 : decode cX5_fairest 56 = .ok (.iload 4, 2) := by decide +kernel
theorem dX5_fairest_58 : decode cX5_fairest 58 = .ok (.if_icmp .le 10, 3) := by decide +kernel
theorem dX5_fairest_61 : decode cX5_fairest 61 = .ok (.iload 5, 2) := by decide +kernel
theorem dX5_fairest_63 : decode cX5_fairest 63 = .ok (.istore_n 3, 1) := by decide +kernel
theorem dX5_fairest_64 : decode cX5_fairest 64 = .ok (.iload 6, 2) := by decide +kernel
theorem dX5_fairest_66 : decode cX5_fairest 66 = .ok (.istore 4, 2) := by decide +kernel
theorem dX5_fairest_68 : decode cX5_fairest 68 = .ok (.iinc 5 1, 3) := by decide +kernel
theorem dX5_fairest_71 : decode cX5_fairest 71 = .ok (.goto (-62), 3) := by decide +kernel
theorem dX5_fairest_74 : decode cX5_fairest 74 = .ok (.iload_n 3, 1) := by decide +kernel
theorem dX5_fairest_75 : decode cX5_fairest 75 = .ok (.ireturn, 1) := by decide +kernel
set_option maxRecDepth 20000 in
theorem ggX5_nextAboard_X1_isAboard : GoodIn wsX5_nextAboard wsX1_isAboard := goodIn_r _ [7, 8, 26, 27, 28, 29, 30, 31, 32] (by decide +kernel) (by decide +kernel)
set_option maxRecDepth 20000 in
theorem gX5_nextAboard_X1_isAboard : GoodIn wsX5_nextAboard (wsV RX5 88 RX1 yX1_isAboard wsX1_isAboard) := goodIn_app (goodIn_of _ (by decide +kernel)) ggX5_nextAboard_X1_isAboard
theorem dX5_nextAboard_0 : decode cX5_nextAboard 0 = .ok (.iconst 1, 1) := by decide +kernel
theorem dX5_nextAboard_1 : decode cX5_nextAboard 1 = .ok (.istore_n 3, 1) := by decide +kernel
theorem dX5_nextAboard_2 : decode cX5_nextAboard 2 = .ok (.iload_n 3, 1) := by decide +kernel
theorem dX5_nextAboard_3 : decode cX5_nextAboard 3 = .ok (.aload_n 0, 1) := by decide +kernel
theorem dX5_nextAboard_4 : decode cX5_nextAboard 4 = .ok (.getfield 19, 3) := by decide +kernel
theorem dX5_nextAboard_7 : decode cX5_nextAboard 7 = .ok (.getfield 200, 3) := by decide +kernel
theorem dX5_nextAboard_10 : decode cX5_nextAboard 10 = .ok (.if_icmp .ge 53, 3) := by decide +kernel
theorem dX5_nextAboard_13 : decode cX5_nextAboard 13 = .ok (.iload_n 2, 1) := by decide +kernel
theorem dX5_nextAboard_14 : decode cX5_nextAboard 14 = .ok (.iload_n 3, 1) := by decide +kernel
theorem dX5_nextAboard_15 : decode cX5_nextAboard 15 = .ok (.iadd, 1) := by decide +kernel
theorem dX5_nextAboard_16 : decode cX5_nextAboard 16 = .ok (.aload_n 0, 1) := by decide +kernel
theorem dX5_nextAboard_17 : decode cX5_nextAboard 17 = .ok (.getfield 19, 3) := by decide +kernel
theorem dX5_nextAboard_20 : decode cX5_nextAboard 20 = .ok (.getfield 200, 3) := by decide +kernel
theorem dX5_nextAboard_23 : decode cX5_nextAboard 23 = .ok (.if_icmp .ge 9, 3) := by decide +kernel
theorem dX5_nextAboard_26 : decode cX5_nextAboard 26 = .ok (.iload_n 2, 1) := by decide +kernel
theorem dX5_nextAboard_27 : decode cX5_nextAboard 27 = .ok (.iload_n 3, 1) := by decide +kernel
theorem dX5_nextAboard_28 : decode cX5_nextAboard 28 = .ok (.iadd, 1) := by decide +kernel
theorem dX5_nextAboard_29 : decode cX5_nextAboard 29 = .ok (.goto 14, 3) := by decide +kernel
theorem dX5_nextAboard_32 : decode cX5_nextAboard 32 = .ok (.iload_n 2, 1) := by decide +kernel
theorem dX5_nextAboard_33 : decode cX5_nextAboard 33 = .ok (.iload_n 3, 1) := by decide +kernel
theorem dX5_nextAboard_34 : decode cX5_nextAboard 34 = .ok (.iadd, 1) := by decide +kernel
theorem dX5_nextAboard_35 : decode cX5_nextAboard 35 = .ok (.aload_n 0, 1) := by decide +kernel
theorem dX5_nextAboard_36 : decode cX5_nextAboard 36 = .ok (.getfield 19, 3) := by decide +kernel
theorem dX5_nextAboard_39 : decode cX5_nextAboard 39 = .ok (.getfield 200, 3) := by decide +kernel
theorem dX5_nextAboard_42 : decode cX5_nextAboard 42 = .ok (.isub, 1) := by decide +kernel
theorem dX5_nextAboard_43 : decode cX5_nextAboard 43 = .ok (.istore 4, 2) := by decide +kernel
theorem dX5_nextAboard_45 : decode cX5_nextAboard 45 = .ok (.aload_n 1, 1) := by decide +kernel
theorem dX5_nextAboard_46 : decode cX5_nextAboard 46 = .ok (.iload 4, 2) := by decide +kernel
theorem dX5_nextAboard_48 : decode cX5_nextAboard 48 = .ok (.invokevirtual 88, 3) := by decide +kernel
theorem dX5_nextAboard_51 : decode cX5_nextAboard 51 = .ok (.ifCond .eq 6, 3) := by decide +kernel
theorem dX5_nextAboard_54 : decode cX5_nextAboard 54 = .ok (.iload 4, 2) := by decide +kernel
theorem dX5_nextAboard_56 : decode cX5_nextAboard 56 = .ok (.ireturn, 1) := by decide +kernel
theorem dX5_nextAboard_57 : decode cX5_nextAboard 57 = .ok (.iinc 3 1, 3) := by decide +kernel
theorem dX5_nextAboard_60 : decode cX5_nextAboard 60 = .ok (.goto (-58), 3) := by decide +kernel
theorem dX5_nextAboard_63 : decode cX5_nextAboard 63 = .ok (.bipush (-9), 2) := by decide +kernel
theorem dX5_nextAboard_65 : decode cX5_nextAboard 65 = .ok (.ireturn, 1) := by decide +kernel
set_option maxRecDepth 20000 in
theorem ggX5_ride_X5_whom : GoodIn wsX5_ride wsX5_whom := goodIn_r _ [9, 10, 11, 12, 13, 14, 15, 16, 17, 18, 19, 8, 20, 2, 3, 21, 22, 23, 24, 25, 26, 27, 28, 29, 30, 31, 32, 33, 40, 41, 42, 43, 44, 45, 46, 47, 48, 49, 50, 51, 52, 53, 54, 55, 56, 57, 58, 59, 60, 61, 62, 63] (by decide +kernel) (by decide +kernel)
set_option maxRecDepth 20000 in
theorem gX5_ride_X5_whom : GoodIn wsX5_ride (wsV RX5 94 RX5 yX5_whom wsX5_whom) := goodIn_app (goodIn_of _ (by decide +kernel)) ggX5_ride_X5_whom
set_option maxRecDepth 20000 in
theorem ggX5_ride_X1_think : GoodIn wsX5_ride wsX1_think := goodIn_r _ [37, 38, 39, 40, 41, 42, 43, 44, 45, 46] (by decide +kernel) (by decide +kernel)
set_option maxRecDepth 20000 in
theorem gX5_ride_X1_think : GoodIn wsX5_ride (wsV RX5 132 RX1 yX1_think wsX1_think) := goodIn_app (goodIn_of _ (by decide +kernel)) ggX5_ride_X1_think
theorem dX5_ride_0 : decode cX5_ride 0 = .ok (.aload_n 1, 1) := by decide +kernel
theorem dX5_ride_1 : decode cX5_ride 1 = .ok (.dup, 1) := by decide +kernel
theorem dX5_ride_2 : decode cX5_ride 2 = .ok (.getfield 116, 3) := by decide +kernel
theorem dX5_ride_5 : decode cX5_ride 5 = .ok (.iconst 1, 1) := by decide +kernel
theorem dX5_ride_6 : decode cX5_ride 6 = .ok (.iadd, 1) := by decide +kernel
theorem dX5_ride_7 : decode cX5_ride 7 = .ok (.putfield 116, 3) := by decide +kernel
theorem dX5_ride_10 : decode cX5_ride 10 = .ok (.iconst 0, 1) := by decide +kernel
theorem dX5_ride_11 : decode cX5_ride 11 = .ok (.istore_n 2, 1) := by decide +kernel
theorem dX5_ride_12 : decode cX5_ride 12 = .ok (.iload_n 2, 1) := by decide +kernel
theorem dX5_ride_13 : decode cX5_ride 13 = .ok (.aload_n 0, 1) := by decide +kernel
theorem dX5_ride_14 : decode cX5_ride 14 = .ok (.getfield 19, 3) := by decide +kernel
theorem dX5_ride_17 : decode cX5_ride 17 = .ok (.getfield 200, 3) := by decide +kernel
theorem dX5_ride_20 : decode cX5_ride 20 = .ok (.if_icmp .ge 37, 3) := by decide +kernel
theorem dX5_ride_23 : decode cX5_ride 23 = .ok (.aload_n 0, 1) := by decide +kernel
theorem dX5_ride_24 : decode cX5_ride 24 = .ok (.aload_n 1, 1) := by decide +kernel
theorem dX5_ride_25 : decode cX5_ride 25 = .ok (.iload_n 2, 1) := by decide +kernel
theorem dX5_ride_26 : decode cX5_ride 26 = .ok (.aload_n 0, 1) := by decide +kernel
theorem dX5_ride_27 : decode cX5_ride 27 = .ok (.getfield 19, 3) := by decide +kernel
theorem dX5_ride_30 : decode cX5_ride 30 = .ok (.getfield 85, 3) := by decide +kernel
theorem dX5_ride_33 : decode cX5_ride 33 = .ok (.iload_n 2, 1) := by decide +kernel
theorem dX5_ride_34 : decode cX5_ride 34 = .ok (.iaload, 1) := by decide +kernel
theorem dX5_ride_35 : decode cX5_ride 35 = .ok (.invokevirtual 94, 3) := by decide +kernel
theorem dX5_ride_38 : decode cX5_ride 38 = .ok (.istore_n 3, 1) := by decide +kernel
theorem dX5_ride_39 : decode cX5_ride 39 = .ok (.iload_n 3, 1) := by decide +kernel
theorem dX5_ride_40 : decode cX5_ride 40 = .ok (.bipush (-9), 2) := by decide +kernel
theorem dX5_ride_42 : decode cX5_ride 42 = .ok (.if_icmp .eq 9, 3) := by decide +kernel
theorem dX5_ride_45 : decode cX5_ride 45 = .ok (.aload_n 1, 1) := by decide +kernel
theorem dX5_ride_46 : decode cX5_ride 46 = .ok (.iload_n 2, 1) := by decide +kernel
theorem dX5_ride_47 : decode cX5_ride 47 = .ok (.iload_n 3, 1) := by decide +kernel
theorem dX5_ride_48 : decode cX5_ride 48 = .ok (.invokevirtual 132, 3) := by decide +kernel
theorem dX5_ride_51 : decode cX5_ride 51 = .ok (.iinc 2 1, 3) := by decide +kernel
theorem dX5_ride_54 : decode cX5_ride 54 = .ok (.goto (-42), 3) := by decide +kernel
theorem dX5_ride_57 : decode cX5_ride 57 = .ok (.return_, 1) := by decide +kernel
set_option maxRecDepth 20000 in
theorem ggX5_circleOf_X5_whom : GoodIn wsX5_circleOf wsX5_whom := goodIn_r _ [8, 9, 10, 11, 12, 13, 14, 15, 16, 17, 18, 7, 19, 1, 2, 20, 21, 22, 23, 24, 25, 26, 27, 28, 29, 30, 31, 32, 50, 51, 52, 53, 54, 55, 56, 33, 34, 35, 36, 37, 38, 39, 40, 41, 42, 43, 44, 45, 46, 47, 48, 49] (by decide +kernel) (by decide +kernel)
set_option maxRecDepth 20000 in
theorem gX5_circleOf_X5_whom : GoodIn wsX5_circleOf (wsV RX5 94 RX5 yX5_whom wsX5_whom) := goodIn_app (goodIn_of _ (by decide +kernel)) ggX5_circleOf_X5_whom
theorem dX5_circleOf_0 : decode cX5_circleOf 0 = .ok (.iload_n 2, 1) := by decide +kernel
theorem dX5_circleOf_1 : decode cX5_circleOf 1 = .ok (.istore_n 3, 1) := by decide +kernel
theorem dX5_circleOf_2 : decode cX5_circleOf 2 = .ok (.iconst 0, 1) := by decide +kernel
theorem dX5_circleOf_3 : decode cX5_circleOf 3 = .ok (.istore 4, 2) := by decide +kernel
theorem dX5_circleOf_5 : decode cX5_circleOf 5 = .ok (.iload 4, 2) := by decide +kernel
theorem dX5_circleOf_7 : decode cX5_circleOf 7 = .ok (.aload_n 0, 1) := by decide +kernel
theorem dX5_circleOf_8 : decode cX5_circleOf 8 = .ok (.getfield 19, 3) := by decide +kernel
theorem dX5_circleOf_11 : decode cX5_circleOf 11 = .ok (.getfield 200, 3) := by decide +kernel
theorem dX5_circleOf_14 : decode cX5_circleOf 14 = .ok (.if_icmp .ge 31, 3) := by decide +kernel
theorem dX5_circleOf_17 : decode cX5_circleOf 17 = .ok (.iload_n 3, 1) := by decide +kernel
theorem dX5_circleOf_18 : decode cX5_circleOf 18 = .ok (.bipush (-9), 2) := by decide +kernel
theorem dX5_circleOf_20 : decode cX5_circleOf 20 = .ok (.if_icmp .eq 25, 3) := by decide +kernel
theorem dX5_circleOf_23 : decode cX5_circleOf 23 = .ok (.aload_n 0, 1) := by decide +kernel
theorem dX5_circleOf_24 : decode cX5_circleOf 24 = .ok (.aload_n 1, 1) := by decide +kernel
theorem dX5_circleOf_25 : decode cX5_circleOf 25 = .ok (.iload_n 3, 1) := by decide +kernel
theorem dX5_circleOf_26 : decode cX5_circleOf 26 = .ok (.aload_n 0, 1) := by decide +kernel
theorem dX5_circleOf_27 : decode cX5_circleOf 27 = .ok (.getfield 19, 3) := by decide +kernel
theorem dX5_circleOf_30 : decode cX5_circleOf 30 = .ok (.getfield 85, 3) := by decide +kernel
theorem dX5_circleOf_33 : decode cX5_circleOf 33 = .ok (.iload_n 3, 1) := by decide +kernel
theorem dX5_circleOf_34 : decode cX5_circleOf 34 = .ok (.iaload, 1) := by decide +kernel
theorem dX5_circleOf_35 : decode cX5_circleOf 35 = .ok (.invokevirtual 94, 3) := by decide +kernel
theorem dX5_circleOf_38 : decode cX5_circleOf 38 = .ok (.istore_n 3, 1) := by decide +kernel
theorem dX5_circleOf_39 : decode cX5_circleOf 39 = .ok (.iinc 4 1, 3) := by decide +kernel
theorem dX5_circleOf_42 : decode cX5_circleOf 42 = .ok (.goto (-37), 3) := by decide +kernel
theorem dX5_circleOf_45 : decode cX5_circleOf 45 = .ok (.iconst 0, 1) := by decide +kernel
theorem dX5_circleOf_46 : decode cX5_circleOf 46 = .ok (.istore 4, 2) := by decide +kernel
theorem dX5_circleOf_48 : decode cX5_circleOf 48 = .ok (.iconst 0, 1) := by decide +kernel
theorem dX5_circleOf_49 : decode cX5_circleOf 49 = .ok (.istore 5, 2) := by decide +kernel
theorem dX5_circleOf_51 : decode cX5_circleOf 51 = .ok (.iload 5, 2) := by decide +kernel
theorem dX5_circleOf_53 : decode cX5_circleOf 53 = .ok (.aload_n 0, 1) := by decide +kernel
theorem dX5_circleOf_54 : decode cX5_circleOf 54 = .ok (.getfield 19, 3) := by decide +kernel
theorem dX5_circleOf_57 : decode cX5_circleOf 57 = .ok (.getfield 200, 3) := by decide +kernel
theorem dX5_circleOf_60 : decode cX5_circleOf 60 = .ok (.if_icmp .ge 39, 3) := by decide +kernel
theorem dX5_circleOf_63 : decode cX5_circleOf 63 = .ok (.iload_n 3, 1) := by decide +kernel
theorem dX5_circleOf_64 : decode cX5_circleOf 64 = .ok (.bipush (-9), 2) := by decide +kernel
theorem dX5_circleOf_66 : decode cX5_circleOf 66 = .ok (.if_icmp .eq 33, 3) := by decide +kernel
theorem dX5_circleOf_69 : decode cX5_circleOf 69 = .ok (.iload 4, 2) := by decide +kernel
theorem dX5_circleOf_71 : decode cX5_circleOf 71 = .ok (.iconst 1, 1) := by decide +kernel
theorem dX5_circleOf_72 : decode cX5_circleOf 72 = .ok (.iload_n 3, 1) := by decide +kernel
theorem dX5_circleOf_73 : decode cX5_circleOf 73 = .ok (.ishl, 1) := by decide +kernel
theorem dX5_circleOf_74 : decode cX5_circleOf 74 = .ok (.ior, 1) := by decide +kernel
theorem dX5_circleOf_75 : decode cX5_circleOf 75 = .ok (.istore 4, 2) := by decide +kernel
theorem dX5_circleOf_77 : decode cX5_circleOf 77 = .ok (.aload_n 0, 1) := by decide +kernel
theorem dX5_circleOf_78 : decode cX5_circleOf 78 = .ok (.aload_n 1, 1) := by decide +kernel
theorem dX5_circleOf_79 : decode cX5_circleOf 79 = .ok (.iload_n 3, 1) := by decide +kernel
theorem dX5_circleOf_80 : decode cX5_circleOf 80 = .ok (.aload_n 0, 1) := by decide +kernel
theorem dX5_circleOf_81 : decode cX5_circleOf 81 = .ok (.getfield 19, 3) := by decide +kernel
theorem dX5_circleOf_84 : decode cX5_circleOf 84 = .ok (.getfield 85, 3) := by decide +kernel
theorem dX5_circleOf_87 : decode cX5_circleOf 87 = .ok (.iload_n 3, 1) := by decide +kernel
theorem dX5_circleOf_88 : decode cX5_circleOf 88 = .ok (.iaload, 1) := by decide +kernel
theorem dX5_circleOf_89 : decode cX5_circleOf 89 = .ok (.invokevirtual 94, 3) := by decide +kernel
theorem dX5_circleOf_92 : decode cX5_circleOf 92 = .ok (.istore_n 3, 1) := by decide +kernel
theorem dX5_circleOf_93 : decode cX5_circleOf 93 = .ok (.iinc 5 1, 3) := by decide +kernel
theorem dX5_circleOf_96 : decode cX5_circleOf 96 = .ok (.goto (-45), 3) := by decide +kernel
theorem dX5_circleOf_99 : decode cX5_circleOf 99 = .ok (.iload 4, 2) := by decide +kernel
theorem dX5_circleOf_101 : decode cX5_circleOf 101 = .ok (.ireturn, 1) := by decide +kernel
theorem dX5_lowestOf_0 : decode cX5_lowestOf 0 = .ok (.iconst 0, 1) := by decide +kernel
theorem dX5_lowestOf_1 : decode cX5_lowestOf 1 = .ok (.istore_n 1, 1) := by decide +kernel
theorem dX5_lowestOf_2 : decode cX5_lowestOf 2 = .ok (.iload_n 1, 1) := by decide +kernel
theorem dX5_lowestOf_3 : decode cX5_lowestOf 3 = .ok (.bipush 6, 2) := by decide +kernel
theorem dX5_lowestOf_5 : decode cX5_lowestOf 5 = .ok (.if_icmp .ge 19, 3) := by decide +kernel
theorem dX5_lowestOf_8 : decode cX5_lowestOf 8 = .ok (.iload_n 0, 1) := by decide +kernel
theorem dX5_lowestOf_9 : decode cX5_lowestOf 9 = .ok (.iload_n 1, 1) := by decide +kernel
theorem dX5_lowestOf_10 : decode cX5_lowestOf 10 = .ok (.ishr, 1) := by decide +kernel
theorem dX5_lowestOf_11 : decode cX5_lowestOf 11 = .ok (.iconst 1, 1) := by decide +kernel
theorem dX5_lowestOf_12 : decode cX5_lowestOf 12 = .ok (.iand, 1) := by decide +kernel
theorem dX5_lowestOf_13 : decode cX5_lowestOf 13 = .ok (.ifCond .eq 5, 3) := by decide +kernel
theorem dX5_lowestOf_16 : decode cX5_lowestOf 16 = .ok (.iload_n 1, 1) := by decide +kernel
theorem dX5_lowestOf_17 : decode cX5_lowestOf 17 = .ok (.ireturn, 1) := by decide +kernel
theorem dX5_lowestOf_18 : decode cX5_lowestOf 18 = .ok (.iinc 1 1, 3) := by decide +kernel
theorem dX5_lowestOf_21 : decode cX5_lowestOf 21 = .ok (.goto (-19), 3) := by decide +kernel
theorem dX5_lowestOf_24 : decode cX5_lowestOf 24 = .ok (.bipush (-9), 2) := by decide +kernel
theorem dX5_lowestOf_26 : decode cX5_lowestOf 26 = .ok (.ireturn, 1) := by decide +kernel
set_option maxRecDepth 20000 in
theorem ggX5_downByRing_X1_thoughtOf : GoodIn wsX5_downByRing wsX1_thoughtOf := goodIn_r _ [5, 6, 7, 8, 9, 10, 11, 12, 13] (by decide +kernel) (by decide +kernel)
set_option maxRecDepth 20000 in
theorem gX5_downByRing_X1_thoughtOf : GoodIn wsX5_downByRing (wsV RX5 112 RX1 yX1_thoughtOf wsX1_thoughtOf) := goodIn_app (goodIn_of _ (by decide +kernel)) ggX5_downByRing_X1_thoughtOf
theorem dX5_downByRing_0 : decode cX5_downByRing 0 = .ok (.bipush (-9), 2) := by decide +kernel
theorem dX5_downByRing_2 : decode cX5_downByRing 2 = .ok (.istore_n 3, 1) := by decide +kernel
theorem dX5_downByRing_3 : decode cX5_downByRing 3 = .ok (.iconst 0, 1) := by decide +kernel
theorem dX5_downByRing_4 : decode cX5_downByRing 4 = .ok (.istore 4, 2) := by decide +kernel
theorem dX5_downByRing_6 : decode cX5_downByRing 6 = .ok (.iconst 0, 1) := by decide +kernel
theorem dX5_downByRing_7 : decode cX5_downByRing 7 = .ok (.istore 5, 2) := by decide +kernel
theorem dX5_downByRing_9 : decode cX5_downByRing 9 = .ok (.iload 5, 2) := by decide +kernel
theorem dX5_downByRing_11 : decode cX5_downByRing 11 = .ok (.bipush 6, 2) := by decide +kernel
theorem dX5_downByRing_13 : decode cX5_downByRing 13 = .ok (.if_icmp .ge 47, 3) := by decide +kernel
theorem dX5_downByRing_16 : decode cX5_downByRing 16 = .ok (.aload_n 0, 1) := by decide +kernel
theorem dX5_downByRing_17 : decode cX5_downByRing 17 = .ok (.iload 5, 2) := by decide +kernel
theorem dX5_downByRing_19 : decode cX5_downByRing 19 = .ok (.iload_n 2, 1) := by decide +kernel
theorem dX5_downByRing_20 : decode cX5_downByRing 20 = .ok (.invokevirtual 112, 3) := by decide +kernel
theorem dX5_downByRing_23 : decode cX5_downByRing 23 = .ok (.istore 6, 2) := by decide +kernel
theorem dX5_downByRing_25 : decode cX5_downByRing 25 = .ok (.iload 5, 2) := by decide +kernel
theorem dX5_downByRing_27 : decode cX5_downByRing 27 = .ok (.iload_n 2, 1) := by decide +kernel
theorem dX5_downByRing_28 : decode cX5_downByRing 28 = .ok (.if_icmp .eq 26, 3) := by decide +kernel
theorem dX5_downByRing_31 : decode cX5_downByRing 31 = .ok (.iload_n 1, 1) := by decide +kernel
theorem dX5_downByRing_32 : decode cX5_downByRing 32 = .ok (.iload 5, 2) := by decide +kernel
theorem dX5_downByRing_34 : decode cX5_downByRing 34 = .ok (.ishr, 1) := by decide +kernel
theorem dX5_downByRing_35 : decode cX5_downByRing 35 = .ok (.iconst 1, 1) := by decide +kernel
theorem dX5_downByRing_36 : decode cX5_downByRing 36 = .ok (.iand, 1) := by decide +kernel
theorem dX5_downByRing_37 : decode cX5_downByRing 37 = .ok (.ifCond .eq 17, 3) := by decide +kernel
theorem dX5_downByRing_40 : decode cX5_downByRing 40 = .ok (.iload 6, 2) := by decide +kernel
theorem dX5_downByRing_42 : decode cX5_downByRing 42 = .ok (.iload 4, 2) := by decide +kernel
theorem dX5_downByRing_44 : decode cX5_downByRing 44 = .ok (.if_icmp .le 10, 3) := by decide +kernel
theorem dX5_downByRing_47 : decode cX5_downByRing 47 = .ok (.iload 5, 2) := by decide +kernel
theorem dX5_downByRing_49 : decode cX5_downByRing 49 = .ok (.istore_n 3, 1) := by decide +kernel
theorem dX5_downByRing_50 : decode cX5_downByRing 50 = .ok (.iload 6, 2) := by decide +kernel
theorem dX5_downByRing_52 : decode cX5_downByRing 52 = .ok (.istore 4, 2) := by decide +kernel
theorem dX5_downByRing_54 : decode cX5_downByRing 54 = .ok (.iinc 5 1, 3) := by decide +kernel
theorem dX5_downByRing_57 : decode cX5_downByRing 57 = .ok (.goto (-48), 3) := by decide +kernel
theorem dX5_downByRing_60 : decode cX5_downByRing 60 = .ok (.iload_n 3, 1) := by decide +kernel
theorem dX5_downByRing_61 : decode cX5_downByRing 61 = .ok (.ireturn, 1) := by decide +kernel
set_option maxRecDepth 20000 in
theorem ggX5_downByDoubleRing_X1_thoughtOf : GoodIn wsX5_downByDoubleRing wsX1_thoughtOf := goodIn_r _ [5, 6, 12, 13, 14, 15, 16, 17, 18] (by decide +kernel) (by decide +kernel)
set_option maxRecDepth 20000 in
theorem gX5_downByDoubleRing_X1_thoughtOf : GoodIn wsX5_downByDoubleRing (wsV RX5 112 RX1 yX1_thoughtOf wsX1_thoughtOf) := goodIn_app (goodIn_of _ (by decide +kernel)) ggX5_downByDoubleRing_X1_thoughtOf
set_option maxRecDepth 20000 in
theorem ggX5_downByDoubleRing_X1_isAboard : GoodIn wsX5_downByDoubleRing wsX1_isAboard := goodIn_r _ [10, 11, 12, 13, 14, 15, 16, 17, 18] (by decide +kernel) (by decide +kernel)
set_option maxRecDepth 20000 in
theorem gX5_downByDoubleRing_X1_isAboard : GoodIn wsX5_downByDoubleRing (wsV RX5 88 RX1 yX1_isAboard wsX1_isAboard) := goodIn_app (goodIn_of _ (by decide +kernel)) ggX5_downByDoubleRing_X1_isAboard
theorem dX5_downByDoubleRing_0 : decode cX5_downByDoubleRing 0 = .ok (.bipush (-9), 2) := by decide +kernel
theorem dX5_downByDoubleRing_2 : decode cX5_downByDoubleRing 2 = .ok (.istore_n 2, 1) := by decide +kernel
theorem dX5_downByDoubleRing_3 : decode cX5_downByDoubleRing 3 = .ok (.iconst 0, 1) := by decide +kernel
theorem dX5_downByDoubleRing_4 : decode cX5_downByDoubleRing 4 = .ok (.istore_n 3, 1) := by decide +kernel
theorem dX5_downByDoubleRing_5 : decode cX5_downByDoubleRing 5 = .ok (.iconst 0, 1) := by decide +kernel
theorem dX5_downByDoubleRing_6 : decode cX5_downByDoubleRing 6 = .ok (.istore 4, 2) := by decide +kernel
theorem dX5_downByDoubleRing_8 : decode cX5_downByDoubleRing 8 = .ok (.iload 4, 2) := by decide +kernel
theorem dX5_downByDoubleRing_10 : decode cX5_downByDoubleRing 10 = .ok (.bipush 6, 2) := by decide +kernel
theorem dX5_downByDoubleRing_12 : decode cX5_downByDoubleRing 12 = .ok (.if_icmp .ge 45, 3) := by decide +kernel
theorem dX5_downByDoubleRing_15 : decode cX5_downByDoubleRing 15 = .ok (.aload_n 0, 1) := by decide +kernel
theorem dX5_downByDoubleRing_16 : decode cX5_downByDoubleRing 16 = .ok (.iload_n 1, 1) := by decide +kernel
theorem dX5_downByDoubleRing_17 : decode cX5_downByDoubleRing 17 = .ok (.iload 4, 2) := by decide +kernel
theorem dX5_downByDoubleRing_19 : decode cX5_downByDoubleRing 19 = .ok (.invokevirtual 112, 3) := by decide +kernel
theorem dX5_downByDoubleRing_22 : decode cX5_downByDoubleRing 22 = .ok (.istore 5, 2) := by decide +kernel
theorem dX5_downByDoubleRing_24 : decode cX5_downByDoubleRing 24 = .ok (.iload 4, 2) := by decide +kernel
theorem dX5_downByDoubleRing_26 : decode cX5_downByDoubleRing 26 = .ok (.iload_n 1, 1) := by decide +kernel
theorem dX5_downByDoubleRing_27 : decode cX5_downByDoubleRing 27 = .ok (.if_icmp .eq 24, 3) := by decide +kernel
theorem dX5_downByDoubleRing_30 : decode cX5_downByDoubleRing 30 = .ok (.aload_n 0, 1) := by decide +kernel
theorem dX5_downByDoubleRing_31 : decode cX5_downByDoubleRing 31 = .ok (.iload 4, 2) := by decide +kernel
theorem dX5_downByDoubleRing_33 : decode cX5_downByDoubleRing 33 = .ok (.invokevirtual 88, 3) := by decide +kernel
theorem dX5_downByDoubleRing_36 : decode cX5_downByDoubleRing 36 = .ok (.ifCond .eq 15, 3) := by decide +kernel
theorem dX5_downByDoubleRing_39 : decode cX5_downByDoubleRing 39 = .ok (.iload 5, 2) := by decide +kernel
theorem dX5_downByDoubleRing_41 : decode cX5_downByDoubleRing 41 = .ok (.iload_n 3, 1) := by decide +kernel
theorem dX5_downByDoubleRing_42 : decode cX5_downByDoubleRing 42 = .ok (.if_icmp .le 9, 3) := by decide +kernel
theorem dX5_downByDoubleRing_45 : decode cX5_downByDoubleRing 45 = .ok (.iload 4, 2) := by decide +kernel
theorem dX5_downByDoubleRing_47 : decode cX5_downByDoubleRing 47 = .ok (.istore_n 2, 1) := by decide +kernel
theorem dX5_downByDoubleRing_48 : decode cX5_downByDoubleRing 48 = .ok (.iload 5, 2) := by decide +kernel
theorem dX5_downByDoubleRing_50 : decode cX5_downByDoubleRing 50 = .ok (.istore_n 3, 1) := by decide +kernel
theorem dX5_downByDoubleRing_51 : decode cX5_downByDoubleRing 51 = .ok (.iinc 4 1, 3) := by decide +kernel
theorem dX5_downByDoubleRing_54 : decode cX5_downByDoubleRing 54 = .ok (.goto (-46), 3) := by decide +kernel
theorem dX5_downByDoubleRing_57 : decode cX5_downByDoubleRing 57 = .ok (.iload_n 2, 1) := by decide +kernel
theorem dX5_downByDoubleRing_58 : decode cX5_downByDoubleRing 58 = .ok (.ireturn, 1) := by decide +kernel
set_option maxRecDepth 20000 in
theorem ggX5_downInRow_X5_downByRing : GoodIn wsX5_downInRow wsX5_downByRing := goodIn_r _ [4, 5, 6, 7, 8, 9, 10, 11, 12, 13, 14, 15, 16, 17] (by decide +kernel) (by decide +kernel)
set_option maxRecDepth 20000 in
theorem gX5_downInRow_X5_downByRing : GoodIn wsX5_downInRow (va_wsS RX5 101 yX5_downByRing wsX5_downByRing) := goodIn_app (goodIn_of _ (by decide +kernel)) ggX5_downInRow_X5_downByRing
theorem dX5_downInRow_0 : decode cX5_downInRow 0 = .ok (.iload_n 2, 1) := by decide +kernel
theorem dX5_downInRow_1 : decode cX5_downInRow 1 = .ok (.iload 4, 2) := by decide +kernel
theorem dX5_downInRow_3 : decode cX5_downInRow 3 = .ok (.ishr, 1) := by decide +kernel
theorem dX5_downInRow_4 : decode cX5_downInRow 4 = .ok (.iconst 1, 1) := by decide +kernel
theorem dX5_downInRow_5 : decode cX5_downInRow 5 = .ok (.iand, 1) := by decide +kernel
theorem dX5_downInRow_6 : decode cX5_downInRow 6 = .ok (.ifCond .eq 12, 3) := by decide +kernel
theorem dX5_downInRow_9 : decode cX5_downInRow 9 = .ok (.iload_n 3, 1) := by decide +kernel
theorem dX5_downInRow_10 : decode cX5_downInRow 10 = .ok (.iload 4, 2) := by decide +kernel
theorem dX5_downInRow_12 : decode cX5_downInRow 12 = .ok (.ishr, 1) := by decide +kernel
theorem dX5_downInRow_13 : decode cX5_downInRow 13 = .ok (.iconst 1, 1) := by decide +kernel
theorem dX5_downInRow_14 : decode cX5_downInRow 14 = .ok (.iand, 1) := by decide +kernel
theorem dX5_downInRow_15 : decode cX5_downInRow 15 = .ok (.ifCond .eq 6, 3) := by decide +kernel
theorem dX5_downInRow_18 : decode cX5_downInRow 18 = .ok (.bipush (-9), 2) := by decide +kernel
theorem dX5_downInRow_20 : decode cX5_downInRow 20 = .ok (.ireturn, 1) := by decide +kernel
theorem dX5_downInRow_21 : decode cX5_downInRow 21 = .ok (.aload_n 0, 1) := by decide +kernel
theorem dX5_downInRow_22 : decode cX5_downInRow 22 = .ok (.iload_n 2, 1) := by decide +kernel
theorem dX5_downInRow_23 : decode cX5_downInRow 23 = .ok (.iload 4, 2) := by decide +kernel
theorem dX5_downInRow_25 : decode cX5_downInRow 25 = .ok (.invokestatic 101, 3) := by decide +kernel
theorem dX5_downInRow_28 : decode cX5_downInRow 28 = .ok (.istore 5, 2) := by decide +kernel
theorem dX5_downInRow_30 : decode cX5_downInRow 30 = .ok (.iload 5, 2) := by decide +kernel
theorem dX5_downInRow_32 : decode cX5_downInRow 32 = .ok (.bipush (-9), 2) := by decide +kernel
theorem dX5_downInRow_34 : decode cX5_downInRow 34 = .ok (.if_icmp .eq 17, 3) := by decide +kernel
theorem dX5_downInRow_37 : decode cX5_downInRow 37 = .ok (.iload_n 1, 1) := by decide +kernel
theorem dX5_downInRow_38 : decode cX5_downInRow 38 = .ok (.iload 5, 2) := by decide +kernel
theorem dX5_downInRow_40 : decode cX5_downInRow 40 = .ok (.ishr, 1) := by decide +kernel
theorem dX5_downInRow_41 : decode cX5_downInRow 41 = .ok (.iconst 1, 1) := by decide +kernel
theorem dX5_downInRow_42 : decode cX5_downInRow 42 = .ok (.iand, 1) := by decide +kernel
theorem dX5_downInRow_43 : decode cX5_downInRow 43 = .ok (.ifCond .eq 8, 3) := by decide +kernel
theorem dX5_downInRow_46 : decode cX5_downInRow 46 = .ok (.iload 5, 2) := by decide +kernel
theorem dX5_downInRow_48 : decode cX5_downInRow 48 = .ok (.goto 5, 3) := by decide +kernel
theorem dX5_downInRow_51 : decode cX5_downInRow 51 = .ok (.bipush (-9), 2) := by decide +kernel
theorem dX5_downInRow_53 : decode cX5_downInRow 53 = .ok (.ireturn, 1) := by decide +kernel
set_option maxRecDepth 20000 in
theorem ggX5_rowsFrom_X5_downInRow : GoodIn wsX5_rowsFrom wsX5_downInRow := goodIn_r _ [4, 5, 6, 3, 7, 8, 9, 10, 11, 12, 13, 16, 17, 18, 19, 20, 21, 22] (by decide +kernel) (by decide +kernel)
set_option maxRecDepth 20000 in
theorem gX5_rowsFrom_X5_downInRow : GoodIn wsX5_rowsFrom (va_wsS RX5 249 yX5_downInRow wsX5_downInRow) := goodIn_app (goodIn_of _ (by decide +kernel)) ggX5_rowsFrom_X5_downInRow
set_option maxRecDepth 20000 in
theorem ggX5_rowsFrom_X5_rowsFrom : GoodIn wsX5_rowsFrom wsX5_rowsFrom := goodIn_r _ [0, 1, 2, 3, 4, 5, 6, 7, 8, 9, 10, 11, 12, 13, 14, 15, 16, 17, 18, 19, 20, 21, 22] (by decide +kernel) (by decide +kernel)
set_option maxRecDepth 20000 in
theorem gX5_rowsFrom_X5_rowsFrom : GoodIn wsX5_rowsFrom (va_wsS RX5 163 yX5_rowsFrom wsX5_rowsFrom) := goodIn_app (goodIn_of _ (by decide +kernel)) ggX5_rowsFrom_X5_rowsFrom
theorem dX5_rowsFrom_0 : decode cX5_rowsFrom 0 = .ok (.iload_n 1, 1) := by decide +kernel
theorem dX5_rowsFrom_1 : decode cX5_rowsFrom 1 = .ok (.iload_n 2, 1) := by decide +kernel
theorem dX5_rowsFrom_2 : decode cX5_rowsFrom 2 = .ok (.iand, 1) := by decide +kernel
theorem dX5_rowsFrom_3 : decode cX5_rowsFrom 3 = .ok (.ifCond .ne 5, 3) := by decide +kernel
theorem dX5_rowsFrom_6 : decode cX5_rowsFrom 6 = .ok (.iconst 1, 1) := by decide +kernel
theorem dX5_rowsFrom_7 : decode cX5_rowsFrom 7 = .ok (.ireturn, 1) := by decide +kernel
theorem dX5_rowsFrom_8 : decode cX5_rowsFrom 8 = .ok (.iload 4, 2) := by decide +kernel
theorem dX5_rowsFrom_10 : decode cX5_rowsFrom 10 = .ok (.bipush 6, 2) := by decide +kernel
theorem dX5_rowsFrom_12 : decode cX5_rowsFrom 12 = .ok (.if_icmp .lt 5, 3) := by decide +kernel
theorem dX5_rowsFrom_15 : decode cX5_rowsFrom 15 = .ok (.iconst 0, 1) := by decide +kernel
theorem dX5_rowsFrom_16 : decode cX5_rowsFrom 16 = .ok (.ireturn, 1) := by decide +kernel
theorem dX5_rowsFrom_17 : decode cX5_rowsFrom 17 = .ok (.iconst 0, 1) := by decide +kernel
theorem dX5_rowsFrom_18 : decode cX5_rowsFrom 18 = .ok (.istore 5, 2) := by decide +kernel
theorem dX5_rowsFrom_20 : decode cX5_rowsFrom 20 = .ok (.iconst 0, 1) := by decide +kernel
theorem dX5_rowsFrom_21 : decode cX5_rowsFrom 21 = .ok (.istore 6, 2) := by decide +kernel
theorem dX5_rowsFrom_23 : decode cX5_rowsFrom 23 = .ok (.iload 6, 2) := by decide +kernel
theorem dX5_rowsFrom_25 : decode cX5_rowsFrom 25 = .ok (.bipush 6, 2) := by decide +kernel
theorem dX5_rowsFrom_27 : decode cX5_rowsFrom 27 = .ok (.if_icmp .ge 55, 3) := by decide +kernel
theorem dX5_rowsFrom_30 : decode cX5_rowsFrom 30 = .ok (.aload_n 0, 1) := by decide +kernel
theorem dX5_rowsFrom_31 : decode cX5_rowsFrom 31 = .ok (.iload_n 1, 1) := by decide +kernel
theorem dX5_rowsFrom_32 : decode cX5_rowsFrom 32 = .ok (.iload_n 2, 1) := by decide +kernel
theorem dX5_rowsFrom_33 : decode cX5_rowsFrom 33 = .ok (.iload_n 3, 1) := by decide +kernel
theorem dX5_rowsFrom_34 : decode cX5_rowsFrom 34 = .ok (.iload 6, 2) := by decide +kernel
theorem dX5_rowsFrom_36 : decode cX5_rowsFrom 36 = .ok (.invokestatic 249, 3) := by decide +kernel
theorem dX5_rowsFrom_39 : decode cX5_rowsFrom 39 = .ok (.istore 7, 2) := by decide +kernel
theorem dX5_rowsFrom_41 : decode cX5_rowsFrom 41 = .ok (.iload 7, 2) := by decide +kernel
theorem dX5_rowsFrom_43 : decode cX5_rowsFrom 43 = .ok (.bipush (-9), 2) := by decide +kernel
theorem dX5_rowsFrom_45 : decode cX5_rowsFrom 45 = .ok (.if_icmp .eq 31, 3) := by decide +kernel
theorem dX5_rowsFrom_48 : decode cX5_rowsFrom 48 = .ok (.iload 5, 2) := by decide +kernel
theorem dX5_rowsFrom_50 : decode cX5_rowsFrom 50 = .ok (.aload_n 0, 1) := by decide +kernel
theorem dX5_rowsFrom_51 : decode cX5_rowsFrom 51 = .ok (.iload_n 1, 1) := by decide +kernel
theorem dX5_rowsFrom_52 : decode cX5_rowsFrom 52 = .ok (.iload_n 2, 1) := by decide +kernel
theorem dX5_rowsFrom_53 : decode cX5_rowsFrom 53 = .ok (.iconst 1, 1) := by decide +kernel
theorem dX5_rowsFrom_54 : decode cX5_rowsFrom 54 = .ok (.iload 7, 2) := by decide +kernel
theorem dX5_rowsFrom_56 : decode cX5_rowsFrom 56 = .ok (.ishl, 1) := by decide +kernel
theorem dX5_rowsFrom_57 : decode cX5_rowsFrom 57 = .ok (.iconst (-1), 1) := by decide +kernel
theorem dX5_rowsFrom_58 : decode cX5_rowsFrom 58 = .ok (.ixor, 1) := by decide +kernel
theorem dX5_rowsFrom_59 : decode cX5_rowsFrom 59 = .ok (.iand, 1) := by decide +kernel
theorem dX5_rowsFrom_60 : decode cX5_rowsFrom 60 = .ok (.iload_n 3, 1) := by decide +kernel
theorem dX5_rowsFrom_61 : decode cX5_rowsFrom 61 = .ok (.iconst 1, 1) := by decide +kernel
theorem dX5_rowsFrom_62 : decode cX5_rowsFrom 62 = .ok (.iload 6, 2) := by decide +kernel
theorem dX5_rowsFrom_64 : decode cX5_rowsFrom 64 = .ok (.ishl, 1) := by decide +kernel
theorem dX5_rowsFrom_65 : decode cX5_rowsFrom 65 = .ok (.ior, 1) := by decide +kernel
theorem dX5_rowsFrom_66 : decode cX5_rowsFrom 66 = .ok (.iload 4, 2) := by decide +kernel
theorem dX5_rowsFrom_68 : decode cX5_rowsFrom 68 = .ok (.iconst 1, 1) := by decide +kernel
theorem dX5_rowsFrom_69 : decode cX5_rowsFrom 69 = .ok (.iadd, 1) := by decide +kernel
theorem dX5_rowsFrom_70 : decode cX5_rowsFrom 70 = .ok (.invokestatic 163, 3) := by decide +kernel
theorem dX5_rowsFrom_73 : decode cX5_rowsFrom 73 = .ok (.iadd, 1) := by decide +kernel
theorem dX5_rowsFrom_74 : decode cX5_rowsFrom 74 = .ok (.istore 5, 2) := by decide +kernel
theorem dX5_rowsFrom_76 : decode cX5_rowsFrom 76 = .ok (.iinc 6 1, 3) := by decide +kernel
theorem dX5_rowsFrom_79 : decode cX5_rowsFrom 79 = .ok (.goto (-56), 3) := by decide +kernel
theorem dX5_rowsFrom_82 : decode cX5_rowsFrom 82 = .ok (.iload 5, 2) := by decide +kernel
theorem dX5_rowsFrom_84 : decode cX5_rowsFrom 84 = .ok (.ireturn, 1) := by decide +kernel
set_option maxRecDepth 20000 in
theorem ggX5_ringerAt_X5_firstRinger : GoodIn wsX5_ringerAt wsX5_firstRinger := goodIn_r _ [5, 6, 7, 4, 8, 9, 10, 11, 12, 13, 14, 15, 16, 17, 18, 19, 20, 21, 22, 23, 24, 25, 26, 27] (by decide +kernel) (by decide +kernel)
set_option maxRecDepth 20000 in
theorem gX5_ringerAt_X5_firstRinger : GoodIn wsX5_ringerAt (va_wsS RX5 252 yX5_firstRinger wsX5_firstRinger) := goodIn_app (goodIn_of _ (by decide +kernel)) ggX5_ringerAt_X5_firstRinger
set_option maxRecDepth 20000 in
theorem ggX5_ringerAt_X5_downInRow : GoodIn wsX5_ringerAt wsX5_downInRow := goodIn_r _ [8, 9, 10, 4, 11, 12, 13, 14, 15, 16, 17, 21, 22, 23, 24, 25, 26, 27] (by decide +kernel) (by decide +kernel)
set_option maxRecDepth 20000 in
theorem gX5_ringerAt_X5_downInRow : GoodIn wsX5_ringerAt (va_wsS RX5 249 yX5_downInRow wsX5_downInRow) := goodIn_app (goodIn_of _ (by decide +kernel)) ggX5_ringerAt_X5_downInRow
theorem dX5_ringerAt_0 : decode cX5_ringerAt 0 = .ok (.aload_n 0, 1) := by decide +kernel
theorem dX5_ringerAt_1 : decode cX5_ringerAt 1 = .ok (.getfield 98, 3) := by decide +kernel
theorem dX5_ringerAt_4 : decode cX5_ringerAt 4 = .ok (.istore_n 3, 1) := by decide +kernel
theorem dX5_ringerAt_5 : decode cX5_ringerAt 5 = .ok (.iconst 0, 1) := by decide +kernel
theorem dX5_ringerAt_6 : decode cX5_ringerAt 6 = .ok (.istore 4, 2) := by decide +kernel
theorem dX5_ringerAt_8 : decode cX5_ringerAt 8 = .ok (.iconst 0, 1) := by decide +kernel
theorem dX5_ringerAt_9 : decode cX5_ringerAt 9 = .ok (.istore 5, 2) := by decide +kernel
theorem dX5_ringerAt_11 : decode cX5_ringerAt 11 = .ok (.iload 5, 2) := by decide +kernel
theorem dX5_ringerAt_13 : decode cX5_ringerAt 13 = .ok (.bipush 6, 2) := by decide +kernel
theorem dX5_ringerAt_15 : decode cX5_ringerAt 15 = .ok (.if_icmp .ge 63, 3) := by decide +kernel
theorem dX5_ringerAt_18 : decode cX5_ringerAt 18 = .ok (.aload_n 0, 1) := by decide +kernel
theorem dX5_ringerAt_19 : decode cX5_ringerAt 19 = .ok (.iload_n 1, 1) := by decide +kernel
theorem dX5_ringerAt_20 : decode cX5_ringerAt 20 = .ok (.iload_n 3, 1) := by decide +kernel
theorem dX5_ringerAt_21 : decode cX5_ringerAt 21 = .ok (.iload 4, 2) := by decide +kernel
theorem dX5_ringerAt_23 : decode cX5_ringerAt 23 = .ok (.iload 5, 2) := by decide +kernel
theorem dX5_ringerAt_25 : decode cX5_ringerAt 25 = .ok (.invokestatic 252, 3) := by decide +kernel
theorem dX5_ringerAt_28 : decode cX5_ringerAt 28 = .ok (.istore 6, 2) := by decide +kernel
theorem dX5_ringerAt_30 : decode cX5_ringerAt 30 = .ok (.iload 6, 2) := by decide +kernel
theorem dX5_ringerAt_32 : decode cX5_ringerAt 32 = .ok (.bipush (-9), 2) := by decide +kernel
theorem dX5_ringerAt_34 : decode cX5_ringerAt 34 = .ok (.if_icmp .eq 9, 3) := by decide +kernel
theorem dX5_ringerAt_37 : decode cX5_ringerAt 37 = .ok (.iload 5, 2) := by decide +kernel
theorem dX5_ringerAt_39 : decode cX5_ringerAt 39 = .ok (.iload_n 2, 1) := by decide +kernel
theorem dX5_ringerAt_40 : decode cX5_ringerAt 40 = .ok (.if_icmp .ne 6, 3) := by decide +kernel
theorem dX5_ringerAt_43 : decode cX5_ringerAt 43 = .ok (.iload 6, 2) := by decide +kernel
theorem dX5_ringerAt_45 : decode cX5_ringerAt 45 = .ok (.ireturn, 1) := by decide +kernel
theorem dX5_ringerAt_46 : decode cX5_ringerAt 46 = .ok (.iload_n 3, 1) := by decide +kernel
theorem dX5_ringerAt_47 : decode cX5_ringerAt 47 = .ok (.iconst 1, 1) := by decide +kernel
theorem dX5_ringerAt_48 : decode cX5_ringerAt 48 = .ok (.aload_n 0, 1) := by decide +kernel
theorem dX5_ringerAt_49 : decode cX5_ringerAt 49 = .ok (.iload_n 1, 1) := by decide +kernel
theorem dX5_ringerAt_50 : decode cX5_ringerAt 50 = .ok (.iload_n 3, 1) := by decide +kernel
theorem dX5_ringerAt_51 : decode cX5_ringerAt 51 = .ok (.iload 4, 2) := by decide +kernel
theorem dX5_ringerAt_53 : decode cX5_ringerAt 53 = .ok (.iload 6, 2) := by decide +kernel
theorem dX5_ringerAt_55 : decode cX5_ringerAt 55 = .ok (.invokestatic 249, 3) := by decide +kernel
theorem dX5_ringerAt_58 : decode cX5_ringerAt 58 = .ok (.ishl, 1) := by decide +kernel
theorem dX5_ringerAt_59 : decode cX5_ringerAt 59 = .ok (.iconst (-1), 1) := by decide +kernel
theorem dX5_ringerAt_60 : decode cX5_ringerAt 60 = .ok (.ixor, 1) := by decide +kernel
theorem dX5_ringerAt_61 : decode cX5_ringerAt 61 = .ok (.iand, 1) := by decide +kernel
theorem dX5_ringerAt_62 : decode cX5_ringerAt 62 = .ok (.istore_n 3, 1) := by decide +kernel
theorem dX5_ringerAt_63 : decode cX5_ringerAt 63 = .ok (.iload 4, 2) := by decide +kernel
theorem dX5_ringerAt_65 : decode cX5_ringerAt 65 = .ok (.iconst 1, 1) := by decide +kernel
theorem dX5_ringerAt_66 : decode cX5_ringerAt 66 = .ok (.iload 6, 2) := by decide +kernel
theorem dX5_ringerAt_68 : decode cX5_ringerAt 68 = .ok (.ishl, 1) := by decide +kernel
theorem dX5_ringerAt_69 : decode cX5_ringerAt 69 = .ok (.ior, 1) := by decide +kernel
theorem dX5_ringerAt_70 : decode cX5_ringerAt 70 = .ok (.istore 4, 2) := by decide +kernel
theorem dX5_ringerAt_72 : decode cX5_ringerAt 72 = .ok (.iinc 5 1, 3) := by decide +kernel
theorem dX5_ringerAt_75 : decode cX5_ringerAt 75 = .ok (.goto (-64), 3) := by decide +kernel
theorem dX5_ringerAt_78 : decode cX5_ringerAt 78 = .ok (.bipush (-9), 2) := by decide +kernel
theorem dX5_ringerAt_80 : decode cX5_ringerAt 80 = .ok (.ireturn, 1) := by decide +kernel
set_option maxRecDepth 20000 in
theorem ggX5_firstRinger_X5_downInRow : GoodIn wsX5_firstRinger wsX5_downInRow := goodIn_r _ [4, 5, 6, 3, 7, 8, 9, 10, 11, 12, 13, 17, 18, 19, 20, 21, 22, 23] (by decide +kernel) (by decide +kernel)
set_option maxRecDepth 20000 in
theorem gX5_firstRinger_X5_downInRow : GoodIn wsX5_firstRinger (va_wsS RX5 249 yX5_downInRow wsX5_downInRow) := goodIn_app (goodIn_of _ (by decide +kernel)) ggX5_firstRinger_X5_downInRow
set_option maxRecDepth 20000 in
theorem ggX5_firstRinger_X5_rowsFrom : GoodIn wsX5_firstRinger wsX5_rowsFrom := goodIn_r _ [16, 1, 2, 3, 4, 5, 6, 7, 8, 9, 10, 11, 12, 13, 14, 15, 17, 18, 19, 20, 21, 22, 23] (by decide +kernel) (by decide +kernel)
set_option maxRecDepth 20000 in
theorem gX5_firstRinger_X5_rowsFrom : GoodIn wsX5_firstRinger (va_wsS RX5 163 yX5_rowsFrom wsX5_rowsFrom) := goodIn_app (goodIn_of _ (by decide +kernel)) ggX5_firstRinger_X5_rowsFrom
theorem dX5_firstRinger_0 : decode cX5_firstRinger 0 = .ok (.iconst 0, 1) := by decide +kernel
theorem dX5_firstRinger_1 : decode cX5_firstRinger 1 = .ok (.istore 5, 2) := by decide +kernel
theorem dX5_firstRinger_3 : decode cX5_firstRinger 3 = .ok (.iload 5, 2) := by decide +kernel
theorem dX5_firstRinger_5 : decode cX5_firstRinger 5 = .ok (.bipush 6, 2) := by decide +kernel
theorem dX5_firstRinger_7 : decode cX5_firstRinger 7 = .ok (.if_icmp .ge 56, 3) := by decide +kernel
theorem dX5_firstRinger_10 : decode cX5_firstRinger 10 = .ok (.aload_n 0, 1) := by decide +kernel
theorem dX5_firstRinger_11 : decode cX5_firstRinger 11 = .ok (.iload_n 1, 1) := by decide +kernel
theorem dX5_firstRinger_12 : decode cX5_firstRinger 12 = .ok (.iload_n 2, 1) := by decide +kernel
theorem dX5_firstRinger_13 : decode cX5_firstRinger 13 = .ok (.iload_n 3, 1) := by decide +kernel
theorem dX5_firstRinger_14 : decode cX5_firstRinger 14 = .ok (.iload 5, 2) := by decide +kernel
theorem dX5_firstRinger_16 : decode cX5_firstRinger 16 = .ok (.invokestatic 249, 3) := by decide +kernel
theorem dX5_firstRinger_19 : decode cX5_firstRinger 19 = .ok (.istore 6, 2) := by decide +kernel
theorem dX5_firstRinger_21 : decode cX5_firstRinger 21 = .ok (.iload 6, 2) := by decide +kernel
theorem dX5_firstRinger_23 : decode cX5_firstRinger 23 = .ok (.bipush (-9), 2) := by decide +kernel
theorem dX5_firstRinger_25 : decode cX5_firstRinger 25 = .ok (.if_icmp .eq 32, 3) := by decide +kernel
theorem dX5_firstRinger_28 : decode cX5_firstRinger 28 = .ok (.aload_n 0, 1) := by decide +kernel
theorem dX5_firstRinger_29 : decode cX5_firstRinger 29 = .ok (.iload_n 1, 1) := by decide +kernel
theorem dX5_firstRinger_30 : decode cX5_firstRinger 30 = .ok (.iload_n 2, 1) := by decide +kernel
theorem dX5_firstRinger_31 : decode cX5_firstRinger 31 = .ok (.iconst 1, 1) := by decide +kernel
theorem dX5_firstRinger_32 : decode cX5_firstRinger 32 = .ok (.iload 6, 2) := by decide +kernel
theorem dX5_firstRinger_34 : decode cX5_firstRinger 34 = .ok (.ishl, 1) := by decide +kernel
theorem dX5_firstRinger_35 : decode cX5_firstRinger 35 = .ok (.iconst (-1), 1) := by decide +kernel
theorem dX5_firstRinger_36 : decode cX5_firstRinger 36 = .ok (.ixor, 1) := by decide +kernel
theorem dX5_firstRinger_37 : decode cX5_firstRinger 37 = .ok (.iand, 1) := by decide +kernel
theorem dX5_firstRinger_38 : decode cX5_firstRinger 38 = .ok (.iload_n 3, 1) := by decide +kernel
theorem dX5_firstRinger_39 : decode cX5_firstRinger 39 = .ok (.iconst 1, 1) := by decide +kernel
theorem dX5_firstRinger_40 : decode cX5_firstRinger 40 = .ok (.iload 5, 2) := by decide +kernel
theorem dX5_firstRinger_42 : decode cX5_firstRinger 42 = .ok (.ishl, 1) := by decide +kernel
theorem dX5_firstRinger_43 : decode cX5_firstRinger 43 = .ok (.ior, 1) := by decide +kernel
theorem dX5_firstRinger_44 : decode cX5_firstRinger 44 = .ok (.iload 4, 2) := by decide +kernel
theorem dX5_firstRinger_46 : decode cX5_firstRinger 46 = .ok (.iconst 1, 1) := by decide +kernel
theorem dX5_firstRinger_47 : decode cX5_firstRinger 47 = .ok (.iadd, 1) := by decide +kernel
theorem dX5_firstRinger_48 : decode cX5_firstRinger 48 = .ok (.invokestatic 163, 3) := by decide +kernel
theorem dX5_firstRinger_51 : decode cX5_firstRinger 51 = .ok (.ifCond .le 6, 3) := by decide +kernel
theorem dX5_firstRinger_54 : decode cX5_firstRinger 54 = .ok (.iload 5, 2) := by decide +kernel
theorem dX5_firstRinger_56 : decode cX5_firstRinger 56 = .ok (.ireturn, 1) := by decide +kernel
theorem dX5_firstRinger_57 : decode cX5_firstRinger 57 = .ok (.iinc 5 1, 3) := by decide +kernel
theorem dX5_firstRinger_60 : decode cX5_firstRinger 60 = .ok (.goto (-57), 3) := by decide +kernel
theorem dX5_firstRinger_63 : decode cX5_firstRinger 63 = .ok (.bipush (-9), 2) := by decide +kernel
theorem dX5_firstRinger_65 : decode cX5_firstRinger 65 = .ok (.ireturn, 1) := by decide +kernel
set_option maxRecDepth 20000 in
theorem ggX5_aheadOf_X1_thoughtOf : GoodIn wsX5_aheadOf wsX1_thoughtOf := goodIn_r _ [9, 10, 35, 36, 37, 38, 39, 40, 41] (by decide +kernel) (by decide +kernel)
set_option maxRecDepth 20000 in
theorem gX5_aheadOf_X1_thoughtOf : GoodIn wsX5_aheadOf (wsV RX5 112 RX1 yX1_thoughtOf wsX1_thoughtOf) := goodIn_app (goodIn_of _ (by decide +kernel)) ggX5_aheadOf_X1_thoughtOf
set_option maxRecDepth 20000 in
theorem ggX5_aheadOf_X1_isAboard : GoodIn wsX5_aheadOf wsX1_isAboard := goodIn_r _ [14, 15, 35, 36, 37, 38, 39, 40, 41] (by decide +kernel) (by decide +kernel)
set_option maxRecDepth 20000 in
theorem gX5_aheadOf_X1_isAboard : GoodIn wsX5_aheadOf (wsV RX5 88 RX1 yX1_isAboard wsX1_isAboard) := goodIn_app (goodIn_of _ (by decide +kernel)) ggX5_aheadOf_X1_isAboard
theorem dX5_aheadOf_0 : decode cX5_aheadOf 0 = .ok (.aload_n 0, 1) := by decide +kernel
theorem dX5_aheadOf_1 : decode cX5_aheadOf 1 = .ok (.getfield 29, 3) := by decide +kernel
theorem dX5_aheadOf_4 : decode cX5_aheadOf 4 = .ok (.getfield 76, 3) := by decide +kernel
theorem dX5_aheadOf_7 : decode cX5_aheadOf 7 = .ok (.astore_n 3, 1) := by decide +kernel
theorem dX5_aheadOf_8 : decode cX5_aheadOf 8 = .ok (.aload_n 3, 1) := by decide +kernel
theorem dX5_aheadOf_9 : decode cX5_aheadOf 9 = .ok (.iload_n 2, 1) := by decide +kernel
theorem dX5_aheadOf_10 : decode cX5_aheadOf 10 = .ok (.iload_n 1, 1) := by decide +kernel
theorem dX5_aheadOf_11 : decode cX5_aheadOf 11 = .ok (.invokevirtual 112, 3) := by decide +kernel
theorem dX5_aheadOf_14 : decode cX5_aheadOf 14 = .ok (.istore 4, 2) := by decide +kernel
theorem dX5_aheadOf_16 : decode cX5_aheadOf 16 = .ok (.iconst 0, 1) := by decide +kernel
theorem dX5_aheadOf_17 : decode cX5_aheadOf 17 = .ok (.istore 5, 2) := by decide +kernel
theorem dX5_aheadOf_19 : decode cX5_aheadOf 19 = .ok (.iconst 0, 1) := by decide +kernel
theorem dX5_aheadOf_20 : decode cX5_aheadOf 20 = .ok (.istore 6, 2) := by decide +kernel
theorem dX5_aheadOf_22 : decode cX5_aheadOf 22 = .ok (.iload 6, 2) := by decide +kernel
theorem dX5_aheadOf_24 : decode cX5_aheadOf 24 = .ok (.aload_n 0, 1) := by decide +kernel
theorem dX5_aheadOf_25 : decode cX5_aheadOf 25 = .ok (.getfield 19, 3) := by decide +kernel
theorem dX5_aheadOf_28 : decode cX5_aheadOf 28 = .ok (.getfield 200, 3) := by decide +kernel
theorem dX5_aheadOf_31 : decode cX5_aheadOf 31 = .ok (.if_icmp .ge 39, 3) := by decide +kernel
theorem dX5_aheadOf_34 : decode cX5_aheadOf 34 = .ok (.iload 6, 2) := by decide +kernel
theorem dX5_aheadOf_36 : decode cX5_aheadOf 36 = .ok (.iload_n 1, 1) := by decide +kernel
theorem dX5_aheadOf_37 : decode cX5_aheadOf 37 = .ok (.if_icmp .eq 27, 3) := by decide +kernel
theorem dX5_aheadOf_40 : decode cX5_aheadOf 40 = .ok (.aload_n 3, 1) := by decide +kernel
theorem dX5_aheadOf_41 : decode cX5_aheadOf 41 = .ok (.iload 6, 2) := by decide +kernel
theorem dX5_aheadOf_43 : decode cX5_aheadOf 43 = .ok (.invokevirtual 88, 3) := by decide +kernel
theorem dX5_aheadOf_46 : decode cX5_aheadOf 46 = .ok (.ifCond .eq 18, 3) := by decide +kernel
theorem dX5_aheadOf_49 : decode cX5_aheadOf 49 = .ok (.aload_n 3, 1) := by decide +kernel
theorem dX5_aheadOf_50 : decode cX5_aheadOf 50 = .ok (.iload 6, 2) := by decide +kernel
theorem dX5_aheadOf_52 : decode cX5_aheadOf 52 = .ok (.iload_n 1, 1) := by decide +kernel
theorem dX5_aheadOf_53 : decode cX5_aheadOf 53 = .ok (.invokevirtual 112, 3) := by decide +kernel
theorem dX5_aheadOf_56 : decode cX5_aheadOf 56 = .ok (.iload 4, 2) := by decide +kernel
theorem dX5_aheadOf_58 : decode cX5_aheadOf 58 = .ok (.if_icmp .le 6, 3) := by decide +kernel
theorem dX5_aheadOf_61 : decode cX5_aheadOf 61 = .ok (.iinc 5 1, 3) := by decide +kernel
theorem dX5_aheadOf_64 : decode cX5_aheadOf 64 = .ok (.iinc 6 1, 3) := by decide +kernel
theorem dX5_aheadOf_67 : decode cX5_aheadOf 67 = .ok (.goto (-45), 3) := by decide +kernel
theorem dX5_aheadOf_70 : decode cX5_aheadOf 70 = .ok (.iload 5, 2) := by decide +kernel
theorem dX5_aheadOf_72 : decode cX5_aheadOf 72 = .ok (.ireturn, 1) := by decide +kernel
set_option maxRecDepth 20000 in
theorem ggX5_oddsUpper_X1_thoughtOf : GoodIn wsX5_oddsUpper wsX1_thoughtOf := goodIn_r _ [7, 8, 37, 38, 39, 40, 41, 42, 43] (by decide +kernel) (by decide +kernel)
set_option maxRecDepth 20000 in
theorem gX5_oddsUpper_X1_thoughtOf : GoodIn wsX5_oddsUpper (wsV RX5 112 RX1 yX1_thoughtOf wsX1_thoughtOf) := goodIn_app (goodIn_of _ (by decide +kernel)) ggX5_oddsUpper_X1_thoughtOf
set_option maxRecDepth 20000 in
theorem ggX5_oddsUpper_X5_aheadOf : GoodIn wsX5_oddsUpper wsX5_aheadOf := goodIn_r _ [13, 1, 2, 14, 15, 3, 4, 5, 6, 7, 8, 16, 17, 18, 19, 20, 24, 25, 26, 27, 28, 29, 30, 31, 32, 33, 34, 35, 36, 44, 45, 46, 47, 48, 49, 37, 38, 39, 40, 41, 42, 43] (by decide +kernel) (by decide +kernel)
set_option maxRecDepth 20000 in
theorem gX5_oddsUpper_X5_aheadOf : GoodIn wsX5_oddsUpper (wsV RX5 255 RX5 yX5_aheadOf wsX5_aheadOf) := goodIn_app (goodIn_of _ (by decide +kernel)) ggX5_oddsUpper_X5_aheadOf
set_option maxRecDepth 20000 in
theorem ggX5_oddsUpper_X5_power : GoodIn wsX5_oddsUpper wsX5_power := goodIn_r _ [23] (by decide +kernel) (by decide +kernel)
set_option maxRecDepth 20000 in
theorem gX5_oddsUpper_X5_power : GoodIn wsX5_oddsUpper (va_wsS RX5 258 yX5_power wsX5_power) := goodIn_app (goodIn_of _ (by decide +kernel)) ggX5_oddsUpper_X5_power
theorem dX5_oddsUpper_0 : decode cX5_oddsUpper 0 = .ok (.aload_n 0, 1) := by decide +kernel
theorem dX5_oddsUpper_1 : decode cX5_oddsUpper 1 = .ok (.getfield 29, 3) := by decide +kernel
theorem dX5_oddsUpper_4 : decode cX5_oddsUpper 4 = .ok (.getfield 76, 3) := by decide +kernel
theorem dX5_oddsUpper_7 : decode cX5_oddsUpper 7 = .ok (.iload_n 2, 1) := by decide +kernel
theorem dX5_oddsUpper_8 : decode cX5_oddsUpper 8 = .ok (.iload_n 1, 1) := by decide +kernel
theorem dX5_oddsUpper_9 : decode cX5_oddsUpper 9 = .ok (.invokevirtual 112, 3) := by decide +kernel
theorem dX5_oddsUpper_12 : decode cX5_oddsUpper 12 = .ok (.ifCond .ne 5, 3) := by decide +kernel
theorem dX5_oddsUpper_15 : decode cX5_oddsUpper 15 = .ok (.iconst 0, 1) := by decide +kernel
theorem dX5_oddsUpper_16 : decode cX5_oddsUpper 16 = .ok (.ireturn, 1) := by decide +kernel
theorem dX5_oddsUpper_17 : decode cX5_oddsUpper 17 = .ok (.bipush 10, 2) := by decide +kernel
theorem dX5_oddsUpper_19 : decode cX5_oddsUpper 19 = .ok (.iload_n 3, 1) := by decide +kernel
theorem dX5_oddsUpper_20 : decode cX5_oddsUpper 20 = .ok (.isub, 1) := by decide +kernel
theorem dX5_oddsUpper_21 : decode cX5_oddsUpper 21 = .ok (.iload_n 3, 1) := by decide +kernel
theorem dX5_oddsUpper_22 : decode cX5_oddsUpper 22 = .ok (.aload_n 0, 1) := by decide +kernel
theorem dX5_oddsUpper_23 : decode cX5_oddsUpper 23 = .ok (.iload_n 1, 1) := by decide +kernel
theorem dX5_oddsUpper_24 : decode cX5_oddsUpper 24 = .ok (.iload_n 2, 1) := by decide +kernel
theorem dX5_oddsUpper_25 : decode cX5_oddsUpper 25 = .ok (.invokevirtual 255, 3) := by decide +kernel
theorem dX5_oddsUpper_28 : decode cX5_oddsUpper 28 = .ok (.invokestatic 258, 3) := by decide +kernel
theorem dX5_oddsUpper_31 : decode cX5_oddsUpper 31 = .ok (.imul, 1) := by decide +kernel
theorem dX5_oddsUpper_32 : decode cX5_oddsUpper 32 = .ok (.ireturn, 1) := by decide +kernel
set_option maxRecDepth 20000 in
theorem ggX5_oddsLower_X5_aheadOf : GoodIn wsX5_oddsLower wsX5_aheadOf := goodIn_r _ [5, 6, 7, 8, 9, 10, 11, 12, 13, 14, 15, 16, 17, 18, 19, 20, 24, 25, 26, 27, 28, 29, 30, 31, 32, 33, 34, 35, 36, 37, 38, 39, 40, 41, 42, 43, 44, 45, 46, 47, 48, 49] (by decide +kernel) (by decide +kernel)
set_option maxRecDepth 20000 in
theorem gX5_oddsLower_X5_aheadOf : GoodIn wsX5_oddsLower (wsV RX5 255 RX5 yX5_aheadOf wsX5_aheadOf) := goodIn_app (goodIn_of _ (by decide +kernel)) ggX5_oddsLower_X5_aheadOf
set_option maxRecDepth 20000 in
theorem ggX5_oddsLower_X5_power : GoodIn wsX5_oddsLower wsX5_power := goodIn_r _ [23] (by decide +kernel) (by decide +kernel)
set_option maxRecDepth 20000 in
theorem gX5_oddsLower_X5_power : GoodIn wsX5_oddsLower (va_wsS RX5 258 yX5_power wsX5_power) := goodIn_app (goodIn_of _ (by decide +kernel)) ggX5_oddsLower_X5_power
theorem dX5_oddsLower_0 : decode cX5_oddsLower 0 = .ok (.bipush 10, 2) := by decide +kernel
theorem dX5_oddsLower_2 : decode cX5_oddsLower 2 = .ok (.bipush 10, 2) := by decide +kernel
theorem dX5_oddsLower_4 : decode cX5_oddsLower 4 = .ok (.aload_n 0, 1) := by decide +kernel
theorem dX5_oddsLower_5 : decode cX5_oddsLower 5 = .ok (.iload_n 1, 1) := by decide +kernel
theorem dX5_oddsLower_6 : decode cX5_oddsLower 6 = .ok (.iload_n 2, 1) := by decide +kernel
theorem dX5_oddsLower_7 : decode cX5_oddsLower 7 = .ok (.invokevirtual 255, 3) := by decide +kernel
theorem dX5_oddsLower_10 : decode cX5_oddsLower 10 = .ok (.invokestatic 258, 3) := by decide +kernel
theorem dX5_oddsLower_13 : decode cX5_oddsLower 13 = .ok (.imul, 1) := by decide +kernel
theorem dX5_oddsLower_14 : decode cX5_oddsLower 14 = .ok (.ireturn, 1) := by decide +kernel
theorem dX5_power_0 : decode cX5_power 0 = .ok (.iconst 1, 1) := by decide +kernel
theorem dX5_power_1 : decode cX5_power 1 = .ok (.istore_n 2, 1) := by decide +kernel
theorem dX5_power_2 : decode cX5_power 2 = .ok (.iconst 0, 1) := by decide +kernel
theorem dX5_power_3 : decode cX5_power 3 = .ok (.istore_n 3, 1) := by decide +kernel
theorem dX5_power_4 : decode cX5_power 4 = .ok (.iload_n 3, 1) := by decide +kernel
theorem dX5_power_5 : decode cX5_power 5 = .ok (.iload_n 1, 1) := by decide +kernel
theorem dX5_power_6 : decode cX5_power 6 = .ok (.if_icmp .ge 13, 3) := by decide +kernel
theorem dX5_power_9 : decode cX5_power 9 = .ok (.iload_n 2, 1) := by decide +kernel
theorem dX5_power_10 : decode cX5_power 10 = .ok (.iload_n 0, 1) := by decide +kernel
theorem dX5_power_11 : decode cX5_power 11 = .ok (.imul, 1) := by decide +kernel
theorem dX5_power_12 : decode cX5_power 12 = .ok (.istore_n 2, 1) := by decide +kernel
theorem dX5_power_13 : decode cX5_power 13 = .ok (.iinc 3 1, 3) := by decide +kernel
theorem dX5_power_16 : decode cX5_power 16 = .ok (.goto (-12), 3) := by decide +kernel
theorem dX5_power_19 : decode cX5_power 19 = .ok (.iload_n 2, 1) := by decide +kernel
theorem dX5_power_20 : decode cX5_power 20 = .ok (.ireturn, 1) := by decide +kernel
theorem dX5_commonDivisor_0 : decode cX5_commonDivisor 0 = .ok (.iload_n 0, 1) := by decide +kernel
theorem dX5_commonDivisor_1 : decode cX5_commonDivisor 1 = .ok (.istore_n 2, 1) := by decide +kernel
theorem dX5_commonDivisor_2 : decode cX5_commonDivisor 2 = .ok (.iload_n 1, 1) := by decide +kernel
theorem dX5_commonDivisor_3 : decode cX5_commonDivisor 3 = .ok (.istore_n 3, 1) := by decide +kernel
theorem dX5_commonDivisor_4 : decode cX5_commonDivisor 4 = .ok (.iconst 0, 1) := by decide +kernel
theorem dX5_commonDivisor_5 : decode cX5_commonDivisor 5 = .ok (.istore 4, 2) := by decide +kernel
theorem dX5_commonDivisor_7 : decode cX5_commonDivisor 7 = .ok (.iload 4, 2) := by decide +kernel
theorem dX5_commonDivisor_9 : decode cX5_commonDivisor 9 = .ok (.bipush 64, 2) := by decide +kernel
theorem dX5_commonDivisor_11 : decode cX5_commonDivisor 11 = .ok (.if_icmp .ge 23, 3) := by decide +kernel
theorem dX5_commonDivisor_14 : decode cX5_commonDivisor 14 = .ok (.iload_n 3, 1) := by decide +kernel
theorem dX5_commonDivisor_15 : decode cX5_commonDivisor 15 = .ok (.ifCond .eq 19, 3) := by decide +kernel
theorem dX5_commonDivisor_18 : decode cX5_commonDivisor 18 = .ok (.iload_n 2, 1) := by decide +kernel
theorem dX5_commonDivisor_19 : decode cX5_commonDivisor 19 = .ok (.iload_n 3, 1) := by decide +kernel
theorem dX5_commonDivisor_20 : decode cX5_commonDivisor 20 = .ok (.irem, 1) := by decide +kernel
theorem dX5_commonDivisor_21 : decode cX5_commonDivisor 21 = .ok (.istore 5, 2) := by decide +kernel
theorem dX5_commonDivisor_23 : decode cX5_commonDivisor 23 = .ok (.iload_n 3, 1) := by decide +kernel
theorem dX5_commonDivisor_24 : decode cX5_commonDivisor 24 = .ok (.istore_n 2, 1) := by decide +kernel
theorem dX5_commonDivisor_25 : decode cX5_commonDivisor 25 = .ok (.iload 5, 2) := by decide +kernel
theorem dX5_commonDivisor_27 : decode cX5_commonDivisor 27 = .ok (.istore_n 3, 1) := by decide +kernel
theorem dX5_commonDivisor_28 : decode cX5_commonDivisor 28 = .ok (.iinc 4 1, 3) := by decide +kernel
theorem dX5_commonDivisor_31 : decode cX5_commonDivisor 31 = .ok (.goto (-24), 3) := by decide +kernel
theorem dX5_commonDivisor_34 : decode cX5_commonDivisor 34 = .ok (.iload_n 2, 1) := by decide +kernel
theorem dX5_commonDivisor_35 : decode cX5_commonDivisor 35 = .ok (.ireturn, 1) := by decide +kernel
set_option maxRecDepth 20000 in
theorem ggX5_fittingLaws_X5_fitsSeen : GoodIn wsX5_fittingLaws wsX5_fitsSeen := goodIn_r _ [5, 6, 7, 8, 9, 10, 11, 12, 13, 4, 14, 15, 16, 17, 18, 19, 20, 21, 22, 23, 24, 25, 26, 27, 28, 29, 30, 31, 32, 33, 34, 35, 36, 37, 38, 39, 40, 41, 42, 43, 44, 45, 46, 47, 48, 49, 50, 51, 52, 53, 54, 55, 56, 57, 58, 59, 60, 61, 62, 63, 64, 65, 66] (by decide +kernel) (by decide +kernel)
set_option maxRecDepth 20000 in
theorem gX5_fittingLaws_X5_fitsSeen : GoodIn wsX5_fittingLaws (wsV RX5 261 RX5 yX5_fitsSeen wsX5_fitsSeen) := goodIn_app (goodIn_of _ (by decide +kernel)) ggX5_fittingLaws_X5_fitsSeen
theorem dX5_fittingLaws_0 : decode cX5_fittingLaws 0 = .ok (.iconst 0, 1) := by decide +kernel
theorem dX5_fittingLaws_1 : decode cX5_fittingLaws 1 = .ok (.istore_n 2, 1) := by decide +kernel
theorem dX5_fittingLaws_2 : decode cX5_fittingLaws 2 = .ok (.iconst 0, 1) := by decide +kernel
theorem dX5_fittingLaws_3 : decode cX5_fittingLaws 3 = .ok (.istore_n 3, 1) := by decide +kernel
theorem dX5_fittingLaws_4 : decode cX5_fittingLaws 4 = .ok (.iload_n 3, 1) := by decide +kernel
theorem dX5_fittingLaws_5 : decode cX5_fittingLaws 5 = .ok (.iconst 3, 1) := by decide +kernel
theorem dX5_fittingLaws_6 : decode cX5_fittingLaws 6 = .ok (.if_icmp .ge 24, 3) := by decide +kernel
theorem dX5_fittingLaws_9 : decode cX5_fittingLaws 9 = .ok (.aload_n 0, 1) := by decide +kernel
theorem dX5_fittingLaws_10 : decode cX5_fittingLaws 10 = .ok (.iload_n 1, 1) := by decide +kernel
theorem dX5_fittingLaws_11 : decode cX5_fittingLaws 11 = .ok (.iload_n 3, 1) := by decide +kernel
theorem dX5_fittingLaws_12 : decode cX5_fittingLaws 12 = .ok (.invokevirtual 261, 3) := by decide +kernel
theorem dX5_fittingLaws_15 : decode cX5_fittingLaws 15 = .ok (.ifCond .eq 9, 3) := by decide +kernel
theorem dX5_fittingLaws_18 : decode cX5_fittingLaws 18 = .ok (.iload_n 2, 1) := by decide +kernel
theorem dX5_fittingLaws_19 : decode cX5_fittingLaws 19 = .ok (.iconst 1, 1) := by decide +kernel
theorem dX5_fittingLaws_20 : decode cX5_fittingLaws 20 = .ok (.iload_n 3, 1) := by decide +kernel
theorem dX5_fittingLaws_21 : decode cX5_fittingLaws 21 = .ok (.ishl, 1) := by decide +kernel
theorem dX5_fittingLaws_22 : decode cX5_fittingLaws 22 = .ok (.ior, 1) := by decide +kernel
theorem dX5_fittingLaws_23 : decode cX5_fittingLaws 23 = .ok (.istore_n 2, 1) := by decide +kernel
theorem dX5_fittingLaws_24 : decode cX5_fittingLaws 24 = .ok (.iinc 3 1, 3) := by decide +kernel
theorem dX5_fittingLaws_27 : decode cX5_fittingLaws 27 = .ok (.goto (-23), 3) := by decide +kernel
theorem dX5_fittingLaws_30 : decode cX5_fittingLaws 30 = .ok (.iload_n 2, 1) := by decide +kernel
theorem dX5_fittingLaws_31 : decode cX5_fittingLaws 31 = .ok (.ireturn, 1) := by decide +kernel
set_option maxRecDepth 20000 in
theorem ggX5_fitsSeen_X5_whom : GoodIn wsX5_fitsSeen wsX5_whom := goodIn_r _ [10, 11, 12, 13, 14, 15, 16, 17, 18, 19, 20, 9, 21, 22, 23, 24, 25, 26, 27, 28, 29, 30, 31, 32, 33, 34, 35, 36, 50, 51, 52, 53, 54, 55, 56, 37, 38, 39, 40, 41, 42, 43, 44, 45, 46, 47, 57, 58, 59, 60, 61, 62] (by decide +kernel) (by decide +kernel)
set_option maxRecDepth 20000 in
theorem gX5_fitsSeen_X5_whom : GoodIn wsX5_fitsSeen (wsV RX5 94 RX5 yX5_whom wsX5_whom) := goodIn_app (goodIn_of _ (by decide +kernel)) ggX5_fitsSeen_X5_whom
theorem dX5_fitsSeen_0 : decode cX5_fitsSeen 0 = .ok (.aload_n 0, 1) := by decide +kernel
theorem dX5_fitsSeen_1 : decode cX5_fitsSeen 1 = .ok (.aload_n 0, 1) := by decide +kernel
theorem dX5_fitsSeen_2 : decode cX5_fitsSeen 2 = .ok (.getfield 29, 3) := by decide +kernel
theorem dX5_fitsSeen_5 : decode cX5_fitsSeen 5 = .ok (.getfield 76, 3) := by decide +kernel
theorem dX5_fitsSeen_8 : decode cX5_fitsSeen 8 = .ok (.iload_n 1, 1) := by decide +kernel
theorem dX5_fitsSeen_9 : decode cX5_fitsSeen 9 = .ok (.iload_n 2, 1) := by decide +kernel
theorem dX5_fitsSeen_10 : decode cX5_fitsSeen 10 = .ok (.invokevirtual 94, 3) := by decide +kernel
theorem dX5_fitsSeen_13 : decode cX5_fitsSeen 13 = .ok (.istore_n 3, 1) := by decide +kernel
theorem dX5_fitsSeen_14 : decode cX5_fitsSeen 14 = .ok (.iconst 0, 1) := by decide +kernel
theorem dX5_fitsSeen_15 : decode cX5_fitsSeen 15 = .ok (.istore 4, 2) := by decide +kernel
theorem dX5_fitsSeen_17 : decode cX5_fitsSeen 17 = .ok (.iload 4, 2) := by decide +kernel
theorem dX5_fitsSeen_19 : decode cX5_fitsSeen 19 = .ok (.aload_n 0, 1) := by decide +kernel
theorem dX5_fitsSeen_20 : decode cX5_fitsSeen 20 = .ok (.getfield 194, 3) := by decide +kernel
theorem dX5_fitsSeen_23 : decode cX5_fitsSeen 23 = .ok (.if_icmp .ge 33, 3) := by decide +kernel
theorem dX5_fitsSeen_26 : decode cX5_fitsSeen 26 = .ok (.aload_n 0, 1) := by decide +kernel
theorem dX5_fitsSeen_27 : decode cX5_fitsSeen 27 = .ok (.getfield 44, 3) := by decide +kernel
theorem dX5_fitsSeen_30 : decode cX5_fitsSeen 30 = .ok (.iload 4, 2) := by decide +kernel
theorem dX5_fitsSeen_32 : decode cX5_fitsSeen 32 = .ok (.iaload, 1) := by decide +kernel
theorem dX5_fitsSeen_33 : decode cX5_fitsSeen 33 = .ok (.iload_n 1, 1) := by decide +kernel
theorem dX5_fitsSeen_34 : decode cX5_fitsSeen 34 = .ok (.if_icmp .ne 16, 3) := by decide +kernel
theorem dX5_fitsSeen_37 : decode cX5_fitsSeen 37 = .ok (.aload_n 0, 1) := by decide +kernel
theorem dX5_fitsSeen_38 : decode cX5_fitsSeen 38 = .ok (.getfield 48, 3) := by decide +kernel
theorem dX5_fitsSeen_41 : decode cX5_fitsSeen 41 = .ok (.iload 4, 2) := by decide +kernel
theorem dX5_fitsSeen_43 : decode cX5_fitsSeen 43 = .ok (.iaload, 1) := by decide +kernel
theorem dX5_fitsSeen_44 : decode cX5_fitsSeen 44 = .ok (.iload_n 3, 1) := by decide +kernel
theorem dX5_fitsSeen_45 : decode cX5_fitsSeen 45 = .ok (.if_icmp .eq 5, 3) := by decide +kernel
theorem dX5_fitsSeen_48 : decode cX5_fitsSeen 48 = .ok (.iconst 0, 1) := by decide +kernel
theorem dX5_fitsSeen_49 : decode cX5_fitsSeen 49 = .ok (.ireturn, 1) := by decide +kernel
theorem dX5_fitsSeen_50 : decode cX5_fitsSeen 50 = .ok (.iinc 4 1, 3) := by decide +kernel
theorem dX5_fitsSeen_53 : decode cX5_fitsSeen 53 = .ok (.goto (-36), 3) := by decide +kernel
theorem dX5_fitsSeen_56 : decode cX5_fitsSeen 56 = .ok (.iconst 1, 1) := by decide +kernel
theorem dX5_fitsSeen_57 : decode cX5_fitsSeen 57 = .ok (.ireturn, 1) := by decide +kernel
theorem dX5_riderMark_0 : decode cX5_riderMark 0 = .ok (.aload_n 0, 1) := by decide +kernel
theorem dX5_riderMark_1 : decode cX5_riderMark 1 = .ok (.dup, 1) := by decide +kernel
theorem dX5_riderMark_2 : decode cX5_riderMark 2 = .ok (.getfield 231, 3) := by decide +kernel
theorem dX5_riderMark_5 : decode cX5_riderMark 5 = .ok (.lconst 1, 1) := by decide +kernel
theorem dX5_riderMark_6 : decode cX5_riderMark 6 = .ok (.ladd, 1) := by decide +kernel
theorem dX5_riderMark_7 : decode cX5_riderMark 7 = .ok (.putfield 231, 3) := by decide +kernel
theorem dX5_riderMark_10 : decode cX5_riderMark 10 = .ok (.aload_n 0, 1) := by decide +kernel
theorem dX5_riderMark_11 : decode cX5_riderMark 11 = .ok (.getfield 29, 3) := by decide +kernel
theorem dX5_riderMark_14 : decode cX5_riderMark 14 = .ok (.getfield 76, 3) := by decide +kernel
theorem dX5_riderMark_17 : decode cX5_riderMark 17 = .ok (.getfield 79, 3) := by decide +kernel
theorem dX5_riderMark_20 : decode cX5_riderMark 20 = .ok (.iload_n 1, 1) := by decide +kernel
theorem dX5_riderMark_21 : decode cX5_riderMark 21 = .ok (.iaload, 1) := by decide +kernel
theorem dX5_riderMark_22 : decode cX5_riderMark 22 = .ok (.ireturn, 1) := by decide +kernel
set_option maxRecDepth 20000 in
theorem ggX5_nunMark_X5_riderMark : GoodIn wsX5_nunMark wsX5_riderMark := goodIn_r _ [9, 1, 10, 11, 12, 13, 14, 15, 16, 17, 18, 19, 20, 21, 22, 23, 30, 31, 32, 33, 34, 35, 36, 37, 38] (by decide +kernel) (by decide +kernel)
set_option maxRecDepth 20000 in
theorem gX5_nunMark_X5_riderMark : GoodIn wsX5_nunMark (wsV RX5 204 RX5 yX5_riderMark wsX5_riderMark) := goodIn_app (goodIn_of _ (by decide +kernel)) ggX5_nunMark_X5_riderMark
theorem dX5_nunMark_0 : decode cX5_nunMark 0 = .ok (.aload_n 0, 1) := by decide +kernel
theorem dX5_nunMark_1 : decode cX5_nunMark 1 = .ok (.dup, 1) := by decide +kernel
theorem dX5_nunMark_2 : decode cX5_nunMark 2 = .ok (.getfield 231, 3) := by decide +kernel
theorem dX5_nunMark_5 : decode cX5_nunMark 5 = .ok (.ldc2_w 264, 3) := by decide +kernel
theorem dX5_nunMark_8 : decode cX5_nunMark 8 = .ok (.ladd, 1) := by decide +kernel
theorem dX5_nunMark_9 : decode cX5_nunMark 9 = .ok (.putfield 231, 3) := by decide +kernel
theorem dX5_nunMark_12 : decode cX5_nunMark 12 = .ok (.aload_n 0, 1) := by decide +kernel
theorem dX5_nunMark_13 : decode cX5_nunMark 13 = .ok (.iload_n 1, 1) := by decide +kernel
theorem dX5_nunMark_14 : decode cX5_nunMark 14 = .ok (.invokevirtual 204, 3) := by decide +kernel
theorem dX5_nunMark_17 : decode cX5_nunMark 17 = .ok (.aload_n 0, 1) := by decide +kernel
theorem dX5_nunMark_18 : decode cX5_nunMark 18 = .ok (.getfield 19, 3) := by decide +kernel
theorem dX5_nunMark_21 : decode cX5_nunMark 21 = .ok (.getfield 82, 3) := by decide +kernel
theorem dX5_nunMark_24 : decode cX5_nunMark 24 = .ok (.iload_n 1, 1) := by decide +kernel
theorem dX5_nunMark_25 : decode cX5_nunMark 25 = .ok (.iaload, 1) := by decide +kernel
theorem dX5_nunMark_26 : decode cX5_nunMark 26 = .ok (.iadd, 1) := by decide +kernel
theorem dX5_nunMark_27 : decode cX5_nunMark 27 = .ok (.ireturn, 1) := by decide +kernel
set_option maxRecDepth 20000 in
theorem ggX5_boyMark_X5_riderMark : GoodIn wsX5_boyMark wsX5_riderMark := goodIn_r _ [7, 1, 8, 9, 10, 23, 24, 25, 26, 27, 28, 29, 30, 31, 32, 33, 34, 35, 36, 37, 38, 39, 40, 41, 42] (by decide +kernel) (by decide +kernel)
set_option maxRecDepth 20000 in
theorem gX5_boyMark_X5_riderMark : GoodIn wsX5_boyMark (wsV RX5 204 RX5 yX5_riderMark wsX5_riderMark) := goodIn_app (goodIn_of _ (by decide +kernel)) ggX5_boyMark_X5_riderMark
set_option maxRecDepth 20000 in
theorem ggX5_boyMark_X5_thinkersOf : GoodIn wsX5_boyMark wsX5_thinkersOf := goodIn_r _ [14, 15, 16, 8, 9, 17, 18, 19, 20, 21, 22, 23, 24, 25, 26, 27, 28, 29, 30, 31, 32, 33, 43, 44, 45, 46, 47, 48, 34, 35, 36, 37, 38, 39, 40, 41, 42] (by decide +kernel) (by decide +kernel)
set_option maxRecDepth 20000 in
theorem gX5_boyMark_X5_thinkersOf : GoodIn wsX5_boyMark (wsV RX5 268 RX5 yX5_thinkersOf wsX5_thinkersOf) := goodIn_app (goodIn_of _ (by decide +kernel)) ggX5_boyMark_X5_thinkersOf
theorem dX5_boyMark_0 : decode cX5_boyMark 0 = .ok (.aload_n 0, 1) := by decide +kernel
theorem dX5_boyMark_1 : decode cX5_boyMark 1 = .ok (.dup, 1) := by decide +kernel
theorem dX5_boyMark_2 : decode cX5_boyMark 2 = .ok (.getfield 231, 3) := by decide +kernel
theorem dX5_boyMark_5 : decode cX5_boyMark 5 = .ok (.ldc2_w 266, 3) := by decide +kernel
theorem dX5_boyMark_8 : decode cX5_boyMark 8 = .ok (.ladd, 1) := by decide +kernel
theorem dX5_boyMark_9 : decode cX5_boyMark 9 = .ok (.putfield 231, 3) := by decide +kernel
theorem dX5_boyMark_12 : decode cX5_boyMark 12 = .ok (.aload_n 0, 1) := by decide +kernel
theorem dX5_boyMark_13 : decode cX5_boyMark 13 = .ok (.iload_n 1, 1) := by decide +kernel
theorem dX5_boyMark_14 : decode cX5_boyMark 14 = .ok (.invokevirtual 204, 3) := by decide +kernel
theorem dX5_boyMark_17 : decode cX5_boyMark 17 = .ok (.aload_n 0, 1) := by decide +kernel
theorem dX5_boyMark_18 : decode cX5_boyMark 18 = .ok (.iload_n 1, 1) := by decide +kernel
theorem dX5_boyMark_19 : decode cX5_boyMark 19 = .ok (.invokevirtual 268, 3) := by decide +kernel
theorem dX5_boyMark_22 : decode cX5_boyMark 22 = .ok (.isub, 1) := by decide +kernel
theorem dX5_boyMark_23 : decode cX5_boyMark 23 = .ok (.ireturn, 1) := by decide +kernel
set_option maxRecDepth 20000 in
theorem ggX5_widowerMark_X5_nunMark : GoodIn wsX5_widowerMark wsX5_nunMark := goodIn_r _ [7, 1, 8, 9, 10, 11, 12, 13, 6, 14, 15, 16, 17, 18, 19, 20, 21, 22, 23, 24, 25, 26, 27, 28, 29, 30, 31, 32, 33, 34, 35, 36, 37, 38, 39, 40, 41, 42, 43] (by decide +kernel) (by decide +kernel)
set_option maxRecDepth 20000 in
theorem gX5_widowerMark_X5_nunMark : GoodIn wsX5_widowerMark (wsV RX5 207 RX5 yX5_nunMark wsX5_nunMark) := goodIn_app (goodIn_of _ (by decide +kernel)) ggX5_widowerMark_X5_nunMark
theorem dX5_widowerMark_0 : decode cX5_widowerMark 0 = .ok (.aload_n 0, 1) := by decide +kernel
theorem dX5_widowerMark_1 : decode cX5_widowerMark 1 = .ok (.dup, 1) := by decide +kernel
theorem dX5_widowerMark_2 : decode cX5_widowerMark 2 = .ok (.getfield 231, 3) := by decide +kernel
theorem dX5_widowerMark_5 : decode cX5_widowerMark 5 = .ok (.ldc2_w 271, 3) := by decide +kernel
theorem dX5_widowerMark_8 : decode cX5_widowerMark 8 = .ok (.ladd, 1) := by decide +kernel
theorem dX5_widowerMark_9 : decode cX5_widowerMark 9 = .ok (.putfield 231, 3) := by decide +kernel
theorem dX5_widowerMark_12 : decode cX5_widowerMark 12 = .ok (.aload_n 0, 1) := by decide +kernel
theorem dX5_widowerMark_13 : decode cX5_widowerMark 13 = .ok (.iload_n 1, 1) := by decide +kernel
theorem dX5_widowerMark_14 : decode cX5_widowerMark 14 = .ok (.invokevirtual 207, 3) := by decide +kernel
theorem dX5_widowerMark_17 : decode cX5_widowerMark 17 = .ok (.iconst 2, 1) := by decide +kernel
