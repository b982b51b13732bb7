theorem dX5_widowerMark_18 : decode cX5_widowerMark 18 = .ok (.imul, 1) := by decide +kernel
theorem dX5_widowerMark_19 : decode cX5_widowerMark 19 = .ok (.ireturn, 1) := by decide +kernel
set_option maxRecDepth 20000 in
theorem ggX5_girlMark_X5_boyMark : GoodIn wsX5_girlMark wsX5_boyMark := goodIn_r _ [7, 1, 8, 9, 10, 11, 6, 12, 13, 14, 15, 16, 17, 18, 19, 20, 21, 22, 23, 24, 25, 26, 27, 28, 29, 30, 31, 32, 33, 34, 35, 36, 37, 38, 39, 40, 41, 42, 43, 44, 45, 46, 47, 48, 49, 50, 51, 52, 53] (by decide +kernel) (by decide +kernel)
set_option maxRecDepth 20000 in
theorem gX5_girlMark_X5_boyMark : GoodIn wsX5_girlMark (wsV RX5 210 RX5 yX5_boyMark wsX5_boyMark) := goodIn_app (goodIn_of _ (by decide +kernel)) ggX5_girlMark_X5_boyMark
theorem dX5_girlMark_0 : decode cX5_girlMark 0 = .ok (.aload_n 0, 1) := by decide +kernel
theorem dX5_girlMark_1 : decode cX5_girlMark 1 = .ok (.dup, 1) := by decide +kernel
theorem dX5_girlMark_2 : decode cX5_girlMark 2 = .ok (.getfield 231, 3) := by decide +kernel
theorem dX5_girlMark_5 : decode cX5_girlMark 5 = .ok (.ldc2_w 273, 3) := by decide +kernel
theorem dX5_girlMark_8 : decode cX5_girlMark 8 = .ok (.ladd, 1) := by decide +kernel
theorem dX5_girlMark_9 : decode cX5_girlMark 9 = .ok (.putfield 231, 3) := by decide +kernel
theorem dX5_girlMark_12 : decode cX5_girlMark 12 = .ok (.aload_n 0, 1) := by decide +kernel
theorem dX5_girlMark_13 : decode cX5_girlMark 13 = .ok (.iload_n 1, 1) := by decide +kernel
theorem dX5_girlMark_14 : decode cX5_girlMark 14 = .ok (.invokevirtual 210, 3) := by decide +kernel
theorem dX5_girlMark_17 : decode cX5_girlMark 17 = .ok (.iload_n 1, 1) := by decide +kernel
theorem dX5_girlMark_18 : decode cX5_girlMark 18 = .ok (.iadd, 1) := by decide +kernel
theorem dX5_girlMark_19 : decode cX5_girlMark 19 = .ok (.ireturn, 1) := by decide +kernel
set_option maxRecDepth 20000 in
theorem ggX5_driverMark_X5_riderMark : GoodIn wsX5_driverMark wsX5_riderMark := goodIn_r _ [10, 1, 3, 4, 11, 12, 13, 14, 15, 16, 17, 18, 19, 20, 21, 22, 23, 24, 25, 26, 27, 28, 29, 30, 31] (by decide +kernel) (by decide +kernel)
set_option maxRecDepth 20000 in
theorem gX5_driverMark_X5_riderMark : GoodIn wsX5_driverMark (wsV RX5 204 RX5 yX5_riderMark wsX5_riderMark) := goodIn_app (goodIn_of _ (by decide +kernel)) ggX5_driverMark_X5_riderMark
theorem dX5_driverMark_0 : decode cX5_driverMark 0 = .ok (.aload_n 0, 1) := by decide +kernel
theorem dX5_driverMark_1 : decode cX5_driverMark 1 = .ok (.dup, 1) := by decide +kernel
theorem dX5_driverMark_2 : decode cX5_driverMark 2 = .ok (.getfield 231, 3) := by decide +kernel
theorem dX5_driverMark_5 : decode cX5_driverMark 5 = .ok (.ldc2_w 275, 3) := by decide +kernel
theorem dX5_driverMark_8 : decode cX5_driverMark 8 = .ok (.ladd, 1) := by decide +kernel
theorem dX5_driverMark_9 : decode cX5_driverMark 9 = .ok (.putfield 231, 3) := by decide +kernel
theorem dX5_driverMark_12 : decode cX5_driverMark 12 = .ok (.aload_n 0, 1) := by decide +kernel
theorem dX5_driverMark_13 : decode cX5_driverMark 13 = .ok (.iload_n 1, 1) := by decide +kernel
theorem dX5_driverMark_14 : decode cX5_driverMark 14 = .ok (.invokevirtual 204, 3) := by decide +kernel
theorem dX5_driverMark_17 : decode cX5_driverMark 17 = .ok (.aload_n 0, 1) := by decide +kernel
theorem dX5_driverMark_18 : decode cX5_driverMark 18 = .ok (.getfield 29, 3) := by decide +kernel
theorem dX5_driverMark_21 : decode cX5_driverMark 21 = .ok (.getfield 76, 3) := by decide +kernel
theorem dX5_driverMark_24 : decode cX5_driverMark 24 = .ok (.getfield 116, 3) := by decide +kernel
theorem dX5_driverMark_27 : decode cX5_driverMark 27 = .ok (.iadd, 1) := by decide +kernel
theorem dX5_driverMark_28 : decode cX5_driverMark 28 = .ok (.ireturn, 1) := by decide +kernel
set_option maxRecDepth 20000 in
theorem ggX5_thinkersOf_X1_thoughtOf : GoodIn wsX5_thinkersOf wsX1_thoughtOf := goodIn_r _ [9, 10, 30, 31, 32, 33, 34, 35, 36] (by decide +kernel) (by decide +kernel)
set_option maxRecDepth 20000 in
theorem gX5_thinkersOf_X1_thoughtOf : GoodIn wsX5_thinkersOf (wsV RX5 112 RX1 yX1_thoughtOf wsX1_thoughtOf) := goodIn_app (goodIn_of _ (by decide +kernel)) ggX5_thinkersOf_X1_thoughtOf
theorem dX5_thinkersOf_0 : decode cX5_thinkersOf 0 = .ok (.iconst 0, 1) := by decide +kernel
theorem dX5_thinkersOf_1 : decode cX5_thinkersOf 1 = .ok (.istore_n 2, 1) := by decide +kernel
theorem dX5_thinkersOf_2 : decode cX5_thinkersOf 2 = .ok (.iconst 0, 1) := by decide +kernel
theorem dX5_thinkersOf_3 : decode cX5_thinkersOf 3 = .ok (.istore_n 3, 1) := by decide +kernel
theorem dX5_thinkersOf_4 : decode cX5_thinkersOf 4 = .ok (.iload_n 3, 1) := by decide +kernel
theorem dX5_thinkersOf_5 : decode cX5_thinkersOf 5 = .ok (.aload_n 0, 1) := by decide +kernel
theorem dX5_thinkersOf_6 : decode cX5_thinkersOf 6 = .ok (.getfield 19, 3) := by decide +kernel
theorem dX5_thinkersOf_9 : decode cX5_thinkersOf 9 = .ok (.getfield 200, 3) := by decide +kernel
theorem dX5_thinkersOf_12 : decode cX5_thinkersOf 12 = .ok (.if_icmp .ge 27, 3) := by decide +kernel
theorem dX5_thinkersOf_15 : decode cX5_thinkersOf 15 = .ok (.aload_n 0, 1) := by decide +kernel
theorem dX5_thinkersOf_16 : decode cX5_thinkersOf 16 = .ok (.getfield 29, 3) := by decide +kernel
theorem dX5_thinkersOf_19 : decode cX5_thinkersOf 19 = .ok (.getfield 76, 3) := by decide +kernel
theorem dX5_thinkersOf_22 : decode cX5_thinkersOf 22 = .ok (.iload_n 3, 1) := by decide +kernel
theorem dX5_thinkersOf_23 : decode cX5_thinkersOf 23 = .ok (.iload_n 1, 1) := by decide +kernel
theorem dX5_thinkersOf_24 : decode cX5_thinkersOf 24 = .ok (.invokevirtual 112, 3) := by decide +kernel
theorem dX5_thinkersOf_27 : decode cX5_thinkersOf 27 = .ok (.ifCond .le 6, 3) := by decide +kernel
theorem dX5_thinkersOf_30 : decode cX5_thinkersOf 30 = .ok (.iinc 2 1, 3) := by decide +kernel
theorem dX5_thinkersOf_33 : decode cX5_thinkersOf 33 = .ok (.iinc 3 1, 3) := by decide +kernel
theorem dX5_thinkersOf_36 : decode cX5_thinkersOf 36 = .ok (.goto (-32), 3) := by decide +kernel
theorem dX5_thinkersOf_39 : decode cX5_thinkersOf 39 = .ok (.iload_n 2, 1) := by decide +kernel
theorem dX5_thinkersOf_40 : decode cX5_thinkersOf 40 = .ok (.ireturn, 1) := by decide +kernel
set_option maxRecDepth 20000 in
theorem ggX6_init_X6_plain : GoodIn wsX6_init wsX6_plain := goodIn_r _ [23, 7, 11, 24, 30, 31, 32, 33, 34, 35, 36, 37, 38, 39, 40, 41, 42, 43, 44, 45, 46, 47, 48, 49, 50] (by decide +kernel) (by decide +kernel)
set_option maxRecDepth 20000 in
theorem gX6_init_X6_plain : GoodIn wsX6_init (wsV RX6 48 RX6 yX6_plain wsX6_plain) := goodIn_app (goodIn_of _ (by decide +kernel)) ggX6_init_X6_plain
set_option maxRecDepth 20000 in
theorem ggX6_init_X6_takeDraft : GoodIn wsX6_init wsX6_takeDraft := goodIn_r _ [28, 7, 11, 12, 9, 10, 8, 29, 14, 30, 31, 32, 33, 34, 35, 36, 37, 38, 39, 40, 41, 42, 43, 44, 45, 46, 47, 48, 49, 50] (by decide +kernel) (by decide +kernel)
set_option maxRecDepth 20000 in
theorem gX6_init_X6_takeDraft : GoodIn wsX6_init (wsV RX6 51 RX6 yX6_takeDraft wsX6_takeDraft) := goodIn_app (goodIn_of _ (by decide +kernel)) ggX6_init_X6_takeDraft
theorem dX6_init_0 : decode cX6_init 0 = .ok (.aload_n 0, 1) := by decide +kernel
theorem dX6_init_1 : decode cX6_init 1 = .ok (.invokespecial 1, 3) := by decide +kernel
theorem dX6_init_4 : decode cX6_init 4 = .ok (.aload_n 0, 1) := by decide +kernel
theorem dX6_init_5 : decode cX6_init 5 = .ok (.bipush 120, 2) := by decide +kernel
theorem dX6_init_7 : decode cX6_init 7 = .ok (.newarray .byte, 2) := by decide +kernel
theorem dX6_init_9 : decode cX6_init 9 = .ok (.putfield 7, 3) := by decide +kernel
theorem dX6_init_12 : decode cX6_init 12 = .ok (.aload_n 0, 1) := by decide +kernel
theorem dX6_init_13 : decode cX6_init 13 = .ok (.iconst 2, 1) := by decide +kernel
theorem dX6_init_14 : decode cX6_init 14 = .ok (.newarray .int, 2) := by decide +kernel
theorem dX6_init_16 : decode cX6_init 16 = .ok (.putfield 13, 3) := by decide +kernel
theorem dX6_init_19 : decode cX6_init 19 = .ok (.aload_n 0, 1) := by decide +kernel
theorem dX6_init_20 : decode cX6_init 20 = .ok (.bipush 6, 2) := by decide +kernel
theorem dX6_init_22 : decode cX6_init 22 = .ok (.newarray .int, 2) := by decide +kernel
theorem dX6_init_24 : decode cX6_init 24 = .ok (.putfield 17, 3) := by decide +kernel
theorem dX6_init_27 : decode cX6_init 27 = .ok (.aload_n 0, 1) := by decide +kernel
theorem dX6_init_28 : decode cX6_init 28 = .ok (.bipush 12, 2) := by decide +kernel
theorem dX6_init_30 : decode cX6_init 30 = .ok (.newarray .int, 2) := by decide +kernel
theorem dX6_init_32 : decode cX6_init 32 = .ok (.putfield 20, 3) := by decide +kernel
theorem dX6_init_35 : decode cX6_init 35 = .ok (.aload_n 0, 1) := by decide +kernel
theorem dX6_init_36 : decode cX6_init 36 = .ok (.bipush 12, 2) := by decide +kernel
theorem dX6_init_38 : decode cX6_init 38 = .ok (.newarray .int, 2) := by decide +kernel
theorem dX6_init_40 : decode cX6_init 40 = .ok (.putfield 23, 3) := by decide +kernel
theorem dX6_init_43 : decode cX6_init 43 = .ok (.aload_n 0, 1) := by decide +kernel
theorem dX6_init_44 : decode cX6_init 44 = .ok (.iconst 2, 1) := by decide +kernel
theorem dX6_init_45 : decode cX6_init 45 = .ok (.newarray .int, 2) := by decide +kernel
theorem dX6_init_47 : decode cX6_init 47 = .ok (.putfield 26, 3) := by decide +kernel
theorem dX6_init_50 : decode cX6_init 50 = .ok (.aload_n 0, 1) := by decide +kernel
theorem dX6_init_51 : decode cX6_init 51 = .ok (.sipush 1719, 3) := by decide +kernel
theorem dX6_init_54 : decode cX6_init 54 = .ok (.newarray .int, 2) := by decide +kernel
theorem dX6_init_56 : decode cX6_init 56 = .ok (.putfield 29, 3) := by decide +kernel
theorem dX6_init_59 : decode cX6_init 59 = .ok (.aload_n 0, 1) := by decide +kernel
theorem dX6_init_60 : decode cX6_init 60 = .ok (.iconst 2, 1) := by decide +kernel
theorem dX6_init_61 : decode cX6_init 61 = .ok (.newarray .boolean, 2) := by decide +kernel
theorem dX6_init_63 : decode cX6_init 63 = .ok (.putfield 32, 3) := by decide +kernel
theorem dX6_init_66 : decode cX6_init 66 = .ok (.aload_n 0, 1) := by decide +kernel
theorem dX6_init_67 : decode cX6_init 67 = .ok (.bipush 52, 2) := by decide +kernel
theorem dX6_init_69 : decode cX6_init 69 = .ok (.newarray .int, 2) := by decide +kernel
theorem dX6_init_71 : decode cX6_init 71 = .ok (.putfield 36, 3) := by decide +kernel
theorem dX6_init_74 : decode cX6_init 74 = .ok (.aload_n 0, 1) := by decide +kernel
theorem dX6_init_75 : decode cX6_init 75 = .ok (.bipush 6, 2) := by decide +kernel
theorem dX6_init_77 : decode cX6_init 77 = .ok (.newarray .int, 2) := by decide +kernel
theorem dX6_init_79 : decode cX6_init 79 = .ok (.putfield 39, 3) := by decide +kernel
theorem dX6_init_82 : decode cX6_init 82 = .ok (.aload_n 0, 1) := by decide +kernel
theorem dX6_init_83 : decode cX6_init 83 = .ok (.bipush 6, 2) := by decide +kernel
theorem dX6_init_85 : decode cX6_init 85 = .ok (.newarray .int, 2) := by decide +kernel
theorem dX6_init_87 : decode cX6_init 87 = .ok (.putfield 42, 3) := by decide +kernel
theorem dX6_init_90 : decode cX6_init 90 = .ok (.aload_n 0, 1) := by decide +kernel
theorem dX6_init_91 : decode cX6_init 91 = .ok (.bipush 6, 2) := by decide +kernel
theorem dX6_init_93 : decode cX6_init 93 = .ok (.newarray .int, 2) := by decide +kernel
theorem dX6_init_95 : decode cX6_init 95 = .ok (.putfield 45, 3) := by decide +kernel
theorem dX6_init_98 : decode cX6_init 98 = .ok (.aload_n 0, 1) := by decide +kernel
theorem dX6_init_99 : decode cX6_init 99 = .ok (.invokevirtual 48, 3) := by decide +kernel
theorem dX6_init_102 : decode cX6_init 102 = .ok (.aload_n 0, 1) := by decide +kernel
theorem dX6_init_103 : decode cX6_init 103 = .ok (.invokevirtual 51, 3) := by decide +kernel
theorem dX6_init_106 : decode cX6_init 106 = .ok (.return_, 1) := by decide +kernel
theorem dX6_in_0 : decode cX6_in 0 = .ok (.iload_n 0, 1) := by decide +kernel
theorem dX6_in_1 : decode cX6_in 1 = .ok (.iload_n 1, 1) := by decide +kernel
theorem dX6_in_2 : decode cX6_in 2 = .ok (.if_icmp .lt 12, 3) := by decide +kernel
theorem dX6_in_5 : decode cX6_in 5 = .ok (.iload_n 0, 1) := by decide +kernel
theorem dX6_in_6 : decode cX6_in 6 = .ok (.iload_n 2, 1) := by decide +kernel
theorem dX6_in_7 : decode cX6_in 7 = .ok (.if_icmp .gt 7, 3) := by decide +kernel
theorem dX6_in_10 : decode cX6_in 10 = .ok (.iconst 1, 1) := by decide +kernel
theorem dX6_in_11 : decode cX6_in 11 = .ok (.goto 4, 3) := by decide +kernel
theorem dX6_in_14 : decode cX6_in 14 = .ok (.iconst 0, 1) := by decide +kernel
theorem dX6_in_15 : decode cX6_in 15 = .ok (.ireturn, 1) := by decide +kernel
set_option maxRecDepth 20000 in
theorem ggX6_type_X6_in : GoodIn wsX6_type wsX6_in := goodIn_r _ [6] (by decide +kernel) (by decide +kernel)
set_option maxRecDepth 20000 in
theorem gX6_type_X6_in : GoodIn wsX6_type (va_wsS RX6 54 yX6_in wsX6_in) := goodIn_app (goodIn_of _ (by decide +kernel)) ggX6_type_X6_in
theorem dX6_type_0 : decode cX6_type 0 = .ok (.iload_n 1, 1) := by decide +kernel
theorem dX6_type_1 : decode cX6_type 1 = .ok (.iconst 0, 1) := by decide +kernel
theorem dX6_type_2 : decode cX6_type 2 = .ok (.sipush 255, 3) := by decide +kernel
theorem dX6_type_5 : decode cX6_type 5 = .ok (.invokestatic 54, 3) := by decide +kernel
theorem dX6_type_8 : decode cX6_type 8 = .ok (.ifCond .ne 5, 3) := by decide +kernel
theorem dX6_type_11 : decode cX6_type 11 = .ok (.iconst (-1), 1) := by decide +kernel
theorem dX6_type_12 : decode cX6_type 12 = .ok (.ireturn, 1) := by decide +kernel
theorem dX6_type_13 : decode cX6_type 13 = .ok (.aload_n 0, 1) := by decide +kernel
theorem dX6_type_14 : decode cX6_type 14 = .ok (.getfield 58, 3) := by decide +kernel
theorem dX6_type_17 : decode cX6_type 17 = .ok (.bipush 120, 2) := by decide +kernel
theorem dX6_type_19 : decode cX6_type 19 = .ok (.if_icmp .ne 6, 3) := by decide +kernel
theorem dX6_type_22 : decode cX6_type 22 = .ok (.bipush (-3), 2) := by decide +kernel
theorem dX6_type_24 : decode cX6_type 24 = .ok (.ireturn, 1) := by decide +kernel
theorem dX6_type_25 : decode cX6_type 25 = .ok (.aload_n 0, 1) := by decide +kernel
theorem dX6_type_26 : decode cX6_type 26 = .ok (.getfield 7, 3) := by decide +kernel
theorem dX6_type_29 : decode cX6_type 29 = .ok (.aload_n 0, 1) := by decide +kernel
theorem dX6_type_30 : decode cX6_type 30 = .ok (.getfield 58, 3) := by decide +kernel
theorem dX6_type_33 : decode cX6_type 33 = .ok (.iload_n 1, 1) := by decide +kernel
theorem dX6_type_34 : decode cX6_type 34 = .ok (.i2b, 1) := by decide +kernel
theorem dX6_type_35 : decode cX6_type 35 = .ok (.bastore, 1) := by decide +kernel
theorem dX6_type_36 : decode cX6_type 36 = .ok (.aload_n 0, 1) := by decide +kernel
theorem dX6_type_37 : decode cX6_type 37 = .ok (.dup, 1) := by decide +kernel
theorem dX6_type_38 : decode cX6_type 38 = .ok (.getfield 58, 3) := by decide +kernel
theorem dX6_type_41 : decode cX6_type 41 = .ok (.iconst 1, 1) := by decide +kernel
theorem dX6_type_42 : decode cX6_type 42 = .ok (.iadd, 1) := by decide +kernel
theorem dX6_type_43 : decode cX6_type 43 = .ok (.putfield 58, 3) := by decide +kernel
theorem dX6_type_46 : decode cX6_type 46 = .ok (.aload_n 0, 1) := by decide +kernel
theorem dX6_type_47 : decode cX6_type 47 = .ok (.getfield 58, 3) := by decide +kernel
theorem dX6_type_50 : decode cX6_type 50 = .ok (.ireturn, 1) := by decide +kernel
theorem dX6_clear_0 : decode cX6_clear 0 = .ok (.aload_n 0, 1) := by decide +kernel
theorem dX6_clear_1 : decode cX6_clear 1 = .ok (.getfield 58, 3) := by decide +kernel
theorem dX6_clear_4 : decode cX6_clear 4 = .ok (.istore_n 1, 1) := by decide +kernel
theorem dX6_clear_5 : decode cX6_clear 5 = .ok (.aload_n 0, 1) := by decide +kernel
theorem dX6_clear_6 : decode cX6_clear 6 = .ok (.iconst 0, 1) := by decide +kernel
theorem dX6_clear_7 : decode cX6_clear 7 = .ok (.putfield 58, 3) := by decide +kernel
theorem dX6_clear_10 : decode cX6_clear 10 = .ok (.iload_n 1, 1) := by decide +kernel
theorem dX6_clear_11 : decode cX6_clear 11 = .ok (.ireturn, 1) := by decide +kernel
theorem dX6_here_0 : decode cX6_here 0 = .ok (.aload_n 0, 1) := by decide +kernel
theorem dX6_here_1 : decode cX6_here 1 = .ok (.getfield 62, 3) := by decide +kernel
theorem dX6_here_4 : decode cX6_here 4 = .ok (.aload_n 0, 1) := by decide +kernel
theorem dX6_here_5 : decode cX6_here 5 = .ok (.getfield 58, 3) := by decide +kernel
theorem dX6_here_8 : decode cX6_here 8 = .ok (.if_icmp .ge 19, 3) := by decide +kernel
theorem dX6_here_11 : decode cX6_here 11 = .ok (.aload_n 0, 1) := by decide +kernel
theorem dX6_here_12 : decode cX6_here 12 = .ok (.getfield 7, 3) := by decide +kernel
theorem dX6_here_15 : decode cX6_here 15 = .ok (.aload_n 0, 1) := by decide +kernel
theorem dX6_here_16 : decode cX6_here 16 = .ok (.getfield 62, 3) := by decide +kernel
theorem dX6_here_19 : decode cX6_here 19 = .ok (.baload, 1) := by decide +kernel
theorem dX6_here_20 : decode cX6_here 20 = .ok (.sipush 255, 3) := by decide +kernel
theorem dX6_here_23 : decode cX6_here 23 = .ok (.iand, 1) := by decide +kernel
theorem dX6_here_24 : decode cX6_here 24 = .ok (.goto 4, 3) := by decide +kernel
theorem dX6_here_27 : decode cX6_here 27 = .ok (.iconst (-1), 1) := by decide +kernel
theorem dX6_here_28 : decode cX6_here 28 = .ok (.ireturn, 1) := by decide +kernel
set_option maxRecDepth 20000 in
theorem ggX6_step_X6_here : GoodIn wsX6_step wsX6_here := goodIn_r _ [9, 1, 10, 11, 15, 16, 17, 18, 19, 20, 21, 22, 23, 24, 25, 26, 27, 28, 29, 30, 31, 32, 33, 34, 35] (by decide +kernel) (by decide +kernel)
set_option maxRecDepth 20000 in
theorem gX6_step_X6_here : GoodIn wsX6_step (wsV RX6 65 RX6 yX6_here wsX6_here) := goodIn_app (goodIn_of _ (by decide +kernel)) ggX6_step_X6_here
set_option maxRecDepth 20000 in
theorem ggX6_step_X6_in : GoodIn wsX6_step wsX6_in := goodIn_r _ [14] (by decide +kernel) (by decide +kernel)
set_option maxRecDepth 20000 in
theorem gX6_step_X6_in : GoodIn wsX6_step (va_wsS RX6 54 yX6_in wsX6_in) := goodIn_app (goodIn_of _ (by decide +kernel)) ggX6_step_X6_in
theorem dX6_step_0 : decode cX6_step 0 = .ok (.aload_n 0, 1) := by decide +kernel
theorem dX6_step_1 : decode cX6_step 1 = .ok (.invokevirtual 65, 3) := by decide +kernel
theorem dX6_step_4 : decode cX6_step 4 = .ok (.bipush 32, 2) := by decide +kernel
theorem dX6_step_6 : decode cX6_step 6 = .ok (.if_icmp .ne 16, 3) := by decide +kernel
theorem dX6_step_9 : decode cX6_step 9 = .ok (.aload_n 0, 1) := by decide +kernel
theorem dX6_step_10 : decode cX6_step 10 = .ok (.dup, 1) := by decide +kernel
theorem dX6_step_11 : decode cX6_step 11 = .ok (.getfield 62, 3) := by decide +kernel
theorem dX6_step_14 : decode cX6_step 14 = .ok (.iconst 1, 1) := by decide +kernel
theorem dX6_step_15 : decode cX6_step 15 = .ok (.iadd, 1) := by decide +kernel
theorem dX6_step_16 : decode cX6_step 16 = .ok (.putfield 62, 3) := by decide +kernel
theorem dX6_step_19 : decode cX6_step 19 = .ok (.goto (-19), 3) := by decide +kernel
theorem dX6_step_22 : decode cX6_step 22 = .ok (.aload_n 0, 1) := by decide +kernel
theorem dX6_step_23 : decode cX6_step 23 = .ok (.aload_n 0, 1) := by decide +kernel
theorem dX6_step_24 : decode cX6_step 24 = .ok (.getfield 62, 3) := by decide +kernel
theorem dX6_step_27 : decode cX6_step 27 = .ok (.putfield 69, 3) := by decide +kernel
theorem dX6_step_30 : decode cX6_step 30 = .ok (.aload_n 0, 1) := by decide +kernel
theorem dX6_step_31 : decode cX6_step 31 = .ok (.iconst 0, 1) := by decide +kernel
theorem dX6_step_32 : decode cX6_step 32 = .ok (.putfield 72, 3) := by decide +kernel
theorem dX6_step_35 : decode cX6_step 35 = .ok (.aload_n 0, 1) := by decide +kernel
theorem dX6_step_36 : decode cX6_step 36 = .ok (.invokevirtual 65, 3) := by decide +kernel
theorem dX6_step_39 : decode cX6_step 39 = .ok (.istore_n 1, 1) := by decide +kernel
theorem dX6_step_40 : decode cX6_step 40 = .ok (.iload_n 1, 1) := by decide +kernel
theorem dX6_step_41 : decode cX6_step 41 = .ok (.ifCond .ge 11, 3) := by decide +kernel
theorem dX6_step_44 : decode cX6_step 44 = .ok (.aload_n 0, 1) := by decide +kernel
theorem dX6_step_45 : decode cX6_step 45 = .ok (.iconst 3, 1) := by decide +kernel
theorem dX6_step_46 : decode cX6_step 46 = .ok (.putfield 75, 3) := by decide +kernel
theorem dX6_step_49 : decode cX6_step 49 = .ok (.goto 204, 3) := by decide +kernel
theorem dX6_step_52 : decode cX6_step 52 = .ok (.iload_n 1, 1) := by decide +kernel
theorem dX6_step_53 : decode cX6_step 53 = .ok (.bipush 97, 2) := by decide +kernel
theorem dX6_step_55 : decode cX6_step 55 = .ok (.bipush 122, 2) := by decide +kernel
theorem dX6_step_57 : decode cX6_step 57 = .ok (.invokestatic 54, 3) := by decide +kernel
theorem dX6_step_60 : decode cX6_step 60 = .ok (.ifCond .eq 55, 3) := by decide +kernel
theorem dX6_step_63 : decode cX6_step 63 = .ok (.aload_n 0, 1) := by decide +kernel
theorem dX6_step_64 : decode cX6_step 64 = .ok (.invokevirtual 65, 3) := by decide +kernel
theorem dX6_step_67 : decode cX6_step 67 = .ok (.bipush 97, 2) := by decide +kernel
theorem dX6_step_69 : decode cX6_step 69 = .ok (.bipush 122, 2) := by decide +kernel
theorem dX6_step_71 : decode cX6_step 71 = .ok (.invokestatic 54, 3) := by decide +kernel
theorem dX6_step_74 : decode cX6_step 74 = .ok (.ifCond .eq 16, 3) := by decide +kernel
theorem dX6_step_77 : decode cX6_step 77 = .ok (.aload_n 0, 1) := by decide +kernel
theorem dX6_step_78 : decode cX6_step 78 = .ok (.dup, 1) := by decide +kernel
theorem dX6_step_79 : decode cX6_step 79 = .ok (.getfield 62, 3) := by decide +kernel
theorem dX6_step_82 : decode cX6_step 82 = .ok (.iconst 1, 1) := by decide +kernel
theorem dX6_step_83 : decode cX6_step 83 = .ok (.iadd, 1) := by decide +kernel
theorem dX6_step_84 : decode cX6_step 84 = .ok (.putfield 62, 3) := by decide +kernel
theorem dX6_step_87 : decode cX6_step 87 = .ok (.goto (-24), 3) := by decide +kernel
theorem dX6_step_90 : decode cX6_step 90 = .ok (.aload_n 0, 1) := by decide +kernel
theorem dX6_step_91 : decode cX6_step 91 = .ok (.aload_n 0, 1) := by decide +kernel
theorem dX6_step_92 : decode cX6_step 92 = .ok (.getfield 62, 3) := by decide +kernel
theorem dX6_step_95 : decode cX6_step 95 = .ok (.aload_n 0, 1) := by decide +kernel
theorem dX6_step_96 : decode cX6_step 96 = .ok (.getfield 69, 3) := by decide +kernel
theorem dX6_step_99 : decode cX6_step 99 = .ok (.isub, 1) := by decide +kernel
theorem dX6_step_100 : decode cX6_step 100 = .ok (.iconst 1, 1) := by decide +kernel
theorem dX6_step_101 : decode cX6_step 101 = .ok (.if_icmp .ne 7, 3) := by decide +kernel
theorem dX6_step_104 : decode cX6_step 104 = .ok (.iload_n 1, 1) := by decide +kernel
theorem dX6_step_105 : decode cX6_step 105 = .ok (.goto 4, 3) := by decide +kernel
theorem dX6_step_108 : decode cX6_step 108 = .ok (.iconst 4, 1) := by decide +kernel
theorem dX6_step_109 : decode cX6_step 109 = .ok (.putfield 75, 3) := by decide +kernel
theorem dX6_step_112 : decode cX6_step 112 = .ok (.goto 141, 3) := by decide +kernel
theorem dX6_step_115 : decode cX6_step 115 = .ok (.iload_n 1, 1) := by decide +kernel
theorem dX6_step_116 : decode cX6_step 116 = .ok (.bipush 48, 2) := by decide +kernel
theorem dX6_step_118 : decode cX6_step 118 = .ok (.bipush 57, 2) := by decide +kernel
theorem dX6_step_120 : decode cX6_step 120 = .ok (.invokestatic 54, 3) := by decide +kernel
theorem dX6_step_123 : decode cX6_step 123 = .ok (.ifCond .eq 105, 3) := by decide +kernel
theorem dX6_step_126 : decode cX6_step 126 = .ok (.aload_n 0, 1) := by decide +kernel
theorem dX6_step_127 : decode cX6_step 127 = .ok (.invokevirtual 65, 3) := by decide +kernel
theorem dX6_step_130 : decode cX6_step 130 = .ok (.bipush 48, 2) := by decide +kernel
theorem dX6_step_132 : decode cX6_step 132 = .ok (.bipush 57, 2) := by decide +kernel
theorem dX6_step_134 : decode cX6_step 134 = .ok (.invokestatic 54, 3) := by decide +kernel
theorem dX6_step_137 : decode cX6_step 137 = .ok (.ifCond .eq 51, 3) := by decide +kernel
theorem dX6_step_140 : decode cX6_step 140 = .ok (.aload_n 0, 1) := by decide +kernel
theorem dX6_step_141 : decode cX6_step 141 = .ok (.aload_n 0, 1) := by decide +kernel
theorem dX6_step_142 : decode cX6_step 142 = .ok (.getfield 72, 3) := by decide +kernel
theorem dX6_step_145 : decode cX6_step 145 = .ok (.bipush 99, 2) := by decide +kernel
theorem dX6_step_147 : decode cX6_step 147 = .ok (.if_icmp .le 10, 3) := by decide +kernel
theorem dX6_step_150 : decode cX6_step 150 = .ok (.aload_n 0, 1) := by decide +kernel
theorem dX6_step_151 : decode cX6_step 151 = .ok (.getfield 72, 3) := by decide +kernel
theorem dX6_step_154 : decode cX6_step 154 = .ok (.goto 18, 3) := by decide +kernel
theorem dX6_step_157 : decode cX6_step 157 = .ok (.bipush 10, 2) := by decide +kernel
theorem dX6_step_159 : decode cX6_step 159 = .ok (.aload_n 0, 1) := by decide +kernel
theorem dX6_step_160 : decode cX6_step 160 = .ok (.getfield 72, 3) := by decide +kernel
theorem dX6_step_163 : decode cX6_step 163 = .ok (.imul, 1) := by decide +kernel
theorem dX6_step_164 : decode cX6_step 164 = .ok (.aload_n 0, 1) := by decide +kernel
theorem dX6_step_165 : decode cX6_step 165 = .ok (.invokevirtual 65, 3) := by decide +kernel
theorem dX6_step_168 : decode cX6_step 168 = .ok (.iadd, 1) := by decide +kernel
theorem dX6_step_169 : decode cX6_step 169 = .ok (.bipush 48, 2) := by decide +kernel
theorem dX6_step_171 : decode cX6_step 171 = .ok (.isub, 1) := by decide +kernel
theorem dX6_step_172 : decode cX6_step 172 = .ok (.putfield 72, 3) := by decide +kernel
theorem dX6_step_175 : decode cX6_step 175 = .ok (.aload_n 0, 1) := by decide +kernel
theorem dX6_step_176 : decode cX6_step 176 = .ok (.dup, 1) := by decide +kernel
theorem dX6_step_177 : decode cX6_step 177 = .ok (.getfield 62, 3) := by decide +kernel
theorem dX6_step_180 : decode cX6_step 180 = .ok (.iconst 1, 1) := by decide +kernel
theorem dX6_step_181 : decode cX6_step 181 = .ok (.iadd, 1) := by decide +kernel
theorem dX6_step_182 : decode cX6_step 182 = .ok (.putfield 62, 3) := by decide +kernel
theorem dX6_step_185 : decode cX6_step 185 = .ok (.goto (-59), 3) := by decide +kernel
theorem dX6_step_188 : decode cX6_step 188 = .ok (.aload_n 0, 1) := by decide +kernel
theorem dX6_step_189 : decode cX6_step 189 = .ok (.aload_n 0, 1) := by decide +kernel
theorem dX6_step_190 : decode cX6_step 190 = .ok (.getfield 72, 3) := by decide +kernel
theorem dX6_step_193 : decode cX6_step 193 = .ok (.bipush 99, 2) := by decide +kernel
theorem dX6_step_195 : decode cX6_step 195 = .ok (.if_icmp .gt 22, 3) := by decide +kernel
theorem dX6_step_198 : decode cX6_step 198 = .ok (.iload_n 1, 1) := by decide +kernel
theorem dX6_step_199 : decode cX6_step 199 = .ok (.bipush 48, 2) := by decide +kernel
theorem dX6_step_201 : decode cX6_step 201 = .ok (.if_icmp .ne 20, 3) := by decide +kernel
theorem dX6_step_204 : decode cX6_step 204 = .ok (.aload_n 0, 1) := by decide +kernel
theorem dX6_step_205 : decode cX6_step 205 = .ok (.getfield 62, 3) := by decide +kernel
theorem dX6_step_208 : decode cX6_step 208 = .ok (.aload_n 0, 1) := by decide +kernel
theorem dX6_step_209 : decode cX6_step 209 = .ok (.getfield 69, 3) := by decide +kernel
theorem dX6_step_212 : decode cX6_step 212 = .ok (.isub, 1) := by decide +kernel
theorem dX6_step_213 : decode cX6_step 213 = .ok (.iconst 1, 1) := by decide +kernel
theorem dX6_step_214 : decode cX6_step 214 = .ok (.if_icmp .le 7, 3) := by decide +kernel
theorem dX6_step_217 : decode cX6_step 217 = .ok (.iconst 4, 1) := by decide +kernel
theorem dX6_step_218 : decode cX6_step 218 = .ok (.goto 4, 3) := by decide +kernel
theorem dX6_step_221 : decode cX6_step 221 = .ok (.iconst 1, 1) := by decide +kernel
theorem dX6_step_222 : decode cX6_step 222 = .ok (.putfield 75, 3) := by decide +kernel
theorem dX6_step_225 : decode cX6_step 225 = .ok (.goto 28, 3) := by decide +kernel
theorem dX6_step_228 : decode cX6_step 228 = .ok (.aload_n 0, 1) := by decide +kernel
theorem dX6_step_229 : decode cX6_step 229 = .ok (.dup, 1) := by decide +kernel
theorem dX6_step_230 : decode cX6_step 230 = .ok (.getfield 62, 3) := by decide +kernel
theorem dX6_step_233 : decode cX6_step 233 = .ok (.iconst 1, 1) := by decide +kernel
theorem dX6_step_234 : decode cX6_step 234 = .ok (.iadd, 1) := by decide +kernel
theorem dX6_step_235 : decode cX6_step 235 = .ok (.putfield 62, 3) := by decide +kernel
theorem dX6_step_238 : decode cX6_step 238 = .ok (.aload_n 0, 1) := by decide +kernel
theorem dX6_step_239 : decode cX6_step 239 = .ok (.iload_n 1, 1) := by decide +kernel
theorem dX6_step_240 : decode cX6_step 240 = .ok (.bipush 59, 2) := by decide +kernel
theorem dX6_step_242 : decode cX6_step 242 = .ok (.if_icmp .ne 7, 3) := by decide +kernel
theorem dX6_step_245 : decode cX6_step 245 = .ok (.iconst 2, 1) := by decide +kernel
theorem dX6_step_246 : decode cX6_step 246 = .ok (.goto 4, 3) := by decide +kernel
theorem dX6_step_249 : decode cX6_step 249 = .ok (.iconst 4, 1) := by decide +kernel
theorem dX6_step_250 : decode cX6_step 250 = .ok (.putfield 75, 3) := by decide +kernel
theorem dX6_step_253 : decode cX6_step 253 = .ok (.return_, 1) := by decide +kernel
set_option maxRecDepth 20000 in
theorem ggX6_due_X6_step : GoodIn wsX6_due wsX6_step := goodIn_r _ [8, 9, 3, 1, 10, 11, 12, 13, 7, 14, 15, 16, 17, 18, 19, 20, 21, 22, 23, 24, 25, 26, 27, 28, 29, 30, 31, 32, 33, 34, 35, 36, 37, 38, 39, 40] (by decide +kernel) (by decide +kernel)
set_option maxRecDepth 20000 in
theorem gX6_due_X6_step : GoodIn wsX6_due (wsV RX6 81 RX6 yX6_step wsX6_step) := goodIn_app (goodIn_of _ (by decide +kernel)) ggX6_due_X6_step
theorem dX6_due_0 : decode cX6_due 0 = .ok (.aload_n 0, 1) := by decide +kernel
theorem dX6_due_1 : decode cX6_due 1 = .ok (.getfield 72, 3) := by decide +kernel
theorem dX6_due_4 : decode cX6_due 4 = .ok (.istore_n 2, 1) := by decide +kernel
theorem dX6_due_5 : decode cX6_due 5 = .ok (.aload_n 0, 1) := by decide +kernel
theorem dX6_due_6 : decode cX6_due 6 = .ok (.getfield 78, 3) := by decide +kernel
theorem dX6_due_9 : decode cX6_due 9 = .ok (.bipush (-9), 2) := by decide +kernel
theorem dX6_due_11 : decode cX6_due 11 = .ok (.if_icmp .ne 22, 3) := by decide +kernel
theorem dX6_due_14 : decode cX6_due 14 = .ok (.iload_n 1, 1) := by decide +kernel
theorem dX6_due_15 : decode cX6_due 15 = .ok (.ifCond .eq 10, 3) := by decide +kernel
theorem dX6_due_18 : decode cX6_due 18 = .ok (.aload_n 0, 1) := by decide +kernel
theorem dX6_due_19 : decode cX6_due 19 = .ok (.invokevirtual 81, 3) := by decide +kernel
theorem dX6_due_22 : decode cX6_due 22 = .ok (.goto 11, 3) := by decide +kernel
theorem dX6_due_25 : decode cX6_due 25 = .ok (.aload_n 0, 1) := by decide +kernel
theorem dX6_due_26 : decode cX6_due 26 = .ok (.aload_n 0, 1) := by decide +kernel
theorem dX6_due_27 : decode cX6_due 27 = .ok (.getfield 69, 3) := by decide +kernel
theorem dX6_due_30 : decode cX6_due 30 = .ok (.putfield 78, 3) := by decide +kernel
theorem dX6_due_33 : decode cX6_due 33 = .ok (.iload_n 2, 1) := by decide +kernel
theorem dX6_due_34 : decode cX6_due 34 = .ok (.ireturn, 1) := by decide +kernel
set_option maxRecDepth 20000 in
theorem ggX6_number_X6_in : GoodIn wsX6_number wsX6_in := goodIn_r _ [6] (by decide +kernel) (by decide +kernel)
set_option maxRecDepth 20000 in
theorem gX6_number_X6_in : GoodIn wsX6_number (va_wsS RX6 54 yX6_in wsX6_in) := goodIn_app (goodIn_of _ (by decide +kernel)) ggX6_number_X6_in
set_option maxRecDepth 20000 in
theorem ggX6_number_X6_due : GoodIn wsX6_number wsX6_due := goodIn_r _ [10, 2, 11, 12, 13, 14, 15, 5, 16, 17, 1, 18, 19, 20, 21, 22, 23, 3, 4, 6, 24, 25, 26, 27, 28, 29, 30, 31, 32, 33, 34, 35, 36, 37, 38, 39, 40, 41, 42, 43, 44] (by decide +kernel) (by decide +kernel)
set_option maxRecDepth 20000 in
theorem gX6_number_X6_due : GoodIn wsX6_number (wsV RX6 84 RX6 yX6_due wsX6_due) := goodIn_app (goodIn_of _ (by decide +kernel)) ggX6_number_X6_due
theorem dX6_number_0 : decode cX6_number 0 = .ok (.aload_n 0, 1) := by decide +kernel
theorem dX6_number_1 : decode cX6_number 1 = .ok (.aload_n 0, 1) := by decide +kernel
theorem dX6_number_2 : decode cX6_number 2 = .ok (.getfield 75, 3) := by decide +kernel
theorem dX6_number_5 : decode cX6_number 5 = .ok (.iconst 1, 1) := by decide +kernel
theorem dX6_number_6 : decode cX6_number 6 = .ok (.if_icmp .ne 19, 3) := by decide +kernel
theorem dX6_number_9 : decode cX6_number 9 = .ok (.aload_n 0, 1) := by decide +kernel
theorem dX6_number_10 : decode cX6_number 10 = .ok (.getfield 72, 3) := by decide +kernel
theorem dX6_number_13 : decode cX6_number 13 = .ok (.iload_n 1, 1) := by decide +kernel
theorem dX6_number_14 : decode cX6_number 14 = .ok (.iload_n 2, 1) := by decide +kernel
theorem dX6_number_15 : decode cX6_number 15 = .ok (.invokestatic 54, 3) := by decide +kernel
theorem dX6_number_18 : decode cX6_number 18 = .ok (.ifCond .eq 7, 3) := by decide +kernel
theorem dX6_number_21 : decode cX6_number 21 = .ok (.iconst 1, 1) := by decide +kernel
theorem dX6_number_22 : decode cX6_number 22 = .ok (.goto 4, 3) := by decide +kernel
theorem dX6_number_25 : decode cX6_number 25 = .ok (.iconst 0, 1) := by decide +kernel
theorem dX6_number_26 : decode cX6_number 26 = .ok (.invokevirtual 84, 3) := by decide +kernel
theorem dX6_number_29 : decode cX6_number 29 = .ok (.ireturn, 1) := by decide +kernel
theorem dX6_mayBe_0 : decode cX6_mayBe 0 = .ok (.iload_n 1, 1) := by decide +kernel
theorem dX6_mayBe_1 : decode cX6_mayBe 1 = .ok (.bipush 114, 2) := by decide +kernel
theorem dX6_mayBe_3 : decode cX6_mayBe 3 = .ok (.if_icmp .ne 14, 3) := by decide +kernel
theorem dX6_mayBe_6 : decode cX6_mayBe 6 = .ok (.aload_n 0, 1) := by decide +kernel
theorem dX6_mayBe_7 : decode cX6_mayBe 7 = .ok (.getfield 13, 3) := by decide +kernel
theorem dX6_mayBe_10 : decode cX6_mayBe 10 = .ok (.iconst 1, 1) := by decide +kernel
theorem dX6_mayBe_11 : decode cX6_mayBe 11 = .ok (.iaload, 1) := by decide +kernel
theorem dX6_mayBe_12 : decode cX6_mayBe 12 = .ok (.bipush 6, 2) := by decide +kernel
theorem dX6_mayBe_14 : decode cX6_mayBe 14 = .ok (.if_icmp .lt 16, 3) := by decide +kernel
theorem dX6_mayBe_17 : decode cX6_mayBe 17 = .ok (.iload_n 1, 1) := by decide +kernel
theorem dX6_mayBe_18 : decode cX6_mayBe 18 = .ok (.bipush 108, 2) := by decide +kernel
theorem dX6_mayBe_20 : decode cX6_mayBe 20 = .ok (.if_icmp .ne 14, 3) := by decide +kernel
theorem dX6_mayBe_23 : decode cX6_mayBe 23 = .ok (.aload_n 0, 1) := by decide +kernel
theorem dX6_mayBe_24 : decode cX6_mayBe 24 = .ok (.getfield 88, 3) := by decide +kernel
theorem dX6_mayBe_27 : decode cX6_mayBe 27 = .ok (.ifCond .ne 7, 3) := by decide +kernel
theorem dX6_mayBe_30 : decode cX6_mayBe 30 = .ok (.iconst 1, 1) := by decide +kernel
theorem dX6_mayBe_31 : decode cX6_mayBe 31 = .ok (.goto 4, 3) := by decide +kernel
theorem dX6_mayBe_34 : decode cX6_mayBe 34 = .ok (.iconst 0, 1) := by decide +kernel
theorem dX6_mayBe_35 : decode cX6_mayBe 35 = .ok (.ireturn, 1) := by decide +kernel
set_option maxRecDepth 20000 in
theorem ggX6_readRow_X6_number : GoodIn wsX6_readRow wsX6_number := goodIn_r _ [11, 12, 13, 14, 15, 10, 16, 17, 18, 19, 20, 21, 22, 23, 24, 25, 26, 27, 28, 29, 30, 31, 32, 33, 34, 35, 36, 37, 38, 39, 40, 41, 42, 43, 44, 45, 46, 47, 48, 49, 50, 51, 52, 53, 54] (by decide +kernel) (by decide +kernel)
set_option maxRecDepth 20000 in
theorem gX6_readRow_X6_number : GoodIn wsX6_readRow (wsV RX6 92 RX6 yX6_number wsX6_number) := goodIn_app (goodIn_of _ (by decide +kernel)) ggX6_readRow_X6_number
theorem dX6_readRow_0 : decode cX6_readRow 0 = .ok (.iload_n 1, 1) := by decide +kernel
theorem dX6_readRow_1 : decode cX6_readRow 1 = .ok (.bipush 114, 2) := by decide +kernel
theorem dX6_readRow_3 : decode cX6_readRow 3 = .ok (.if_icmp .ne 75, 3) := by decide +kernel
theorem dX6_readRow_6 : decode cX6_readRow 6 = .ok (.aload_n 0, 1) := by decide +kernel
theorem dX6_readRow_7 : decode cX6_readRow 7 = .ok (.getfield 17, 3) := by decide +kernel
theorem dX6_readRow_10 : decode cX6_readRow 10 = .ok (.aload_n 0, 1) := by decide +kernel
theorem dX6_readRow_11 : decode cX6_readRow 11 = .ok (.getfield 13, 3) := by decide +kernel
theorem dX6_readRow_14 : decode cX6_readRow 14 = .ok (.iconst 1, 1) := by decide +kernel
theorem dX6_readRow_15 : decode cX6_readRow 15 = .ok (.iaload, 1) := by decide +kernel
theorem dX6_readRow_16 : decode cX6_readRow 16 = .ok (.aload_n 0, 1) := by decide +kernel
theorem dX6_readRow_17 : decode cX6_readRow 17 = .ok (.iconst 0, 1) := by decide +kernel
theorem dX6_readRow_18 : decode cX6_readRow 18 = .ok (.bipush 9, 2) := by decide +kernel
theorem dX6_readRow_20 : decode cX6_readRow 20 = .ok (.invokevirtual 92, 3) := by decide +kernel
theorem dX6_readRow_23 : decode cX6_readRow 23 = .ok (.iastore, 1) := by decide +kernel
theorem dX6_readRow_24 : decode cX6_readRow 24 = .ok (.aload_n 0, 1) := by decide +kernel
theorem dX6_readRow_25 : decode cX6_readRow 25 = .ok (.getfield 20, 3) := by decide +kernel
theorem dX6_readRow_28 : decode cX6_readRow 28 = .ok (.bipush 6, 2) := by decide +kernel
theorem dX6_readRow_30 : decode cX6_readRow 30 = .ok (.aload_n 0, 1) := by decide +kernel
theorem dX6_readRow_31 : decode cX6_readRow 31 = .ok (.getfield 13, 3) := by decide +kernel
theorem dX6_readRow_34 : decode cX6_readRow 34 = .ok (.iconst 1, 1) := by decide +kernel
theorem dX6_readRow_35 : decode cX6_readRow 35 = .ok (.iaload, 1) := by decide +kernel
theorem dX6_readRow_36 : decode cX6_readRow 36 = .ok (.iadd, 1) := by decide +kernel
theorem dX6_readRow_37 : decode cX6_readRow 37 = .ok (.aload_n 0, 1) := by decide +kernel
theorem dX6_readRow_38 : decode cX6_readRow 38 = .ok (.iconst 0, 1) := by decide +kernel
theorem dX6_readRow_39 : decode cX6_readRow 39 = .ok (.bipush 9, 2) := by decide +kernel
theorem dX6_readRow_41 : decode cX6_readRow 41 = .ok (.invokevirtual 92, 3) := by decide +kernel
theorem dX6_readRow_44 : decode cX6_readRow 44 = .ok (.iastore, 1) := by decide +kernel
theorem dX6_readRow_45 : decode cX6_readRow 45 = .ok (.aload_n 0, 1) := by decide +kernel
theorem dX6_readRow_46 : decode cX6_readRow 46 = .ok (.getfield 23, 3) := by decide +kernel
theorem dX6_readRow_49 : decode cX6_readRow 49 = .ok (.bipush 6, 2) := by decide +kernel
theorem dX6_readRow_51 : decode cX6_readRow 51 = .ok (.aload_n 0, 1) := by decide +kernel
theorem dX6_readRow_52 : decode cX6_readRow 52 = .ok (.getfield 13, 3) := by decide +kernel
theorem dX6_readRow_55 : decode cX6_readRow 55 = .ok (.iconst 1, 1) := by decide +kernel
theorem dX6_readRow_56 : decode cX6_readRow 56 = .ok (.iaload, 1) := by decide +kernel
theorem dX6_readRow_57 : decode cX6_readRow 57 = .ok (.iadd, 1) := by decide +kernel
theorem dX6_readRow_58 : decode cX6_readRow 58 = .ok (.aload_n 0, 1) := by decide +kernel
theorem dX6_readRow_59 : decode cX6_readRow 59 = .ok (.iconst 0, 1) := by decide +kernel
theorem dX6_readRow_60 : decode cX6_readRow 60 = .ok (.iconst 2, 1) := by decide +kernel
theorem dX6_readRow_61 : decode cX6_readRow 61 = .ok (.invokevirtual 92, 3) := by decide +kernel
theorem dX6_readRow_64 : decode cX6_readRow 64 = .ok (.iastore, 1) := by decide +kernel
theorem dX6_readRow_65 : decode cX6_readRow 65 = .ok (.aload_n 0, 1) := by decide +kernel
theorem dX6_readRow_66 : decode cX6_readRow 66 = .ok (.getfield 13, 3) := by decide +kernel
theorem dX6_readRow_69 : decode cX6_readRow 69 = .ok (.iconst 1, 1) := by decide +kernel
theorem dX6_readRow_70 : decode cX6_readRow 70 = .ok (.dup2, 1) := by decide +kernel
theorem dX6_readRow_71 : decode cX6_readRow 71 = .ok (.iaload, 1) := by decide +kernel
theorem dX6_readRow_72 : decode cX6_readRow 72 = .ok (.iconst 1, 1) := by decide +kernel
theorem dX6_readRow_73 : decode cX6_readRow 73 = .ok (.iadd, 1) := by decide +kernel
theorem dX6_readRow_74 : decode cX6_readRow 74 = .ok (.iastore, 1) := by decide +kernel
theorem dX6_readRow_75 : decode cX6_readRow 75 = .ok (.goto 21, 3) := by decide +kernel
theorem dX6_readRow_78 : decode cX6_readRow 78 = .ok (.aload_n 0, 1) := by decide +kernel
theorem dX6_readRow_79 : decode cX6_readRow 79 = .ok (.getfield 26, 3) := by decide +kernel
theorem dX6_readRow_82 : decode cX6_readRow 82 = .ok (.iconst 1, 1) := by decide +kernel
theorem dX6_readRow_83 : decode cX6_readRow 83 = .ok (.aload_n 0, 1) := by decide +kernel
theorem dX6_readRow_84 : decode cX6_readRow 84 = .ok (.iconst 1, 1) := by decide +kernel
theorem dX6_readRow_85 : decode cX6_readRow 85 = .ok (.bipush 20, 2) := by decide +kernel
theorem dX6_readRow_87 : decode cX6_readRow 87 = .ok (.invokevirtual 92, 3) := by decide +kernel
theorem dX6_readRow_90 : decode cX6_readRow 90 = .ok (.iastore, 1) := by decide +kernel
theorem dX6_readRow_91 : decode cX6_readRow 91 = .ok (.aload_n 0, 1) := by decide +kernel
theorem dX6_readRow_92 : decode cX6_readRow 92 = .ok (.iconst 1, 1) := by decide +kernel
theorem dX6_readRow_93 : decode cX6_readRow 93 = .ok (.putfield 88, 3) := by decide +kernel
theorem dX6_readRow_96 : decode cX6_readRow 96 = .ok (.return_, 1) := by decide +kernel
theorem dX6_plain_0 : decode cX6_plain 0 = .ok (.aload_n 0, 1) := by decide +kernel
theorem dX6_plain_1 : decode cX6_plain 1 = .ok (.getfield 13, 3) := by decide +kernel
theorem dX6_plain_4 : decode cX6_plain 4 = .ok (.iconst 1, 1) := by decide +kernel
theorem dX6_plain_5 : decode cX6_plain 5 = .ok (.iconst 0, 1) := by decide +kernel
theorem dX6_plain_6 : decode cX6_plain 6 = .ok (.iastore, 1) := by decide +kernel
theorem dX6_plain_7 : decode cX6_plain 7 = .ok (.aload_n 0, 1) := by decide +kernel
theorem dX6_plain_8 : decode cX6_plain 8 = .ok (.getfield 26, 3) := by decide +kernel
theorem dX6_plain_11 : decode cX6_plain 11 = .ok (.iconst 1, 1) := by decide +kernel
theorem dX6_plain_12 : decode cX6_plain 12 = .ok (.bipush 9, 2) := by decide +kernel
theorem dX6_plain_14 : decode cX6_plain 14 = .ok (.iastore, 1) := by decide +kernel
theorem dX6_plain_15 : decode cX6_plain 15 = .ok (.aload_n 0, 1) := by decide +kernel
theorem dX6_plain_16 : decode cX6_plain 16 = .ok (.iconst 0, 1) := by decide +kernel
theorem dX6_plain_17 : decode cX6_plain 17 = .ok (.putfield 88, 3) := by decide +kernel
theorem dX6_plain_20 : decode cX6_plain 20 = .ok (.return_, 1) := by decide +kernel
theorem dX6_takeDraft_0 : decode cX6_takeDraft 0 = .ok (.aload_n 0, 1) := by decide +kernel
theorem dX6_takeDraft_1 : decode cX6_takeDraft 1 = .ok (.getfield 13, 3) := by decide +kernel
theorem dX6_takeDraft_4 : decode cX6_takeDraft 4 = .ok (.iconst 0, 1) := by decide +kernel
theorem dX6_takeDraft_5 : decode cX6_takeDraft 5 = .ok (.aload_n 0, 1) := by decide +kernel
theorem dX6_takeDraft_6 : decode cX6_takeDraft 6 = .ok (.getfield 13, 3) := by decide +kernel
theorem dX6_takeDraft_9 : decode cX6_takeDraft 9 = .ok (.iconst 1, 1) := by decide +kernel
theorem dX6_takeDraft_10 : decode cX6_takeDraft 10 = .ok (.iaload, 1) := by decide +kernel
theorem dX6_takeDraft_11 : decode cX6_takeDraft 11 = .ok (.iastore, 1) := by decide +kernel
theorem dX6_takeDraft_12 : decode cX6_takeDraft 12 = .ok (.aload_n 0, 1) := by decide +kernel
theorem dX6_takeDraft_13 : decode cX6_takeDraft 13 = .ok (.getfield 26, 3) := by decide +kernel
theorem dX6_takeDraft_16 : decode cX6_takeDraft 16 = .ok (.iconst 0, 1) := by decide +kernel
theorem dX6_takeDraft_17 : decode cX6_takeDraft 17 = .ok (.aload_n 0, 1) := by decide +kernel
theorem dX6_takeDraft_18 : decode cX6_takeDraft 18 = .ok (.getfield 26, 3) := by decide +kernel
theorem dX6_takeDraft_21 : decode cX6_takeDraft 21 = .ok (.iconst 1, 1) := by decide +kernel
theorem dX6_takeDraft_22 : decode cX6_takeDraft 22 = .ok (.iaload, 1) := by decide +kernel
theorem dX6_takeDraft_23 : decode cX6_takeDraft 23 = .ok (.iastore, 1) := by decide +kernel
theorem dX6_takeDraft_24 : decode cX6_takeDraft 24 = .ok (.iconst 0, 1) := by decide +kernel
theorem dX6_takeDraft_25 : decode cX6_takeDraft 25 = .ok (.istore_n 1, 1) := by decide +kernel
theorem dX6_takeDraft_26 : decode cX6_takeDraft 26 = .ok (.iload_n 1, 1) := by decide +kernel
theorem dX6_takeDraft_27 : decode cX6_takeDraft 27 = .ok (.bipush 52, 2) := by decide +kernel
theorem dX6_takeDraft_29 : decode cX6_takeDraft 29 = .ok (.if_icmp .ge 16, 3) := by decide +kernel
theorem dX6_takeDraft_32 : decode cX6_takeDraft 32 = .ok (.aload_n 0, 1) := by decide +kernel
theorem dX6_takeDraft_33 : decode cX6_takeDraft 33 = .ok (.getfield 29, 3) := by decide +kernel
theorem dX6_takeDraft_36 : decode cX6_takeDraft 36 = .ok (.iload_n 1, 1) := by decide +kernel
theorem dX6_takeDraft_37 : decode cX6_takeDraft 37 = .ok (.iconst 0, 1) := by decide +kernel
theorem dX6_takeDraft_38 : decode cX6_takeDraft 38 = .ok (.iastore, 1) := by decide +kernel
theorem dX6_takeDraft_39 : decode cX6_takeDraft 39 = .ok (.iinc 1 1, 3) := by decide +kernel
theorem dX6_takeDraft_42 : decode cX6_takeDraft 42 = .ok (.goto (-16), 3) := by decide +kernel
theorem dX6_takeDraft_45 : decode cX6_takeDraft 45 = .ok (.iconst 0, 1) := by decide +kernel
theorem dX6_takeDraft_46 : decode cX6_takeDraft 46 = .ok (.istore_n 1, 1) := by decide +kernel
theorem dX6_takeDraft_47 : decode cX6_takeDraft 47 = .ok (.iload_n 1, 1) := by decide +kernel
theorem dX6_takeDraft_48 : decode cX6_takeDraft 48 = .ok (.bipush 6, 2) := by decide +kernel
theorem dX6_takeDraft_50 : decode cX6_takeDraft 50 = .ok (.if_icmp .ge 64, 3) := by decide +kernel
theorem dX6_takeDraft_53 : decode cX6_takeDraft 53 = .ok (.aload_n 0, 1) := by decide +kernel
theorem dX6_takeDraft_54 : decode cX6_takeDraft 54 = .ok (.getfield 20, 3) := by decide +kernel
theorem dX6_takeDraft_57 : decode cX6_takeDraft 57 = .ok (.iload_n 1, 1) := by decide +kernel
theorem dX6_takeDraft_58 : decode cX6_takeDraft 58 = .ok (.aload_n 0, 1) := by decide +kernel
theorem dX6_takeDraft_59 : decode cX6_takeDraft 59 = .ok (.getfield 20, 3) := by decide +kernel
theorem dX6_takeDraft_62 : decode cX6_takeDraft 62 = .ok (.bipush 6, 2) := by decide +kernel
theorem dX6_takeDraft_64 : decode cX6_takeDraft 64 = .ok (.iload_n 1, 1) := by decide +kernel
theorem dX6_takeDraft_65 : decode cX6_takeDraft 65 = .ok (.iadd, 1) := by decide +kernel
theorem dX6_takeDraft_66 : decode cX6_takeDraft 66 = .ok (.iaload, 1) := by decide +kernel
theorem dX6_takeDraft_67 : decode cX6_takeDraft 67 = .ok (.iastore, 1) := by decide +kernel
theorem dX6_takeDraft_68 : decode cX6_takeDraft 68 = .ok (.aload_n 0, 1) := by decide +kernel
theorem dX6_takeDraft_69 : decode cX6_takeDraft 69 = .ok (.getfield 23, 3) := by decide +kernel
theorem dX6_takeDraft_72 : decode cX6_takeDraft 72 = .ok (.iload_n 1, 1) := by decide +kernel
theorem dX6_takeDraft_73 : decode cX6_takeDraft 73 = .ok (.aload_n 0, 1) := by decide +kernel
theorem dX6_takeDraft_74 : decode cX6_takeDraft 74 = .ok (.getfield 23, 3) := by decide +kernel
theorem dX6_takeDraft_77 : decode cX6_takeDraft 77 = .ok (.bipush 6, 2) := by decide +kernel
theorem dX6_takeDraft_79 : decode cX6_takeDraft 79 = .ok (.iload_n 1, 1) := by decide +kernel
theorem dX6_takeDraft_80 : decode cX6_takeDraft 80 = .ok (.iadd, 1) := by decide +kernel
theorem dX6_takeDraft_81 : decode cX6_takeDraft 81 = .ok (.iaload, 1) := by decide +kernel
theorem dX6_takeDraft_82 : decode cX6_takeDraft 82 = .ok (.iastore, 1) := by decide +kernel
theorem dX6_takeDraft_83 : decode cX6_takeDraft 83 = .ok (.aload_n 0, 1) := by decide +kernel
theorem dX6_takeDraft_84 : decode cX6_takeDraft 84 = .ok (.getfield 29, 3) := by decide +kernel
theorem dX6_takeDraft_87 : decode cX6_takeDraft 87 = .ok (.iconst 4, 1) := by decide +kernel
theorem dX6_takeDraft_88 : decode cX6_takeDraft 88 = .ok (.iload_n 1, 1) := by decide +kernel
theorem dX6_takeDraft_89 : decode cX6_takeDraft 89 = .ok (.iadd, 1) := by decide +kernel
theorem dX6_takeDraft_90 : decode cX6_takeDraft 90 = .ok (.aload_n 0, 1) := by decide +kernel
theorem dX6_takeDraft_91 : decode cX6_takeDraft 91 = .ok (.getfield 17, 3) := by decide +kernel
theorem dX6_takeDraft_94 : decode cX6_takeDraft 94 = .ok (.iload_n 1, 1) := by decide +kernel
theorem dX6_takeDraft_95 : decode cX6_takeDraft 95 = .ok (.iaload, 1) := by decide +kernel
theorem dX6_takeDraft_96 : decode cX6_takeDraft 96 = .ok (.iastore, 1) := by decide +kernel
theorem dX6_takeDraft_97 : decode cX6_takeDraft 97 = .ok (.aload_n 0, 1) := by decide +kernel
theorem dX6_takeDraft_98 : decode cX6_takeDraft 98 = .ok (.getfield 29, 3) := by decide +kernel
theorem dX6_takeDraft_101 : decode cX6_takeDraft 101 = .ok (.bipush 10, 2) := by decide +kernel
theorem dX6_takeDraft_103 : decode cX6_takeDraft 103 = .ok (.iload_n 1, 1) := by decide +kernel
theorem dX6_takeDraft_104 : decode cX6_takeDraft 104 = .ok (.iadd, 1) := by decide +kernel
theorem dX6_takeDraft_105 : decode cX6_takeDraft 105 = .ok (.bipush (-9), 2) := by decide +kernel
theorem dX6_takeDraft_107 : decode cX6_takeDraft 107 = .ok (.iastore, 1) := by decide +kernel
theorem dX6_takeDraft_108 : decode cX6_takeDraft 108 = .ok (.iinc 1 1, 3) := by decide +kernel
theorem dX6_takeDraft_111 : decode cX6_takeDraft 111 = .ok (.goto (-64), 3) := by decide +kernel
theorem dX6_takeDraft_114 : decode cX6_takeDraft 114 = .ok (.aload_n 0, 1) := by decide +kernel
theorem dX6_takeDraft_115 : decode cX6_takeDraft 115 = .ok (.getfield 29, 3) := by decide +kernel
theorem dX6_takeDraft_118 : decode cX6_takeDraft 118 = .ok (.iconst 1, 1) := by decide +kernel
theorem dX6_takeDraft_119 : decode cX6_takeDraft 119 = .ok (.iconst 1, 1) := by decide +kernel
theorem dX6_takeDraft_120 : decode cX6_takeDraft 120 = .ok (.aload_n 0, 1) := by decide +kernel
theorem dX6_takeDraft_121 : decode cX6_takeDraft 121 = .ok (.getfield 13, 3) := by decide +kernel
theorem dX6_takeDraft_124 : decode cX6_takeDraft 124 = .ok (.iconst 0, 1) := by decide +kernel
theorem dX6_takeDraft_125 : decode cX6_takeDraft 125 = .ok (.iaload, 1) := by decide +kernel
theorem dX6_takeDraft_126 : decode cX6_takeDraft 126 = .ok (.ishl, 1) := by decide +kernel
theorem dX6_takeDraft_127 : decode cX6_takeDraft 127 = .ok (.iconst 1, 1) := by decide +kernel
theorem dX6_takeDraft_128 : decode cX6_takeDraft 128 = .ok (.isub, 1) := by decide +kernel
theorem dX6_takeDraft_129 : decode cX6_takeDraft 129 = .ok (.iastore, 1) := by decide +kernel
theorem dX6_takeDraft_130 : decode cX6_takeDraft 130 = .ok (.aload_n 0, 1) := by decide +kernel
theorem dX6_takeDraft_131 : decode cX6_takeDraft 131 = .ok (.getfield 29, 3) := by decide +kernel
theorem dX6_takeDraft_134 : decode cX6_takeDraft 134 = .ok (.bipush 52, 2) := by decide +kernel
theorem dX6_takeDraft_136 : decode cX6_takeDraft 136 = .ok (.iconst 0, 1) := by decide +kernel
theorem dX6_takeDraft_137 : decode cX6_takeDraft 137 = .ok (.iastore, 1) := by decide +kernel
theorem dX6_takeDraft_138 : decode cX6_takeDraft 138 = .ok (.aload_n 0, 1) := by decide +kernel
theorem dX6_takeDraft_139 : decode cX6_takeDraft 139 = .ok (.iconst 0, 1) := by decide +kernel
theorem dX6_takeDraft_140 : decode cX6_takeDraft 140 = .ok (.putfield 96, 3) := by decide +kernel
theorem dX6_takeDraft_143 : decode cX6_takeDraft 143 = .ok (.aload_n 0, 1) := by decide +kernel
theorem dX6_takeDraft_144 : decode cX6_takeDraft 144 = .ok (.getfield 32, 3) := by decide +kernel
theorem dX6_takeDraft_147 : decode cX6_takeDraft 147 = .ok (.iconst 0, 1) := by decide +kernel
theorem dX6_takeDraft_148 : decode cX6_takeDraft 148 = .ok (.iconst 0, 1) := by decide +kernel
theorem dX6_takeDraft_149 : decode cX6_takeDraft 149 = .ok (.bastore, 1) := by decide +kernel
theorem dX6_takeDraft_150 : decode cX6_takeDraft 150 = .ok (.aload_n 0, 1) := by decide +kernel
theorem dX6_takeDraft_151 : decode cX6_takeDraft 151 = .ok (.getfield 32, 3) := by decide +kernel
theorem dX6_takeDraft_154 : decode cX6_takeDraft 154 = .ok (.iconst 1, 1) := by decide +kernel
theorem dX6_takeDraft_155 : decode cX6_takeDraft 155 = .ok (.iconst 0, 1) := by decide +kernel
theorem dX6_takeDraft_156 : decode cX6_takeDraft 156 = .ok (.bastore, 1) := by decide +kernel
theorem dX6_takeDraft_157 : decode cX6_takeDraft 157 = .ok (.return_, 1) := by decide +kernel
set_option maxRecDepth 20000 in
theorem ggX6_car_X6_plain : GoodIn wsX6_car wsX6_plain := goodIn_r _ [9, 10, 11, 12, 53, 54, 55, 56, 57, 58, 59, 60, 61, 62, 63, 64, 65, 66, 67, 68, 69, 70, 71, 72, 73] (by decide +kernel) (by decide +kernel)
set_option maxRecDepth 20000 in
theorem gX6_car_X6_plain : GoodIn wsX6_car (wsV RX6 48 RX6 yX6_plain wsX6_plain) := goodIn_app (goodIn_of _ (by decide +kernel)) ggX6_car_X6_plain
set_option maxRecDepth 20000 in
theorem ggX6_car_X6_step : GoodIn wsX6_car wsX6_step := goodIn_r _ [16, 1, 17, 18, 3, 19, 20, 21, 8, 22, 4, 23, 24, 25, 26, 53, 54, 55, 56, 57, 58, 59, 60, 61, 62, 63, 64, 65, 66, 67, 68, 69, 70, 71, 72, 73] (by decide +kernel) (by decide +kernel)
set_option maxRecDepth 20000 in
theorem gX6_car_X6_step : GoodIn wsX6_car (wsV RX6 81 RX6 yX6_step wsX6_step) := goodIn_app (goodIn_of _ (by decide +kernel)) ggX6_car_X6_step
set_option maxRecDepth 20000 in
theorem ggX6_car_X6_mayBe : GoodIn wsX6_car wsX6_mayBe := goodIn_r _ [30, 10, 12, 53, 54, 55, 56, 57, 58, 59, 60, 61, 62, 63, 64, 65, 66, 67, 68, 69, 70, 71, 72, 73] (by decide +kernel) (by decide +kernel)
set_option maxRecDepth 20000 in
theorem gX6_car_X6_mayBe : GoodIn wsX6_car (wsV RX6 99 RX6 yX6_mayBe wsX6_mayBe) := goodIn_app (goodIn_of _ (by decide +kernel)) ggX6_car_X6_mayBe
set_option maxRecDepth 20000 in
theorem ggX6_car_X6_due : GoodIn wsX6_car wsX6_due := goodIn_r _ [34, 18, 2, 17, 13, 14, 15, 8, 16, 1, 3, 19, 20, 21, 22, 4, 23, 24, 25, 26, 53, 54, 55, 56, 57, 58, 59, 60, 61, 62, 63, 64, 65, 66, 67, 68, 69, 70, 71, 72, 73] (by decide +kernel) (by decide +kernel)
set_option maxRecDepth 20000 in
theorem gX6_car_X6_due : GoodIn wsX6_car (wsV RX6 84 RX6 yX6_due wsX6_due) := goodIn_app (goodIn_of _ (by decide +kernel)) ggX6_car_X6_due
set_option maxRecDepth 20000 in
theorem ggX6_car_X6_readRow : GoodIn wsX6_car wsX6_readRow := goodIn_r _ [38, 39, 10, 40, 41, 11, 12, 42, 43, 44, 8, 45, 3, 18, 24, 25, 26, 31, 32, 33, 34, 2, 17, 13, 14, 15, 16, 1, 19, 20, 21, 22, 4, 23, 53, 54, 55, 56, 57, 58, 59, 60, 61, 62, 63, 64, 65, 66, 67, 68, 69, 70, 71, 72, 73] (by decide +kernel) (by decide +kernel)
set_option maxRecDepth 20000 in
theorem gX6_car_X6_readRow : GoodIn wsX6_car (wsV RX6 103 RX6 yX6_readRow wsX6_readRow) := goodIn_app (goodIn_of _ (by decide +kernel)) ggX6_car_X6_readRow
set_option maxRecDepth 20000 in
theorem ggX6_car_X6_takeDraft : GoodIn wsX6_car wsX6_takeDraft := goodIn_r _ [49, 10, 11, 50, 40, 41, 39, 51, 52, 53, 54, 55, 56, 57, 58, 59, 60, 61, 62, 63, 64, 65, 66, 67, 68, 69, 70, 71, 72, 73] (by decide +kernel) (by decide +kernel)
set_option maxRecDepth 20000 in
theorem gX6_car_X6_takeDraft : GoodIn wsX6_car (wsV RX6 51 RX6 yX6_takeDraft wsX6_takeDraft) := goodIn_app (goodIn_of _ (by decide +kernel)) ggX6_car_X6_takeDraft
theorem dX6_car_0 : decode cX6_car 0 = .ok (.aload_n 0, 1) := by decide +kernel
theorem dX6_car_1 : decode cX6_car 1 = .ok (.iconst 0, 1) := by decide +kernel
theorem dX6_car_2 : decode cX6_car 2 = .ok (.putfield 62, 3) := by decide +kernel
theorem dX6_car_5 : decode cX6_car 5 = .ok (.aload_n 0, 1) := by decide +kernel
theorem dX6_car_6 : decode cX6_car 6 = .ok (.bipush (-9), 2) := by decide +kernel
theorem dX6_car_8 : decode cX6_car 8 = .ok (.putfield 78, 3) := by decide +kernel
theorem dX6_car_11 : decode cX6_car 11 = .ok (.aload_n 0, 1) := by decide +kernel
theorem dX6_car_12 : decode cX6_car 12 = .ok (.invokevirtual 48, 3) := by decide +kernel
theorem dX6_car_15 : decode cX6_car 15 = .ok (.iconst 0, 1) := by decide +kernel
theorem dX6_car_16 : decode cX6_car 16 = .ok (.istore_n 1, 1) := by decide +kernel
theorem dX6_car_17 : decode cX6_car 17 = .ok (.aload_n 0, 1) := by decide +kernel
theorem dX6_car_18 : decode cX6_car 18 = .ok (.invokevirtual 81, 3) := by decide +kernel
theorem dX6_car_21 : decode cX6_car 21 = .ok (.aload_n 0, 1) := by decide +kernel
theorem dX6_car_22 : decode cX6_car 22 = .ok (.getfield 78, 3) := by decide +kernel
theorem dX6_car_25 : decode cX6_car 25 = .ok (.bipush (-9), 2) := by decide +kernel
theorem dX6_car_27 : decode cX6_car 27 = .ok (.if_icmp .ne 64, 3) := by decide +kernel
theorem dX6_car_30 : decode cX6_car 30 = .ok (.aload_n 0, 1) := by decide +kernel
theorem dX6_car_31 : decode cX6_car 31 = .ok (.getfield 75, 3) := by decide +kernel
theorem dX6_car_34 : decode cX6_car 34 = .ok (.iconst 3, 1) := by decide +kernel
theorem dX6_car_35 : decode cX6_car 35 = .ok (.if_icmp .eq 56, 3) := by decide +kernel
theorem dX6_car_38 : decode cX6_car 38 = .ok (.aload_n 0, 1) := by decide +kernel
theorem dX6_car_39 : decode cX6_car 39 = .ok (.getfield 75, 3) := by decide +kernel
theorem dX6_car_42 : decode cX6_car 42 = .ok (.istore_n 2, 1) := by decide +kernel
theorem dX6_car_43 : decode cX6_car 43 = .ok (.aload_n 0, 1) := by decide +kernel
theorem dX6_car_44 : decode cX6_car 44 = .ok (.aload_n 0, 1) := by decide +kernel
theorem dX6_car_45 : decode cX6_car 45 = .ok (.iload_n 2, 1) := by decide +kernel
theorem dX6_car_46 : decode cX6_car 46 = .ok (.invokevirtual 99, 3) := by decide +kernel
theorem dX6_car_49 : decode cX6_car 49 = .ok (.invokevirtual 84, 3) := by decide +kernel
theorem dX6_car_52 : decode cX6_car 52 = .ok (.pop, 1) := by decide +kernel
theorem dX6_car_53 : decode cX6_car 53 = .ok (.aload_n 0, 1) := by decide +kernel
theorem dX6_car_54 : decode cX6_car 54 = .ok (.getfield 78, 3) := by decide +kernel
theorem dX6_car_57 : decode cX6_car 57 = .ok (.bipush (-9), 2) := by decide +kernel
theorem dX6_car_59 : decode cX6_car 59 = .ok (.if_icmp .ne 29, 3) := by decide +kernel
theorem dX6_car_62 : decode cX6_car 62 = .ok (.aload_n 0, 1) := by decide +kernel
theorem dX6_car_63 : decode cX6_car 63 = .ok (.iload_n 2, 1) := by decide +kernel
theorem dX6_car_64 : decode cX6_car 64 = .ok (.invokevirtual 103, 3) := by decide +kernel
theorem dX6_car_67 : decode cX6_car 67 = .ok (.aload_n 0, 1) := by decide +kernel
theorem dX6_car_68 : decode cX6_car 68 = .ok (.aload_n 0, 1) := by decide +kernel
theorem dX6_car_69 : decode cX6_car 69 = .ok (.getfield 75, 3) := by decide +kernel
theorem dX6_car_72 : decode cX6_car 72 = .ok (.iconst 2, 1) := by decide +kernel
theorem dX6_car_73 : decode cX6_car 73 = .ok (.if_icmp .ne 7, 3) := by decide +kernel
theorem dX6_car_76 : decode cX6_car 76 = .ok (.iconst 1, 1) := by decide +kernel
theorem dX6_car_77 : decode cX6_car 77 = .ok (.goto 4, 3) := by decide +kernel
theorem dX6_car_80 : decode cX6_car 80 = .ok (.iconst 0, 1) := by decide +kernel
theorem dX6_car_81 : decode cX6_car 81 = .ok (.invokevirtual 84, 3) := by decide +kernel
theorem dX6_car_84 : decode cX6_car 84 = .ok (.pop, 1) := by decide +kernel
theorem dX6_car_85 : decode cX6_car 85 = .ok (.iinc 1 1, 3) := by decide +kernel
theorem dX6_car_88 : decode cX6_car 88 = .ok (.goto (-67), 3) := by decide +kernel
theorem dX6_car_91 : decode cX6_car 91 = .ok (.aload_n 0, 1) := by decide +kernel
theorem dX6_car_92 : decode cX6_car 92 = .ok (.getfield 78, 3) := by decide +kernel
theorem dX6_car_95 : decode cX6_car 95 = .ok (.bipush (-9), 2) := by decide +kernel
theorem dX6_car_97 : decode cX6_car 97 = .ok (.if_icmp .eq 11, 3) := by decide +kernel
theorem dX6_car_100 : decode cX6_car 100 = .ok (.bipush (-10), 2) := by decide +kernel
theorem dX6_car_102 : decode cX6_car 102 = .ok (.aload_n 0, 1) := by decide +kernel
theorem dX6_car_103 : decode cX6_car 103 = .ok (.getfield 78, 3) := by decide +kernel
theorem dX6_car_106 : decode cX6_car 106 = .ok (.isub, 1) := by decide +kernel
theorem dX6_car_107 : decode cX6_car 107 = .ok (.ireturn, 1) := by decide +kernel
theorem dX6_car_108 : decode cX6_car 108 = .ok (.aload_n 0, 1) := by decide +kernel
theorem dX6_car_109 : decode cX6_car 109 = .ok (.invokevirtual 51, 3) := by decide +kernel
theorem dX6_car_112 : decode cX6_car 112 = .ok (.aload_n 0, 1) := by decide +kernel
theorem dX6_car_113 : decode cX6_car 113 = .ok (.iconst 0, 1) := by decide +kernel
theorem dX6_car_114 : decode cX6_car 114 = .ok (.putfield 58, 3) := by decide +kernel
theorem dX6_car_117 : decode cX6_car 117 = .ok (.iload_n 1, 1) := by decide +kernel
theorem dX6_car_118 : decode cX6_car 118 = .ok (.ireturn, 1) := by decide +kernel
theorem dX6_take_0 : decode cX6_take 0 = .ok (.iconst 0, 1) := by decide +kernel
theorem dX6_take_1 : decode cX6_take 1 = .ok (.istore_n 1, 1) := by decide +kernel
theorem dX6_take_2 : decode cX6_take 2 = .ok (.iload_n 1, 1) := by decide +kernel
theorem dX6_take_3 : decode cX6_take 3 = .ok (.bipush 52, 2) := by decide +kernel
theorem dX6_take_5 : decode cX6_take 5 = .ok (.if_icmp .ge 21, 3) := by decide +kernel
theorem dX6_take_8 : decode cX6_take 8 = .ok (.aload_n 0, 1) := by decide +kernel
theorem dX6_take_9 : decode cX6_take 9 = .ok (.getfield 36, 3) := by decide +kernel
theorem dX6_take_12 : decode cX6_take 12 = .ok (.iload_n 1, 1) := by decide +kernel
theorem dX6_take_13 : decode cX6_take 13 = .ok (.aload_n 0, 1) := by decide +kernel
theorem dX6_take_14 : decode cX6_take 14 = .ok (.getfield 29, 3) := by decide +kernel
theorem dX6_take_17 : decode cX6_take 17 = .ok (.iload_n 1, 1) := by decide +kernel
theorem dX6_take_18 : decode cX6_take 18 = .ok (.iaload, 1) := by decide +kernel
theorem dX6_take_19 : decode cX6_take 19 = .ok (.iastore, 1) := by decide +kernel
theorem dX6_take_20 : decode cX6_take 20 = .ok (.iinc 1 1, 3) := by decide +kernel
theorem dX6_take_23 : decode cX6_take 23 = .ok (.goto (-21), 3) := by decide +kernel
theorem dX6_take_26 : decode cX6_take 26 = .ok (.return_, 1) := by decide +kernel
set_option maxRecDepth 20000 in
theorem ggX6_isRider_X6_in : GoodIn wsX6_isRider wsX6_in := goodIn_r _ [5] (by decide +kernel) (by decide +kernel)
set_option maxRecDepth 20000 in
theorem gX6_isRider_X6_in : GoodIn wsX6_isRider (va_wsS RX6 54 yX6_in wsX6_in) := goodIn_app (goodIn_of _ (by decide +kernel)) ggX6_isRider_X6_in
theorem dX6_isRider_0 : decode cX6_isRider 0 = .ok (.iload_n 1, 1) := by decide +kernel
theorem dX6_isRider_1 : decode cX6_isRider 1 = .ok (.iconst 0, 1) := by decide +kernel
theorem dX6_isRider_2 : decode cX6_isRider 2 = .ok (.aload_n 0, 1) := by decide +kernel
theorem dX6_isRider_3 : decode cX6_isRider 3 = .ok (.getfield 13, 3) := by decide +kernel
theorem dX6_isRider_6 : decode cX6_isRider 6 = .ok (.iconst 0, 1) := by decide +kernel
theorem dX6_isRider_7 : decode cX6_isRider 7 = .ok (.iaload, 1) := by decide +kernel
theorem dX6_isRider_8 : decode cX6_isRider 8 = .ok (.iconst 1, 1) := by decide +kernel
theorem dX6_isRider_9 : decode cX6_isRider 9 = .ok (.isub, 1) := by decide +kernel
theorem dX6_isRider_10 : decode cX6_isRider 10 = .ok (.invokestatic 54, 3) := by decide +kernel
theorem dX6_isRider_13 : decode cX6_isRider 13 = .ok (.ireturn, 1) := by decide +kernel
theorem dX6_isAboard_0 : decode cX6_isAboard 0 = .ok (.aload_n 1, 1) := by decide +kernel
theorem dX6_isAboard_1 : decode cX6_isAboard 1 = .ok (.iconst 1, 1) := by decide +kernel
theorem dX6_isAboard_2 : decode cX6_isAboard 2 = .ok (.iaload, 1) := by decide +kernel
theorem dX6_isAboard_3 : decode cX6_isAboard 3 = .ok (.iload_n 2, 1) := by decide +kernel
theorem dX6_isAboard_4 : decode cX6_isAboard 4 = .ok (.ishr, 1) := by decide +kernel
theorem dX6_isAboard_5 : decode cX6_isAboard 5 = .ok (.iconst 1, 1) := by decide +kernel
theorem dX6_isAboard_6 : decode cX6_isAboard 6 = .ok (.iand, 1) := by decide +kernel
theorem dX6_isAboard_7 : decode cX6_isAboard 7 = .ok (.iconst 1, 1) := by decide +kernel
theorem dX6_isAboard_8 : decode cX6_isAboard 8 = .ok (.if_icmp .ne 7, 3) := by decide +kernel
theorem dX6_isAboard_11 : decode cX6_isAboard 11 = .ok (.iconst 1, 1) := by decide +kernel
theorem dX6_isAboard_12 : decode cX6_isAboard 12 = .ok (.goto 4, 3) := by decide +kernel
theorem dX6_isAboard_15 : decode cX6_isAboard 15 = .ok (.iconst 0, 1) := by decide +kernel
theorem dX6_isAboard_16 : decode cX6_isAboard 16 = .ok (.ireturn, 1) := by decide +kernel
set_option maxRecDepth 20000 in
theorem ggX6_isHere_X6_isRider : GoodIn wsX6_isHere wsX6_isRider := goodIn_r _ [6, 7, 8, 9, 5, 10, 15, 16, 17, 18, 19, 20, 21, 22, 23, 24, 25, 26, 27, 28, 29, 30, 31, 32, 33, 34, 35] (by decide +kernel) (by decide +kernel)
set_option maxRecDepth 20000 in
theorem gX6_isHere_X6_isRider : GoodIn wsX6_isHere (wsV RX6 107 RX6 yX6_isRider wsX6_isRider) := goodIn_app (goodIn_of _ (by decide +kernel)) ggX6_isHere_X6_isRider
set_option maxRecDepth 20000 in
theorem ggX6_isHere_X6_isAboard : GoodIn wsX6_isHere wsX6_isAboard := goodIn_r _ [14] (by decide +kernel) (by decide +kernel)
set_option maxRecDepth 20000 in
theorem gX6_isHere_X6_isAboard : GoodIn wsX6_isHere (wsV RX6 110 RX6 yX6_isAboard wsX6_isAboard) := goodIn_app (goodIn_of _ (by decide +kernel)) ggX6_isHere_X6_isAboard
theorem dX6_isHere_0 : decode cX6_isHere 0 = .ok (.aload_n 0, 1) := by decide +kernel
theorem dX6_isHere_1 : decode cX6_isHere 1 = .ok (.iload_n 1, 1) := by decide +kernel
theorem dX6_isHere_2 : decode cX6_isHere 2 = .ok (.invokevirtual 107, 3) := by decide +kernel
theorem dX6_isHere_5 : decode cX6_isHere 5 = .ok (.ifCond .eq 19, 3) := by decide +kernel
theorem dX6_isHere_8 : decode cX6_isHere 8 = .ok (.aload_n 0, 1) := by decide +kernel
theorem dX6_isHere_9 : decode cX6_isHere 9 = .ok (.aload_n 0, 1) := by decide +kernel
theorem dX6_isHere_10 : decode cX6_isHere 10 = .ok (.getfield 29, 3) := by decide +kernel
theorem dX6_isHere_13 : decode cX6_isHere 13 = .ok (.iload_n 1, 1) := by decide +kernel
theorem dX6_isHere_14 : decode cX6_isHere 14 = .ok (.invokevirtual 110, 3) := by decide +kernel
theorem dX6_isHere_17 : decode cX6_isHere 17 = .ok (.ifCond .eq 7, 3) := by decide +kernel
theorem dX6_isHere_20 : decode cX6_isHere 20 = .ok (.iconst 1, 1) := by decide +kernel
theorem dX6_isHere_21 : decode cX6_isHere 21 = .ok (.goto 4, 3) := by decide +kernel
theorem dX6_isHere_24 : decode cX6_isHere 24 = .ok (.iconst 0, 1) := by decide +kernel
theorem dX6_isHere_25 : decode cX6_isHere 25 = .ok (.ireturn, 1) := by decide +kernel
theorem dX6_manyOf_0 : decode cX6_manyOf 0 = .ok (.iconst 0, 1) := by decide +kernel
theorem dX6_manyOf_1 : decode cX6_manyOf 1 = .ok (.istore_n 1, 1) := by decide +kernel
theorem dX6_manyOf_2 : decode cX6_manyOf 2 = .ok (.iconst 0, 1) := by decide +kernel
theorem dX6_manyOf_3 : decode cX6_manyOf 3 = .ok (.istore_n 2, 1) := by decide +kernel
theorem dX6_manyOf_4 : decode cX6_manyOf 4 = .ok (.iload_n 2, 1) := by decide +kernel
theorem dX6_manyOf_5 : decode cX6_manyOf 5 = .ok (.bipush 6, 2) := by decide +kernel
theorem dX6_manyOf_7 : decode cX6_manyOf 7 = .ok (.if_icmp .ge 17, 3) := by decide +kernel
theorem dX6_manyOf_10 : decode cX6_manyOf 10 = .ok (.iload_n 1, 1) := by decide +kernel
theorem dX6_manyOf_11 : decode cX6_manyOf 11 = .ok (.iload_n 0, 1) := by decide +kernel
theorem dX6_manyOf_12 : decode cX6_manyOf 12 = .ok (.iload_n 2, 1) := by decide +kernel
theorem dX6_manyOf_13 : decode cX6_manyOf 13 = .ok (.ishr, 1) := by decide +kernel
theorem dX6_manyOf_14 : decode cX6_manyOf 14 = .ok (.iconst 1, 1) := by decide +kernel
theorem dX6_manyOf_15 : decode cX6_manyOf 15 = .ok (.iand, 1) := by decide +kernel
theorem dX6_manyOf_16 : decode cX6_manyOf 16 = .ok (.iadd, 1) := by decide +kernel
theorem dX6_manyOf_17 : decode cX6_manyOf 17 = .ok (.istore_n 1, 1) := by decide +kernel
theorem dX6_manyOf_18 : decode cX6_manyOf 18 = .ok (.iinc 2 1, 3) := by decide +kernel
theorem dX6_manyOf_21 : decode cX6_manyOf 21 = .ok (.goto (-17), 3) := by decide +kernel
theorem dX6_manyOf_24 : decode cX6_manyOf 24 = .ok (.iload_n 1, 1) := by decide +kernel
theorem dX6_manyOf_25 : decode cX6_manyOf 25 = .ok (.ireturn, 1) := by decide +kernel
theorem dX6_apart_0 : decode cX6_apart 0 = .ok (.iload_n 0, 1) := by decide +kernel
theorem dX6_apart_1 : decode cX6_apart 1 = .ok (.iload_n 1, 1) := by decide +kernel
theorem dX6_apart_2 : decode cX6_apart 2 = .ok (.if_icmp .ge 9, 3) := by decide +kernel
theorem dX6_apart_5 : decode cX6_apart 5 = .ok (.iload_n 1, 1) := by decide +kernel
theorem dX6_apart_6 : decode cX6_apart 6 = .ok (.iload_n 0, 1) := by decide +kernel
theorem dX6_apart_7 : decode cX6_apart 7 = .ok (.isub, 1) := by decide +kernel
theorem dX6_apart_8 : decode cX6_apart 8 = .ok (.goto 6, 3) := by decide +kernel
theorem dX6_apart_11 : decode cX6_apart 11 = .ok (.iload_n 0, 1) := by decide +kernel
theorem dX6_apart_12 : decode cX6_apart 12 = .ok (.iload_n 1, 1) := by decide +kernel
theorem dX6_apart_13 : decode cX6_apart 13 = .ok (.isub, 1) := by decide +kernel
theorem dX6_apart_14 : decode cX6_apart 14 = .ok (.ireturn, 1) := by decide +kernel
set_option maxRecDepth 20000 in
theorem ggX6_isNearer_X6_apart : GoodIn wsX6_isNearer wsX6_apart := goodIn_r _ [5] (by decide +kernel) (by decide +kernel)
set_option maxRecDepth 20000 in
theorem gX6_isNearer_X6_apart : GoodIn wsX6_isNearer (va_wsS RX6 114 yX6_apart wsX6_apart) := goodIn_app (goodIn_of _ (by decide +kernel)) ggX6_isNearer_X6_apart
theorem dX6_isNearer_0 : decode cX6_isNearer 0 = .ok (.iload_n 3, 1) := by decide +kernel
theorem dX6_isNearer_1 : decode cX6_isNearer 1 = .ok (.lookupswitch 87 #[(0, 27), (1, 64)], 27) := by decide +kernel
theorem dX6_isNearer_28 : decode cX6_isNearer 28 = .ok (.aload_n 1, 1) := by decide +kernel
theorem dX6_isNearer_29 : decode cX6_isNearer 29 = .ok (.iconst 4, 1) := by decide +kernel
theorem dX6_isNearer_30 : decode cX6_isNearer 30 = .ok (.iload_n 2, 1) := by decide +kernel
theorem dX6_isNearer_31 : decode cX6_isNearer 31 = .ok (.iadd, 1) := by decide +kernel
theorem dX6_isNearer_32 : decode cX6_isNearer 32 = .ok (.iaload, 1) := by decide +kernel
theorem dX6_isNearer_33 : decode cX6_isNearer 33 = .ok (.aload_n 1, 1) := by decide +kernel
theorem dX6_isNearer_34 : decode cX6_isNearer 34 = .ok (.iconst 4, 1) := by decide +kernel
theorem dX6_isNearer_35 : decode cX6_isNearer 35 = .ok (.iload 4, 2) := by decide +kernel
theorem dX6_isNearer_37 : decode cX6_isNearer 37 = .ok (.iadd, 1) := by decide +kernel
theorem dX6_isNearer_38 : decode cX6_isNearer 38 = .ok (.iaload, 1) := by decide +kernel
theorem dX6_isNearer_39 : decode cX6_isNearer 39 = .ok (.invokestatic 114, 3) := by decide +kernel
theorem dX6_isNearer_42 : decode cX6_isNearer 42 = .ok (.aload_n 1, 1) := by decide +kernel
theorem dX6_isNearer_43 : decode cX6_isNearer 43 = .ok (.iconst 4, 1) := by decide +kernel
theorem dX6_isNearer_44 : decode cX6_isNearer 44 = .ok (.iload_n 2, 1) := by decide +kernel
theorem dX6_isNearer_45 : decode cX6_isNearer 45 = .ok (.iadd, 1) := by decide +kernel
theorem dX6_isNearer_46 : decode cX6_isNearer 46 = .ok (.iaload, 1) := by decide +kernel
theorem dX6_isNearer_47 : decode cX6_isNearer 47 = .ok (.aload_n 1, 1) := by decide +kernel
theorem dX6_isNearer_48 : decode cX6_isNearer 48 = .ok (.iconst 4, 1) := by decide +kernel
theorem dX6_isNearer_49 : decode cX6_isNearer 49 = .ok (.iload 5, 2) := by decide +kernel
theorem dX6_isNearer_51 : decode cX6_isNearer 51 = .ok (.iadd, 1) := by decide +kernel
theorem dX6_isNearer_52 : decode cX6_isNearer 52 = .ok (.iaload, 1) := by decide +kernel
theorem dX6_isNearer_53 : decode cX6_isNearer 53 = .ok (.invokestatic 114, 3) := by decide +kernel
theorem dX6_isNearer_56 : decode cX6_isNearer 56 = .ok (.if_icmp .ge 7, 3) := by decide +kernel
theorem dX6_isNearer_59 : decode cX6_isNearer 59 = .ok (.iconst 1, 1) := by decide +kernel
theorem dX6_isNearer_60 : decode cX6_isNearer 60 = .ok (.goto 4, 3) := by decide +kernel
theorem dX6_isNearer_63 : decode cX6_isNearer 63 = .ok (.iconst 0, 1) := by decide +kernel
theorem dX6_isNearer_64 : decode cX6_isNearer 64 = .ok (.ireturn, 1) := by decide +kernel
theorem dX6_isNearer_65 : decode cX6_isNearer 65 = .ok (.aload_n 0, 1) := by decide +kernel
theorem dX6_isNearer_66 : decode cX6_isNearer 66 = .ok (.getfield 20, 3) := by decide +kernel
theorem dX6_isNearer_69 : decode cX6_isNearer 69 = .ok (.iload 4, 2) := by decide +kernel
theorem dX6_isNearer_71 : decode cX6_isNearer 71 = .ok (.iaload, 1) := by decide +kernel
theorem dX6_isNearer_72 : decode cX6_isNearer 72 = .ok (.aload_n 0, 1) := by decide +kernel
theorem dX6_isNearer_73 : decode cX6_isNearer 73 = .ok (.getfield 20, 3) := by decide +kernel
theorem dX6_isNearer_76 : decode cX6_isNearer 76 = .ok (.iload 5, 2) := by decide +kernel
theorem dX6_isNearer_78 : decode cX6_isNearer 78 = .ok (.iaload, 1) := by decide +kernel
theorem dX6_isNearer_79 : decode cX6_isNearer 79 = .ok (.if_icmp .le 7, 3) := by decide +kernel
theorem dX6_isNearer_82 : decode cX6_isNearer 82 = .ok (.iconst 1, 1) := by decide +kernel
theorem dX6_isNearer_83 : decode cX6_isNearer 83 = .ok (.goto 4, 3) := by decide +kernel
theorem dX6_isNearer_86 : decode cX6_isNearer 86 = .ok (.iconst 0, 1) := by decide +kernel
theorem dX6_isNearer_87 : decode cX6_isNearer 87 = .ok (.ireturn, 1) := by decide +kernel
theorem dX6_isNearer_88 : decode cX6_isNearer 88 = .ok (.iload 4, 2) := by decide +kernel
theorem dX6_isNearer_90 : decode cX6_isNearer 90 = .ok (.iload_n 2, 1) := by decide +kernel
theorem dX6_isNearer_91 : decode cX6_isNearer 91 = .ok (.isub, 1) := by decide +kernel
theorem dX6_isNearer_92 : decode cX6_isNearer 92 = .ok (.bipush 6, 2) := by decide +kernel
theorem dX6_isNearer_94 : decode cX6_isNearer 94 = .ok (.iadd, 1) := by decide +kernel
theorem dX6_isNearer_95 : decode cX6_isNearer 95 = .ok (.bipush 6, 2) := by decide +kernel
theorem dX6_isNearer_97 : decode cX6_isNearer 97 = .ok (.irem, 1) := by decide +kernel
theorem dX6_isNearer_98 : decode cX6_isNearer 98 = .ok (.iload 5, 2) := by decide +kernel
theorem dX6_isNearer_100 : decode cX6_isNearer 100 = .ok (.iload_n 2, 1) := by decide +kernel
theorem dX6_isNearer_101 : decode cX6_isNearer 101 = .ok (.isub, 1) := by decide +kernel
theorem dX6_isNearer_102 : decode cX6_isNearer 102 = .ok (.bipush 6, 2) := by decide +kernel
theorem dX6_isNearer_104 : decode cX6_isNearer 104 = .ok (.iadd, 1) := by decide +kernel
theorem dX6_isNearer_105 : decode cX6_isNearer 105 = .ok (.bipush 6, 2) := by decide +kernel
theorem dX6_isNearer_107 : decode cX6_isNearer 107 = .ok (.irem, 1) := by decide +kernel
theorem dX6_isNearer_108 : decode cX6_isNearer 108 = .ok (.if_icmp .ge 7, 3) := by decide +kernel
theorem dX6_isNearer_111 : decode cX6_isNearer 111 = .ok (.iconst 1, 1) := by decide +kernel
theorem dX6_isNearer_112 : decode cX6_isNearer 112 = .ok (.goto 4, 3) := by decide +kernel
theorem dX6_isNearer_115 : decode cX6_isNearer 115 = .ok (.iconst 0, 1) := by decide +kernel
theorem dX6_isNearer_116 : decode cX6_isNearer 116 = .ok (.ireturn, 1) := by decide +kernel
set_option maxRecDepth 20000 in
theorem ggX6_whom_X6_isAboard : GoodIn wsX6_whom wsX6_isAboard := goodIn_r _ [6] (by decide +kernel) (by decide +kernel)
set_option maxRecDepth 20000 in
theorem gX6_whom_X6_isAboard : GoodIn wsX6_whom (wsV RX6 110 RX6 yX6_isAboard wsX6_isAboard) := goodIn_app (goodIn_of _ (by decide +kernel)) ggX6_whom_X6_isAboard
set_option maxRecDepth 20000 in
theorem ggX6_whom_X6_isNearer : GoodIn wsX6_whom wsX6_isNearer := goodIn_r _ [10, 11, 12, 13, 5, 14, 15, 16, 17, 18, 19, 20, 21, 22, 23, 24, 25, 26, 27, 28, 29, 30, 31, 32, 33, 34, 35] (by decide +kernel) (by decide +kernel)
set_option maxRecDepth 20000 in
theorem gX6_whom_X6_isNearer : GoodIn wsX6_whom (wsV RX6 117 RX6 yX6_isNearer wsX6_isNearer) := goodIn_app (goodIn_of _ (by decide +kernel)) ggX6_whom_X6_isNearer
theorem dX6_whom_0 : decode cX6_whom 0 = .ok (.bipush (-9), 2) := by decide +kernel
theorem dX6_whom_2 : decode cX6_whom 2 = .ok (.istore 4, 2) := by decide +kernel
theorem dX6_whom_4 : decode cX6_whom 4 = .ok (.iconst 0, 1) := by decide +kernel
theorem dX6_whom_5 : decode cX6_whom 5 = .ok (.istore 5, 2) := by decide +kernel
theorem dX6_whom_7 : decode cX6_whom 7 = .ok (.iload 5, 2) := by decide +kernel
theorem dX6_whom_9 : decode cX6_whom 9 = .ok (.aload_n 0, 1) := by decide +kernel
theorem dX6_whom_10 : decode cX6_whom 10 = .ok (.getfield 13, 3) := by decide +kernel
theorem dX6_whom_13 : decode cX6_whom 13 = .ok (.iconst 0, 1) := by decide +kernel
theorem dX6_whom_14 : decode cX6_whom 14 = .ok (.iaload, 1) := by decide +kernel
theorem dX6_whom_15 : decode cX6_whom 15 = .ok (.if_icmp .ge 67, 3) := by decide +kernel
theorem dX6_whom_18 : decode cX6_whom 18 = .ok (.iload 5, 2) := by decide +kernel
theorem dX6_whom_20 : decode cX6_whom 20 = .ok (.iload_n 2, 1) := by decide +kernel
theorem dX6_whom_21 : decode cX6_whom 21 = .ok (.if_icmp .eq 17, 3) := by decide +kernel
theorem dX6_whom_24 : decode cX6_whom 24 = .ok (.aload_n 0, 1) := by decide +kernel
theorem dX6_whom_25 : decode cX6_whom 25 = .ok (.aload_n 1, 1) := by decide +kernel
theorem dX6_whom_26 : decode cX6_whom 26 = .ok (.iload 5, 2) := by decide +kernel
theorem dX6_whom_28 : decode cX6_whom 28 = .ok (.invokevirtual 110, 3) := by decide +kernel
theorem dX6_whom_31 : decode cX6_whom 31 = .ok (.ifCond .eq 7, 3) := by decide +kernel
theorem dX6_whom_34 : decode cX6_whom 34 = .ok (.iconst 1, 1) := by decide +kernel
theorem dX6_whom_35 : decode cX6_whom 35 = .ok (.goto 4, 3) := by decide +kernel
theorem dX6_whom_38 : decode cX6_whom 38 = .ok (.iconst 0, 1) := by decide +kernel
theorem dX6_whom_39 : decode cX6_whom 39 = .ok (.istore 6, 2) := by decide +kernel
theorem dX6_whom_41 : decode cX6_whom 41 = .ok (.iload 6, 2) := by decide +kernel
theorem dX6_whom_43 : decode cX6_whom 43 = .ok (.ifCond .eq 29, 3) := by decide +kernel
theorem dX6_whom_46 : decode cX6_whom 46 = .ok (.iload 4, 2) := by decide +kernel
theorem dX6_whom_48 : decode cX6_whom 48 = .ok (.bipush (-9), 2) := by decide +kernel
theorem dX6_whom_50 : decode cX6_whom 50 = .ok (.if_icmp .eq 17, 3) := by decide +kernel
theorem dX6_whom_53 : decode cX6_whom 53 = .ok (.aload_n 0, 1) := by decide +kernel
theorem dX6_whom_54 : decode cX6_whom 54 = .ok (.aload_n 1, 1) := by decide +kernel
theorem dX6_whom_55 : decode cX6_whom 55 = .ok (.iload_n 2, 1) := by decide +kernel
theorem dX6_whom_56 : decode cX6_whom 56 = .ok (.iload_n 3, 1) := by decide +kernel
theorem dX6_whom_57 : decode cX6_whom 57 = .ok (.iload 5, 2) := by decide +kernel
theorem dX6_whom_59 : decode cX6_whom 59 = .ok (.iload 4, 2) := by decide +kernel
theorem dX6_whom_61 : decode cX6_whom 61 = .ok (.invokevirtual 117, 3) := by decide +kernel
theorem dX6_whom_64 : decode cX6_whom 64 = .ok (.ifCond .eq 8, 3) := by decide +kernel
theorem dX6_whom_67 : decode cX6_whom 67 = .ok (.iload 5, 2) := by decide +kernel
theorem dX6_whom_69 : decode cX6_whom 69 = .ok (.goto 5, 3) := by decide +kernel
theorem dX6_whom_72 : decode cX6_whom 72 = .ok (.iload 4, 2) := by decide +kernel
theorem dX6_whom_74 : decode cX6_whom 74 = .ok (.istore 4, 2) := by decide +kernel
theorem dX6_whom_76 : decode cX6_whom 76 = .ok (.iinc 5 1, 3) := by decide +kernel
theorem dX6_whom_79 : decode cX6_whom 79 = .ok (.goto (-72), 3) := by decide +kernel
theorem dX6_whom_82 : decode cX6_whom 82 = .ok (.iload 4, 2) := by decide +kernel
theorem dX6_whom_84 : decode cX6_whom 84 = .ok (.ireturn, 1) := by decide +kernel
theorem dX6_byRing_0 : decode cX6_byRing 0 = .ok (.bipush (-9), 2) := by decide +kernel
theorem dX6_byRing_2 : decode cX6_byRing 2 = .ok (.istore 4, 2) := by decide +kernel
theorem dX6_byRing_4 : decode cX6_byRing 4 = .ok (.iconst 0, 1) := by decide +kernel
theorem dX6_byRing_5 : decode cX6_byRing 5 = .ok (.istore 5, 2) := by decide +kernel
theorem dX6_byRing_7 : decode cX6_byRing 7 = .ok (.iload 5, 2) := by decide +kernel
theorem dX6_byRing_9 : decode cX6_byRing 9 = .ok (.aload_n 0, 1) := by decide +kernel
theorem dX6_byRing_10 : decode cX6_byRing 10 = .ok (.getfield 13, 3) := by decide +kernel
theorem dX6_byRing_13 : decode cX6_byRing 13 = .ok (.iconst 0, 1) := by decide +kernel
theorem dX6_byRing_14 : decode cX6_byRing 14 = .ok (.iaload, 1) := by decide +kernel
theorem dX6_byRing_15 : decode cX6_byRing 15 = .ok (.if_icmp .ge 89, 3) := by decide +kernel
theorem dX6_byRing_18 : decode cX6_byRing 18 = .ok (.aload_n 1, 1) := by decide +kernel
theorem dX6_byRing_19 : decode cX6_byRing 19 = .ok (.bipush 16, 2) := by decide +kernel
theorem dX6_byRing_21 : decode cX6_byRing 21 = .ok (.bipush 6, 2) := by decide +kernel
theorem dX6_byRing_23 : decode cX6_byRing 23 = .ok (.iload 5, 2) := by decide +kernel
theorem dX6_byRing_25 : decode cX6_byRing 25 = .ok (.imul, 1) := by decide +kernel
theorem dX6_byRing_26 : decode cX6_byRing 26 = .ok (.iadd, 1) := by decide +kernel
theorem dX6_byRing_27 : decode cX6_byRing 27 = .ok (.iload_n 2, 1) := by decide +kernel
theorem dX6_byRing_28 : decode cX6_byRing 28 = .ok (.iadd, 1) := by decide +kernel
theorem dX6_byRing_29 : decode cX6_byRing 29 = .ok (.iaload, 1) := by decide +kernel
theorem dX6_byRing_30 : decode cX6_byRing 30 = .ok (.istore 6, 2) := by decide +kernel
theorem dX6_byRing_32 : decode cX6_byRing 32 = .ok (.iload 5, 2) := by decide +kernel
theorem dX6_byRing_34 : decode cX6_byRing 34 = .ok (.iload_n 2, 1) := by decide +kernel
theorem dX6_byRing_35 : decode cX6_byRing 35 = .ok (.if_icmp .eq 22, 3) := by decide +kernel
theorem dX6_byRing_38 : decode cX6_byRing 38 = .ok (.iload_n 3, 1) := by decide +kernel
theorem dX6_byRing_39 : decode cX6_byRing 39 = .ok (.iload 5, 2) := by decide +kernel
theorem dX6_byRing_41 : decode cX6_byRing 41 = .ok (.ishr, 1) := by decide +kernel
theorem dX6_byRing_42 : decode cX6_byRing 42 = .ok (.iconst 1, 1) := by decide +kernel
theorem dX6_byRing_43 : decode cX6_byRing 43 = .ok (.iand, 1) := by decide +kernel
theorem dX6_byRing_44 : decode cX6_byRing 44 = .ok (.iconst 1, 1) := by decide +kernel
theorem dX6_byRing_45 : decode cX6_byRing 45 = .ok (.if_icmp .ne 12, 3) := by decide +kernel
theorem dX6_byRing_48 : decode cX6_byRing 48 = .ok (.iload 6, 2) := by decide +kernel
theorem dX6_byRing_50 : decode cX6_byRing 50 = .ok (.ifCond .le 7, 3) := by decide +kernel
theorem dX6_byRing_53 : decode cX6_byRing 53 = .ok (.iconst 1, 1) := by decide +kernel
theorem dX6_byRing_54 : decode cX6_byRing 54 = .ok (.goto 4, 3) := by decide +kernel
theorem dX6_byRing_57 : decode cX6_byRing 57 = .ok (.iconst 0, 1) := by decide +kernel
theorem dX6_byRing_58 : decode cX6_byRing 58 = .ok (.istore 7, 2) := by decide +kernel
theorem dX6_byRing_60 : decode cX6_byRing 60 = .ok (.iload 7, 2) := by decide +kernel
theorem dX6_byRing_62 : decode cX6_byRing 62 = .ok (.ifCond .eq 32, 3) := by decide +kernel
theorem dX6_byRing_65 : decode cX6_byRing 65 = .ok (.iload 4, 2) := by decide +kernel
theorem dX6_byRing_67 : decode cX6_byRing 67 = .ok (.bipush (-9), 2) := by decide +kernel
theorem dX6_byRing_69 : decode cX6_byRing 69 = .ok (.if_icmp .eq 20, 3) := by decide +kernel
theorem dX6_byRing_72 : decode cX6_byRing 72 = .ok (.iload 6, 2) := by decide +kernel
theorem dX6_byRing_74 : decode cX6_byRing 74 = .ok (.aload_n 1, 1) := by decide +kernel
theorem dX6_byRing_75 : decode cX6_byRing 75 = .ok (.bipush 16, 2) := by decide +kernel
theorem dX6_byRing_77 : decode cX6_byRing 77 = .ok (.bipush 6, 2) := by decide +kernel
theorem dX6_byRing_79 : decode cX6_byRing 79 = .ok (.iload 4, 2) := by decide +kernel
theorem dX6_byRing_81 : decode cX6_byRing 81 = .ok (.imul, 1) := by decide +kernel
theorem dX6_byRing_82 : decode cX6_byRing 82 = .ok (.iadd, 1) := by decide +kernel
theorem dX6_byRing_83 : decode cX6_byRing 83 = .ok (.iload_n 2, 1) := by decide +kernel
theorem dX6_byRing_84 : decode cX6_byRing 84 = .ok (.iadd, 1) := by decide +kernel
theorem dX6_byRing_85 : decode cX6_byRing 85 = .ok (.iaload, 1) := by decide +kernel
theorem dX6_byRing_86 : decode cX6_byRing 86 = .ok (.if_icmp .le 8, 3) := by decide +kernel
theorem dX6_byRing_89 : decode cX6_byRing 89 = .ok (.iload 5, 2) := by decide +kernel
theorem dX6_byRing_91 : decode cX6_byRing 91 = .ok (.goto 5, 3) := by decide +kernel
theorem dX6_byRing_94 : decode cX6_byRing 94 = .ok (.iload 4, 2) := by decide +kernel
theorem dX6_byRing_96 : decode cX6_byRing 96 = .ok (.istore 4, 2) := by decide +kernel
theorem dX6_byRing_98 : decode cX6_byRing 98 = .ok (.iinc 5 1, 3) := by decide +kernel
theorem dX6_byRing_101 : decode cX6_byRing 101 = .ok (.goto (-94), 3) := by decide +kernel
theorem dX6_byRing_104 : decode cX6_byRing 104 = .ok (.iload 4, 2) := by decide +kernel
theorem dX6_byRing_106 : decode cX6_byRing 106 = .ok (.ireturn, 1) := by decide +kernel
set_option maxRecDepth 20000 in
theorem ggX6_byTwo_X6_isAboard : GoodIn wsX6_byTwo wsX6_isAboard := goodIn_r _ [7] (by decide +kernel) (by decide +kernel)
set_option maxRecDepth 20000 in
theorem gX6_byTwo_X6_isAboard : GoodIn wsX6_byTwo (wsV RX6 110 RX6 yX6_isAboard wsX6_isAboard) := goodIn_app (goodIn_of _ (by decide +kernel)) ggX6_byTwo_X6_isAboard
theorem dX6_byTwo_0 : decode cX6_byTwo 0 = .ok (.bipush (-9), 2) := by decide +kernel
theorem dX6_byTwo_2 : decode cX6_byTwo 2 = .ok (.istore_n 2, 1) := by decide +kernel
theorem dX6_byTwo_3 : decode cX6_byTwo 3 = .ok (.iconst 0, 1) := by decide +kernel
theorem dX6_byTwo_4 : decode cX6_byTwo 4 = .ok (.istore_n 3, 1) := by decide +kernel
theorem dX6_byTwo_5 : decode cX6_byTwo 5 = .ok (.iload_n 3, 1) := by decide +kernel
theorem dX6_byTwo_6 : decode cX6_byTwo 6 = .ok (.aload_n 0, 1) := by decide +kernel
theorem dX6_byTwo_7 : decode cX6_byTwo 7 = .ok (.getfield 13, 3) := by decide +kernel
theorem dX6_byTwo_10 : decode cX6_byTwo 10 = .ok (.iconst 0, 1) := by decide +kernel
theorem dX6_byTwo_11 : decode cX6_byTwo 11 = .ok (.iaload, 1) := by decide +kernel
theorem dX6_byTwo_12 : decode cX6_byTwo 12 = .ok (.if_icmp .ge 90, 3) := by decide +kernel
theorem dX6_byTwo_15 : decode cX6_byTwo 15 = .ok (.aload_n 0, 1) := by decide +kernel
theorem dX6_byTwo_16 : decode cX6_byTwo 16 = .ok (.getfield 29, 3) := by decide +kernel
theorem dX6_byTwo_19 : decode cX6_byTwo 19 = .ok (.bipush 16, 2) := by decide +kernel
theorem dX6_byTwo_21 : decode cX6_byTwo 21 = .ok (.bipush 6, 2) := by decide +kernel
theorem dX6_byTwo_23 : decode cX6_byTwo 23 = .ok (.iload_n 1, 1) := by decide +kernel
theorem dX6_byTwo_24 : decode cX6_byTwo 24 = .ok (.imul, 1) := by decide +kernel
theorem dX6_byTwo_25 : decode cX6_byTwo 25 = .ok (.iadd, 1) := by decide +kernel
theorem dX6_byTwo_26 : decode cX6_byTwo 26 = .ok (.iload_n 3, 1) := by decide +kernel
theorem dX6_byTwo_27 : decode cX6_byTwo 27 = .ok (.iadd, 1) := by decide +kernel
theorem dX6_byTwo_28 : decode cX6_byTwo 28 = .ok (.iaload, 1) := by decide +kernel
theorem dX6_byTwo_29 : decode cX6_byTwo 29 = .ok (.istore 4, 2) := by decide +kernel
theorem dX6_byTwo_31 : decode cX6_byTwo 31 = .ok (.iload_n 3, 1) := by decide +kernel
theorem dX6_byTwo_32 : decode cX6_byTwo 32 = .ok (.iload_n 1, 1) := by decide +kernel
theorem dX6_byTwo_33 : decode cX6_byTwo 33 = .ok (.if_icmp .eq 24, 3) := by decide +kernel
theorem dX6_byTwo_36 : decode cX6_byTwo 36 = .ok (.aload_n 0, 1) := by decide +kernel
theorem dX6_byTwo_37 : decode cX6_byTwo 37 = .ok (.aload_n 0, 1) := by decide +kernel
theorem dX6_byTwo_38 : decode cX6_byTwo 38 = .ok (.getfield 29, 3) := by decide +kernel
theorem dX6_byTwo_41 : decode cX6_byTwo 41 = .ok (.iload_n 3, 1) := by decide +kernel
theorem dX6_byTwo_42 : decode cX6_byTwo 42 = .ok (.invokevirtual 110, 3) := by decide +kernel
theorem dX6_byTwo_45 : decode cX6_byTwo 45 = .ok (.ifCond .eq 12, 3) := by decide +kernel
theorem dX6_byTwo_48 : decode cX6_byTwo 48 = .ok (.iload 4, 2) := by decide +kernel
theorem dX6_byTwo_50 : decode cX6_byTwo 50 = .ok (.ifCond .le 7, 3) := by decide +kernel
theorem dX6_byTwo_53 : decode cX6_byTwo 53 = .ok (.iconst 1, 1) := by decide +kernel
theorem dX6_byTwo_54 : decode cX6_byTwo 54 = .ok (.goto 4, 3) := by decide +kernel
theorem dX6_byTwo_57 : decode cX6_byTwo 57 = .ok (.iconst 0, 1) := by decide +kernel
theorem dX6_byTwo_58 : decode cX6_byTwo 58 = .ok (.istore 5, 2) := by decide +kernel
theorem dX6_byTwo_60 : decode cX6_byTwo 60 = .ok (.iload 5, 2) := by decide +kernel
theorem dX6_byTwo_62 : decode cX6_byTwo 62 = .ok (.ifCond .eq 32, 3) := by decide +kernel
theorem dX6_byTwo_65 : decode cX6_byTwo 65 = .ok (.iload_n 2, 1) := by decide +kernel
theorem dX6_byTwo_66 : decode cX6_byTwo 66 = .ok (.bipush (-9), 2) := by decide +kernel
theorem dX6_byTwo_68 : decode cX6_byTwo 68 = .ok (.if_icmp .eq 22, 3) := by decide +kernel
theorem dX6_byTwo_71 : decode cX6_byTwo 71 = .ok (.iload 4, 2) := by decide +kernel
theorem dX6_byTwo_73 : decode cX6_byTwo 73 = .ok (.aload_n 0, 1) := by decide +kernel
theorem dX6_byTwo_74 : decode cX6_byTwo 74 = .ok (.getfield 29, 3) := by decide +kernel
theorem dX6_byTwo_77 : decode cX6_byTwo 77 = .ok (.bipush 16, 2) := by decide +kernel
theorem dX6_byTwo_79 : decode cX6_byTwo 79 = .ok (.bipush 6, 2) := by decide +kernel
theorem dX6_byTwo_81 : decode cX6_byTwo 81 = .ok (.iload_n 1, 1) := by decide +kernel
theorem dX6_byTwo_82 : decode cX6_byTwo 82 = .ok (.imul, 1) := by decide +kernel
theorem dX6_byTwo_83 : decode cX6_byTwo 83 = .ok (.iadd, 1) := by decide +kernel
theorem dX6_byTwo_84 : decode cX6_byTwo 84 = .ok (.iload_n 2, 1) := by decide +kernel
theorem dX6_byTwo_85 : decode cX6_byTwo 85 = .ok (.iadd, 1) := by decide +kernel
theorem dX6_byTwo_86 : decode cX6_byTwo 86 = .ok (.iaload, 1) := by decide +kernel
theorem dX6_byTwo_87 : decode cX6_byTwo 87 = .ok (.if_icmp .le 7, 3) := by decide +kernel
theorem dX6_byTwo_90 : decode cX6_byTwo 90 = .ok (.iload_n 3, 1) := by decide +kernel
theorem dX6_byTwo_91 : decode cX6_byTwo 91 = .ok (.goto 4, 3) := by decide +kernel
theorem dX6_byTwo_94 : decode cX6_byTwo 94 = .ok (.iload_n 2, 1) := by decide +kernel
theorem dX6_byTwo_95 : decode cX6_byTwo 95 = .ok (.istore_n 2, 1) := by decide +kernel
theorem dX6_byTwo_96 : decode cX6_byTwo 96 = .ok (.iinc 3 1, 3) := by decide +kernel
theorem dX6_byTwo_99 : decode cX6_byTwo 99 = .ok (.goto (-94), 3) := by decide +kernel
theorem dX6_byTwo_102 : decode cX6_byTwo 102 = .ok (.iload_n 2, 1) := by decide +kernel
theorem dX6_byTwo_103 : decode cX6_byTwo 103 = .ok (.ireturn, 1) := by decide +kernel
set_option maxRecDepth 20000 in
theorem ggX6_rider_X6_isRider : GoodIn wsX6_rider wsX6_isRider := goodIn_r _ [8, 9, 10, 11, 7, 12, 36, 37, 38, 39, 40, 41, 42, 43, 44, 45, 46, 47, 48, 49, 50, 51, 52, 53, 54, 55, 56] (by decide +kernel) (by decide +kernel)
set_option maxRecDepth 20000 in
theorem gX6_rider_X6_isRider : GoodIn wsX6_rider (wsV RX6 107 RX6 yX6_isRider wsX6_isRider) := goodIn_app (goodIn_of _ (by decide +kernel)) ggX6_rider_X6_isRider
set_option maxRecDepth 20000 in
theorem ggX6_rider_X6_isAboard : GoodIn wsX6_rider wsX6_isAboard := goodIn_r _ [16] (by decide +kernel) (by decide +kernel)
set_option maxRecDepth 20000 in
theorem gX6_rider_X6_isAboard : GoodIn wsX6_rider (wsV RX6 110 RX6 yX6_isAboard wsX6_isAboard) := goodIn_app (goodIn_of _ (by decide +kernel)) ggX6_rider_X6_isAboard
set_option maxRecDepth 20000 in
theorem ggX6_rider_X6_whom : GoodIn wsX6_rider wsX6_whom := goodIn_r _ [20, 9, 13, 14, 15, 7, 16, 21, 22, 23, 24, 2, 25, 26, 27, 36, 37, 38, 39, 40, 41, 42, 43, 44, 45, 46, 47, 48, 49, 50, 51, 52, 53, 54, 55, 56] (by decide +kernel) (by decide +kernel)
