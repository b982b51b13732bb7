set_option maxRecDepth 20000 in
theorem ggX0_init_X1_init : GoodIn wsX0_init wsX1_init := goodIn_r _ [13, 14, 2, 3, 15, 16, 17, 18, 25, 26, 27, 28, 29, 30, 31] (by decide +kernel) (by decide +kernel)
set_option maxRecDepth 20000 in
theorem gX0_init_X1_init_n9 : GoodIn wsX0_init (wsX1_init) := ggX0_init_X1_init
set_option maxRecDepth 20000 in
theorem ggX0_init_X2_init : GoodIn wsX0_init wsX2_init := goodIn_r _ [21, 22, 2, 3, 23, 24, 5, 6, 12, 13, 14, 15, 16, 17, 18, 34, 35, 36, 25, 26, 27, 28, 29, 30, 31] (by decide +kernel) (by decide +kernel)
set_option maxRecDepth 20000 in
theorem gX0_init_X2_init : GoodIn wsX0_init (wsX2_init) := ggX0_init_X2_init
theorem dX0_init_0 : decode cX0_init 0 = .ok (.aload_n 0, 1) := by decide +kernel
theorem dX0_init_1 : decode cX0_init 1 = .ok (.invokespecial 1, 3) := by decide +kernel
theorem dX0_init_4 : decode cX0_init 4 = .ok (.aload_n 0, 1) := by decide +kernel
theorem dX0_init_5 : decode cX0_init 5 = .ok (.new 7, 3) := by decide +kernel
theorem dX0_init_8 : decode cX0_init 8 = .ok (.dup, 1) := by decide +kernel
theorem dX0_init_9 : decode cX0_init 9 = .ok (.invokespecial 9, 3) := by decide +kernel
theorem dX0_init_12 : decode cX0_init 12 = .ok (.putfield 10, 3) := by decide +kernel
theorem dX0_init_15 : decode cX0_init 15 = .ok (.aload_n 0, 1) := by decide +kernel
theorem dX0_init_16 : decode cX0_init 16 = .ok (.new 16, 3) := by decide +kernel
theorem dX0_init_19 : decode cX0_init 19 = .ok (.dup, 1) := by decide +kernel
theorem dX0_init_20 : decode cX0_init 20 = .ok (.invokespecial 18, 3) := by decide +kernel
theorem dX0_init_23 : decode cX0_init 23 = .ok (.putfield 19, 3) := by decide +kernel
theorem dX0_init_26 : decode cX0_init 26 = .ok (.return_, 1) := by decide +kernel
set_option maxRecDepth 20000 in
theorem ggX0_copyFrom_X1_copyFrom : GoodIn wsX0_copyFrom wsX1_copyFrom := goodIn_r _ [7, 8, 9, 10, 11, 12, 13, 14, 15, 16, 17, 18, 34, 35, 36, 37, 38, 39, 40] (by decide +kernel) (by decide +kernel)
set_option maxRecDepth 20000 in
theorem gX0_copyFrom_X1_copyFrom : GoodIn wsX0_copyFrom (wsV RX0 23 RX1 yX1_copyFrom wsX1_copyFrom) := goodIn_app (goodIn_of _ (by decide +kernel)) ggX0_copyFrom_X1_copyFrom
set_option maxRecDepth 20000 in
theorem ggX0_copyFrom_X2_copyFrom : GoodIn wsX0_copyFrom wsX2_copyFrom := goodIn_r _ [23, 24, 25, 26, 27, 28, 29, 22, 30, 31, 4, 5, 6, 7, 8, 9, 10, 11, 12, 13, 14, 15, 16, 17, 18, 41, 42, 43, 34, 35, 36, 37, 38, 39, 40] (by decide +kernel) (by decide +kernel)
set_option maxRecDepth 20000 in
theorem gX0_copyFrom_X2_copyFrom : GoodIn wsX0_copyFrom (wsV RX0 27 RX2 yX2_copyFrom wsX2_copyFrom) := goodIn_app (goodIn_of _ (by decide +kernel)) ggX0_copyFrom_X2_copyFrom
theorem dX0_copyFrom_0 : decode cX0_copyFrom 0 = .ok (.aload_n 0, 1) := by decide +kernel
theorem dX0_copyFrom_1 : decode cX0_copyFrom 1 = .ok (.getfield 10, 3) := by decide +kernel
theorem dX0_copyFrom_4 : decode cX0_copyFrom 4 = .ok (.aload_n 1, 1) := by decide +kernel
theorem dX0_copyFrom_5 : decode cX0_copyFrom 5 = .ok (.getfield 10, 3) := by decide +kernel
theorem dX0_copyFrom_8 : decode cX0_copyFrom 8 = .ok (.invokevirtual 23, 3) := by decide +kernel
theorem dX0_copyFrom_11 : decode cX0_copyFrom 11 = .ok (.aload_n 0, 1) := by decide +kernel
theorem dX0_copyFrom_12 : decode cX0_copyFrom 12 = .ok (.getfield 19, 3) := by decide +kernel
theorem dX0_copyFrom_15 : decode cX0_copyFrom 15 = .ok (.aload_n 1, 1) := by decide +kernel
theorem dX0_copyFrom_16 : decode cX0_copyFrom 16 = .ok (.getfield 19, 3) := by decide +kernel
theorem dX0_copyFrom_19 : decode cX0_copyFrom 19 = .ok (.invokevirtual 27, 3) := by decide +kernel
theorem dX0_copyFrom_22 : decode cX0_copyFrom 22 = .ok (.return_, 1) := by decide +kernel
theorem dX1_init_0 : decode cX1_init 0 = .ok (.aload_n 0, 1) := by decide +kernel
theorem dX1_init_1 : decode cX1_init 1 = .ok (.invokespecial 3, 3) := by decide +kernel
theorem dX1_init_4 : decode cX1_init 4 = .ok (.aload_n 0, 1) := by decide +kernel
theorem dX1_init_5 : decode cX1_init 5 = .ok (.bipush 6, 2) := by decide +kernel
theorem dX1_init_7 : decode cX1_init 7 = .ok (.newarray .int, 2) := by decide +kernel
theorem dX1_init_9 : decode cX1_init 9 = .ok (.putfield 9, 3) := by decide +kernel
theorem dX1_init_12 : decode cX1_init 12 = .ok (.aload_n 0, 1) := by decide +kernel
theorem dX1_init_13 : decode cX1_init 13 = .ok (.bipush 6, 2) := by decide +kernel
theorem dX1_init_15 : decode cX1_init 15 = .ok (.newarray .int, 2) := by decide +kernel
theorem dX1_init_17 : decode cX1_init 17 = .ok (.putfield 15, 3) := by decide +kernel
theorem dX1_init_20 : decode cX1_init 20 = .ok (.aload_n 0, 1) := by decide +kernel
theorem dX1_init_21 : decode cX1_init 21 = .ok (.bipush 36, 2) := by decide +kernel
theorem dX1_init_23 : decode cX1_init 23 = .ok (.newarray .int, 2) := by decide +kernel
theorem dX1_init_25 : decode cX1_init 25 = .ok (.putfield 18, 3) := by decide +kernel
theorem dX1_init_28 : decode cX1_init 28 = .ok (.return_, 1) := by decide +kernel
theorem dX1_begin_0 : decode cX1_begin 0 = .ok (.aload_n 0, 1) := by decide +kernel
theorem dX1_begin_1 : decode cX1_begin 1 = .ok (.iconst 0, 1) := by decide +kernel
theorem dX1_begin_2 : decode cX1_begin 2 = .ok (.putfield 21, 3) := by decide +kernel
theorem dX1_begin_5 : decode cX1_begin 5 = .ok (.aload_n 0, 1) := by decide +kernel
theorem dX1_begin_6 : decode cX1_begin 6 = .ok (.iconst 1, 1) := by decide +kernel
theorem dX1_begin_7 : decode cX1_begin 7 = .ok (.aload_n 1, 1) := by decide +kernel
theorem dX1_begin_8 : decode cX1_begin 8 = .ok (.getfield 25, 3) := by decide +kernel
theorem dX1_begin_11 : decode cX1_begin 11 = .ok (.ishl, 1) := by decide +kernel
theorem dX1_begin_12 : decode cX1_begin 12 = .ok (.iconst 1, 1) := by decide +kernel
theorem dX1_begin_13 : decode cX1_begin 13 = .ok (.isub, 1) := by decide +kernel
theorem dX1_begin_14 : decode cX1_begin 14 = .ok (.putfield 30, 3) := by decide +kernel
theorem dX1_begin_17 : decode cX1_begin 17 = .ok (.aload_n 0, 1) := by decide +kernel
theorem dX1_begin_18 : decode cX1_begin 18 = .ok (.iconst 0, 1) := by decide +kernel
theorem dX1_begin_19 : decode cX1_begin 19 = .ok (.putfield 33, 3) := by decide +kernel
theorem dX1_begin_22 : decode cX1_begin 22 = .ok (.aload_n 0, 1) := by decide +kernel
theorem dX1_begin_23 : decode cX1_begin 23 = .ok (.iconst 0, 1) := by decide +kernel
theorem dX1_begin_24 : decode cX1_begin 24 = .ok (.putfield 36, 3) := by decide +kernel
theorem dX1_begin_27 : decode cX1_begin 27 = .ok (.aload_n 1, 1) := by decide +kernel
theorem dX1_begin_28 : decode cX1_begin 28 = .ok (.getfield 39, 3) := by decide +kernel
theorem dX1_begin_31 : decode cX1_begin 31 = .ok (.iconst 0, 1) := by decide +kernel
theorem dX1_begin_32 : decode cX1_begin 32 = .ok (.aload_n 0, 1) := by decide +kernel
theorem dX1_begin_33 : decode cX1_begin 33 = .ok (.getfield 9, 3) := by decide +kernel
theorem dX1_begin_36 : decode cX1_begin 36 = .ok (.iconst 0, 1) := by decide +kernel
theorem dX1_begin_37 : decode cX1_begin 37 = .ok (.bipush 6, 2) := by decide +kernel
theorem dX1_begin_39 : decode cX1_begin 39 = .ok (.invokestatic 40, 3) := by decide +kernel
theorem dX1_begin_42 : decode cX1_begin 42 = .ok (.iconst 0, 1) := by decide +kernel
theorem dX1_begin_43 : decode cX1_begin 43 = .ok (.istore_n 2, 1) := by decide +kernel
theorem dX1_begin_44 : decode cX1_begin 44 = .ok (.iload_n 2, 1) := by decide +kernel
theorem dX1_begin_45 : decode cX1_begin 45 = .ok (.bipush 6, 2) := by decide +kernel
theorem dX1_begin_47 : decode cX1_begin 47 = .ok (.if_icmp .ge 17, 3) := by decide +kernel
theorem dX1_begin_50 : decode cX1_begin 50 = .ok (.aload_n 0, 1) := by decide +kernel
theorem dX1_begin_51 : decode cX1_begin 51 = .ok (.getfield 15, 3) := by decide +kernel
theorem dX1_begin_54 : decode cX1_begin 54 = .ok (.iload_n 2, 1) := by decide +kernel
theorem dX1_begin_55 : decode cX1_begin 55 = .ok (.bipush (-9), 2) := by decide +kernel
theorem dX1_begin_57 : decode cX1_begin 57 = .ok (.iastore, 1) := by decide +kernel
theorem dX1_begin_58 : decode cX1_begin 58 = .ok (.iinc 2 1, 3) := by decide +kernel
theorem dX1_begin_61 : decode cX1_begin 61 = .ok (.goto (-17), 3) := by decide +kernel
theorem dX1_begin_64 : decode cX1_begin 64 = .ok (.iconst 0, 1) := by decide +kernel
theorem dX1_begin_65 : decode cX1_begin 65 = .ok (.istore_n 2, 1) := by decide +kernel
theorem dX1_begin_66 : decode cX1_begin 66 = .ok (.iload_n 2, 1) := by decide +kernel
theorem dX1_begin_67 : decode cX1_begin 67 = .ok (.bipush 36, 2) := by decide +kernel
theorem dX1_begin_69 : decode cX1_begin 69 = .ok (.if_icmp .ge 16, 3) := by decide +kernel
theorem dX1_begin_72 : decode cX1_begin 72 = .ok (.aload_n 0, 1) := by decide +kernel
theorem dX1_begin_73 : decode cX1_begin 73 = .ok (.getfield 18, 3) := by decide +kernel
theorem dX1_begin_76 : decode cX1_begin 76 = .ok (.iload_n 2, 1) := by decide +kernel
theorem dX1_begin_77 : decode cX1_begin 77 = .ok (.iconst 0, 1) := by decide +kernel
theorem dX1_begin_78 : decode cX1_begin 78 = .ok (.iastore, 1) := by decide +kernel
theorem dX1_begin_79 : decode cX1_begin 79 = .ok (.iinc 2 1, 3) := by decide +kernel
theorem dX1_begin_82 : decode cX1_begin 82 = .ok (.goto (-16), 3) := by decide +kernel
theorem dX1_begin_85 : decode cX1_begin 85 = .ok (.return_, 1) := by decide +kernel
theorem dX1_copyFrom_0 : decode cX1_copyFrom 0 = .ok (.aload_n 0, 1) := by decide +kernel
theorem dX1_copyFrom_1 : decode cX1_copyFrom 1 = .ok (.aload_n 1, 1) := by decide +kernel
theorem dX1_copyFrom_2 : decode cX1_copyFrom 2 = .ok (.getfield 21, 3) := by decide +kernel
theorem dX1_copyFrom_5 : decode cX1_copyFrom 5 = .ok (.putfield 21, 3) := by decide +kernel
theorem dX1_copyFrom_8 : decode cX1_copyFrom 8 = .ok (.aload_n 0, 1) := by decide +kernel
theorem dX1_copyFrom_9 : decode cX1_copyFrom 9 = .ok (.aload_n 1, 1) := by decide +kernel
theorem dX1_copyFrom_10 : decode cX1_copyFrom 10 = .ok (.getfield 30, 3) := by decide +kernel
theorem dX1_copyFrom_13 : decode cX1_copyFrom 13 = .ok (.putfield 30, 3) := by decide +kernel
theorem dX1_copyFrom_16 : decode cX1_copyFrom 16 = .ok (.aload_n 0, 1) := by decide +kernel
theorem dX1_copyFrom_17 : decode cX1_copyFrom 17 = .ok (.aload_n 1, 1) := by decide +kernel
theorem dX1_copyFrom_18 : decode cX1_copyFrom 18 = .ok (.getfield 33, 3) := by decide +kernel
theorem dX1_copyFrom_21 : decode cX1_copyFrom 21 = .ok (.putfield 33, 3) := by decide +kernel
theorem dX1_copyFrom_24 : decode cX1_copyFrom 24 = .ok (.aload_n 0, 1) := by decide +kernel
theorem dX1_copyFrom_25 : decode cX1_copyFrom 25 = .ok (.aload_n 1, 1) := by decide +kernel
theorem dX1_copyFrom_26 : decode cX1_copyFrom 26 = .ok (.getfield 36, 3) := by decide +kernel
theorem dX1_copyFrom_29 : decode cX1_copyFrom 29 = .ok (.putfield 36, 3) := by decide +kernel
theorem dX1_copyFrom_32 : decode cX1_copyFrom 32 = .ok (.aload_n 1, 1) := by decide +kernel
theorem dX1_copyFrom_33 : decode cX1_copyFrom 33 = .ok (.getfield 9, 3) := by decide +kernel
theorem dX1_copyFrom_36 : decode cX1_copyFrom 36 = .ok (.iconst 0, 1) := by decide +kernel
theorem dX1_copyFrom_37 : decode cX1_copyFrom 37 = .ok (.aload_n 0, 1) := by decide +kernel
theorem dX1_copyFrom_38 : decode cX1_copyFrom 38 = .ok (.getfield 9, 3) := by decide +kernel
theorem dX1_copyFrom_41 : decode cX1_copyFrom 41 = .ok (.iconst 0, 1) := by decide +kernel
theorem dX1_copyFrom_42 : decode cX1_copyFrom 42 = .ok (.bipush 6, 2) := by decide +kernel
theorem dX1_copyFrom_44 : decode cX1_copyFrom 44 = .ok (.invokestatic 40, 3) := by decide +kernel
theorem dX1_copyFrom_47 : decode cX1_copyFrom 47 = .ok (.aload_n 1, 1) := by decide +kernel
theorem dX1_copyFrom_48 : decode cX1_copyFrom 48 = .ok (.getfield 15, 3) := by decide +kernel
theorem dX1_copyFrom_51 : decode cX1_copyFrom 51 = .ok (.iconst 0, 1) := by decide +kernel
theorem dX1_copyFrom_52 : decode cX1_copyFrom 52 = .ok (.aload_n 0, 1) := by decide +kernel
theorem dX1_copyFrom_53 : decode cX1_copyFrom 53 = .ok (.getfield 15, 3) := by decide +kernel
theorem dX1_copyFrom_56 : decode cX1_copyFrom 56 = .ok (.iconst 0, 1) := by decide +kernel
theorem dX1_copyFrom_57 : decode cX1_copyFrom 57 = .ok (.bipush 6, 2) := by decide +kernel
theorem dX1_copyFrom_59 : decode cX1_copyFrom 59 = .ok (.invokestatic 40, 3) := by decide +kernel
theorem dX1_copyFrom_62 : decode cX1_copyFrom 62 = .ok (.aload_n 1, 1) := by decide +kernel
theorem dX1_copyFrom_63 : decode cX1_copyFrom 63 = .ok (.getfield 18, 3) := by decide +kernel
theorem dX1_copyFrom_66 : decode cX1_copyFrom 66 = .ok (.iconst 0, 1) := by decide +kernel
theorem dX1_copyFrom_67 : decode cX1_copyFrom 67 = .ok (.aload_n 0, 1) := by decide +kernel
theorem dX1_copyFrom_68 : decode cX1_copyFrom 68 = .ok (.getfield 18, 3) := by decide +kernel
theorem dX1_copyFrom_71 : decode cX1_copyFrom 71 = .ok (.iconst 0, 1) := by decide +kernel
theorem dX1_copyFrom_72 : decode cX1_copyFrom 72 = .ok (.bipush 36, 2) := by decide +kernel
theorem dX1_copyFrom_74 : decode cX1_copyFrom 74 = .ok (.invokestatic 40, 3) := by decide +kernel
theorem dX1_copyFrom_77 : decode cX1_copyFrom 77 = .ok (.return_, 1) := by decide +kernel
theorem dX1_isAboard_0 : decode cX1_isAboard 0 = .ok (.aload_n 0, 1) := by decide +kernel
theorem dX1_isAboard_1 : decode cX1_isAboard 1 = .ok (.getfield 30, 3) := by decide +kernel
theorem dX1_isAboard_4 : decode cX1_isAboard 4 = .ok (.iload_n 1, 1) := by decide +kernel
theorem dX1_isAboard_5 : decode cX1_isAboard 5 = .ok (.ishr, 1) := by decide +kernel
theorem dX1_isAboard_6 : decode cX1_isAboard 6 = .ok (.iconst 1, 1) := by decide +kernel
theorem dX1_isAboard_7 : decode cX1_isAboard 7 = .ok (.iand, 1) := by decide +kernel
theorem dX1_isAboard_8 : decode cX1_isAboard 8 = .ok (.ifCond .eq 7, 3) := by decide +kernel
theorem dX1_isAboard_11 : decode cX1_isAboard 11 = .ok (.iconst 1, 1) := by decide +kernel
theorem dX1_isAboard_12 : decode cX1_isAboard 12 = .ok (.goto 4, 3) := by decide +kernel
theorem dX1_isAboard_15 : decode cX1_isAboard 15 = .ok (.iconst 0, 1) := by decide +kernel
theorem dX1_isAboard_16 : decode cX1_isAboard 16 = .ok (.ireturn, 1) := by decide +kernel
theorem dX1_areAboard_0 : decode cX1_areAboard 0 = .ok (.iload_n 1, 1) := by decide +kernel
theorem dX1_areAboard_1 : decode cX1_areAboard 1 = .ok (.aload_n 0, 1) := by decide +kernel
theorem dX1_areAboard_2 : decode cX1_areAboard 2 = .ok (.getfield 30, 3) := by decide +kernel
theorem dX1_areAboard_5 : decode cX1_areAboard 5 = .ok (.iconst (-1), 1) := by decide +kernel
theorem dX1_areAboard_6 : decode cX1_areAboard 6 = .ok (.ixor, 1) := by decide +kernel
theorem dX1_areAboard_7 : decode cX1_areAboard 7 = .ok (.iand, 1) := by decide +kernel
theorem dX1_areAboard_8 : decode cX1_areAboard 8 = .ok (.ifCond .ne 7, 3) := by decide +kernel
theorem dX1_areAboard_11 : decode cX1_areAboard 11 = .ok (.iconst 1, 1) := by decide +kernel
theorem dX1_areAboard_12 : decode cX1_areAboard 12 = .ok (.goto 4, 3) := by decide +kernel
theorem dX1_areAboard_15 : decode cX1_areAboard 15 = .ok (.iconst 0, 1) := by decide +kernel
theorem dX1_areAboard_16 : decode cX1_areAboard 16 = .ok (.ireturn, 1) := by decide +kernel
theorem dX1_thoughtOf_0 : decode cX1_thoughtOf 0 = .ok (.aload_n 0, 1) := by decide +kernel
theorem dX1_thoughtOf_1 : decode cX1_thoughtOf 1 = .ok (.getfield 18, 3) := by decide +kernel
theorem dX1_thoughtOf_4 : decode cX1_thoughtOf 4 = .ok (.iload_n 1, 1) := by decide +kernel
theorem dX1_thoughtOf_5 : decode cX1_thoughtOf 5 = .ok (.bipush 6, 2) := by decide +kernel
theorem dX1_thoughtOf_7 : decode cX1_thoughtOf 7 = .ok (.imul, 1) := by decide +kernel
theorem dX1_thoughtOf_8 : decode cX1_thoughtOf 8 = .ok (.iload_n 2, 1) := by decide +kernel
theorem dX1_thoughtOf_9 : decode cX1_thoughtOf 9 = .ok (.iadd, 1) := by decide +kernel
theorem dX1_thoughtOf_10 : decode cX1_thoughtOf 10 = .ok (.iaload, 1) := by decide +kernel
theorem dX1_thoughtOf_11 : decode cX1_thoughtOf 11 = .ok (.ireturn, 1) := by decide +kernel
theorem dX1_think_0 : decode cX1_think 0 = .ok (.aload_n 0, 1) := by decide +kernel
theorem dX1_think_1 : decode cX1_think 1 = .ok (.dup, 1) := by decide +kernel
theorem dX1_think_2 : decode cX1_think 2 = .ok (.getfield 33, 3) := by decide +kernel
theorem dX1_think_5 : decode cX1_think 5 = .ok (.iconst 1, 1) := by decide +kernel
theorem dX1_think_6 : decode cX1_think 6 = .ok (.iadd, 1) := by decide +kernel
theorem dX1_think_7 : decode cX1_think 7 = .ok (.putfield 33, 3) := by decide +kernel
theorem dX1_think_10 : decode cX1_think 10 = .ok (.aload_n 0, 1) := by decide +kernel
theorem dX1_think_11 : decode cX1_think 11 = .ok (.getfield 18, 3) := by decide +kernel
theorem dX1_think_14 : decode cX1_think 14 = .ok (.iload_n 1, 1) := by decide +kernel
theorem dX1_think_15 : decode cX1_think 15 = .ok (.bipush 6, 2) := by decide +kernel
theorem dX1_think_17 : decode cX1_think 17 = .ok (.imul, 1) := by decide +kernel
theorem dX1_think_18 : decode cX1_think 18 = .ok (.iload_n 2, 1) := by decide +kernel
theorem dX1_think_19 : decode cX1_think 19 = .ok (.iadd, 1) := by decide +kernel
theorem dX1_think_20 : decode cX1_think 20 = .ok (.aload_n 0, 1) := by decide +kernel
theorem dX1_think_21 : decode cX1_think 21 = .ok (.getfield 33, 3) := by decide +kernel
theorem dX1_think_24 : decode cX1_think 24 = .ok (.iastore, 1) := by decide +kernel
theorem dX1_think_25 : decode cX1_think 25 = .ok (.return_, 1) := by decide +kernel
theorem dX1_getDown_0 : decode cX1_getDown 0 = .ok (.iload_n 1, 1) := by decide +kernel
theorem dX1_getDown_1 : decode cX1_getDown 1 = .ok (.bipush (-9), 2) := by decide +kernel
theorem dX1_getDown_3 : decode cX1_getDown 3 = .ok (.if_icmp .ne 16, 3) := by decide +kernel
theorem dX1_getDown_6 : decode cX1_getDown 6 = .ok (.aload_n 0, 1) := by decide +kernel
theorem dX1_getDown_7 : decode cX1_getDown 7 = .ok (.dup, 1) := by decide +kernel
theorem dX1_getDown_8 : decode cX1_getDown 8 = .ok (.getfield 36, 3) := by decide +kernel
theorem dX1_getDown_11 : decode cX1_getDown 11 = .ok (.iconst 1, 1) := by decide +kernel
theorem dX1_getDown_12 : decode cX1_getDown 12 = .ok (.iadd, 1) := by decide +kernel
theorem dX1_getDown_13 : decode cX1_getDown 13 = .ok (.putfield 36, 3) := by decide +kernel
theorem dX1_getDown_16 : decode cX1_getDown 16 = .ok (.goto 27, 3) := by decide +kernel
theorem dX1_getDown_19 : decode cX1_getDown 19 = .ok (.aload_n 0, 1) := by decide +kernel
theorem dX1_getDown_20 : decode cX1_getDown 20 = .ok (.dup, 1) := by decide +kernel
theorem dX1_getDown_21 : decode cX1_getDown 21 = .ok (.getfield 30, 3) := by decide +kernel
theorem dX1_getDown_24 : decode cX1_getDown 24 = .ok (.iconst 1, 1) := by decide +kernel
theorem dX1_getDown_25 : decode cX1_getDown 25 = .ok (.iload_n 1, 1) := by decide +kernel
theorem dX1_getDown_26 : decode cX1_getDown 26 = .ok (.ishl, 1) := by decide +kernel
theorem dX1_getDown_27 : decode cX1_getDown 27 = .ok (.iconst (-1), 1) := by decide +kernel
theorem dX1_getDown_28 : decode cX1_getDown 28 = .ok (.ixor, 1) := by decide +kernel
theorem dX1_getDown_29 : decode cX1_getDown 29 = .ok (.iand, 1) := by decide +kernel
theorem dX1_getDown_30 : decode cX1_getDown 30 = .ok (.putfield 30, 3) := by decide +kernel
theorem dX1_getDown_33 : decode cX1_getDown 33 = .ok (.aload_n 0, 1) := by decide +kernel
theorem dX1_getDown_34 : decode cX1_getDown 34 = .ok (.getfield 15, 3) := by decide +kernel
theorem dX1_getDown_37 : decode cX1_getDown 37 = .ok (.iload_n 1, 1) := by decide +kernel
theorem dX1_getDown_38 : decode cX1_getDown 38 = .ok (.aload_n 0, 1) := by decide +kernel
theorem dX1_getDown_39 : decode cX1_getDown 39 = .ok (.getfield 21, 3) := by decide +kernel
theorem dX1_getDown_42 : decode cX1_getDown 42 = .ok (.iastore, 1) := by decide +kernel
theorem dX1_getDown_43 : decode cX1_getDown 43 = .ok (.iload_n 1, 1) := by decide +kernel
theorem dX1_getDown_44 : decode cX1_getDown 44 = .ok (.ireturn, 1) := by decide +kernel
set_option maxRecDepth 20000 in
theorem ggX2_init_X1_init : GoodIn wsX2_init wsX1_init := goodIn_r _ [9, 10, 2, 3, 11, 12, 13, 14, 18, 19, 20, 21, 22, 23, 24] (by decide +kernel) (by decide +kernel)
set_option maxRecDepth 20000 in
theorem gX2_init_X1_init_n17 : GoodIn wsX2_init (wsX1_init) := ggX2_init_X1_init
theorem dX2_init_0 : decode cX2_init 0 = .ok (.aload_n 0, 1) := by decide +kernel
theorem dX2_init_1 : decode cX2_init 1 = .ok (.invokespecial 3, 3) := by decide +kernel
theorem dX2_init_4 : decode cX2_init 4 = .ok (.aload_n 0, 1) := by decide +kernel
theorem dX2_init_5 : decode cX2_init 5 = .ok (.bipush 10, 2) := by decide +kernel
theorem dX2_init_7 : decode cX2_init 7 = .ok (.anewarray 9, 3) := by decide +kernel
theorem dX2_init_10 : decode cX2_init 10 = .ok (.putfield 11, 3) := by decide +kernel
theorem dX2_init_13 : decode cX2_init 13 = .ok (.iconst 0, 1) := by decide +kernel
theorem dX2_init_14 : decode cX2_init 14 = .ok (.istore_n 1, 1) := by decide +kernel
theorem dX2_init_15 : decode cX2_init 15 = .ok (.iload_n 1, 1) := by decide +kernel
theorem dX2_init_16 : decode cX2_init 16 = .ok (.bipush 10, 2) := by decide +kernel
theorem dX2_init_18 : decode cX2_init 18 = .ok (.if_icmp .ge 22, 3) := by decide +kernel
theorem dX2_init_21 : decode cX2_init 21 = .ok (.aload_n 0, 1) := by decide +kernel
theorem dX2_init_22 : decode cX2_init 22 = .ok (.getfield 11, 3) := by decide +kernel
theorem dX2_init_25 : decode cX2_init 25 = .ok (.iload_n 1, 1) := by decide +kernel
theorem dX2_init_26 : decode cX2_init 26 = .ok (.new 9, 3) := by decide +kernel
theorem dX2_init_29 : decode cX2_init 29 = .ok (.dup, 1) := by decide +kernel
theorem dX2_init_30 : decode cX2_init 30 = .ok (.invokespecial 17, 3) := by decide +kernel
theorem dX2_init_33 : decode cX2_init 33 = .ok (.aastore, 1) := by decide +kernel
theorem dX2_init_34 : decode cX2_init 34 = .ok (.iinc 1 1, 3) := by decide +kernel
theorem dX2_init_37 : decode cX2_init 37 = .ok (.goto (-22), 3) := by decide +kernel
theorem dX2_init_40 : decode cX2_init 40 = .ok (.return_, 1) := by decide +kernel
set_option maxRecDepth 20000 in
theorem ggX2_push_X2_placeOf : GoodIn wsX2_push wsX2_placeOf := goodIn_r _ [8, 3, 25, 26, 27] (by decide +kernel) (by decide +kernel)
set_option maxRecDepth 20000 in
theorem gX2_push_X2_placeOf : GoodIn wsX2_push (wsV RX2 22 RX2 yX2_placeOf wsX2_placeOf) := goodIn_app (goodIn_of _ (by decide +kernel)) ggX2_push_X2_placeOf
set_option maxRecDepth 20000 in
theorem ggX2_push_X1_copyFrom : GoodIn wsX2_push wsX1_copyFrom := goodIn_r _ [13, 14, 15, 16, 17, 18, 19, 20, 21, 22, 23, 24, 28, 29, 30, 31, 32, 33, 34] (by decide +kernel) (by decide +kernel)
set_option maxRecDepth 20000 in
theorem gX2_push_X1_copyFrom : GoodIn wsX2_push (wsV RX2 26 RX1 yX1_copyFrom wsX1_copyFrom) := goodIn_app (goodIn_of _ (by decide +kernel)) ggX2_push_X1_copyFrom
theorem dX2_push_0 : decode cX2_push 0 = .ok (.aload_n 0, 1) := by decide +kernel
theorem dX2_push_1 : decode cX2_push 1 = .ok (.getfield 11, 3) := by decide +kernel
theorem dX2_push_4 : decode cX2_push 4 = .ok (.aload_n 0, 1) := by decide +kernel
theorem dX2_push_5 : decode cX2_push 5 = .ok (.aload_n 0, 1) := by decide +kernel
theorem dX2_push_6 : decode cX2_push 6 = .ok (.getfield 18, 3) := by decide +kernel
theorem dX2_push_9 : decode cX2_push 9 = .ok (.invokevirtual 22, 3) := by decide +kernel
theorem dX2_push_12 : decode cX2_push 12 = .ok (.aaload, 1) := by decide +kernel
theorem dX2_push_13 : decode cX2_push 13 = .ok (.aload_n 1, 1) := by decide +kernel
theorem dX2_push_14 : decode cX2_push 14 = .ok (.invokevirtual 26, 3) := by decide +kernel
theorem dX2_push_17 : decode cX2_push 17 = .ok (.aload_n 0, 1) := by decide +kernel
theorem dX2_push_18 : decode cX2_push 18 = .ok (.getfield 18, 3) := by decide +kernel
theorem dX2_push_21 : decode cX2_push 21 = .ok (.bipush 10, 2) := by decide +kernel
theorem dX2_push_23 : decode cX2_push 23 = .ok (.if_icmp .ge 16, 3) := by decide +kernel
theorem dX2_push_26 : decode cX2_push 26 = .ok (.aload_n 0, 1) := by decide +kernel
theorem dX2_push_27 : decode cX2_push 27 = .ok (.dup, 1) := by decide +kernel
theorem dX2_push_28 : decode cX2_push 28 = .ok (.getfield 18, 3) := by decide +kernel
theorem dX2_push_31 : decode cX2_push 31 = .ok (.iconst 1, 1) := by decide +kernel
theorem dX2_push_32 : decode cX2_push 32 = .ok (.iadd, 1) := by decide +kernel
theorem dX2_push_33 : decode cX2_push 33 = .ok (.putfield 18, 3) := by decide +kernel
theorem dX2_push_36 : decode cX2_push 36 = .ok (.goto 12, 3) := by decide +kernel
theorem dX2_push_39 : decode cX2_push 39 = .ok (.aload_n 0, 1) := by decide +kernel
theorem dX2_push_40 : decode cX2_push 40 = .ok (.aload_n 0, 1) := by decide +kernel
theorem dX2_push_41 : decode cX2_push 41 = .ok (.iconst 1, 1) := by decide +kernel
theorem dX2_push_42 : decode cX2_push 42 = .ok (.invokevirtual 22, 3) := by decide +kernel
theorem dX2_push_45 : decode cX2_push 45 = .ok (.putfield 30, 3) := by decide +kernel
theorem dX2_push_48 : decode cX2_push 48 = .ok (.return_, 1) := by decide +kernel
set_option maxRecDepth 20000 in
theorem ggX2_popInto_X2_placeOf : GoodIn wsX2_popInto wsX2_placeOf := goodIn_r _ [7, 8, 25, 26, 27] (by decide +kernel) (by decide +kernel)
set_option maxRecDepth 20000 in
theorem gX2_popInto_X2_placeOf : GoodIn wsX2_popInto (wsV RX2 22 RX2 yX2_placeOf wsX2_placeOf) := goodIn_app (goodIn_of _ (by decide +kernel)) ggX2_popInto_X2_placeOf
set_option maxRecDepth 20000 in
theorem ggX2_popInto_X1_copyFrom : GoodIn wsX2_popInto wsX1_copyFrom := goodIn_r _ [13, 14, 15, 16, 17, 18, 19, 20, 21, 22, 23, 24, 28, 29, 30, 31, 32, 33, 34] (by decide +kernel) (by decide +kernel)
set_option maxRecDepth 20000 in
theorem gX2_popInto_X1_copyFrom : GoodIn wsX2_popInto (wsV RX2 26 RX1 yX1_copyFrom wsX1_copyFrom) := goodIn_app (goodIn_of _ (by decide +kernel)) ggX2_popInto_X1_copyFrom
theorem dX2_popInto_0 : decode cX2_popInto 0 = .ok (.aload_n 0, 1) := by decide +kernel
theorem dX2_popInto_1 : decode cX2_popInto 1 = .ok (.getfield 18, 3) := by decide +kernel
theorem dX2_popInto_4 : decode cX2_popInto 4 = .ok (.ifCond .le 30, 3) := by decide +kernel
theorem dX2_popInto_7 : decode cX2_popInto 7 = .ok (.aload_n 0, 1) := by decide +kernel
theorem dX2_popInto_8 : decode cX2_popInto 8 = .ok (.dup, 1) := by decide +kernel
theorem dX2_popInto_9 : decode cX2_popInto 9 = .ok (.getfield 18, 3) := by decide +kernel
theorem dX2_popInto_12 : decode cX2_popInto 12 = .ok (.iconst 1, 1) := by decide +kernel
theorem dX2_popInto_13 : decode cX2_popInto 13 = .ok (.isub, 1) := by decide +kernel
theorem dX2_popInto_14 : decode cX2_popInto 14 = .ok (.putfield 18, 3) := by decide +kernel
theorem dX2_popInto_17 : decode cX2_popInto 17 = .ok (.aload_n 1, 1) := by decide +kernel
theorem dX2_popInto_18 : decode cX2_popInto 18 = .ok (.aload_n 0, 1) := by decide +kernel
theorem dX2_popInto_19 : decode cX2_popInto 19 = .ok (.getfield 11, 3) := by decide +kernel
theorem dX2_popInto_22 : decode cX2_popInto 22 = .ok (.aload_n 0, 1) := by decide +kernel
theorem dX2_popInto_23 : decode cX2_popInto 23 = .ok (.aload_n 0, 1) := by decide +kernel
theorem dX2_popInto_24 : decode cX2_popInto 24 = .ok (.getfield 18, 3) := by decide +kernel
theorem dX2_popInto_27 : decode cX2_popInto 27 = .ok (.invokevirtual 22, 3) := by decide +kernel
theorem dX2_popInto_30 : decode cX2_popInto 30 = .ok (.aaload, 1) := by decide +kernel
theorem dX2_popInto_31 : decode cX2_popInto 31 = .ok (.invokevirtual 26, 3) := by decide +kernel
theorem dX2_popInto_34 : decode cX2_popInto 34 = .ok (.return_, 1) := by decide +kernel
set_option maxRecDepth 20000 in
theorem ggX2_copyFrom_X2_placeOf : GoodIn wsX2_copyFrom wsX2_placeOf := goodIn_r _ [8, 2, 25, 26, 27] (by decide +kernel) (by decide +kernel)
set_option maxRecDepth 20000 in
theorem gX2_copyFrom_X2_placeOf : GoodIn wsX2_copyFrom (wsV RX2 22 RX2 yX2_placeOf wsX2_placeOf) := goodIn_app (goodIn_of _ (by decide +kernel)) ggX2_copyFrom_X2_placeOf
set_option maxRecDepth 20000 in
theorem ggX2_copyFrom_X1_copyFrom : GoodIn wsX2_copyFrom wsX1_copyFrom := goodIn_r _ [13, 14, 15, 16, 17, 18, 19, 20, 21, 22, 23, 24, 28, 29, 30, 31, 32, 33, 34] (by decide +kernel) (by decide +kernel)
set_option maxRecDepth 20000 in
theorem gX2_copyFrom_X1_copyFrom : GoodIn wsX2_copyFrom (wsV RX2 26 RX1 yX1_copyFrom wsX1_copyFrom) := goodIn_app (goodIn_of _ (by decide +kernel)) ggX2_copyFrom_X1_copyFrom
theorem dX2_copyFrom_0 : decode cX2_copyFrom 0 = .ok (.aload_n 0, 1) := by decide +kernel
theorem dX2_copyFrom_1 : decode cX2_copyFrom 1 = .ok (.aload_n 1, 1) := by decide +kernel
theorem dX2_copyFrom_2 : decode cX2_copyFrom 2 = .ok (.getfield 18, 3) := by decide +kernel
theorem dX2_copyFrom_5 : decode cX2_copyFrom 5 = .ok (.putfield 18, 3) := by decide +kernel
theorem dX2_copyFrom_8 : decode cX2_copyFrom 8 = .ok (.aload_n 0, 1) := by decide +kernel
theorem dX2_copyFrom_9 : decode cX2_copyFrom 9 = .ok (.iconst 0, 1) := by decide +kernel
theorem dX2_copyFrom_10 : decode cX2_copyFrom 10 = .ok (.putfield 30, 3) := by decide +kernel
theorem dX2_copyFrom_13 : decode cX2_copyFrom 13 = .ok (.iconst 0, 1) := by decide +kernel
theorem dX2_copyFrom_14 : decode cX2_copyFrom 14 = .ok (.istore_n 2, 1) := by decide +kernel
theorem dX2_copyFrom_15 : decode cX2_copyFrom 15 = .ok (.iload_n 2, 1) := by decide +kernel
theorem dX2_copyFrom_16 : decode cX2_copyFrom 16 = .ok (.aload_n 0, 1) := by decide +kernel
theorem dX2_copyFrom_17 : decode cX2_copyFrom 17 = .ok (.getfield 18, 3) := by decide +kernel
theorem dX2_copyFrom_20 : decode cX2_copyFrom 20 = .ok (.if_icmp .ge 28, 3) := by decide +kernel
theorem dX2_copyFrom_23 : decode cX2_copyFrom 23 = .ok (.aload_n 0, 1) := by decide +kernel
theorem dX2_copyFrom_24 : decode cX2_copyFrom 24 = .ok (.getfield 11, 3) := by decide +kernel
theorem dX2_copyFrom_27 : decode cX2_copyFrom 27 = .ok (.iload_n 2, 1) := by decide +kernel
theorem dX2_copyFrom_28 : decode cX2_copyFrom 28 = .ok (.aaload, 1) := by decide +kernel
theorem dX2_copyFrom_29 : decode cX2_copyFrom 29 = .ok (.aload_n 1, 1) := by decide +kernel
theorem dX2_copyFrom_30 : decode cX2_copyFrom 30 = .ok (.getfield 11, 3) := by decide +kernel
theorem dX2_copyFrom_33 : decode cX2_copyFrom 33 = .ok (.aload_n 1, 1) := by decide +kernel
theorem dX2_copyFrom_34 : decode cX2_copyFrom 34 = .ok (.iload_n 2, 1) := by decide +kernel
theorem dX2_copyFrom_35 : decode cX2_copyFrom 35 = .ok (.invokevirtual 22, 3) := by decide +kernel
theorem dX2_copyFrom_38 : decode cX2_copyFrom 38 = .ok (.aaload, 1) := by decide +kernel
theorem dX2_copyFrom_39 : decode cX2_copyFrom 39 = .ok (.invokevirtual 26, 3) := by decide +kernel
theorem dX2_copyFrom_42 : decode cX2_copyFrom 42 = .ok (.iinc 2 1, 3) := by decide +kernel
theorem dX2_copyFrom_45 : decode cX2_copyFrom 45 = .ok (.goto (-30), 3) := by decide +kernel
theorem dX2_copyFrom_48 : decode cX2_copyFrom 48 = .ok (.return_, 1) := by decide +kernel
theorem dX2_placeOf_0 : decode cX2_placeOf 0 = .ok (.aload_n 0, 1) := by decide +kernel
theorem dX2_placeOf_1 : decode cX2_placeOf 1 = .ok (.getfield 30, 3) := by decide +kernel
theorem dX2_placeOf_4 : decode cX2_placeOf 4 = .ok (.iload_n 1, 1) := by decide +kernel
theorem dX2_placeOf_5 : decode cX2_placeOf 5 = .ok (.iadd, 1) := by decide +kernel
theorem dX2_placeOf_6 : decode cX2_placeOf 6 = .ok (.bipush 10, 2) := by decide +kernel
theorem dX2_placeOf_8 : decode cX2_placeOf 8 = .ok (.irem, 1) := by decide +kernel
theorem dX2_placeOf_9 : decode cX2_placeOf 9 = .ok (.ireturn, 1) := by decide +kernel
theorem dX3_init_0 : decode cX3_init 0 = .ok (.aload_n 0, 1) := by decide +kernel
theorem dX3_init_1 : decode cX3_init 1 = .ok (.invokespecial 3, 3) := by decide +kernel
theorem dX3_init_4 : decode cX3_init 4 = .ok (.aload_n 0, 1) := by decide +kernel
theorem dX3_init_5 : decode cX3_init 5 = .ok (.bipush 120, 2) := by decide +kernel
theorem dX3_init_7 : decode cX3_init 7 = .ok (.newarray .int, 2) := by decide +kernel
theorem dX3_init_9 : decode cX3_init 9 = .ok (.putfield 9, 3) := by decide +kernel
theorem dX3_init_12 : decode cX3_init 12 = .ok (.return_, 1) := by decide +kernel
theorem dX3_add_0 : decode cX3_add 0 = .ok (.aload_n 0, 1) := by decide +kernel
theorem dX3_add_1 : decode cX3_add 1 = .ok (.getfield 15, 3) := by decide +kernel
theorem dX3_add_4 : decode cX3_add 4 = .ok (.bipush 120, 2) := by decide +kernel
theorem dX3_add_6 : decode cX3_add 6 = .ok (.if_icmp .lt 5, 3) := by decide +kernel
theorem dX3_add_9 : decode cX3_add 9 = .ok (.iconst 0, 1) := by decide +kernel
theorem dX3_add_10 : decode cX3_add 10 = .ok (.ireturn, 1) := by decide +kernel
theorem dX3_add_11 : decode cX3_add 11 = .ok (.aload_n 0, 1) := by decide +kernel
theorem dX3_add_12 : decode cX3_add 12 = .ok (.getfield 9, 3) := by decide +kernel
theorem dX3_add_15 : decode cX3_add 15 = .ok (.aload_n 0, 1) := by decide +kernel
theorem dX3_add_16 : decode cX3_add 16 = .ok (.getfield 15, 3) := by decide +kernel
theorem dX3_add_19 : decode cX3_add 19 = .ok (.iload_n 1, 1) := by decide +kernel
theorem dX3_add_20 : decode cX3_add 20 = .ok (.iastore, 1) := by decide +kernel
theorem dX3_add_21 : decode cX3_add 21 = .ok (.aload_n 0, 1) := by decide +kernel
theorem dX3_add_22 : decode cX3_add 22 = .ok (.dup, 1) := by decide +kernel
theorem dX3_add_23 : decode cX3_add 23 = .ok (.getfield 15, 3) := by decide +kernel
theorem dX3_add_26 : decode cX3_add 26 = .ok (.iconst 1, 1) := by decide +kernel
theorem dX3_add_27 : decode cX3_add 27 = .ok (.iadd, 1) := by decide +kernel
theorem dX3_add_28 : decode cX3_add 28 = .ok (.putfield 15, 3) := by decide +kernel
theorem dX3_add_31 : decode cX3_add 31 = .ok (.iconst 1, 1) := by decide +kernel
theorem dX3_add_32 : decode cX3_add 32 = .ok (.ireturn, 1) := by decide +kernel
set_option maxRecDepth 20000 in
theorem ggX3_readInto_X4_forgetAll : GoodIn wsX3_readInto wsX4_forgetAll := goodIn_r _ [9, 10, 11, 12, 70, 71, 72, 73, 74, 75] (by decide +kernel) (by decide +kernel)
set_option maxRecDepth 20000 in
theorem gX3_readInto_X4_forgetAll : GoodIn wsX3_readInto (wsV RX3 26 RX4 yX4_forgetAll wsX4_forgetAll) := goodIn_app (goodIn_of _ (by decide +kernel)) ggX3_readInto_X4_forgetAll
set_option maxRecDepth 20000 in
theorem ggX3_readInto_X3_advance : GoodIn wsX3_readInto wsX3_advance := goodIn_r _ [17, 1, 4, 18, 19, 20, 3, 21, 22, 23, 16, 24, 25, 26, 27, 28, 29, 30, 31, 32, 33, 34, 35, 36, 63, 64, 65, 66, 67, 68, 69] (by decide +kernel) (by decide +kernel)
set_option maxRecDepth 20000 in
theorem gX3_readInto_X3_advance : GoodIn wsX3_readInto (wsV RX3 31 RX3 yX3_advance wsX3_advance) := goodIn_app (goodIn_of _ (by decide +kernel)) ggX3_readInto_X3_advance
set_option maxRecDepth 20000 in
theorem ggX3_readInto_X3_readItem : GoodIn wsX3_readInto wsX3_readItem := goodIn_r _ [40, 3, 18, 41, 2, 42, 43, 44, 16, 45, 46, 47, 48, 49, 50, 51, 52, 13, 14, 15, 17, 1, 4, 19, 20, 21, 22, 23, 24, 25, 26, 27, 28, 29, 30, 31, 32, 33, 34, 35, 36, 53, 54, 55, 56, 57, 58, 59, 60, 61, 62, 63, 64, 65, 66, 67, 68, 69, 70, 71, 72, 73, 74, 75] (by decide +kernel) (by decide +kernel)
set_option maxRecDepth 20000 in
theorem gX3_readInto_X3_readItem : GoodIn wsX3_readInto (wsV RX3 37 RX3 yX3_readItem wsX3_readItem) := goodIn_app (goodIn_of _ (by decide +kernel)) ggX3_readInto_X3_readItem
theorem dX3_readInto_0 : decode cX3_readInto 0 = .ok (.aload_n 0, 1) := by decide +kernel
theorem dX3_readInto_1 : decode cX3_readInto 1 = .ok (.iconst 0, 1) := by decide +kernel
theorem dX3_readInto_2 : decode cX3_readInto 2 = .ok (.putfield 19, 3) := by decide +kernel
theorem dX3_readInto_5 : decode cX3_readInto 5 = .ok (.aload_n 0, 1) := by decide +kernel
theorem dX3_readInto_6 : decode cX3_readInto 6 = .ok (.iconst 0, 1) := by decide +kernel
theorem dX3_readInto_7 : decode cX3_readInto 7 = .ok (.putfield 22, 3) := by decide +kernel
theorem dX3_readInto_10 : decode cX3_readInto 10 = .ok (.aload_n 1, 1) := by decide +kernel
theorem dX3_readInto_11 : decode cX3_readInto 11 = .ok (.invokevirtual 26, 3) := by decide +kernel
theorem dX3_readInto_14 : decode cX3_readInto 14 = .ok (.aload_n 0, 1) := by decide +kernel
theorem dX3_readInto_15 : decode cX3_readInto 15 = .ok (.invokevirtual 31, 3) := by decide +kernel
theorem dX3_readInto_18 : decode cX3_readInto 18 = .ok (.iconst 0, 1) := by decide +kernel
theorem dX3_readInto_19 : decode cX3_readInto 19 = .ok (.istore_n 2, 1) := by decide +kernel
theorem dX3_readInto_20 : decode cX3_readInto 20 = .ok (.iload_n 2, 1) := by decide +kernel
theorem dX3_readInto_21 : decode cX3_readInto 21 = .ok (.bipush 120, 2) := by decide +kernel
theorem dX3_readInto_23 : decode cX3_readInto 23 = .ok (.if_icmp .ge 29, 3) := by decide +kernel
theorem dX3_readInto_26 : decode cX3_readInto 26 = .ok (.aload_n 0, 1) := by decide +kernel
theorem dX3_readInto_27 : decode cX3_readInto 27 = .ok (.getfield 34, 3) := by decide +kernel
theorem dX3_readInto_30 : decode cX3_readInto 30 = .ok (.ifCond .eq 22, 3) := by decide +kernel
theorem dX3_readInto_33 : decode cX3_readInto 33 = .ok (.aload_n 0, 1) := by decide +kernel
theorem dX3_readInto_34 : decode cX3_readInto 34 = .ok (.aload_n 1, 1) := by decide +kernel
theorem dX3_readInto_35 : decode cX3_readInto 35 = .ok (.invokevirtual 37, 3) := by decide +kernel
theorem dX3_readInto_38 : decode cX3_readInto 38 = .ok (.ifCond .ne 8, 3) := by decide +kernel
theorem dX3_readInto_41 : decode cX3_readInto 41 = .ok (.aload_n 0, 1) := by decide +kernel
theorem dX3_readInto_42 : decode cX3_readInto 42 = .ok (.getfield 41, 3) := by decide +kernel
theorem dX3_readInto_45 : decode cX3_readInto 45 = .ok (.ireturn, 1) := by decide +kernel
theorem dX3_readInto_46 : decode cX3_readInto 46 = .ok (.iinc 2 1, 3) := by decide +kernel
theorem dX3_readInto_49 : decode cX3_readInto 49 = .ok (.goto (-29), 3) := by decide +kernel
theorem dX3_readInto_52 : decode cX3_readInto 52 = .ok (.iconst (-1), 1) := by decide +kernel
theorem dX3_readInto_53 : decode cX3_readInto 53 = .ok (.ireturn, 1) := by decide +kernel
set_option maxRecDepth 20000 in
theorem ggX3_readItem_X3_readRider : GoodIn wsX3_readItem wsX3_readRider := goodIn_r _ [9, 10, 2, 11, 12, 3, 13, 14, 15, 8, 16, 1, 17, 18, 19, 20, 21, 22, 23, 24, 25, 26, 27, 28, 29, 30, 31, 32, 33, 34, 35, 36, 37, 38, 39, 40, 58, 59, 60, 61, 62, 63, 51, 52, 53, 54, 55, 56, 57] (by decide +kernel) (by decide +kernel)
set_option maxRecDepth 20000 in
theorem gX3_readItem_X3_readRider : GoodIn wsX3_readItem (wsV RX3 50 RX3 yX3_readRider wsX3_readRider) := goodIn_app (goodIn_of _ (by decide +kernel)) ggX3_readItem_X3_readRider
set_option maxRecDepth 20000 in
theorem ggX3_readItem_X3_comesEnd : GoodIn wsX3_readItem wsX3_comesEnd := goodIn_r _ [44, 1, 45, 17, 18, 19, 8, 20, 21, 22, 2, 23, 24, 25, 26, 27, 28, 29, 30, 31, 32, 33, 34, 35, 36, 37, 38, 39, 40, 51, 52, 53, 54, 55, 56, 57, 58, 59, 60, 61, 62, 63] (by decide +kernel) (by decide +kernel)
set_option maxRecDepth 20000 in
theorem gX3_readItem_X3_comesEnd : GoodIn wsX3_readItem (wsV RX3 54 RX3 yX3_comesEnd wsX3_comesEnd) := goodIn_app (goodIn_of _ (by decide +kernel)) ggX3_readItem_X3_comesEnd
set_option maxRecDepth 20000 in
theorem ggX3_readItem_X3_readLine : GoodIn wsX3_readItem wsX3_readLine := goodIn_r _ [49, 2, 50, 4, 13, 14, 15, 8, 16, 1, 17, 18, 19, 20, 21, 22, 23, 24, 25, 26, 27, 28, 29, 30, 31, 32, 33, 34, 35, 36, 37, 38, 39, 40, 51, 52, 53, 54, 55, 56, 57, 58, 59, 60, 61, 62, 63] (by decide +kernel) (by decide +kernel)
set_option maxRecDepth 20000 in
theorem gX3_readItem_X3_readLine : GoodIn wsX3_readItem (wsV RX3 57 RX3 yX3_readLine wsX3_readLine) := goodIn_app (goodIn_of _ (by decide +kernel)) ggX3_readItem_X3_readLine
theorem dX3_readItem_0 : decode cX3_readItem 0 = .ok (.aload_n 0, 1) := by decide +kernel
theorem dX3_readItem_1 : decode cX3_readItem 1 = .ok (.getfield 34, 3) := by decide +kernel
theorem dX3_readItem_4 : decode cX3_readItem 4 = .ok (.iconst 1, 1) := by decide +kernel
theorem dX3_readItem_5 : decode cX3_readItem 5 = .ok (.if_icmp .ne 47, 3) := by decide +kernel
theorem dX3_readItem_8 : decode cX3_readItem 8 = .ok (.aload_n 0, 1) := by decide +kernel
theorem dX3_readItem_9 : decode cX3_readItem 9 = .ok (.getfield 44, 3) := by decide +kernel
theorem dX3_readItem_12 : decode cX3_readItem 12 = .ok (.bipush 114, 2) := by decide +kernel
theorem dX3_readItem_14 : decode cX3_readItem 14 = .ok (.if_icmp .ne 38, 3) := by decide +kernel
theorem dX3_readItem_17 : decode cX3_readItem 17 = .ok (.aload_n 1, 1) := by decide +kernel
theorem dX3_readItem_18 : decode cX3_readItem 18 = .ok (.getfield 47, 3) := by decide +kernel
theorem dX3_readItem_21 : decode cX3_readItem 21 = .ok (.bipush 6, 2) := by decide +kernel
theorem dX3_readItem_23 : decode cX3_readItem 23 = .ok (.if_icmp .ge 29, 3) := by decide +kernel
theorem dX3_readItem_26 : decode cX3_readItem 26 = .ok (.aload_n 0, 1) := by decide +kernel
theorem dX3_readItem_27 : decode cX3_readItem 27 = .ok (.aload_n 1, 1) := by decide +kernel
theorem dX3_readItem_28 : decode cX3_readItem 28 = .ok (.aload_n 1, 1) := by decide +kernel
theorem dX3_readItem_29 : decode cX3_readItem 29 = .ok (.getfield 47, 3) := by decide +kernel
theorem dX3_readItem_32 : decode cX3_readItem 32 = .ok (.invokevirtual 50, 3) := by decide +kernel
theorem dX3_readItem_35 : decode cX3_readItem 35 = .ok (.ifCond .eq 15, 3) := by decide +kernel
theorem dX3_readItem_38 : decode cX3_readItem 38 = .ok (.aload_n 0, 1) := by decide +kernel
theorem dX3_readItem_39 : decode cX3_readItem 39 = .ok (.aload_n 1, 1) := by decide +kernel
theorem dX3_readItem_40 : decode cX3_readItem 40 = .ok (.invokevirtual 54, 3) := by decide +kernel
theorem dX3_readItem_43 : decode cX3_readItem 43 = .ok (.ifCond .eq 7, 3) := by decide +kernel
theorem dX3_readItem_46 : decode cX3_readItem 46 = .ok (.iconst 1, 1) := by decide +kernel
theorem dX3_readItem_47 : decode cX3_readItem 47 = .ok (.goto 4, 3) := by decide +kernel
theorem dX3_readItem_50 : decode cX3_readItem 50 = .ok (.iconst 0, 1) := by decide +kernel
theorem dX3_readItem_51 : decode cX3_readItem 51 = .ok (.ireturn, 1) := by decide +kernel
theorem dX3_readItem_52 : decode cX3_readItem 52 = .ok (.aload_n 0, 1) := by decide +kernel
theorem dX3_readItem_53 : decode cX3_readItem 53 = .ok (.getfield 34, 3) := by decide +kernel
theorem dX3_readItem_56 : decode cX3_readItem 56 = .ok (.iconst 1, 1) := by decide +kernel
theorem dX3_readItem_57 : decode cX3_readItem 57 = .ok (.if_icmp .ne 41, 3) := by decide +kernel
theorem dX3_readItem_60 : decode cX3_readItem 60 = .ok (.aload_n 0, 1) := by decide +kernel
theorem dX3_readItem_61 : decode cX3_readItem 61 = .ok (.getfield 44, 3) := by decide +kernel
theorem dX3_readItem_64 : decode cX3_readItem 64 = .ok (.bipush 108, 2) := by decide +kernel
theorem dX3_readItem_66 : decode cX3_readItem 66 = .ok (.if_icmp .ne 32, 3) := by decide +kernel
theorem dX3_readItem_69 : decode cX3_readItem 69 = .ok (.aload_n 0, 1) := by decide +kernel
theorem dX3_readItem_70 : decode cX3_readItem 70 = .ok (.getfield 22, 3) := by decide +kernel
theorem dX3_readItem_73 : decode cX3_readItem 73 = .ok (.ifCond .ne 25, 3) := by decide +kernel
theorem dX3_readItem_76 : decode cX3_readItem 76 = .ok (.aload_n 0, 1) := by decide +kernel
theorem dX3_readItem_77 : decode cX3_readItem 77 = .ok (.aload_n 1, 1) := by decide +kernel
theorem dX3_readItem_78 : decode cX3_readItem 78 = .ok (.invokevirtual 57, 3) := by decide +kernel
theorem dX3_readItem_81 : decode cX3_readItem 81 = .ok (.ifCond .eq 15, 3) := by decide +kernel
theorem dX3_readItem_84 : decode cX3_readItem 84 = .ok (.aload_n 0, 1) := by decide +kernel
theorem dX3_readItem_85 : decode cX3_readItem 85 = .ok (.aload_n 1, 1) := by decide +kernel
theorem dX3_readItem_86 : decode cX3_readItem 86 = .ok (.invokevirtual 54, 3) := by decide +kernel
theorem dX3_readItem_89 : decode cX3_readItem 89 = .ok (.ifCond .eq 7, 3) := by decide +kernel
theorem dX3_readItem_92 : decode cX3_readItem 92 = .ok (.iconst 1, 1) := by decide +kernel
theorem dX3_readItem_93 : decode cX3_readItem 93 = .ok (.goto 4, 3) := by decide +kernel
theorem dX3_readItem_96 : decode cX3_readItem 96 = .ok (.iconst 0, 1) := by decide +kernel
theorem dX3_readItem_97 : decode cX3_readItem 97 = .ok (.ireturn, 1) := by decide +kernel
theorem dX3_readItem_98 : decode cX3_readItem 98 = .ok (.iconst 0, 1) := by decide +kernel
theorem dX3_readItem_99 : decode cX3_readItem 99 = .ok (.ireturn, 1) := by decide +kernel
set_option maxRecDepth 20000 in
theorem ggX3_readRider_X3_comesNumber : GoodIn wsX3_readRider wsX3_comesNumber := goodIn_r _ [10, 11, 2, 12, 13, 14, 9, 15, 16, 17, 18, 19, 20, 21, 22, 23, 24, 25, 26, 27, 28, 29, 30, 31, 32, 33, 34, 35, 42, 43, 44, 45, 46, 47, 48] (by decide +kernel) (by decide +kernel)
set_option maxRecDepth 20000 in
theorem gX3_readRider_X3_comesNumber : GoodIn wsX3_readRider (wsV RX3 60 RX3 yX3_comesNumber wsX3_comesNumber) := goodIn_app (goodIn_of _ (by decide +kernel)) ggX3_readRider_X3_comesNumber
theorem dX3_readRider_0 : decode cX3_readRider 0 = .ok (.aload_n 0, 1) := by decide +kernel
theorem dX3_readRider_1 : decode cX3_readRider 1 = .ok (.iconst 0, 1) := by decide +kernel
theorem dX3_readRider_2 : decode cX3_readRider 2 = .ok (.bipush 9, 2) := by decide +kernel
theorem dX3_readRider_4 : decode cX3_readRider 4 = .ok (.invokevirtual 60, 3) := by decide +kernel
theorem dX3_readRider_7 : decode cX3_readRider 7 = .ok (.ifCond .ne 5, 3) := by decide +kernel
theorem dX3_readRider_10 : decode cX3_readRider 10 = .ok (.iconst 0, 1) := by decide +kernel
theorem dX3_readRider_11 : decode cX3_readRider 11 = .ok (.ireturn, 1) := by decide +kernel
theorem dX3_readRider_12 : decode cX3_readRider 12 = .ok (.aload_n 1, 1) := by decide +kernel
theorem dX3_readRider_13 : decode cX3_readRider 13 = .ok (.getfield 64, 3) := by decide +kernel
theorem dX3_readRider_16 : decode cX3_readRider 16 = .ok (.iload_n 2, 1) := by decide +kernel
theorem dX3_readRider_17 : decode cX3_readRider 17 = .ok (.aload_n 0, 1) := by decide +kernel
theorem dX3_readRider_18 : decode cX3_readRider 18 = .ok (.getfield 44, 3) := by decide +kernel
theorem dX3_readRider_21 : decode cX3_readRider 21 = .ok (.iastore, 1) := by decide +kernel
theorem dX3_readRider_22 : decode cX3_readRider 22 = .ok (.aload_n 0, 1) := by decide +kernel
theorem dX3_readRider_23 : decode cX3_readRider 23 = .ok (.iconst 0, 1) := by decide +kernel
theorem dX3_readRider_24 : decode cX3_readRider 24 = .ok (.bipush 9, 2) := by decide +kernel
theorem dX3_readRider_26 : decode cX3_readRider 26 = .ok (.invokevirtual 60, 3) := by decide +kernel
theorem dX3_readRider_29 : decode cX3_readRider 29 = .ok (.ifCond .ne 5, 3) := by decide +kernel
theorem dX3_readRider_32 : decode cX3_readRider 32 = .ok (.iconst 0, 1) := by decide +kernel
theorem dX3_readRider_33 : decode cX3_readRider 33 = .ok (.ireturn, 1) := by decide +kernel
theorem dX3_readRider_34 : decode cX3_readRider 34 = .ok (.aload_n 1, 1) := by decide +kernel
theorem dX3_readRider_35 : decode cX3_readRider 35 = .ok (.getfield 67, 3) := by decide +kernel
theorem dX3_readRider_38 : decode cX3_readRider 38 = .ok (.iload_n 2, 1) := by decide +kernel
theorem dX3_readRider_39 : decode cX3_readRider 39 = .ok (.aload_n 0, 1) := by decide +kernel
theorem dX3_readRider_40 : decode cX3_readRider 40 = .ok (.getfield 44, 3) := by decide +kernel
theorem dX3_readRider_43 : decode cX3_readRider 43 = .ok (.iastore, 1) := by decide +kernel
theorem dX3_readRider_44 : decode cX3_readRider 44 = .ok (.aload_n 0, 1) := by decide +kernel
theorem dX3_readRider_45 : decode cX3_readRider 45 = .ok (.iconst 0, 1) := by decide +kernel
theorem dX3_readRider_46 : decode cX3_readRider 46 = .ok (.iconst 2, 1) := by decide +kernel
theorem dX3_readRider_47 : decode cX3_readRider 47 = .ok (.invokevirtual 60, 3) := by decide +kernel
theorem dX3_readRider_50 : decode cX3_readRider 50 = .ok (.ifCond .ne 5, 3) := by decide +kernel
theorem dX3_readRider_53 : decode cX3_readRider 53 = .ok (.iconst 0, 1) := by decide +kernel
theorem dX3_readRider_54 : decode cX3_readRider 54 = .ok (.ireturn, 1) := by decide +kernel
theorem dX3_readRider_55 : decode cX3_readRider 55 = .ok (.aload_n 1, 1) := by decide +kernel
theorem dX3_readRider_56 : decode cX3_readRider 56 = .ok (.getfield 70, 3) := by decide +kernel
theorem dX3_readRider_59 : decode cX3_readRider 59 = .ok (.iload_n 2, 1) := by decide +kernel
theorem dX3_readRider_60 : decode cX3_readRider 60 = .ok (.aload_n 0, 1) := by decide +kernel
theorem dX3_readRider_61 : decode cX3_readRider 61 = .ok (.getfield 44, 3) := by decide +kernel
theorem dX3_readRider_64 : decode cX3_readRider 64 = .ok (.iastore, 1) := by decide +kernel
theorem dX3_readRider_65 : decode cX3_readRider 65 = .ok (.aload_n 1, 1) := by decide +kernel
theorem dX3_readRider_66 : decode cX3_readRider 66 = .ok (.dup, 1) := by decide +kernel
theorem dX3_readRider_67 : decode cX3_readRider 67 = .ok (.getfield 47, 3) := by decide +kernel
theorem dX3_readRider_70 : decode cX3_readRider 70 = .ok (.iconst 1, 1) := by decide +kernel
theorem dX3_readRider_71 : decode cX3_readRider 71 = .ok (.iadd, 1) := by decide +kernel
theorem dX3_readRider_72 : decode cX3_readRider 72 = .ok (.putfield 47, 3) := by decide +kernel
theorem dX3_readRider_75 : decode cX3_readRider 75 = .ok (.iconst 1, 1) := by decide +kernel
theorem dX3_readRider_76 : decode cX3_readRider 76 = .ok (.ireturn, 1) := by decide +kernel
set_option maxRecDepth 20000 in
theorem ggX3_readLine_X3_comesNumber : GoodIn wsX3_readLine wsX3_comesNumber := goodIn_r _ [8, 9, 1, 10, 11, 12, 7, 13, 14, 15, 16, 17, 18, 19, 20, 21, 22, 23, 24, 25, 26, 27, 28, 29, 30, 31, 32, 33, 34, 35, 36, 37, 38, 39, 40] (by decide +kernel) (by decide +kernel)
set_option maxRecDepth 20000 in
theorem gX3_readLine_X3_comesNumber : GoodIn wsX3_readLine (wsV RX3 60 RX3 yX3_comesNumber wsX3_comesNumber) := goodIn_app (goodIn_of _ (by decide +kernel)) ggX3_readLine_X3_comesNumber
theorem dX3_readLine_0 : decode cX3_readLine 0 = .ok (.aload_n 0, 1) := by decide +kernel
theorem dX3_readLine_1 : decode cX3_readLine 1 = .ok (.iconst 1, 1) := by decide +kernel
theorem dX3_readLine_2 : decode cX3_readLine 2 = .ok (.bipush 20, 2) := by decide +kernel
theorem dX3_readLine_4 : decode cX3_readLine 4 = .ok (.invokevirtual 60, 3) := by decide +kernel
theorem dX3_readLine_7 : decode cX3_readLine 7 = .ok (.ifCond .ne 5, 3) := by decide +kernel
theorem dX3_readLine_10 : decode cX3_readLine 10 = .ok (.iconst 0, 1) := by decide +kernel
theorem dX3_readLine_11 : decode cX3_readLine 11 = .ok (.ireturn, 1) := by decide +kernel
theorem dX3_readLine_12 : decode cX3_readLine 12 = .ok (.aload_n 1, 1) := by decide +kernel
theorem dX3_readLine_13 : decode cX3_readLine 13 = .ok (.aload_n 0, 1) := by decide +kernel
theorem dX3_readLine_14 : decode cX3_readLine 14 = .ok (.getfield 44, 3) := by decide +kernel
theorem dX3_readLine_17 : decode cX3_readLine 17 = .ok (.putfield 73, 3) := by decide +kernel
theorem dX3_readLine_20 : decode cX3_readLine 20 = .ok (.aload_n 0, 1) := by decide +kernel
theorem dX3_readLine_21 : decode cX3_readLine 21 = .ok (.iconst 1, 1) := by decide +kernel
theorem dX3_readLine_22 : decode cX3_readLine 22 = .ok (.putfield 22, 3) := by decide +kernel
theorem dX3_readLine_25 : decode cX3_readLine 25 = .ok (.iconst 1, 1) := by decide +kernel
theorem dX3_readLine_26 : decode cX3_readLine 26 = .ok (.ireturn, 1) := by decide +kernel
set_option maxRecDepth 20000 in
theorem ggX3_comesNumber_X3_advance : GoodIn wsX3_comesNumber wsX3_advance := goodIn_r _ [7, 8, 9, 2, 10, 11, 1, 12, 13, 14, 6, 15, 16, 17, 18, 19, 20, 21, 22, 23, 24, 25, 26, 27, 28, 29, 30, 31, 32, 33, 34] (by decide +kernel) (by decide +kernel)
set_option maxRecDepth 20000 in
theorem gX3_comesNumber_X3_advance : GoodIn wsX3_comesNumber (wsV RX3 31 RX3 yX3_advance wsX3_advance) := goodIn_app (goodIn_of _ (by decide +kernel)) ggX3_comesNumber_X3_advance
theorem dX3_comesNumber_0 : decode cX3_comesNumber 0 = .ok (.aload_n 0, 1) := by decide +kernel
theorem dX3_comesNumber_1 : decode cX3_comesNumber 1 = .ok (.invokevirtual 31, 3) := by decide +kernel
theorem dX3_comesNumber_4 : decode cX3_comesNumber 4 = .ok (.aload_n 0, 1) := by decide +kernel
theorem dX3_comesNumber_5 : decode cX3_comesNumber 5 = .ok (.getfield 34, 3) := by decide +kernel
theorem dX3_comesNumber_8 : decode cX3_comesNumber 8 = .ok (.iconst 2, 1) := by decide +kernel
theorem dX3_comesNumber_9 : decode cX3_comesNumber 9 = .ok (.if_icmp .ne 23, 3) := by decide +kernel
theorem dX3_comesNumber_12 : decode cX3_comesNumber 12 = .ok (.aload_n 0, 1) := by decide +kernel
theorem dX3_comesNumber_13 : decode cX3_comesNumber 13 = .ok (.getfield 44, 3) := by decide +kernel
theorem dX3_comesNumber_16 : decode cX3_comesNumber 16 = .ok (.iload_n 1, 1) := by decide +kernel
theorem dX3_comesNumber_17 : decode cX3_comesNumber 17 = .ok (.if_icmp .lt 15, 3) := by decide +kernel
theorem dX3_comesNumber_20 : decode cX3_comesNumber 20 = .ok (.aload_n 0, 1) := by decide +kernel
theorem dX3_comesNumber_21 : decode cX3_comesNumber 21 = .ok (.getfield 44, 3) := by decide +kernel
theorem dX3_comesNumber_24 : decode cX3_comesNumber 24 = .ok (.iload_n 2, 1) := by decide +kernel
theorem dX3_comesNumber_25 : decode cX3_comesNumber 25 = .ok (.if_icmp .gt 7, 3) := by decide +kernel
theorem dX3_comesNumber_28 : decode cX3_comesNumber 28 = .ok (.iconst 1, 1) := by decide +kernel
theorem dX3_comesNumber_29 : decode cX3_comesNumber 29 = .ok (.goto 4, 3) := by decide +kernel
theorem dX3_comesNumber_32 : decode cX3_comesNumber 32 = .ok (.iconst 0, 1) := by decide +kernel
theorem dX3_comesNumber_33 : decode cX3_comesNumber 33 = .ok (.ireturn, 1) := by decide +kernel
set_option maxRecDepth 20000 in
theorem ggX3_comesEnd_X3_advance : GoodIn wsX3_comesEnd wsX3_advance := goodIn_r _ [7, 8, 9, 10, 11, 12, 1, 13, 14, 15, 6, 16, 17, 18, 19, 20, 21, 22, 23, 24, 25, 26, 27, 28, 29, 30, 31, 32, 33, 34, 35] (by decide +kernel) (by decide +kernel)
set_option maxRecDepth 20000 in
theorem gX3_comesEnd_X3_advance : GoodIn wsX3_comesEnd (wsV RX3 31 RX3 yX3_advance wsX3_advance) := goodIn_app (goodIn_of _ (by decide +kernel)) ggX3_comesEnd_X3_advance
theorem dX3_comesEnd_0 : decode cX3_comesEnd 0 = .ok (.aload_n 0, 1) := by decide +kernel
theorem dX3_comesEnd_1 : decode cX3_comesEnd 1 = .ok (.invokevirtual 31, 3) := by decide +kernel
theorem dX3_comesEnd_4 : decode cX3_comesEnd 4 = .ok (.aload_n 0, 1) := by decide +kernel
theorem dX3_comesEnd_5 : decode cX3_comesEnd 5 = .ok (.getfield 34, 3) := by decide +kernel
theorem dX3_comesEnd_8 : decode cX3_comesEnd 8 = .ok (.iconst 3, 1) := by decide +kernel
theorem dX3_comesEnd_9 : decode cX3_comesEnd 9 = .ok (.if_icmp .eq 5, 3) := by decide +kernel
theorem dX3_comesEnd_12 : decode cX3_comesEnd 12 = .ok (.iconst 0, 1) := by decide +kernel
theorem dX3_comesEnd_13 : decode cX3_comesEnd 13 = .ok (.ireturn, 1) := by decide +kernel
theorem dX3_comesEnd_14 : decode cX3_comesEnd 14 = .ok (.aload_n 1, 1) := by decide +kernel
theorem dX3_comesEnd_15 : decode cX3_comesEnd 15 = .ok (.dup, 1) := by decide +kernel
theorem dX3_comesEnd_16 : decode cX3_comesEnd 16 = .ok (.getfield 76, 3) := by decide +kernel
theorem dX3_comesEnd_19 : decode cX3_comesEnd 19 = .ok (.iconst 1, 1) := by decide +kernel
theorem dX3_comesEnd_20 : decode cX3_comesEnd 20 = .ok (.iadd, 1) := by decide +kernel
theorem dX3_comesEnd_21 : decode cX3_comesEnd 21 = .ok (.putfield 76, 3) := by decide +kernel
theorem dX3_comesEnd_24 : decode cX3_comesEnd 24 = .ok (.aload_n 0, 1) := by decide +kernel
theorem dX3_comesEnd_25 : decode cX3_comesEnd 25 = .ok (.invokevirtual 31, 3) := by decide +kernel
theorem dX3_comesEnd_28 : decode cX3_comesEnd 28 = .ok (.iconst 1, 1) := by decide +kernel
theorem dX3_comesEnd_29 : decode cX3_comesEnd 29 = .ok (.ireturn, 1) := by decide +kernel
set_option maxRecDepth 20000 in
theorem ggX3_advance_X3_passBytes : GoodIn wsX3_advance wsX3_passBytes := goodIn_r _ [11, 1, 4, 5, 24, 25, 26, 27, 28, 29, 30] (by decide +kernel) (by decide +kernel)
set_option maxRecDepth 20000 in
theorem gX3_advance_X3_passBytes : GoodIn wsX3_advance (wsV RX3 79 RX3 yX3_passBytes wsX3_passBytes) := goodIn_app (goodIn_of _ (by decide +kernel)) ggX3_advance_X3_passBytes
set_option maxRecDepth 20000 in
theorem ggX3_advance_X3_takeLetters : GoodIn wsX3_advance wsX3_takeLetters := goodIn_r _ [15, 6, 1, 2, 3, 24, 25, 26, 27, 28, 29, 30] (by decide +kernel) (by decide +kernel)
set_option maxRecDepth 20000 in
theorem gX3_advance_X3_takeLetters : GoodIn wsX3_advance (wsV RX3 83 RX3 yX3_takeLetters wsX3_takeLetters) := goodIn_app (goodIn_of _ (by decide +kernel)) ggX3_advance_X3_takeLetters
set_option maxRecDepth 20000 in
theorem ggX3_advance_X3_takeNumber : GoodIn wsX3_advance wsX3_takeNumber := goodIn_r _ [19, 1, 2, 3, 5, 20, 21, 22, 23, 6, 24, 25, 26, 27, 28, 29, 30] (by decide +kernel) (by decide +kernel)
set_option maxRecDepth 20000 in
theorem gX3_advance_X3_takeNumber : GoodIn wsX3_advance (wsV RX3 87 RX3 yX3_takeNumber wsX3_takeNumber) := goodIn_app (goodIn_of _ (by decide +kernel)) ggX3_advance_X3_takeNumber
theorem dX3_advance_0 : decode cX3_advance 0 = .ok (.aload_n 0, 1) := by decide +kernel
theorem dX3_advance_1 : decode cX3_advance 1 = .ok (.bipush 32, 2) := by decide +kernel
theorem dX3_advance_3 : decode cX3_advance 3 = .ok (.bipush 32, 2) := by decide +kernel
theorem dX3_advance_5 : decode cX3_advance 5 = .ok (.invokevirtual 79, 3) := by decide +kernel
theorem dX3_advance_8 : decode cX3_advance 8 = .ok (.aload_n 0, 1) := by decide +kernel
theorem dX3_advance_9 : decode cX3_advance 9 = .ok (.aload_n 0, 1) := by decide +kernel
theorem dX3_advance_10 : decode cX3_advance 10 = .ok (.getfield 19, 3) := by decide +kernel
theorem dX3_advance_13 : decode cX3_advance 13 = .ok (.putfield 41, 3) := by decide +kernel
theorem dX3_advance_16 : decode cX3_advance 16 = .ok (.aload_n 0, 1) := by decide +kernel
theorem dX3_advance_17 : decode cX3_advance 17 = .ok (.iconst 0, 1) := by decide +kernel
theorem dX3_advance_18 : decode cX3_advance 18 = .ok (.putfield 44, 3) := by decide +kernel
theorem dX3_advance_21 : decode cX3_advance 21 = .ok (.aload_n 0, 1) := by decide +kernel
theorem dX3_advance_22 : decode cX3_advance 22 = .ok (.getfield 19, 3) := by decide +kernel
theorem dX3_advance_25 : decode cX3_advance 25 = .ok (.aload_n 0, 1) := by decide +kernel
theorem dX3_advance_26 : decode cX3_advance 26 = .ok (.getfield 15, 3) := by decide +kernel
theorem dX3_advance_29 : decode cX3_advance 29 = .ok (.if_icmp .ge 15, 3) := by decide +kernel
theorem dX3_advance_32 : decode cX3_advance 32 = .ok (.aload_n 0, 1) := by decide +kernel
theorem dX3_advance_33 : decode cX3_advance 33 = .ok (.getfield 9, 3) := by decide +kernel
theorem dX3_advance_36 : decode cX3_advance 36 = .ok (.aload_n 0, 1) := by decide +kernel
theorem dX3_advance_37 : decode cX3_advance 37 = .ok (.getfield 19, 3) := by decide +kernel
theorem dX3_advance_40 : decode cX3_advance 40 = .ok (.iaload, 1) := by decide +kernel
theorem dX3_advance_41 : decode cX3_advance 41 = .ok (.goto 4, 3) := by decide +kernel
theorem dX3_advance_44 : decode cX3_advance 44 = .ok (.iconst 0, 1) := by decide +kernel
theorem dX3_advance_45 : decode cX3_advance 45 = .ok (.istore_n 1, 1) := by decide +kernel
theorem dX3_advance_46 : decode cX3_advance 46 = .ok (.aload_n 0, 1) := by decide +kernel
theorem dX3_advance_47 : decode cX3_advance 47 = .ok (.getfield 19, 3) := by decide +kernel
theorem dX3_advance_50 : decode cX3_advance 50 = .ok (.aload_n 0, 1) := by decide +kernel
theorem dX3_advance_51 : decode cX3_advance 51 = .ok (.getfield 15, 3) := by decide +kernel
theorem dX3_advance_54 : decode cX3_advance 54 = .ok (.if_icmp .lt 11, 3) := by decide +kernel
theorem dX3_advance_57 : decode cX3_advance 57 = .ok (.aload_n 0, 1) := by decide +kernel
theorem dX3_advance_58 : decode cX3_advance 58 = .ok (.iconst 0, 1) := by decide +kernel
theorem dX3_advance_59 : decode cX3_advance 59 = .ok (.putfield 34, 3) := by decide +kernel
theorem dX3_advance_62 : decode cX3_advance 62 = .ok (.goto 84, 3) := by decide +kernel
theorem dX3_advance_65 : decode cX3_advance 65 = .ok (.iload_n 1, 1) := by decide +kernel
theorem dX3_advance_66 : decode cX3_advance 66 = .ok (.bipush 97, 2) := by decide +kernel
theorem dX3_advance_68 : decode cX3_advance 68 = .ok (.if_icmp .lt 25, 3) := by decide +kernel
theorem dX3_advance_71 : decode cX3_advance 71 = .ok (.iload_n 1, 1) := by decide +kernel
theorem dX3_advance_72 : decode cX3_advance 72 = .ok (.bipush 122, 2) := by decide +kernel
theorem dX3_advance_74 : decode cX3_advance 74 = .ok (.if_icmp .gt 19, 3) := by decide +kernel
theorem dX3_advance_77 : decode cX3_advance 77 = .ok (.aload_n 0, 1) := by decide +kernel
theorem dX3_advance_78 : decode cX3_advance 78 = .ok (.bipush 97, 2) := by decide +kernel
theorem dX3_advance_80 : decode cX3_advance 80 = .ok (.bipush 122, 2) := by decide +kernel
theorem dX3_advance_82 : decode cX3_advance 82 = .ok (.invokevirtual 79, 3) := by decide +kernel
theorem dX3_advance_85 : decode cX3_advance 85 = .ok (.aload_n 0, 1) := by decide +kernel
theorem dX3_advance_86 : decode cX3_advance 86 = .ok (.iload_n 1, 1) := by decide +kernel
theorem dX3_advance_87 : decode cX3_advance 87 = .ok (.invokevirtual 83, 3) := by decide +kernel
theorem dX3_advance_90 : decode cX3_advance 90 = .ok (.goto 56, 3) := by decide +kernel
theorem dX3_advance_93 : decode cX3_advance 93 = .ok (.iload_n 1, 1) := by decide +kernel
theorem dX3_advance_94 : decode cX3_advance 94 = .ok (.bipush 48, 2) := by decide +kernel
theorem dX3_advance_96 : decode cX3_advance 96 = .ok (.if_icmp .lt 25, 3) := by decide +kernel
theorem dX3_advance_99 : decode cX3_advance 99 = .ok (.iload_n 1, 1) := by decide +kernel
theorem dX3_advance_100 : decode cX3_advance 100 = .ok (.bipush 57, 2) := by decide +kernel
theorem dX3_advance_102 : decode cX3_advance 102 = .ok (.if_icmp .gt 19, 3) := by decide +kernel
theorem dX3_advance_105 : decode cX3_advance 105 = .ok (.aload_n 0, 1) := by decide +kernel
theorem dX3_advance_106 : decode cX3_advance 106 = .ok (.bipush 48, 2) := by decide +kernel
theorem dX3_advance_108 : decode cX3_advance 108 = .ok (.bipush 57, 2) := by decide +kernel
theorem dX3_advance_110 : decode cX3_advance 110 = .ok (.invokevirtual 79, 3) := by decide +kernel
theorem dX3_advance_113 : decode cX3_advance 113 = .ok (.aload_n 0, 1) := by decide +kernel
theorem dX3_advance_114 : decode cX3_advance 114 = .ok (.iload_n 1, 1) := by decide +kernel
theorem dX3_advance_115 : decode cX3_advance 115 = .ok (.invokevirtual 87, 3) := by decide +kernel
theorem dX3_advance_118 : decode cX3_advance 118 = .ok (.goto 28, 3) := by decide +kernel
theorem dX3_advance_121 : decode cX3_advance 121 = .ok (.aload_n 0, 1) := by decide +kernel
theorem dX3_advance_122 : decode cX3_advance 122 = .ok (.iload_n 1, 1) := by decide +kernel
theorem dX3_advance_123 : decode cX3_advance 123 = .ok (.bipush 59, 2) := by decide +kernel
theorem dX3_advance_125 : decode cX3_advance 125 = .ok (.if_icmp .ne 7, 3) := by decide +kernel
theorem dX3_advance_128 : decode cX3_advance 128 = .ok (.iconst 3, 1) := by decide +kernel
theorem dX3_advance_129 : decode cX3_advance 129 = .ok (.goto 4, 3) := by decide +kernel
theorem dX3_advance_132 : decode cX3_advance 132 = .ok (.iconst 4, 1) := by decide +kernel
theorem dX3_advance_133 : decode cX3_advance 133 = .ok (.putfield 34, 3) := by decide +kernel
theorem dX3_advance_136 : decode cX3_advance 136 = .ok (.aload_n 0, 1) := by decide +kernel
theorem dX3_advance_137 : decode cX3_advance 137 = .ok (.dup, 1) := by decide +kernel
theorem dX3_advance_138 : decode cX3_advance 138 = .ok (.getfield 19, 3) := by decide +kernel
theorem dX3_advance_141 : decode cX3_advance 141 = .ok (.iconst 1, 1) := by decide +kernel
theorem dX3_advance_142 : decode cX3_advance 142 = .ok (.iadd, 1) := by decide +kernel
theorem dX3_advance_143 : decode cX3_advance 143 = .ok (.putfield 19, 3) := by decide +kernel
theorem dX3_advance_146 : decode cX3_advance 146 = .ok (.return_, 1) := by decide +kernel
theorem dX3_passBytes_0 : decode cX3_passBytes 0 = .ok (.aload_n 0, 1) := by decide +kernel
theorem dX3_passBytes_1 : decode cX3_passBytes 1 = .ok (.getfield 19, 3) := by decide +kernel
theorem dX3_passBytes_4 : decode cX3_passBytes 4 = .ok (.aload_n 0, 1) := by decide +kernel
theorem dX3_passBytes_5 : decode cX3_passBytes 5 = .ok (.getfield 15, 3) := by decide +kernel
theorem dX3_passBytes_8 : decode cX3_passBytes 8 = .ok (.if_icmp .ge 42, 3) := by decide +kernel
theorem dX3_passBytes_11 : decode cX3_passBytes 11 = .ok (.aload_n 0, 1) := by decide +kernel
theorem dX3_passBytes_12 : decode cX3_passBytes 12 = .ok (.getfield 9, 3) := by decide +kernel
theorem dX3_passBytes_15 : decode cX3_passBytes 15 = .ok (.aload_n 0, 1) := by decide +kernel
theorem dX3_passBytes_16 : decode cX3_passBytes 16 = .ok (.getfield 19, 3) := by decide +kernel
theorem dX3_passBytes_19 : decode cX3_passBytes 19 = .ok (.iaload, 1) := by decide +kernel
theorem dX3_passBytes_20 : decode cX3_passBytes 20 = .ok (.iload_n 1, 1) := by decide +kernel
theorem dX3_passBytes_21 : decode cX3_passBytes 21 = .ok (.if_icmp .lt 29, 3) := by decide +kernel
theorem dX3_passBytes_24 : decode cX3_passBytes 24 = .ok (.aload_n 0, 1) := by decide +kernel
theorem dX3_passBytes_25 : decode cX3_passBytes 25 = .ok (.getfield 9, 3) := by decide +kernel
theorem dX3_passBytes_28 : decode cX3_passBytes 28 = .ok (.aload_n 0, 1) := by decide +kernel
theorem dX3_passBytes_29 : decode cX3_passBytes 29 = .ok (.getfield 19, 3) := by decide +kernel
theorem dX3_passBytes_32 : decode cX3_passBytes 32 = .ok (.iaload, 1) := by decide +kernel
theorem dX3_passBytes_33 : decode cX3_passBytes 33 = .ok (.iload_n 2, 1) := by decide +kernel
theorem dX3_passBytes_34 : decode cX3_passBytes 34 = .ok (.if_icmp .gt 16, 3) := by decide +kernel
theorem dX3_passBytes_37 : decode cX3_passBytes 37 = .ok (.aload_n 0, 1) := by decide +kernel
theorem dX3_passBytes_38 : decode cX3_passBytes 38 = .ok (.dup, 1) := by decide +kernel
theorem dX3_passBytes_39 : decode cX3_passBytes 39 = .ok (.getfield 19, 3) := by decide +kernel
theorem dX3_passBytes_42 : decode cX3_passBytes 42 = .ok (.iconst 1, 1) := by decide +kernel
theorem dX3_passBytes_43 : decode cX3_passBytes 43 = .ok (.iadd, 1) := by decide +kernel
theorem dX3_passBytes_44 : decode cX3_passBytes 44 = .ok (.putfield 19, 3) := by decide +kernel
theorem dX3_passBytes_47 : decode cX3_passBytes 47 = .ok (.goto (-47), 3) := by decide +kernel
theorem dX3_passBytes_50 : decode cX3_passBytes 50 = .ok (.return_, 1) := by decide +kernel
theorem dX3_takeLetters_0 : decode cX3_takeLetters 0 = .ok (.aload_n 0, 1) := by decide +kernel
theorem dX3_takeLetters_1 : decode cX3_takeLetters 1 = .ok (.iconst 1, 1) := by decide +kernel
theorem dX3_takeLetters_2 : decode cX3_takeLetters 2 = .ok (.putfield 34, 3) := by decide +kernel
theorem dX3_takeLetters_5 : decode cX3_takeLetters 5 = .ok (.aload_n 0, 1) := by decide +kernel
theorem dX3_takeLetters_6 : decode cX3_takeLetters 6 = .ok (.aload_n 0, 1) := by decide +kernel
theorem dX3_takeLetters_7 : decode cX3_takeLetters 7 = .ok (.getfield 19, 3) := by decide +kernel
theorem dX3_takeLetters_10 : decode cX3_takeLetters 10 = .ok (.aload_n 0, 1) := by decide +kernel
theorem dX3_takeLetters_11 : decode cX3_takeLetters 11 = .ok (.getfield 41, 3) := by decide +kernel
theorem dX3_takeLetters_14 : decode cX3_takeLetters 14 = .ok (.isub, 1) := by decide +kernel
theorem dX3_takeLetters_15 : decode cX3_takeLetters 15 = .ok (.iconst 1, 1) := by decide +kernel
theorem dX3_takeLetters_16 : decode cX3_takeLetters 16 = .ok (.if_icmp .ne 7, 3) := by decide +kernel
theorem dX3_takeLetters_19 : decode cX3_takeLetters 19 = .ok (.iload_n 1, 1) := by decide +kernel
theorem dX3_takeLetters_20 : decode cX3_takeLetters 20 = .ok (.goto 4, 3) := by decide +kernel
theorem dX3_takeLetters_23 : decode cX3_takeLetters 23 = .ok (.iconst 0, 1) := by decide +kernel
theorem dX3_takeLetters_24 : decode cX3_takeLetters 24 = .ok (.putfield 44, 3) := by decide +kernel
theorem dX3_takeLetters_27 : decode cX3_takeLetters 27 = .ok (.return_, 1) := by decide +kernel
theorem dX3_takeNumber_0 : decode cX3_takeNumber 0 = .ok (.iload_n 1, 1) := by decide +kernel
theorem dX3_takeNumber_1 : decode cX3_takeNumber 1 = .ok (.bipush 48, 2) := by decide +kernel
theorem dX3_takeNumber_3 : decode cX3_takeNumber 3 = .ok (.if_icmp .ne 20, 3) := by decide +kernel
theorem dX3_takeNumber_6 : decode cX3_takeNumber 6 = .ok (.aload_n 0, 1) := by decide +kernel
theorem dX3_takeNumber_7 : decode cX3_takeNumber 7 = .ok (.getfield 19, 3) := by decide +kernel
theorem dX3_takeNumber_10 : decode cX3_takeNumber 10 = .ok (.aload_n 0, 1) := by decide +kernel
theorem dX3_takeNumber_11 : decode cX3_takeNumber 11 = .ok (.getfield 41, 3) := by decide +kernel
theorem dX3_takeNumber_14 : decode cX3_takeNumber 14 = .ok (.isub, 1) := by decide +kernel
theorem dX3_takeNumber_15 : decode cX3_takeNumber 15 = .ok (.iconst 1, 1) := by decide +kernel
theorem dX3_takeNumber_16 : decode cX3_takeNumber 16 = .ok (.if_icmp .le 7, 3) := by decide +kernel
theorem dX3_takeNumber_19 : decode cX3_takeNumber 19 = .ok (.iconst 1, 1) := by decide +kernel
theorem dX3_takeNumber_20 : decode cX3_takeNumber 20 = .ok (.goto 4, 3) := by decide +kernel
theorem dX3_takeNumber_23 : decode cX3_takeNumber 23 = .ok (.iconst 0, 1) := by decide +kernel
theorem dX3_takeNumber_24 : decode cX3_takeNumber 24 = .ok (.istore_n 2, 1) := by decide +kernel
theorem dX3_takeNumber_25 : decode cX3_takeNumber 25 = .ok (.aload_n 0, 1) := by decide +kernel
theorem dX3_takeNumber_26 : decode cX3_takeNumber 26 = .ok (.getfield 41, 3) := by decide +kernel
theorem dX3_takeNumber_29 : decode cX3_takeNumber 29 = .ok (.istore_n 3, 1) := by decide +kernel
theorem dX3_takeNumber_30 : decode cX3_takeNumber 30 = .ok (.iload_n 3, 1) := by decide +kernel
theorem dX3_takeNumber_31 : decode cX3_takeNumber 31 = .ok (.aload_n 0, 1) := by decide +kernel
theorem dX3_takeNumber_32 : decode cX3_takeNumber 32 = .ok (.getfield 19, 3) := by decide +kernel
theorem dX3_takeNumber_35 : decode cX3_takeNumber 35 = .ok (.if_icmp .ge 35, 3) := by decide +kernel
theorem dX3_takeNumber_38 : decode cX3_takeNumber 38 = .ok (.aload_n 0, 1) := by decide +kernel
theorem dX3_takeNumber_39 : decode cX3_takeNumber 39 = .ok (.aload_n 0, 1) := by decide +kernel
theorem dX3_takeNumber_40 : decode cX3_takeNumber 40 = .ok (.getfield 44, 3) := by decide +kernel
theorem dX3_takeNumber_43 : decode cX3_takeNumber 43 = .ok (.bipush 10, 2) := by decide +kernel
theorem dX3_takeNumber_45 : decode cX3_takeNumber 45 = .ok (.imul, 1) := by decide +kernel
theorem dX3_takeNumber_46 : decode cX3_takeNumber 46 = .ok (.aload_n 0, 1) := by decide +kernel
theorem dX3_takeNumber_47 : decode cX3_takeNumber 47 = .ok (.getfield 9, 3) := by decide +kernel
theorem dX3_takeNumber_50 : decode cX3_takeNumber 50 = .ok (.iload_n 3, 1) := by decide +kernel
theorem dX3_takeNumber_51 : decode cX3_takeNumber 51 = .ok (.iaload, 1) := by decide +kernel
theorem dX3_takeNumber_52 : decode cX3_takeNumber 52 = .ok (.iadd, 1) := by decide +kernel
theorem dX3_takeNumber_53 : decode cX3_takeNumber 53 = .ok (.bipush 48, 2) := by decide +kernel
theorem dX3_takeNumber_55 : decode cX3_takeNumber 55 = .ok (.isub, 1) := by decide +kernel
theorem dX3_takeNumber_56 : decode cX3_takeNumber 56 = .ok (.bipush 100, 2) := by decide +kernel
theorem dX3_takeNumber_58 : decode cX3_takeNumber 58 = .ok (.invokestatic 90, 3) := by decide +kernel
theorem dX3_takeNumber_61 : decode cX3_takeNumber 61 = .ok (.putfield 44, 3) := by decide +kernel
theorem dX3_takeNumber_64 : decode cX3_takeNumber 64 = .ok (.iinc 3 1, 3) := by decide +kernel
theorem dX3_takeNumber_67 : decode cX3_takeNumber 67 = .ok (.goto (-37), 3) := by decide +kernel
theorem dX3_takeNumber_70 : decode cX3_takeNumber 70 = .ok (.aload_n 0, 1) := by decide +kernel
theorem dX3_takeNumber_71 : decode cX3_takeNumber 71 = .ok (.iload_n 2, 1) := by decide +kernel
theorem dX3_takeNumber_72 : decode cX3_takeNumber 72 = .ok (.ifCond .ne 12, 3) := by decide +kernel
theorem dX3_takeNumber_75 : decode cX3_takeNumber 75 = .ok (.aload_n 0, 1) := by decide +kernel
theorem dX3_takeNumber_76 : decode cX3_takeNumber 76 = .ok (.getfield 44, 3) := by decide +kernel
theorem dX3_takeNumber_79 : decode cX3_takeNumber 79 = .ok (.bipush 99, 2) := by decide +kernel
theorem dX3_takeNumber_81 : decode cX3_takeNumber 81 = .ok (.if_icmp .le 7, 3) := by decide +kernel
theorem dX3_takeNumber_84 : decode cX3_takeNumber 84 = .ok (.iconst 4, 1) := by decide +kernel
theorem dX3_takeNumber_85 : decode cX3_takeNumber 85 = .ok (.goto 4, 3) := by decide +kernel
theorem dX3_takeNumber_88 : decode cX3_takeNumber 88 = .ok (.iconst 2, 1) := by decide +kernel
theorem dX3_takeNumber_89 : decode cX3_takeNumber 89 = .ok (.putfield 34, 3) := by decide +kernel
theorem dX3_takeNumber_92 : decode cX3_takeNumber 92 = .ok (.return_, 1) := by decide +kernel
theorem dX4_init_0 : decode cX4_init 0 = .ok (.aload_n 0, 1) := by decide +kernel
theorem dX4_init_1 : decode cX4_init 1 = .ok (.invokespecial 3, 3) := by decide +kernel
theorem dX4_init_4 : decode cX4_init 4 = .ok (.aload_n 0, 1) := by decide +kernel
theorem dX4_init_5 : decode cX4_init 5 = .ok (.bipush 9, 2) := by decide +kernel
theorem dX4_init_7 : decode cX4_init 7 = .ok (.putfield 9, 3) := by decide +kernel
theorem dX4_init_10 : decode cX4_init 10 = .ok (.aload_n 0, 1) := by decide +kernel
theorem dX4_init_11 : decode cX4_init 11 = .ok (.bipush 6, 2) := by decide +kernel
theorem dX4_init_13 : decode cX4_init 13 = .ok (.newarray .int, 2) := by decide +kernel
theorem dX4_init_15 : decode cX4_init 15 = .ok (.putfield 15, 3) := by decide +kernel
theorem dX4_init_18 : decode cX4_init 18 = .ok (.aload_n 0, 1) := by decide +kernel
theorem dX4_init_19 : decode cX4_init 19 = .ok (.bipush 6, 2) := by decide +kernel
theorem dX4_init_21 : decode cX4_init 21 = .ok (.newarray .int, 2) := by decide +kernel
theorem dX4_init_23 : decode cX4_init 23 = .ok (.putfield 19, 3) := by decide +kernel
theorem dX4_init_26 : decode cX4_init 26 = .ok (.aload_n 0, 1) := by decide +kernel
theorem dX4_init_27 : decode cX4_init 27 = .ok (.bipush 6, 2) := by decide +kernel
theorem dX4_init_29 : decode cX4_init 29 = .ok (.newarray .int, 2) := by decide +kernel
theorem dX4_init_31 : decode cX4_init 31 = .ok (.putfield 22, 3) := by decide +kernel
theorem dX4_init_34 : decode cX4_init 34 = .ok (.return_, 1) := by decide +kernel
theorem dX4_forgetAll_0 : decode cX4_forgetAll 0 = .ok (.aload_n 0, 1) := by decide +kernel
theorem dX4_forgetAll_1 : decode cX4_forgetAll 1 = .ok (.iconst 0, 1) := by decide +kernel
theorem dX4_forgetAll_2 : decode cX4_forgetAll 2 = .ok (.putfield 25, 3) := by decide +kernel
theorem dX4_forgetAll_5 : decode cX4_forgetAll 5 = .ok (.aload_n 0, 1) := by decide +kernel
theorem dX4_forgetAll_6 : decode cX4_forgetAll 6 = .ok (.iconst 0, 1) := by decide +kernel
theorem dX4_forgetAll_7 : decode cX4_forgetAll 7 = .ok (.putfield 28, 3) := by decide +kernel
theorem dX4_forgetAll_10 : decode cX4_forgetAll 10 = .ok (.aload_n 0, 1) := by decide +kernel
theorem dX4_forgetAll_11 : decode cX4_forgetAll 11 = .ok (.bipush 9, 2) := by decide +kernel
theorem dX4_forgetAll_13 : decode cX4_forgetAll 13 = .ok (.putfield 9, 3) := by decide +kernel
theorem dX4_forgetAll_16 : decode cX4_forgetAll 16 = .ok (.return_, 1) := by decide +kernel
theorem dX4_copyFrom_0 : decode cX4_copyFrom 0 = .ok (.aload_n 0, 1) := by decide +kernel
theorem dX4_copyFrom_1 : decode cX4_copyFrom 1 = .ok (.aload_n 1, 1) := by decide +kernel
theorem dX4_copyFrom_2 : decode cX4_copyFrom 2 = .ok (.getfield 25, 3) := by decide +kernel
theorem dX4_copyFrom_5 : decode cX4_copyFrom 5 = .ok (.putfield 25, 3) := by decide +kernel
theorem dX4_copyFrom_8 : decode cX4_copyFrom 8 = .ok (.aload_n 0, 1) := by decide +kernel
theorem dX4_copyFrom_9 : decode cX4_copyFrom 9 = .ok (.aload_n 1, 1) := by decide +kernel
theorem dX4_copyFrom_10 : decode cX4_copyFrom 10 = .ok (.getfield 28, 3) := by decide +kernel
theorem dX4_copyFrom_13 : decode cX4_copyFrom 13 = .ok (.putfield 28, 3) := by decide +kernel
theorem dX4_copyFrom_16 : decode cX4_copyFrom 16 = .ok (.aload_n 0, 1) := by decide +kernel
theorem dX4_copyFrom_17 : decode cX4_copyFrom 17 = .ok (.aload_n 1, 1) := by decide +kernel
theorem dX4_copyFrom_18 : decode cX4_copyFrom 18 = .ok (.getfield 9, 3) := by decide +kernel
theorem dX4_copyFrom_21 : decode cX4_copyFrom 21 = .ok (.putfield 9, 3) := by decide +kernel
theorem dX4_copyFrom_24 : decode cX4_copyFrom 24 = .ok (.aload_n 1, 1) := by decide +kernel
theorem dX4_copyFrom_25 : decode cX4_copyFrom 25 = .ok (.getfield 15, 3) := by decide +kernel
theorem dX4_copyFrom_28 : decode cX4_copyFrom 28 = .ok (.iconst 0, 1) := by decide +kernel
theorem dX4_copyFrom_29 : decode cX4_copyFrom 29 = .ok (.aload_n 0, 1) := by decide +kernel
theorem dX4_copyFrom_30 : decode cX4_copyFrom 30 = .ok (.getfield 15, 3) := by decide +kernel
theorem dX4_copyFrom_33 : decode cX4_copyFrom 33 = .ok (.iconst 0, 1) := by decide +kernel
theorem dX4_copyFrom_34 : decode cX4_copyFrom 34 = .ok (.bipush 6, 2) := by decide +kernel
theorem dX4_copyFrom_36 : decode cX4_copyFrom 36 = .ok (.invokestatic 31, 3) := by decide +kernel
theorem dX4_copyFrom_39 : decode cX4_copyFrom 39 = .ok (.aload_n 1, 1) := by decide +kernel
theorem dX4_copyFrom_40 : decode cX4_copyFrom 40 = .ok (.getfield 19, 3) := by decide +kernel
theorem dX4_copyFrom_43 : decode cX4_copyFrom 43 = .ok (.iconst 0, 1) := by decide +kernel
theorem dX4_copyFrom_44 : decode cX4_copyFrom 44 = .ok (.aload_n 0, 1) := by decide +kernel
theorem dX4_copyFrom_45 : decode cX4_copyFrom 45 = .ok (.getfield 19, 3) := by decide +kernel
theorem dX4_copyFrom_48 : decode cX4_copyFrom 48 = .ok (.iconst 0, 1) := by decide +kernel
theorem dX4_copyFrom_49 : decode cX4_copyFrom 49 = .ok (.bipush 6, 2) := by decide +kernel
theorem dX4_copyFrom_51 : decode cX4_copyFrom 51 = .ok (.invokestatic 31, 3) := by decide +kernel
theorem dX4_copyFrom_54 : decode cX4_copyFrom 54 = .ok (.aload_n 1, 1) := by decide +kernel
theorem dX4_copyFrom_55 : decode cX4_copyFrom 55 = .ok (.getfield 22, 3) := by decide +kernel
theorem dX4_copyFrom_58 : decode cX4_copyFrom 58 = .ok (.iconst 0, 1) := by decide +kernel
theorem dX4_copyFrom_59 : decode cX4_copyFrom 59 = .ok (.aload_n 0, 1) := by decide +kernel
theorem dX4_copyFrom_60 : decode cX4_copyFrom 60 = .ok (.getfield 22, 3) := by decide +kernel
theorem dX4_copyFrom_63 : decode cX4_copyFrom 63 = .ok (.iconst 0, 1) := by decide +kernel
theorem dX4_copyFrom_64 : decode cX4_copyFrom 64 = .ok (.bipush 6, 2) := by decide +kernel
theorem dX4_copyFrom_66 : decode cX4_copyFrom 66 = .ok (.invokestatic 31, 3) := by decide +kernel
theorem dX4_copyFrom_69 : decode cX4_copyFrom 69 = .ok (.return_, 1) := by decide +kernel
set_option maxRecDepth 20000 in
theorem ggX5_init_X3_init : GoodIn wsX5_init wsX3_init := goodIn_r _ [26, 27, 2, 3, 22, 28, 81, 82, 83, 84, 85, 86, 87] (by decide +kernel) (by decide +kernel)
set_option maxRecDepth 20000 in
theorem gX5_init_X3_init_n11 : GoodIn wsX5_init (wsX3_init) := ggX5_init_X3_init
set_option maxRecDepth 20000 in
theorem ggX5_init_X4_init : GoodIn wsX5_init wsX4_init := goodIn_r _ [30, 31, 2, 3, 32, 22, 33, 34, 35, 99, 100, 101, 102, 103, 104] (by decide +kernel) (by decide +kernel)
set_option maxRecDepth 20000 in
theorem gX5_init_X4_init_n18 : GoodIn wsX5_init (wsX4_init) := ggX5_init_X4_init
set_option maxRecDepth 20000 in
theorem ggX5_init_X0_init : GoodIn wsX5_init wsX0_init := goodIn_r _ [37, 38, 2, 3, 39, 19, 20, 40, 41, 42, 43, 44, 45, 46, 47, 22, 48, 49, 50, 51, 52, 53, 54, 55, 56, 107, 108, 109, 110, 111, 112, 113, 105, 106, 114, 115, 116] (by decide +kernel) (by decide +kernel)
set_option maxRecDepth 20000 in
theorem gX5_init_X0_init_n28 : GoodIn wsX5_init (wsX0_init) := ggX5_init_X0_init
set_option maxRecDepth 20000 in
theorem ggX5_init_X1_init : GoodIn wsX5_init wsX1_init := goodIn_r _ [46, 47, 2, 3, 22, 48, 49, 50, 107, 108, 109, 110, 111, 112, 113] (by decide +kernel) (by decide +kernel)
set_option maxRecDepth 20000 in
theorem gX5_init_X1_init_n39 : GoodIn wsX5_init (wsX1_init) := ggX5_init_X1_init
set_option maxRecDepth 20000 in
theorem ggX5_init_X5_startAnew : GoodIn wsX5_init wsX5_startAnew := goodIn_r _ [61, 16, 62, 11, 63, 64, 65, 66, 67, 68, 69, 20, 70, 71, 72, 73, 74, 75, 76, 48, 77, 78, 79, 80, 49, 50, 88, 89, 90, 91, 92, 93, 94, 95, 96, 97, 98, 105, 106, 114, 115, 116, 107, 108, 109, 110, 111, 112, 113, 99, 100, 101, 102, 103, 104] (by decide +kernel) (by decide +kernel)
set_option maxRecDepth 20000 in
theorem gX5_init_X5_startAnew : GoodIn wsX5_init (wsV RX5 51 RX5 yX5_startAnew wsX5_startAnew) := goodIn_app (goodIn_of _ (by decide +kernel)) ggX5_init_X5_startAnew
theorem dX5_init_0 : decode cX5_init 0 = .ok (.aload_n 0, 1) := by decide +kernel
theorem dX5_init_1 : decode cX5_init 1 = .ok (.invokespecial 3, 3) := by decide +kernel
theorem dX5_init_4 : decode cX5_init 4 = .ok (.aload_n 0, 1) := by decide +kernel
theorem dX5_init_5 : decode cX5_init 5 = .ok (.new 9, 3) := by decide +kernel
theorem dX5_init_8 : decode cX5_init 8 = .ok (.dup, 1) := by decide +kernel
theorem dX5_init_9 : decode cX5_init 9 = .ok (.invokespecial 11, 3) := by decide +kernel
theorem dX5_init_12 : decode cX5_init 12 = .ok (.putfield 12, 3) := by decide +kernel
theorem dX5_init_15 : decode cX5_init 15 = .ok (.aload_n 0, 1) := by decide +kernel
theorem dX5_init_16 : decode cX5_init 16 = .ok (.new 16, 3) := by decide +kernel
theorem dX5_init_19 : decode cX5_init 19 = .ok (.dup, 1) := by decide +kernel
theorem dX5_init_20 : decode cX5_init 20 = .ok (.invokespecial 18, 3) := by decide +kernel
theorem dX5_init_23 : decode cX5_init 23 = .ok (.putfield 19, 3) := by decide +kernel
theorem dX5_init_26 : decode cX5_init 26 = .ok (.aload_n 0, 1) := by decide +kernel
theorem dX5_init_27 : decode cX5_init 27 = .ok (.new 16, 3) := by decide +kernel
theorem dX5_init_30 : decode cX5_init 30 = .ok (.dup, 1) := by decide +kernel
theorem dX5_init_31 : decode cX5_init 31 = .ok (.invokespecial 18, 3) := by decide +kernel
theorem dX5_init_34 : decode cX5_init 34 = .ok (.putfield 23, 3) := by decide +kernel
theorem dX5_init_37 : decode cX5_init 37 = .ok (.aload_n 0, 1) := by decide +kernel
theorem dX5_init_38 : decode cX5_init 38 = .ok (.new 26, 3) := by decide +kernel
theorem dX5_init_41 : decode cX5_init 41 = .ok (.dup, 1) := by decide +kernel
theorem dX5_init_42 : decode cX5_init 42 = .ok (.invokespecial 28, 3) := by decide +kernel
theorem dX5_init_45 : decode cX5_init 45 = .ok (.putfield 29, 3) := by decide +kernel
theorem dX5_init_48 : decode cX5_init 48 = .ok (.aload_n 0, 1) := by decide +kernel
theorem dX5_init_49 : decode cX5_init 49 = .ok (.iconst 2, 1) := by decide +kernel
theorem dX5_init_50 : decode cX5_init 50 = .ok (.anewarray 26, 3) := by decide +kernel
theorem dX5_init_53 : decode cX5_init 53 = .ok (.putfield 33, 3) := by decide +kernel
theorem dX5_init_56 : decode cX5_init 56 = .ok (.aload_n 0, 1) := by decide +kernel
theorem dX5_init_57 : decode cX5_init 57 = .ok (.new 37, 3) := by decide +kernel
theorem dX5_init_60 : decode cX5_init 60 = .ok (.dup, 1) := by decide +kernel
theorem dX5_init_61 : decode cX5_init 61 = .ok (.invokespecial 39, 3) := by decide +kernel
theorem dX5_init_64 : decode cX5_init 64 = .ok (.putfield 40, 3) := by decide +kernel
theorem dX5_init_67 : decode cX5_init 67 = .ok (.aload_n 0, 1) := by decide +kernel
theorem dX5_init_68 : decode cX5_init 68 = .ok (.bipush 6, 2) := by decide +kernel
theorem dX5_init_70 : decode cX5_init 70 = .ok (.newarray .int, 2) := by decide +kernel
theorem dX5_init_72 : decode cX5_init 72 = .ok (.putfield 44, 3) := by decide +kernel
theorem dX5_init_75 : decode cX5_init 75 = .ok (.aload_n 0, 1) := by decide +kernel
theorem dX5_init_76 : decode cX5_init 76 = .ok (.bipush 6, 2) := by decide +kernel
theorem dX5_init_78 : decode cX5_init 78 = .ok (.newarray .int, 2) := by decide +kernel
theorem dX5_init_80 : decode cX5_init 80 = .ok (.putfield 48, 3) := by decide +kernel
theorem dX5_init_83 : decode cX5_init 83 = .ok (.iconst 0, 1) := by decide +kernel
theorem dX5_init_84 : decode cX5_init 84 = .ok (.istore_n 1, 1) := by decide +kernel
theorem dX5_init_85 : decode cX5_init 85 = .ok (.iload_n 1, 1) := by decide +kernel
theorem dX5_init_86 : decode cX5_init 86 = .ok (.iconst 2, 1) := by decide +kernel
theorem dX5_init_87 : decode cX5_init 87 = .ok (.if_icmp .ge 22, 3) := by decide +kernel
theorem dX5_init_90 : decode cX5_init 90 = .ok (.aload_n 0, 1) := by decide +kernel
theorem dX5_init_91 : decode cX5_init 91 = .ok (.getfield 33, 3) := by decide +kernel
theorem dX5_init_94 : decode cX5_init 94 = .ok (.iload_n 1, 1) := by decide +kernel
theorem dX5_init_95 : decode cX5_init 95 = .ok (.new 26, 3) := by decide +kernel
theorem dX5_init_98 : decode cX5_init 98 = .ok (.dup, 1) := by decide +kernel
theorem dX5_init_99 : decode cX5_init 99 = .ok (.invokespecial 28, 3) := by decide +kernel
theorem dX5_init_102 : decode cX5_init 102 = .ok (.aastore, 1) := by decide +kernel
theorem dX5_init_103 : decode cX5_init 103 = .ok (.iinc 1 1, 3) := by decide +kernel
theorem dX5_init_106 : decode cX5_init 106 = .ok (.goto (-21), 3) := by decide +kernel
theorem dX5_init_109 : decode cX5_init 109 = .ok (.aload_n 0, 1) := by decide +kernel
theorem dX5_init_110 : decode cX5_init 110 = .ok (.invokevirtual 51, 3) := by decide +kernel
theorem dX5_init_113 : decode cX5_init 113 = .ok (.return_, 1) := by decide +kernel
set_option maxRecDepth 20000 in
theorem ggX5_type_X3_add : GoodIn wsX5_type wsX3_add := goodIn_r _ [7, 8, 9, 21, 22, 23, 24, 25, 26, 27] (by decide +kernel) (by decide +kernel)
set_option maxRecDepth 20000 in
theorem gX5_type_X3_add : GoodIn wsX5_type (wsV RX5 54 RX3 yX3_add wsX3_add) := goodIn_app (goodIn_of _ (by decide +kernel)) ggX5_type_X3_add
theorem dX5_type_0 : decode cX5_type 0 = .ok (.iload_n 1, 1) := by decide +kernel
theorem dX5_type_1 : decode cX5_type 1 = .ok (.ifCond .lt 10, 3) := by decide +kernel
theorem dX5_type_4 : decode cX5_type 4 = .ok (.iload_n 1, 1) := by decide +kernel
theorem dX5_type_5 : decode cX5_type 5 = .ok (.sipush 255, 3) := by decide +kernel
theorem dX5_type_8 : decode cX5_type 8 = .ok (.if_icmp .le 5, 3) := by decide +kernel
theorem dX5_type_11 : decode cX5_type 11 = .ok (.iconst (-1), 1) := by decide +kernel
theorem dX5_type_12 : decode cX5_type 12 = .ok (.ireturn, 1) := by decide +kernel
theorem dX5_type_13 : decode cX5_type 13 = .ok (.aload_n 0, 1) := by decide +kernel
theorem dX5_type_14 : decode cX5_type 14 = .ok (.getfield 12, 3) := by decide +kernel
theorem dX5_type_17 : decode cX5_type 17 = .ok (.iload_n 1, 1) := by decide +kernel
theorem dX5_type_18 : decode cX5_type 18 = .ok (.invokevirtual 54, 3) := by decide +kernel
theorem dX5_type_21 : decode cX5_type 21 = .ok (.ifCond .eq 13, 3) := by decide +kernel
theorem dX5_type_24 : decode cX5_type 24 = .ok (.aload_n 0, 1) := by decide +kernel
theorem dX5_type_25 : decode cX5_type 25 = .ok (.getfield 12, 3) := by decide +kernel
theorem dX5_type_28 : decode cX5_type 28 = .ok (.getfield 58, 3) := by decide +kernel
theorem dX5_type_31 : decode cX5_type 31 = .ok (.goto 5, 3) := by decide +kernel
theorem dX5_type_34 : decode cX5_type 34 = .ok (.bipush (-3), 2) := by decide +kernel
theorem dX5_type_36 : decode cX5_type 36 = .ok (.ireturn, 1) := by decide +kernel
theorem dX5_clear_0 : decode cX5_clear 0 = .ok (.aload_n 0, 1) := by decide +kernel
theorem dX5_clear_1 : decode cX5_clear 1 = .ok (.getfield 12, 3) := by decide +kernel
theorem dX5_clear_4 : decode cX5_clear 4 = .ok (.getfield 58, 3) := by decide +kernel
theorem dX5_clear_7 : decode cX5_clear 7 = .ok (.istore_n 1, 1) := by decide +kernel
theorem dX5_clear_8 : decode cX5_clear 8 = .ok (.aload_n 0, 1) := by decide +kernel
theorem dX5_clear_9 : decode cX5_clear 9 = .ok (.getfield 12, 3) := by decide +kernel
theorem dX5_clear_12 : decode cX5_clear 12 = .ok (.iconst 0, 1) := by decide +kernel
theorem dX5_clear_13 : decode cX5_clear 13 = .ok (.putfield 58, 3) := by decide +kernel
theorem dX5_clear_16 : decode cX5_clear 16 = .ok (.iload_n 1, 1) := by decide +kernel
theorem dX5_clear_17 : decode cX5_clear 17 = .ok (.ireturn, 1) := by decide +kernel
set_option maxRecDepth 20000 in
theorem ggX5_car_X3_readInto : GoodIn wsX5_car wsX3_readInto := goodIn_r _ [10, 11, 12, 13, 14, 15, 16, 17, 18, 19, 20, 21, 22, 23, 24, 25, 9, 26, 27, 28, 29, 30, 31, 32, 33, 34, 35, 36, 37, 38, 39, 40, 41, 42, 43, 44, 45, 46, 47, 48, 49, 50, 51, 52, 53, 54, 55, 56, 57, 58, 59, 60, 61, 62, 63, 64, 65, 66, 67, 68, 69, 70, 71, 120, 121, 122, 123, 124, 125, 126, 127, 128, 129, 130, 131, 132] (by decide +kernel) (by decide +kernel)
set_option maxRecDepth 20000 in
theorem gX5_car_X3_readInto : GoodIn wsX5_car (wsV RX5 62 RX3 yX3_readInto wsX3_readInto) := goodIn_app (goodIn_of _ (by decide +kernel)) ggX5_car_X3_readInto
set_option maxRecDepth 20000 in
theorem ggX5_car_X4_copyFrom : GoodIn wsX5_car wsX4_copyFrom := goodIn_r _ [75, 20, 21, 22, 76, 77, 78, 79, 80, 81, 82, 127, 128, 129, 130, 131, 132] (by decide +kernel) (by decide +kernel)
set_option maxRecDepth 20000 in
theorem gX5_car_X4_copyFrom : GoodIn wsX5_car (wsV RX5 66 RX4 yX4_copyFrom wsX4_copyFrom) := goodIn_app (goodIn_of _ (by decide +kernel)) ggX5_car_X4_copyFrom
set_option maxRecDepth 20000 in
theorem ggX5_car_X5_startAnew : GoodIn wsX5_car wsX5_startAnew := goodIn_r _ [87, 88, 89, 3, 90, 91, 92, 93, 94, 95, 96, 97, 98, 99, 100, 101, 102, 103, 104, 105, 106, 78, 79, 80, 107, 108, 109, 110, 111, 112, 113, 114, 115, 116, 117, 118, 119, 133, 134, 135, 136, 137, 138, 139, 140, 141, 142, 143, 144, 127, 128, 129, 130, 131, 132] (by decide +kernel) (by decide +kernel)
set_option maxRecDepth 20000 in
theorem gX5_car_X5_startAnew : GoodIn wsX5_car (wsV RX5 51 RX5 yX5_startAnew wsX5_startAnew) := goodIn_app (goodIn_of _ (by decide +kernel)) ggX5_car_X5_startAnew
theorem dX5_car_0 : decode cX5_car 0 = .ok (.aload_n 0, 1) := by decide +kernel
theorem dX5_car_1 : decode cX5_car 1 = .ok (.getfield 12, 3) := by decide +kernel
theorem dX5_car_4 : decode cX5_car 4 = .ok (.aload_n 0, 1) := by decide +kernel
theorem dX5_car_5 : decode cX5_car 5 = .ok (.getfield 23, 3) := by decide +kernel
theorem dX5_car_8 : decode cX5_car 8 = .ok (.invokevirtual 62, 3) := by decide +kernel
theorem dX5_car_11 : decode cX5_car 11 = .ok (.istore_n 1, 1) := by decide +kernel
theorem dX5_car_12 : decode cX5_car 12 = .ok (.iload_n 1, 1) := by decide +kernel
theorem dX5_car_13 : decode cX5_car 13 = .ok (.iconst (-1), 1) := by decide +kernel
theorem dX5_car_14 : decode cX5_car 14 = .ok (.if_icmp .eq 8, 3) := by decide +kernel
