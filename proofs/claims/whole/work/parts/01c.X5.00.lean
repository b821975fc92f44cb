theorem dX5_init_0 : decode cX5_init 0 = .ok (.aload_n 0, 1) := by decide +kernel
theorem dX5_init_1 : decode cX5_init 1 = .ok (.invokespecial 3, 3) := by decide +kernel
theorem dX5_init_4 : decode cX5_init 4 = .ok (.aload_n 0, 1) := by decide +kernel
theorem dX5_init_5 : decode cX5_init 5 = .ok (.bipush 20, 2) := by decide +kernel
theorem dX5_init_7 : decode cX5_init 7 = .ok (.newarray .int, 2) := by decide +kernel
theorem dX5_init_9 : decode cX5_init 9 = .ok (.putfield 9, 3) := by decide +kernel
theorem dX5_init_12 : decode cX5_init 12 = .ok (.aload_n 0, 1) := by decide +kernel
theorem dX5_init_13 : decode cX5_init 13 = .ok (.iconst 0, 1) := by decide +kernel
theorem dX5_init_14 : decode cX5_init 14 = .ok (.putfield 15, 3) := by decide +kernel
theorem dX5_init_17 : decode cX5_init 17 = .ok (.aload_n 0, 1) := by decide +kernel
theorem dX5_init_18 : decode cX5_init 18 = .ok (.iconst 0, 1) := by decide +kernel
theorem dX5_init_19 : decode cX5_init 19 = .ok (.putfield 19, 3) := by decide +kernel
theorem dX5_init_22 : decode cX5_init 22 = .ok (.aload_n 0, 1) := by decide +kernel
theorem dX5_init_23 : decode cX5_init 23 = .ok (.iconst 0, 1) := by decide +kernel
theorem dX5_init_24 : decode cX5_init 24 = .ok (.putfield 22, 3) := by decide +kernel
theorem dX5_init_27 : decode cX5_init 27 = .ok (.aload_n 0, 1) := by decide +kernel
theorem dX5_init_28 : decode cX5_init 28 = .ok (.iconst 0, 1) := by decide +kernel
theorem dX5_init_29 : decode cX5_init 29 = .ok (.putfield 25, 3) := by decide +kernel
theorem dX5_init_32 : decode cX5_init 32 = .ok (.aload_n 0, 1) := by decide +kernel
theorem dX5_init_33 : decode cX5_init 33 = .ok (.iconst 0, 1) := by decide +kernel
theorem dX5_init_34 : decode cX5_init 34 = .ok (.putfield 28, 3) := by decide +kernel
theorem dX5_init_37 : decode cX5_init 37 = .ok (.aload_n 0, 1) := by decide +kernel
theorem dX5_init_38 : decode cX5_init 38 = .ok (.iconst 0, 1) := by decide +kernel
theorem dX5_init_39 : decode cX5_init 39 = .ok (.putfield 31, 3) := by decide +kernel
theorem dX5_init_42 : decode cX5_init 42 = .ok (.aload_n 0, 1) := by decide +kernel
theorem dX5_init_43 : decode cX5_init 43 = .ok (.aload_n 1, 1) := by decide +kernel
theorem dX5_init_44 : decode cX5_init 44 = .ok (.putfield 34, 3) := by decide +kernel
theorem dX5_init_47 : decode cX5_init 47 = .ok (.aload_n 0, 1) := by decide +kernel
theorem dX5_init_48 : decode cX5_init 48 = .ok (.aload_n 2, 1) := by decide +kernel
theorem dX5_init_49 : decode cX5_init 49 = .ok (.putfield 38, 3) := by decide +kernel
theorem dX5_init_52 : decode cX5_init 52 = .ok (.return_, 1) := by decide +kernel
set_option maxRecDepth 20000 in
theorem ggX5_pullOut_X2_startsLike : GoodIn wsX5_pullOut wsX2_startsLike := goodIn_r _ [10, 11, 12, 13, 14, 15, 16, 17, 18, 19, 20, 9, 21, 22, 23, 24, 25, 26, 76, 77, 78, 79, 80, 81, 82, 83, 84, 85] (by decide +kernel) (by decide +kernel)
set_option maxRecDepth 20000 in
theorem gX5_pullOut_X2_startsLike : GoodIn wsX5_pullOut (wsV RX5 42 RX2 yX2_startsLike wsX2_startsLike) := goodIn_app (goodIn_of _ (by decide +kernel)) ggX5_pullOut_X2_startsLike
set_option maxRecDepth 20000 in
theorem ggX5_pullOut_X5_take : GoodIn wsX5_pullOut wsX5_take := goodIn_r _ [31, 3, 32, 33, 34, 67, 68, 69, 70, 71, 72, 73, 74, 75] (by decide +kernel) (by decide +kernel)
set_option maxRecDepth 20000 in
theorem gX5_pullOut_X5_take : GoodIn wsX5_pullOut (wsV RX5 48 RX5 yX5_take wsX5_take) := goodIn_app (goodIn_of _ (by decide +kernel)) ggX5_pullOut_X5_take
set_option maxRecDepth 20000 in
theorem ggX5_pullOut_X5_countTold : GoodIn wsX5_pullOut wsX5_countTold := goodIn_r _ [38, 4, 39, 40, 41, 30, 42, 3, 43, 1, 34, 44, 45, 46, 15, 47, 48, 17, 49, 50, 51, 52, 53, 54, 55, 56, 57, 58, 59, 60, 61, 62, 63, 64, 65, 66, 67, 68, 69, 70, 71, 72, 73, 74, 75, 82, 83, 84, 85] (by decide +kernel) (by decide +kernel)
set_option maxRecDepth 20000 in
theorem gX5_pullOut_X5_countTold : GoodIn wsX5_pullOut (wsV RX5 52 RX5 yX5_countTold wsX5_countTold) := goodIn_app (goodIn_of _ (by decide +kernel)) ggX5_pullOut_X5_countTold
theorem dX5_pullOut_0 : decode cX5_pullOut 0 = .ok (.aload_n 0, 1) := by decide +kernel
theorem dX5_pullOut_1 : decode cX5_pullOut 1 = .ok (.iload_n 1, 1) := by decide +kernel
theorem dX5_pullOut_2 : decode cX5_pullOut 2 = .ok (.putfield 15, 3) := by decide +kernel
theorem dX5_pullOut_5 : decode cX5_pullOut 5 = .ok (.aload_n 0, 1) := by decide +kernel
theorem dX5_pullOut_6 : decode cX5_pullOut 6 = .ok (.aload_n 0, 1) := by decide +kernel
theorem dX5_pullOut_7 : decode cX5_pullOut 7 = .ok (.getfield 38, 3) := by decide +kernel
theorem dX5_pullOut_10 : decode cX5_pullOut 10 = .ok (.iload_n 2, 1) := by decide +kernel
theorem dX5_pullOut_11 : decode cX5_pullOut 11 = .ok (.iload_n 3, 1) := by decide +kernel
theorem dX5_pullOut_12 : decode cX5_pullOut 12 = .ok (.invokevirtual 42, 3) := by decide +kernel
theorem dX5_pullOut_15 : decode cX5_pullOut 15 = .ok (.iload_n 3, 1) := by decide +kernel
theorem dX5_pullOut_16 : decode cX5_pullOut 16 = .ok (.invokevirtual 48, 3) := by decide +kernel
theorem dX5_pullOut_19 : decode cX5_pullOut 19 = .ok (.aload_n 0, 1) := by decide +kernel
theorem dX5_pullOut_20 : decode cX5_pullOut 20 = .ok (.iload_n 3, 1) := by decide +kernel
theorem dX5_pullOut_21 : decode cX5_pullOut 21 = .ok (.invokevirtual 52, 3) := by decide +kernel
theorem dX5_pullOut_24 : decode cX5_pullOut 24 = .ok (.aload_n 0, 1) := by decide +kernel
theorem dX5_pullOut_25 : decode cX5_pullOut 25 = .ok (.aload_n 0, 1) := by decide +kernel
theorem dX5_pullOut_26 : decode cX5_pullOut 26 = .ok (.getfield 19, 3) := by decide +kernel
theorem dX5_pullOut_29 : decode cX5_pullOut 29 = .ok (.iload_n 3, 1) := by decide +kernel
theorem dX5_pullOut_30 : decode cX5_pullOut 30 = .ok (.imul, 1) := by decide +kernel
theorem dX5_pullOut_31 : decode cX5_pullOut 31 = .ok (.iload_n 3, 1) := by decide +kernel
theorem dX5_pullOut_32 : decode cX5_pullOut 32 = .ok (.iconst 1, 1) := by decide +kernel
theorem dX5_pullOut_33 : decode cX5_pullOut 33 = .ok (.iadd, 1) := by decide +kernel
theorem dX5_pullOut_34 : decode cX5_pullOut 34 = .ok (.isub, 1) := by decide +kernel
theorem dX5_pullOut_35 : decode cX5_pullOut 35 = .ok (.aload_n 0, 1) := by decide +kernel
theorem dX5_pullOut_36 : decode cX5_pullOut 36 = .ok (.getfield 19, 3) := by decide +kernel
theorem dX5_pullOut_39 : decode cX5_pullOut 39 = .ok (.isub, 1) := by decide +kernel
theorem dX5_pullOut_40 : decode cX5_pullOut 40 = .ok (.aload_n 0, 1) := by decide +kernel
theorem dX5_pullOut_41 : decode cX5_pullOut 41 = .ok (.getfield 28, 3) := by decide +kernel
theorem dX5_pullOut_44 : decode cX5_pullOut 44 = .ok (.isub, 1) := by decide +kernel
theorem dX5_pullOut_45 : decode cX5_pullOut 45 = .ok (.putfield 31, 3) := by decide +kernel
theorem dX5_pullOut_48 : decode cX5_pullOut 48 = .ok (.return_, 1) := by decide +kernel
theorem dX5_take_0 : decode cX5_take 0 = .ok (.aload_n 0, 1) := by decide +kernel
theorem dX5_take_1 : decode cX5_take 1 = .ok (.iconst 0, 1) := by decide +kernel
theorem dX5_take_2 : decode cX5_take 2 = .ok (.putfield 19, 3) := by decide +kernel
theorem dX5_take_5 : decode cX5_take 5 = .ok (.aload_n 0, 1) := by decide +kernel
theorem dX5_take_6 : decode cX5_take 6 = .ok (.iconst 0, 1) := by decide +kernel
theorem dX5_take_7 : decode cX5_take 7 = .ok (.putfield 22, 3) := by decide +kernel
theorem dX5_take_10 : decode cX5_take 10 = .ok (.aload_n 0, 1) := by decide +kernel
theorem dX5_take_11 : decode cX5_take 11 = .ok (.iconst 0, 1) := by decide +kernel
theorem dX5_take_12 : decode cX5_take 12 = .ok (.putfield 25, 3) := by decide +kernel
theorem dX5_take_15 : decode cX5_take 15 = .ok (.iconst 0, 1) := by decide +kernel
theorem dX5_take_16 : decode cX5_take 16 = .ok (.istore_n 3, 1) := by decide +kernel
theorem dX5_take_17 : decode cX5_take 17 = .ok (.iload_n 3, 1) := by decide +kernel
theorem dX5_take_18 : decode cX5_take 18 = .ok (.bipush 20, 2) := by decide +kernel
theorem dX5_take_20 : decode cX5_take 20 = .ok (.if_icmp .ge 91, 3) := by decide +kernel
theorem dX5_take_23 : decode cX5_take 23 = .ok (.iconst 1, 1) := by decide +kernel
theorem dX5_take_24 : decode cX5_take 24 = .ok (.iload_n 2, 1) := by decide +kernel
theorem dX5_take_25 : decode cX5_take 25 = .ok (.ishl, 1) := by decide +kernel
theorem dX5_take_26 : decode cX5_take 26 = .ok (.iconst 1, 1) := by decide +kernel
theorem dX5_take_27 : decode cX5_take 27 = .ok (.isub, 1) := by decide +kernel
theorem dX5_take_28 : decode cX5_take 28 = .ok (.iload_n 3, 1) := by decide +kernel
theorem dX5_take_29 : decode cX5_take 29 = .ok (.ishl, 1) := by decide +kernel
theorem dX5_take_30 : decode cX5_take 30 = .ok (.istore 4, 2) := by decide +kernel
theorem dX5_take_32 : decode cX5_take 32 = .ok (.iload_n 1, 1) := by decide +kernel
theorem dX5_take_33 : decode cX5_take 33 = .ok (.iconst 1, 1) := by decide +kernel
theorem dX5_take_34 : decode cX5_take 34 = .ok (.iload_n 3, 1) := by decide +kernel
theorem dX5_take_35 : decode cX5_take 35 = .ok (.ishl, 1) := by decide +kernel
theorem dX5_take_36 : decode cX5_take 36 = .ok (.iand, 1) := by decide +kernel
theorem dX5_take_37 : decode cX5_take 37 = .ok (.ifCond .eq 68, 3) := by decide +kernel
theorem dX5_take_40 : decode cX5_take 40 = .ok (.aload_n 0, 1) := by decide +kernel
theorem dX5_take_41 : decode cX5_take 41 = .ok (.getfield 25, 3) := by decide +kernel
theorem dX5_take_44 : decode cX5_take 44 = .ok (.iload 4, 2) := by decide +kernel
theorem dX5_take_46 : decode cX5_take 46 = .ok (.iand, 1) := by decide +kernel
theorem dX5_take_47 : decode cX5_take 47 = .ok (.ifCond .ne 58, 3) := by decide +kernel
theorem dX5_take_50 : decode cX5_take 50 = .ok (.aload_n 0, 1) := by decide +kernel
theorem dX5_take_51 : decode cX5_take 51 = .ok (.getfield 19, 3) := by decide +kernel
theorem dX5_take_54 : decode cX5_take 54 = .ok (.aload_n 0, 1) := by decide +kernel
theorem dX5_take_55 : decode cX5_take 55 = .ok (.getfield 9, 3) := by decide +kernel
theorem dX5_take_58 : decode cX5_take 58 = .ok (.arraylength, 1) := by decide +kernel
theorem dX5_take_59 : decode cX5_take 59 = .ok (.if_icmp .ge 46, 3) := by decide +kernel
theorem dX5_take_62 : decode cX5_take 62 = .ok (.aload_n 0, 1) := by decide +kernel
theorem dX5_take_63 : decode cX5_take 63 = .ok (.getfield 9, 3) := by decide +kernel
theorem dX5_take_66 : decode cX5_take 66 = .ok (.aload_n 0, 1) := by decide +kernel
theorem dX5_take_67 : decode cX5_take 67 = .ok (.getfield 19, 3) := by decide +kernel
theorem dX5_take_70 : decode cX5_take 70 = .ok (.iload_n 3, 1) := by decide +kernel
theorem dX5_take_71 : decode cX5_take 71 = .ok (.iastore, 1) := by decide +kernel
theorem dX5_take_72 : decode cX5_take 72 = .ok (.aload_n 0, 1) := by decide +kernel
theorem dX5_take_73 : decode cX5_take 73 = .ok (.dup, 1) := by decide +kernel
theorem dX5_take_74 : decode cX5_take 74 = .ok (.getfield 19, 3) := by decide +kernel
theorem dX5_take_77 : decode cX5_take 77 = .ok (.iconst 1, 1) := by decide +kernel
theorem dX5_take_78 : decode cX5_take 78 = .ok (.iadd, 1) := by decide +kernel
theorem dX5_take_79 : decode cX5_take 79 = .ok (.putfield 19, 3) := by decide +kernel
theorem dX5_take_82 : decode cX5_take 82 = .ok (.aload_n 0, 1) := by decide +kernel
theorem dX5_take_83 : decode cX5_take 83 = .ok (.dup, 1) := by decide +kernel
theorem dX5_take_84 : decode cX5_take 84 = .ok (.getfield 22, 3) := by decide +kernel
theorem dX5_take_87 : decode cX5_take 87 = .ok (.iconst 1, 1) := by decide +kernel
theorem dX5_take_88 : decode cX5_take 88 = .ok (.iload_n 3, 1) := by decide +kernel
theorem dX5_take_89 : decode cX5_take 89 = .ok (.ishl, 1) := by decide +kernel
theorem dX5_take_90 : decode cX5_take 90 = .ok (.ior, 1) := by decide +kernel
theorem dX5_take_91 : decode cX5_take 91 = .ok (.putfield 22, 3) := by decide +kernel
theorem dX5_take_94 : decode cX5_take 94 = .ok (.aload_n 0, 1) := by decide +kernel
theorem dX5_take_95 : decode cX5_take 95 = .ok (.dup, 1) := by decide +kernel
theorem dX5_take_96 : decode cX5_take 96 = .ok (.getfield 25, 3) := by decide +kernel
theorem dX5_take_99 : decode cX5_take 99 = .ok (.iload 4, 2) := by decide +kernel
theorem dX5_take_101 : decode cX5_take 101 = .ok (.ior, 1) := by decide +kernel
theorem dX5_take_102 : decode cX5_take 102 = .ok (.putfield 25, 3) := by decide +kernel
theorem dX5_take_105 : decode cX5_take 105 = .ok (.iinc 3 1, 3) := by decide +kernel
theorem dX5_take_108 : decode cX5_take 108 = .ok (.goto (-91), 3) := by decide +kernel
theorem dX5_take_111 : decode cX5_take 111 = .ok (.return_, 1) := by decide +kernel
set_option maxRecDepth 20000 in
theorem ggX5_countTold_X5_signsOfLine : GoodIn wsX5_countTold wsX5_signsOfLine := goodIn_r _ [6, 7, 8, 9, 10, 11, 12, 13, 14, 15, 16, 17, 18, 36, 37, 38, 39, 40, 41, 42, 43, 44, 45, 46, 47, 48] (by decide +kernel) (by decide +kernel)
set_option maxRecDepth 20000 in
theorem gX5_countTold_X5_signsOfLine : GoodIn wsX5_countTold (wsV RX5 56 RX5 yX5_signsOfLine wsX5_signsOfLine) := goodIn_app (goodIn_of _ (by decide +kernel)) ggX5_countTold_X5_signsOfLine
set_option maxRecDepth 20000 in
theorem ggX5_countTold_X5_differs : GoodIn wsX5_countTold wsX5_differs := goodIn_r _ [22, 8, 9, 10, 7, 23, 24, 25, 14, 26, 16, 17, 18, 27, 36, 37, 38, 39, 40, 41, 42, 43, 44, 45, 46, 47, 48] (by decide +kernel) (by decide +kernel)
set_option maxRecDepth 20000 in
theorem gX5_countTold_X5_differs : GoodIn wsX5_countTold (wsV RX5 60 RX5 yX5_differs wsX5_differs) := goodIn_app (goodIn_of _ (by decide +kernel)) ggX5_countTold_X5_differs
set_option maxRecDepth 20000 in
theorem ggX5_countTold_X5_stoodAhead : GoodIn wsX5_countTold wsX5_stoodAhead := goodIn_r _ [31, 2, 3, 4, 5, 6, 7, 8, 9, 10, 11, 12, 13, 14, 15, 16, 17, 18, 32, 33, 34, 35, 23, 24, 25, 26, 27, 36, 37, 38, 39, 40, 41, 42, 43, 44, 45, 46, 47, 48] (by decide +kernel) (by decide +kernel)
set_option maxRecDepth 20000 in
theorem gX5_countTold_X5_stoodAhead : GoodIn wsX5_countTold (wsV RX5 64 RX5 yX5_stoodAhead wsX5_stoodAhead) := goodIn_app (goodIn_of _ (by decide +kernel)) ggX5_countTold_X5_stoodAhead
theorem dX5_countTold_0 : decode cX5_countTold 0 = .ok (.aload_n 0, 1) := by decide +kernel
theorem dX5_countTold_1 : decode cX5_countTold 1 = .ok (.iconst 0, 1) := by decide +kernel
theorem dX5_countTold_2 : decode cX5_countTold 2 = .ok (.putfield 28, 3) := by decide +kernel
theorem dX5_countTold_5 : decode cX5_countTold 5 = .ok (.iconst 0, 1) := by decide +kernel
theorem dX5_countTold_6 : decode cX5_countTold 6 = .ok (.istore_n 2, 1) := by decide +kernel
theorem dX5_countTold_7 : decode cX5_countTold 7 = .ok (.iload_n 2, 1) := by decide +kernel
theorem dX5_countTold_8 : decode cX5_countTold 8 = .ok (.iload_n 1, 1) := by decide +kernel
theorem dX5_countTold_9 : decode cX5_countTold 9 = .ok (.if_icmp .ge 60, 3) := by decide +kernel
theorem dX5_countTold_12 : decode cX5_countTold 12 = .ok (.aload_n 0, 1) := by decide +kernel
theorem dX5_countTold_13 : decode cX5_countTold 13 = .ok (.iload_n 2, 1) := by decide +kernel
theorem dX5_countTold_14 : decode cX5_countTold 14 = .ok (.invokevirtual 56, 3) := by decide +kernel
theorem dX5_countTold_17 : decode cX5_countTold 17 = .ok (.istore_n 3, 1) := by decide +kernel
theorem dX5_countTold_18 : decode cX5_countTold 18 = .ok (.iconst 0, 1) := by decide +kernel
theorem dX5_countTold_19 : decode cX5_countTold 19 = .ok (.istore 4, 2) := by decide +kernel
theorem dX5_countTold_21 : decode cX5_countTold 21 = .ok (.iload 4, 2) := by decide +kernel
theorem dX5_countTold_23 : decode cX5_countTold 23 = .ok (.iload_n 3, 1) := by decide +kernel
theorem dX5_countTold_24 : decode cX5_countTold 24 = .ok (.if_icmp .ge 39, 3) := by decide +kernel
theorem dX5_countTold_27 : decode cX5_countTold 27 = .ok (.aload_n 0, 1) := by decide +kernel
theorem dX5_countTold_28 : decode cX5_countTold 28 = .ok (.iload_n 2, 1) := by decide +kernel
theorem dX5_countTold_29 : decode cX5_countTold 29 = .ok (.iload 4, 2) := by decide +kernel
theorem dX5_countTold_31 : decode cX5_countTold 31 = .ok (.invokevirtual 60, 3) := by decide +kernel
theorem dX5_countTold_34 : decode cX5_countTold 34 = .ok (.ifCond .eq 23, 3) := by decide +kernel
theorem dX5_countTold_37 : decode cX5_countTold 37 = .ok (.aload_n 0, 1) := by decide +kernel
theorem dX5_countTold_38 : decode cX5_countTold 38 = .ok (.iload_n 2, 1) := by decide +kernel
theorem dX5_countTold_39 : decode cX5_countTold 39 = .ok (.iload 4, 2) := by decide +kernel
theorem dX5_countTold_41 : decode cX5_countTold 41 = .ok (.invokevirtual 64, 3) := by decide +kernel
theorem dX5_countTold_44 : decode cX5_countTold 44 = .ok (.ifCond .ne 13, 3) := by decide +kernel
theorem dX5_countTold_47 : decode cX5_countTold 47 = .ok (.aload_n 0, 1) := by decide +kernel
theorem dX5_countTold_48 : decode cX5_countTold 48 = .ok (.dup, 1) := by decide +kernel
theorem dX5_countTold_49 : decode cX5_countTold 49 = .ok (.getfield 28, 3) := by decide +kernel
theorem dX5_countTold_52 : decode cX5_countTold 52 = .ok (.iconst 1, 1) := by decide +kernel
theorem dX5_countTold_53 : decode cX5_countTold 53 = .ok (.iadd, 1) := by decide +kernel
theorem dX5_countTold_54 : decode cX5_countTold 54 = .ok (.putfield 28, 3) := by decide +kernel
theorem dX5_countTold_57 : decode cX5_countTold 57 = .ok (.iinc 4 1, 3) := by decide +kernel
theorem dX5_countTold_60 : decode cX5_countTold 60 = .ok (.goto (-39), 3) := by decide +kernel
theorem dX5_countTold_63 : decode cX5_countTold 63 = .ok (.iinc 2 1, 3) := by decide +kernel
theorem dX5_countTold_66 : decode cX5_countTold 66 = .ok (.goto (-59), 3) := by decide +kernel
theorem dX5_countTold_69 : decode cX5_countTold 69 = .ok (.return_, 1) := by decide +kernel
set_option maxRecDepth 20000 in
theorem ggX5_signsOfLine_X0_sizeOf : GoodIn wsX5_signsOfLine wsX0_sizeOf := goodIn_r _ [9, 10, 11, 12, 22, 23, 24, 25] (by decide +kernel) (by decide +kernel)
set_option maxRecDepth 20000 in
theorem gX5_signsOfLine_X0_sizeOf : GoodIn wsX5_signsOfLine (wsV RX5 67 RX0 yX0_sizeOf wsX0_sizeOf) := goodIn_app (goodIn_of _ (by decide +kernel)) ggX5_signsOfLine_X0_sizeOf
theorem dX5_signsOfLine_0 : decode cX5_signsOfLine 0 = .ok (.aload_n 0, 1) := by decide +kernel
theorem dX5_signsOfLine_1 : decode cX5_signsOfLine 1 = .ok (.getfield 19, 3) := by decide +kernel
theorem dX5_signsOfLine_4 : decode cX5_signsOfLine 4 = .ok (.ifCond .le 25, 3) := by decide +kernel
theorem dX5_signsOfLine_7 : decode cX5_signsOfLine 7 = .ok (.aload_n 0, 1) := by decide +kernel
theorem dX5_signsOfLine_8 : decode cX5_signsOfLine 8 = .ok (.getfield 34, 3) := by decide +kernel
theorem dX5_signsOfLine_11 : decode cX5_signsOfLine 11 = .ok (.aload_n 0, 1) := by decide +kernel
theorem dX5_signsOfLine_12 : decode cX5_signsOfLine 12 = .ok (.getfield 15, 3) := by decide +kernel
theorem dX5_signsOfLine_15 : decode cX5_signsOfLine 15 = .ok (.aload_n 0, 1) := by decide +kernel
theorem dX5_signsOfLine_16 : decode cX5_signsOfLine 16 = .ok (.getfield 9, 3) := by decide +kernel
theorem dX5_signsOfLine_19 : decode cX5_signsOfLine 19 = .ok (.iconst 0, 1) := by decide +kernel
theorem dX5_signsOfLine_20 : decode cX5_signsOfLine 20 = .ok (.iaload, 1) := by decide +kernel
theorem dX5_signsOfLine_21 : decode cX5_signsOfLine 21 = .ok (.iload_n 1, 1) := by decide +kernel
theorem dX5_signsOfLine_22 : decode cX5_signsOfLine 22 = .ok (.iadd, 1) := by decide +kernel
theorem dX5_signsOfLine_23 : decode cX5_signsOfLine 23 = .ok (.invokevirtual 67, 3) := by decide +kernel
theorem dX5_signsOfLine_26 : decode cX5_signsOfLine 26 = .ok (.goto 4, 3) := by decide +kernel
theorem dX5_signsOfLine_29 : decode cX5_signsOfLine 29 = .ok (.iconst 0, 1) := by decide +kernel
theorem dX5_signsOfLine_30 : decode cX5_signsOfLine 30 = .ok (.ireturn, 1) := by decide +kernel
set_option maxRecDepth 20000 in
theorem ggX5_differs_X0_signAt : GoodIn wsX5_differs wsX0_signAt := goodIn_r _ [9, 10, 11, 12, 13, 23, 24, 25, 26] (by decide +kernel) (by decide +kernel)
set_option maxRecDepth 20000 in
theorem gX5_differs_X0_signAt : GoodIn wsX5_differs (wsV RX5 72 RX0 yX0_signAt wsX0_signAt) := goodIn_app (goodIn_of _ (by decide +kernel)) ggX5_differs_X0_signAt
theorem dX5_differs_0 : decode cX5_differs 0 = .ok (.aload_n 0, 1) := by decide +kernel
theorem dX5_differs_1 : decode cX5_differs 1 = .ok (.getfield 34, 3) := by decide +kernel
theorem dX5_differs_4 : decode cX5_differs 4 = .ok (.aload_n 0, 1) := by decide +kernel
theorem dX5_differs_5 : decode cX5_differs 5 = .ok (.getfield 15, 3) := by decide +kernel
theorem dX5_differs_8 : decode cX5_differs 8 = .ok (.aload_n 0, 1) := by decide +kernel
theorem dX5_differs_9 : decode cX5_differs 9 = .ok (.getfield 9, 3) := by decide +kernel
theorem dX5_differs_12 : decode cX5_differs 12 = .ok (.iconst 0, 1) := by decide +kernel
theorem dX5_differs_13 : decode cX5_differs 13 = .ok (.iaload, 1) := by decide +kernel
theorem dX5_differs_14 : decode cX5_differs 14 = .ok (.iload_n 1, 1) := by decide +kernel
theorem dX5_differs_15 : decode cX5_differs 15 = .ok (.iadd, 1) := by decide +kernel
theorem dX5_differs_16 : decode cX5_differs 16 = .ok (.iload_n 2, 1) := by decide +kernel
theorem dX5_differs_17 : decode cX5_differs 17 = .ok (.invokevirtual 72, 3) := by decide +kernel
theorem dX5_differs_20 : decode cX5_differs 20 = .ok (.istore_n 3, 1) := by decide +kernel
theorem dX5_differs_21 : decode cX5_differs 21 = .ok (.iconst 1, 1) := by decide +kernel
theorem dX5_differs_22 : decode cX5_differs 22 = .ok (.istore 4, 2) := by decide +kernel
theorem dX5_differs_24 : decode cX5_differs 24 = .ok (.iload 4, 2) := by decide +kernel
theorem dX5_differs_26 : decode cX5_differs 26 = .ok (.aload_n 0, 1) := by decide +kernel
theorem dX5_differs_27 : decode cX5_differs 27 = .ok (.getfield 19, 3) := by decide +kernel
theorem dX5_differs_30 : decode cX5_differs 30 = .ok (.if_icmp .ge 36, 3) := by decide +kernel
theorem dX5_differs_33 : decode cX5_differs 33 = .ok (.aload_n 0, 1) := by decide +kernel
theorem dX5_differs_34 : decode cX5_differs 34 = .ok (.getfield 34, 3) := by decide +kernel
theorem dX5_differs_37 : decode cX5_differs 37 = .ok (.aload_n 0, 1) := by decide +kernel
theorem dX5_differs_38 : decode cX5_differs 38 = .ok (.getfield 15, 3) := by decide +kernel
theorem dX5_differs_41 : decode cX5_differs 41 = .ok (.aload_n 0, 1) := by decide +kernel
theorem dX5_differs_42 : decode cX5_differs 42 = .ok (.getfield 9, 3) := by decide +kernel
theorem dX5_differs_45 : decode cX5_differs 45 = .ok (.iload 4, 2) := by decide +kernel
theorem dX5_differs_47 : decode cX5_differs 47 = .ok (.iaload, 1) := by decide +kernel
theorem dX5_differs_48 : decode cX5_differs 48 = .ok (.iload_n 1, 1) := by decide +kernel
theorem dX5_differs_49 : decode cX5_differs 49 = .ok (.iadd, 1) := by decide +kernel
theorem dX5_differs_50 : decode cX5_differs 50 = .ok (.iload_n 2, 1) := by decide +kernel
theorem dX5_differs_51 : decode cX5_differs 51 = .ok (.invokevirtual 72, 3) := by decide +kernel
theorem dX5_differs_54 : decode cX5_differs 54 = .ok (.iload_n 3, 1) := by decide +kernel
theorem dX5_differs_55 : decode cX5_differs 55 = .ok (.if_icmp .eq 5, 3) := by decide +kernel
theorem dX5_differs_58 : decode cX5_differs 58 = .ok (.iconst 1, 1) := by decide +kernel
theorem dX5_differs_59 : decode cX5_differs 59 = .ok (.ireturn, 1) := by decide +kernel
theorem dX5_differs_60 : decode cX5_differs 60 = .ok (.iinc 4 1, 3) := by decide +kernel
theorem dX5_differs_63 : decode cX5_differs 63 = .ok (.goto (-39), 3) := by decide +kernel
theorem dX5_differs_66 : decode cX5_differs 66 = .ok (.iconst 0, 1) := by decide +kernel
theorem dX5_differs_67 : decode cX5_differs 67 = .ok (.ireturn, 1) := by decide +kernel
set_option maxRecDepth 20000 in
theorem ggX5_stoodAhead_X5_signsOfLine : GoodIn wsX5_stoodAhead wsX5_signsOfLine := goodIn_r _ [5, 6, 7, 8, 9, 10, 11, 12, 13, 14, 15, 16, 17, 27, 28, 29, 30, 31, 32, 33, 34, 35, 36, 37, 38, 39] (by decide +kernel) (by decide +kernel)
set_option maxRecDepth 20000 in
theorem gX5_stoodAhead_X5_signsOfLine : GoodIn wsX5_stoodAhead (wsV RX5 56 RX5 yX5_signsOfLine wsX5_signsOfLine) := goodIn_app (goodIn_of _ (by decide +kernel)) ggX5_stoodAhead_X5_signsOfLine
set_option maxRecDepth 20000 in
theorem ggX5_stoodAhead_X5_hasSameAtBoth : GoodIn wsX5_stoodAhead wsX5_hasSameAtBoth := goodIn_r _ [21, 6, 9, 7, 8, 22, 23, 24, 13, 25, 15, 16, 17, 26, 27, 28, 29, 30, 31, 32, 33, 34, 35, 36, 37, 38, 39] (by decide +kernel) (by decide +kernel)
set_option maxRecDepth 20000 in
theorem gX5_stoodAhead_X5_hasSameAtBoth : GoodIn wsX5_stoodAhead (wsV RX5 76 RX5 yX5_hasSameAtBoth wsX5_hasSameAtBoth) := goodIn_app (goodIn_of _ (by decide +kernel)) ggX5_stoodAhead_X5_hasSameAtBoth
theorem dX5_stoodAhead_0 : decode cX5_stoodAhead 0 = .ok (.iconst 0, 1) := by decide +kernel
theorem dX5_stoodAhead_1 : decode cX5_stoodAhead 1 = .ok (.istore_n 3, 1) := by decide +kernel
theorem dX5_stoodAhead_2 : decode cX5_stoodAhead 2 = .ok (.iload_n 3, 1) := by decide +kernel
theorem dX5_stoodAhead_3 : decode cX5_stoodAhead 3 = .ok (.iload_n 1, 1) := by decide +kernel
theorem dX5_stoodAhead_4 : decode cX5_stoodAhead 4 = .ok (.if_icmp .gt 55, 3) := by decide +kernel
theorem dX5_stoodAhead_7 : decode cX5_stoodAhead 7 = .ok (.iload_n 3, 1) := by decide +kernel
theorem dX5_stoodAhead_8 : decode cX5_stoodAhead 8 = .ok (.iload_n 1, 1) := by decide +kernel
theorem dX5_stoodAhead_9 : decode cX5_stoodAhead 9 = .ok (.if_icmp .ge 11, 3) := by decide +kernel
theorem dX5_stoodAhead_12 : decode cX5_stoodAhead 12 = .ok (.aload_n 0, 1) := by decide +kernel
theorem dX5_stoodAhead_13 : decode cX5_stoodAhead 13 = .ok (.iload_n 3, 1) := by decide +kernel
theorem dX5_stoodAhead_14 : decode cX5_stoodAhead 14 = .ok (.invokevirtual 56, 3) := by decide +kernel
theorem dX5_stoodAhead_17 : decode cX5_stoodAhead 17 = .ok (.goto 4, 3) := by decide +kernel
theorem dX5_stoodAhead_20 : decode cX5_stoodAhead 20 = .ok (.iload_n 2, 1) := by decide +kernel
theorem dX5_stoodAhead_21 : decode cX5_stoodAhead 21 = .ok (.istore 4, 2) := by decide +kernel
theorem dX5_stoodAhead_23 : decode cX5_stoodAhead 23 = .ok (.iconst 0, 1) := by decide +kernel
theorem dX5_stoodAhead_24 : decode cX5_stoodAhead 24 = .ok (.istore 5, 2) := by decide +kernel
theorem dX5_stoodAhead_26 : decode cX5_stoodAhead 26 = .ok (.iload 5, 2) := by decide +kernel
theorem dX5_stoodAhead_28 : decode cX5_stoodAhead 28 = .ok (.iload 4, 2) := by decide +kernel
theorem dX5_stoodAhead_30 : decode cX5_stoodAhead 30 = .ok (.if_icmp .ge 23, 3) := by decide +kernel
theorem dX5_stoodAhead_33 : decode cX5_stoodAhead 33 = .ok (.aload_n 0, 1) := by decide +kernel
theorem dX5_stoodAhead_34 : decode cX5_stoodAhead 34 = .ok (.iload_n 3, 1) := by decide +kernel
theorem dX5_stoodAhead_35 : decode cX5_stoodAhead 35 = .ok (.iload 5, 2) := by decide +kernel
theorem dX5_stoodAhead_37 : decode cX5_stoodAhead 37 = .ok (.iload_n 1, 1) := by decide +kernel
theorem dX5_stoodAhead_38 : decode cX5_stoodAhead 38 = .ok (.iload_n 2, 1) := by decide +kernel
theorem dX5_stoodAhead_39 : decode cX5_stoodAhead 39 = .ok (.invokevirtual 76, 3) := by decide +kernel
theorem dX5_stoodAhead_42 : decode cX5_stoodAhead 42 = .ok (.ifCond .eq 5, 3) := by decide +kernel
theorem dX5_stoodAhead_45 : decode cX5_stoodAhead 45 = .ok (.iconst 1, 1) := by decide +kernel
theorem dX5_stoodAhead_46 : decode cX5_stoodAhead 46 = .ok (.ireturn, 1) := by decide +kernel
theorem dX5_stoodAhead_47 : decode cX5_stoodAhead 47 = .ok (.iinc 5 1, 3) := by decide +kernel
theorem dX5_stoodAhead_50 : decode cX5_stoodAhead 50 = .ok (.goto (-24), 3) := by decide +kernel
theorem dX5_stoodAhead_53 : decode cX5_stoodAhead 53 = .ok (.iinc 3 1, 3) := by decide +kernel
theorem dX5_stoodAhead_56 : decode cX5_stoodAhead 56 = .ok (.goto (-54), 3) := by decide +kernel
theorem dX5_stoodAhead_59 : decode cX5_stoodAhead 59 = .ok (.iconst 0, 1) := by decide +kernel
theorem dX5_stoodAhead_60 : decode cX5_stoodAhead 60 = .ok (.ireturn, 1) := by decide +kernel
set_option maxRecDepth 20000 in
theorem ggX5_hasSameAtBoth_X0_signAt : GoodIn wsX5_hasSameAtBoth wsX0_signAt := goodIn_r _ [9, 10, 11, 12, 13, 23, 24, 25, 26] (by decide +kernel) (by decide +kernel)
set_option maxRecDepth 20000 in
theorem gX5_hasSameAtBoth_X0_signAt : GoodIn wsX5_hasSameAtBoth (wsV RX5 72 RX0 yX0_signAt wsX0_signAt) := goodIn_app (goodIn_of _ (by decide +kernel)) ggX5_hasSameAtBoth_X0_signAt
theorem dX5_hasSameAtBoth_0 : decode cX5_hasSameAtBoth 0 = .ok (.iconst 0, 1) := by decide +kernel
theorem dX5_hasSameAtBoth_1 : decode cX5_hasSameAtBoth 1 = .ok (.istore 5, 2) := by decide +kernel
theorem dX5_hasSameAtBoth_3 : decode cX5_hasSameAtBoth 3 = .ok (.iload 5, 2) := by decide +kernel
theorem dX5_hasSameAtBoth_5 : decode cX5_hasSameAtBoth 5 = .ok (.aload_n 0, 1) := by decide +kernel
theorem dX5_hasSameAtBoth_6 : decode cX5_hasSameAtBoth 6 = .ok (.getfield 19, 3) := by decide +kernel
theorem dX5_hasSameAtBoth_9 : decode cX5_hasSameAtBoth 9 = .ok (.if_icmp .ge 56, 3) := by decide +kernel
theorem dX5_hasSameAtBoth_12 : decode cX5_hasSameAtBoth 12 = .ok (.aload_n 0, 1) := by decide +kernel
theorem dX5_hasSameAtBoth_13 : decode cX5_hasSameAtBoth 13 = .ok (.getfield 9, 3) := by decide +kernel
theorem dX5_hasSameAtBoth_16 : decode cX5_hasSameAtBoth 16 = .ok (.iload 5, 2) := by decide +kernel
theorem dX5_hasSameAtBoth_18 : decode cX5_hasSameAtBoth 18 = .ok (.iaload, 1) := by decide +kernel
theorem dX5_hasSameAtBoth_19 : decode cX5_hasSameAtBoth 19 = .ok (.istore 6, 2) := by decide +kernel
theorem dX5_hasSameAtBoth_21 : decode cX5_hasSameAtBoth 21 = .ok (.aload_n 0, 1) := by decide +kernel
theorem dX5_hasSameAtBoth_22 : decode cX5_hasSameAtBoth 22 = .ok (.getfield 34, 3) := by decide +kernel
theorem dX5_hasSameAtBoth_25 : decode cX5_hasSameAtBoth 25 = .ok (.aload_n 0, 1) := by decide +kernel
theorem dX5_hasSameAtBoth_26 : decode cX5_hasSameAtBoth 26 = .ok (.getfield 15, 3) := by decide +kernel
theorem dX5_hasSameAtBoth_29 : decode cX5_hasSameAtBoth 29 = .ok (.iload 6, 2) := by decide +kernel
theorem dX5_hasSameAtBoth_31 : decode cX5_hasSameAtBoth 31 = .ok (.iload_n 1, 1) := by decide +kernel
theorem dX5_hasSameAtBoth_32 : decode cX5_hasSameAtBoth 32 = .ok (.iadd, 1) := by decide +kernel
theorem dX5_hasSameAtBoth_33 : decode cX5_hasSameAtBoth 33 = .ok (.iload_n 2, 1) := by decide +kernel
theorem dX5_hasSameAtBoth_34 : decode cX5_hasSameAtBoth 34 = .ok (.invokevirtual 72, 3) := by decide +kernel
theorem dX5_hasSameAtBoth_37 : decode cX5_hasSameAtBoth 37 = .ok (.aload_n 0, 1) := by decide +kernel
theorem dX5_hasSameAtBoth_38 : decode cX5_hasSameAtBoth 38 = .ok (.getfield 34, 3) := by decide +kernel
theorem dX5_hasSameAtBoth_41 : decode cX5_hasSameAtBoth 41 = .ok (.aload_n 0, 1) := by decide +kernel
theorem dX5_hasSameAtBoth_42 : decode cX5_hasSameAtBoth 42 = .ok (.getfield 15, 3) := by decide +kernel
theorem dX5_hasSameAtBoth_45 : decode cX5_hasSameAtBoth 45 = .ok (.iload 6, 2) := by decide +kernel
theorem dX5_hasSameAtBoth_47 : decode cX5_hasSameAtBoth 47 = .ok (.iload_n 3, 1) := by decide +kernel
theorem dX5_hasSameAtBoth_48 : decode cX5_hasSameAtBoth 48 = .ok (.iadd, 1) := by decide +kernel
theorem dX5_hasSameAtBoth_49 : decode cX5_hasSameAtBoth 49 = .ok (.iload 4, 2) := by decide +kernel
theorem dX5_hasSameAtBoth_51 : decode cX5_hasSameAtBoth 51 = .ok (.invokevirtual 72, 3) := by decide +kernel
theorem dX5_hasSameAtBoth_54 : decode cX5_hasSameAtBoth 54 = .ok (.if_icmp .eq 5, 3) := by decide +kernel
theorem dX5_hasSameAtBoth_57 : decode cX5_hasSameAtBoth 57 = .ok (.iconst 0, 1) := by decide +kernel
theorem dX5_hasSameAtBoth_58 : decode cX5_hasSameAtBoth 58 = .ok (.ireturn, 1) := by decide +kernel
theorem dX5_hasSameAtBoth_59 : decode cX5_hasSameAtBoth 59 = .ok (.iinc 5 1, 3) := by decide +kernel
theorem dX5_hasSameAtBoth_62 : decode cX5_hasSameAtBoth 62 = .ok (.goto (-59), 3) := by decide +kernel
theorem dX5_hasSameAtBoth_65 : decode cX5_hasSameAtBoth 65 = .ok (.iconst 1, 1) := by decide +kernel
theorem dX5_hasSameAtBoth_66 : decode cX5_hasSameAtBoth 66 = .ok (.ireturn, 1) := by decide +kernel
