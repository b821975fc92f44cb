theorem dX8_alike_24 : decode cX8_alike 24 = .ok (.goto 22, 3) := by decide +kernel
theorem dX8_alike_27 : decode cX8_alike 27 = .ok (.aload_n 0, 1) := by decide +kernel
theorem dX8_alike_28 : decode cX8_alike 28 = .ok (.iload_n 1, 1) := by decide +kernel
theorem dX8_alike_29 : decode cX8_alike 29 = .ok (.iload_n 2, 1) := by decide +kernel
theorem dX8_alike_30 : decode cX8_alike 30 = .ok (.iload_n 3, 1) := by decide +kernel
theorem dX8_alike_31 : decode cX8_alike 31 = .ok (.iload 4, 2) := by decide +kernel
theorem dX8_alike_33 : decode cX8_alike 33 = .ok (.iload 5, 2) := by decide +kernel
theorem dX8_alike_35 : decode cX8_alike 35 = .ok (.invokevirtual 118, 3) := by decide +kernel
theorem dX8_alike_38 : decode cX8_alike 38 = .ok (.ifCond .eq 7, 3) := by decide +kernel
theorem dX8_alike_41 : decode cX8_alike 41 = .ok (.iconst 1, 1) := by decide +kernel
theorem dX8_alike_42 : decode cX8_alike 42 = .ok (.goto 4, 3) := by decide +kernel
theorem dX8_alike_45 : decode cX8_alike 45 = .ok (.iconst 0, 1) := by decide +kernel
theorem dX8_alike_46 : decode cX8_alike 46 = .ok (.ireturn, 1) := by decide +kernel
set_option maxRecDepth 20000 in
theorem ggX8_longest_X8_isVersion : GoodIn wsX8_longest wsX8_isVersion := goodIn_r _ [6, 7, 8, 9, 5, 10, 51, 52, 53, 54, 55, 56, 57, 58, 59, 60, 61, 62, 63, 64, 65, 66, 67, 68, 69] (by decide +kernel) (by decide +kernel)
set_option maxRecDepth 20000 in
theorem gX8_longest_X8_isVersion : GoodIn wsX8_longest (wsV RX8 72 RX8 yX8_isVersion wsX8_isVersion) := goodIn_app (goodIn_of _ (by decide +kernel)) ggX8_longest_X8_isVersion
set_option maxRecDepth 20000 in
theorem ggX8_longest_X8_isWay : GoodIn wsX8_longest wsX8_isWay := goodIn_r _ [13, 8, 9, 5, 10] (by decide +kernel) (by decide +kernel)
set_option maxRecDepth 20000 in
theorem gX8_longest_X8_isWay : GoodIn wsX8_longest (va_wsS RX8 105 yX8_isWay wsX8_isWay) := goodIn_app (goodIn_of _ (by decide +kernel)) ggX8_longest_X8_isWay
set_option maxRecDepth 20000 in
theorem ggX8_longest_X8_in : GoodIn wsX8_longest wsX8_in := goodIn_r _ [10] (by decide +kernel) (by decide +kernel)
set_option maxRecDepth 20000 in
theorem gX8_longest_X8_in : GoodIn wsX8_longest (va_wsS RX8 54 yX8_in wsX8_in) := goodIn_app (goodIn_of _ (by decide +kernel)) ggX8_longest_X8_in
set_option maxRecDepth 20000 in
theorem ggX8_longest_X8_rowsAlike : GoodIn wsX8_longest wsX8_rowsAlike := goodIn_r _ [17, 18, 19, 20, 21, 22, 23, 24, 25, 5, 26, 1, 27, 28, 29, 30, 31, 32, 33, 34, 35, 36, 37, 38, 39, 40, 41, 42, 43, 8, 9, 10, 44, 45, 46, 47, 48, 49, 50, 51, 52, 53, 54, 55, 56, 57, 58, 59, 60, 61, 62, 63, 64, 65, 66, 67, 68, 69] (by decide +kernel) (by decide +kernel)
set_option maxRecDepth 20000 in
theorem gX8_longest_X8_rowsAlike : GoodIn wsX8_longest (wsV RX8 118 RX8 yX8_rowsAlike wsX8_rowsAlike) := goodIn_app (goodIn_of _ (by decide +kernel)) ggX8_longest_X8_rowsAlike
theorem dX8_longest_0 : decode cX8_longest 0 = .ok (.aload_n 0, 1) := by decide +kernel
theorem dX8_longest_1 : decode cX8_longest 1 = .ok (.iload_n 1, 1) := by decide +kernel
theorem dX8_longest_2 : decode cX8_longest 2 = .ok (.invokevirtual 72, 3) := by decide +kernel
theorem dX8_longest_5 : decode cX8_longest 5 = .ok (.ifCond .ne 5, 3) := by decide +kernel
theorem dX8_longest_8 : decode cX8_longest 8 = .ok (.iconst (-1), 1) := by decide +kernel
theorem dX8_longest_9 : decode cX8_longest 9 = .ok (.ireturn, 1) := by decide +kernel
theorem dX8_longest_10 : decode cX8_longest 10 = .ok (.iload_n 2, 1) := by decide +kernel
theorem dX8_longest_11 : decode cX8_longest 11 = .ok (.invokestatic 105, 3) := by decide +kernel
theorem dX8_longest_14 : decode cX8_longest 14 = .ok (.ifCond .eq 12, 3) := by decide +kernel
theorem dX8_longest_17 : decode cX8_longest 17 = .ok (.iload_n 3, 1) := by decide +kernel
theorem dX8_longest_18 : decode cX8_longest 18 = .ok (.iconst 0, 1) := by decide +kernel
theorem dX8_longest_19 : decode cX8_longest 19 = .ok (.iconst 2, 1) := by decide +kernel
theorem dX8_longest_20 : decode cX8_longest 20 = .ok (.invokestatic 54, 3) := by decide +kernel
theorem dX8_longest_23 : decode cX8_longest 23 = .ok (.ifCond .ne 6, 3) := by decide +kernel
theorem dX8_longest_26 : decode cX8_longest 26 = .ok (.bipush (-2), 2) := by decide +kernel
theorem dX8_longest_28 : decode cX8_longest 28 = .ok (.ireturn, 1) := by decide +kernel
theorem dX8_longest_29 : decode cX8_longest 29 = .ok (.aload_n 0, 1) := by decide +kernel
theorem dX8_longest_30 : decode cX8_longest 30 = .ok (.getfield 58, 3) := by decide +kernel
theorem dX8_longest_33 : decode cX8_longest 33 = .ok (.iconst 2, 1) := by decide +kernel
theorem dX8_longest_34 : decode cX8_longest 34 = .ok (.idiv, 1) := by decide +kernel
theorem dX8_longest_35 : decode cX8_longest 35 = .ok (.istore 4, 2) := by decide +kernel
theorem dX8_longest_37 : decode cX8_longest 37 = .ok (.iload 4, 2) := by decide +kernel
theorem dX8_longest_39 : decode cX8_longest 39 = .ok (.ifCond .le 94, 3) := by decide +kernel
theorem dX8_longest_42 : decode cX8_longest 42 = .ok (.iconst 0, 1) := by decide +kernel
theorem dX8_longest_43 : decode cX8_longest 43 = .ok (.istore 5, 2) := by decide +kernel
theorem dX8_longest_45 : decode cX8_longest 45 = .ok (.iload 5, 2) := by decide +kernel
theorem dX8_longest_47 : decode cX8_longest 47 = .ok (.iconst 2, 1) := by decide +kernel
theorem dX8_longest_48 : decode cX8_longest 48 = .ok (.iload 4, 2) := by decide +kernel
theorem dX8_longest_50 : decode cX8_longest 50 = .ok (.imul, 1) := by decide +kernel
theorem dX8_longest_51 : decode cX8_longest 51 = .ok (.iadd, 1) := by decide +kernel
theorem dX8_longest_52 : decode cX8_longest 52 = .ok (.aload_n 0, 1) := by decide +kernel
theorem dX8_longest_53 : decode cX8_longest 53 = .ok (.getfield 58, 3) := by decide +kernel
theorem dX8_longest_56 : decode cX8_longest 56 = .ok (.if_icmp .gt 71, 3) := by decide +kernel
theorem dX8_longest_59 : decode cX8_longest 59 = .ok (.iload 5, 2) := by decide +kernel
theorem dX8_longest_61 : decode cX8_longest 61 = .ok (.iload 4, 2) := by decide +kernel
theorem dX8_longest_63 : decode cX8_longest 63 = .ok (.iadd, 1) := by decide +kernel
theorem dX8_longest_64 : decode cX8_longest 64 = .ok (.istore 6, 2) := by decide +kernel
theorem dX8_longest_66 : decode cX8_longest 66 = .ok (.iload 6, 2) := by decide +kernel
theorem dX8_longest_68 : decode cX8_longest 68 = .ok (.iload 4, 2) := by decide +kernel
theorem dX8_longest_70 : decode cX8_longest 70 = .ok (.iadd, 1) := by decide +kernel
theorem dX8_longest_71 : decode cX8_longest 71 = .ok (.aload_n 0, 1) := by decide +kernel
theorem dX8_longest_72 : decode cX8_longest 72 = .ok (.getfield 58, 3) := by decide +kernel
theorem dX8_longest_75 : decode cX8_longest 75 = .ok (.if_icmp .gt 46, 3) := by decide +kernel
theorem dX8_longest_78 : decode cX8_longest 78 = .ok (.aload_n 0, 1) := by decide +kernel
theorem dX8_longest_79 : decode cX8_longest 79 = .ok (.iload_n 1, 1) := by decide +kernel
theorem dX8_longest_80 : decode cX8_longest 80 = .ok (.iload_n 2, 1) := by decide +kernel
theorem dX8_longest_81 : decode cX8_longest 81 = .ok (.iload 5, 2) := by decide +kernel
theorem dX8_longest_83 : decode cX8_longest 83 = .ok (.iload 6, 2) := by decide +kernel
theorem dX8_longest_85 : decode cX8_longest 85 = .ok (.iload 4, 2) := by decide +kernel
theorem dX8_longest_87 : decode cX8_longest 87 = .ok (.invokevirtual 118, 3) := by decide +kernel
theorem dX8_longest_90 : decode cX8_longest 90 = .ok (.ifCond .eq 25, 3) := by decide +kernel
theorem dX8_longest_93 : decode cX8_longest 93 = .ok (.iload_n 3, 1) := by decide +kernel
theorem dX8_longest_94 : decode cX8_longest 94 = .ok (.ifCond .ne 8, 3) := by decide +kernel
theorem dX8_longest_97 : decode cX8_longest 97 = .ok (.iload 4, 2) := by decide +kernel
theorem dX8_longest_99 : decode cX8_longest 99 = .ok (.goto 15, 3) := by decide +kernel
theorem dX8_longest_102 : decode cX8_longest 102 = .ok (.iload_n 3, 1) := by decide +kernel
theorem dX8_longest_103 : decode cX8_longest 103 = .ok (.iconst 1, 1) := by decide +kernel
theorem dX8_longest_104 : decode cX8_longest 104 = .ok (.if_icmp .ne 8, 3) := by decide +kernel
theorem dX8_longest_107 : decode cX8_longest 107 = .ok (.iload 5, 2) := by decide +kernel
theorem dX8_longest_109 : decode cX8_longest 109 = .ok (.goto 5, 3) := by decide +kernel
theorem dX8_longest_112 : decode cX8_longest 112 = .ok (.iload 6, 2) := by decide +kernel
theorem dX8_longest_114 : decode cX8_longest 114 = .ok (.ireturn, 1) := by decide +kernel
theorem dX8_longest_115 : decode cX8_longest 115 = .ok (.iinc 6 1, 3) := by decide +kernel
theorem dX8_longest_118 : decode cX8_longest 118 = .ok (.goto (-52), 3) := by decide +kernel
theorem dX8_longest_121 : decode cX8_longest 121 = .ok (.iinc 5 1, 3) := by decide +kernel
theorem dX8_longest_124 : decode cX8_longest 124 = .ok (.goto (-79), 3) := by decide +kernel
theorem dX8_longest_127 : decode cX8_longest 127 = .ok (.iinc 4 (-1), 3) := by decide +kernel
theorem dX8_longest_130 : decode cX8_longest 130 = .ok (.goto (-93), 3) := by decide +kernel
theorem dX8_longest_133 : decode cX8_longest 133 = .ok (.bipush (-6), 2) := by decide +kernel
theorem dX8_longest_135 : decode cX8_longest 135 = .ok (.ireturn, 1) := by decide +kernel
set_option maxRecDepth 20000 in
theorem ggX8_likeOf_X8_isThere : GoodIn wsX8_likeOf wsX8_isThere := goodIn_r _ [6, 1, 43, 44, 45, 46, 47, 48, 49, 50, 51, 52, 53, 54, 55, 56, 57, 58, 59, 60, 61] (by decide +kernel) (by decide +kernel)
set_option maxRecDepth 20000 in
theorem gX8_likeOf_X8_isThere : GoodIn wsX8_likeOf (wsV RX8 93 RX8 yX8_isThere wsX8_isThere) := goodIn_app (goodIn_of _ (by decide +kernel)) ggX8_likeOf_X8_isThere
set_option maxRecDepth 20000 in
theorem ggX8_likeOf_X8_rowsAlike : GoodIn wsX8_likeOf wsX8_rowsAlike := goodIn_r _ [10, 11, 12, 13, 14, 15, 2, 3, 4, 5, 6, 1, 16, 17, 18, 19, 20, 21, 22, 23, 24, 25, 26, 27, 28, 29, 30, 31, 32, 33, 34, 35, 36, 37, 38, 39, 40, 41, 42, 43, 44, 45, 46, 47, 48, 49, 50, 51, 52, 53, 54, 55, 56, 57, 58, 59, 60, 61] (by decide +kernel) (by decide +kernel)
set_option maxRecDepth 20000 in
theorem gX8_likeOf_X8_rowsAlike : GoodIn wsX8_likeOf (wsV RX8 118 RX8 yX8_rowsAlike wsX8_rowsAlike) := goodIn_app (goodIn_of _ (by decide +kernel)) ggX8_likeOf_X8_rowsAlike
theorem dX8_likeOf_0 : decode cX8_likeOf 0 = .ok (.iconst 0, 1) := by decide +kernel
theorem dX8_likeOf_1 : decode cX8_likeOf 1 = .ok (.istore 5, 2) := by decide +kernel
theorem dX8_likeOf_3 : decode cX8_likeOf 3 = .ok (.iconst 0, 1) := by decide +kernel
theorem dX8_likeOf_4 : decode cX8_likeOf 4 = .ok (.istore 6, 2) := by decide +kernel
theorem dX8_likeOf_6 : decode cX8_likeOf 6 = .ok (.iload 6, 2) := by decide +kernel
theorem dX8_likeOf_8 : decode cX8_likeOf 8 = .ok (.iload 4, 2) := by decide +kernel
theorem dX8_likeOf_10 : decode cX8_likeOf 10 = .ok (.iadd, 1) := by decide +kernel
theorem dX8_likeOf_11 : decode cX8_likeOf 11 = .ok (.aload_n 0, 1) := by decide +kernel
theorem dX8_likeOf_12 : decode cX8_likeOf 12 = .ok (.getfield 58, 3) := by decide +kernel
theorem dX8_likeOf_15 : decode cX8_likeOf 15 = .ok (.if_icmp .gt 46, 3) := by decide +kernel
theorem dX8_likeOf_18 : decode cX8_likeOf 18 = .ok (.aload_n 0, 1) := by decide +kernel
theorem dX8_likeOf_19 : decode cX8_likeOf 19 = .ok (.iload_n 3, 1) := by decide +kernel
theorem dX8_likeOf_20 : decode cX8_likeOf 20 = .ok (.iload 4, 2) := by decide +kernel
theorem dX8_likeOf_22 : decode cX8_likeOf 22 = .ok (.invokevirtual 93, 3) := by decide +kernel
theorem dX8_likeOf_25 : decode cX8_likeOf 25 = .ok (.ifCond .eq 36, 3) := by decide +kernel
theorem dX8_likeOf_28 : decode cX8_likeOf 28 = .ok (.iload 5, 2) := by decide +kernel
theorem dX8_likeOf_30 : decode cX8_likeOf 30 = .ok (.aload_n 0, 1) := by decide +kernel
theorem dX8_likeOf_31 : decode cX8_likeOf 31 = .ok (.iload_n 1, 1) := by decide +kernel
theorem dX8_likeOf_32 : decode cX8_likeOf 32 = .ok (.iload_n 2, 1) := by decide +kernel
theorem dX8_likeOf_33 : decode cX8_likeOf 33 = .ok (.iload_n 3, 1) := by decide +kernel
theorem dX8_likeOf_34 : decode cX8_likeOf 34 = .ok (.iload 6, 2) := by decide +kernel
theorem dX8_likeOf_36 : decode cX8_likeOf 36 = .ok (.iload 4, 2) := by decide +kernel
theorem dX8_likeOf_38 : decode cX8_likeOf 38 = .ok (.invokevirtual 118, 3) := by decide +kernel
theorem dX8_likeOf_41 : decode cX8_likeOf 41 = .ok (.ifCond .eq 10, 3) := by decide +kernel
theorem dX8_likeOf_44 : decode cX8_likeOf 44 = .ok (.iconst 1, 1) := by decide +kernel
theorem dX8_likeOf_45 : decode cX8_likeOf 45 = .ok (.iload 6, 2) := by decide +kernel
theorem dX8_likeOf_47 : decode cX8_likeOf 47 = .ok (.ishl, 1) := by decide +kernel
theorem dX8_likeOf_48 : decode cX8_likeOf 48 = .ok (.goto 4, 3) := by decide +kernel
theorem dX8_likeOf_51 : decode cX8_likeOf 51 = .ok (.iconst 0, 1) := by decide +kernel
theorem dX8_likeOf_52 : decode cX8_likeOf 52 = .ok (.ior, 1) := by decide +kernel
theorem dX8_likeOf_53 : decode cX8_likeOf 53 = .ok (.istore 5, 2) := by decide +kernel
theorem dX8_likeOf_55 : decode cX8_likeOf 55 = .ok (.iinc 6 1, 3) := by decide +kernel
theorem dX8_likeOf_58 : decode cX8_likeOf 58 = .ok (.goto (-52), 3) := by decide +kernel
theorem dX8_likeOf_61 : decode cX8_likeOf 61 = .ok (.iload 5, 2) := by decide +kernel
theorem dX8_likeOf_63 : decode cX8_likeOf 63 = .ok (.ireturn, 1) := by decide +kernel
set_option maxRecDepth 20000 in
theorem ggX8_like_X8_isVersion : GoodIn wsX8_like wsX8_isVersion := goodIn_r _ [5, 6, 7, 8, 4, 9, 61, 62, 63, 64, 65, 66, 67, 68, 69, 70, 71, 72, 73, 74, 75, 76, 77, 78, 79] (by decide +kernel) (by decide +kernel)
set_option maxRecDepth 20000 in
theorem gX8_like_X8_isVersion : GoodIn wsX8_like (wsV RX8 72 RX8 yX8_isVersion wsX8_isVersion) := goodIn_app (goodIn_of _ (by decide +kernel)) ggX8_like_X8_isVersion
set_option maxRecDepth 20000 in
theorem ggX8_like_X8_isWay : GoodIn wsX8_like wsX8_isWay := goodIn_r _ [12, 7, 8, 4, 9] (by decide +kernel) (by decide +kernel)
set_option maxRecDepth 20000 in
theorem gX8_like_X8_isWay : GoodIn wsX8_like (va_wsS RX8 105 yX8_isWay wsX8_isWay) := goodIn_app (goodIn_of _ (by decide +kernel)) ggX8_like_X8_isWay
set_option maxRecDepth 20000 in
theorem ggX8_like_X8_isStart : GoodIn wsX8_like wsX8_isStart := goodIn_r _ [15, 7, 8, 4, 9] (by decide +kernel) (by decide +kernel)
set_option maxRecDepth 20000 in
theorem gX8_like_X8_isStart : GoodIn wsX8_like (va_wsS RX8 108 yX8_isStart wsX8_isStart) := goodIn_app (goodIn_of _ (by decide +kernel)) ggX8_like_X8_isStart
set_option maxRecDepth 20000 in
theorem ggX8_like_X8_isLength : GoodIn wsX8_like wsX8_isLength := goodIn_r _ [18, 7, 8, 4, 9] (by decide +kernel) (by decide +kernel)
set_option maxRecDepth 20000 in
theorem gX8_like_X8_isLength : GoodIn wsX8_like (va_wsS RX8 111 yX8_isLength wsX8_isLength) := goodIn_app (goodIn_of _ (by decide +kernel)) ggX8_like_X8_isLength
set_option maxRecDepth 20000 in
theorem ggX8_like_X8_likeOf : GoodIn wsX8_like wsX8_likeOf := goodIn_r _ [22, 23, 24, 25, 26, 4, 27, 28, 29, 30, 31, 32, 33, 34, 35, 36, 37, 38, 39, 40, 41, 42, 43, 44, 45, 46, 47, 48, 49, 50, 51, 52, 53, 7, 8, 9, 54, 55, 56, 57, 58, 59, 60, 61, 62, 63, 64, 65, 66, 67, 68, 69, 70, 71, 72, 73, 74, 75, 76, 77, 78, 79] (by decide +kernel) (by decide +kernel)
set_option maxRecDepth 20000 in
theorem gX8_like_X8_likeOf : GoodIn wsX8_like (wsV RX8 122 RX8 yX8_likeOf wsX8_likeOf) := goodIn_app (goodIn_of _ (by decide +kernel)) ggX8_like_X8_likeOf
theorem dX8_like_0 : decode cX8_like 0 = .ok (.aload_n 0, 1) := by decide +kernel
theorem dX8_like_1 : decode cX8_like 1 = .ok (.iload_n 1, 1) := by decide +kernel
theorem dX8_like_2 : decode cX8_like 2 = .ok (.invokevirtual 72, 3) := by decide +kernel
theorem dX8_like_5 : decode cX8_like 5 = .ok (.ifCond .ne 5, 3) := by decide +kernel
theorem dX8_like_8 : decode cX8_like 8 = .ok (.iconst (-1), 1) := by decide +kernel
theorem dX8_like_9 : decode cX8_like 9 = .ok (.ireturn, 1) := by decide +kernel
theorem dX8_like_10 : decode cX8_like 10 = .ok (.iload_n 2, 1) := by decide +kernel
theorem dX8_like_11 : decode cX8_like 11 = .ok (.invokestatic 105, 3) := by decide +kernel
theorem dX8_like_14 : decode cX8_like 14 = .ok (.ifCond .eq 30, 3) := by decide +kernel
theorem dX8_like_17 : decode cX8_like 17 = .ok (.iload_n 3, 1) := by decide +kernel
theorem dX8_like_18 : decode cX8_like 18 = .ok (.invokestatic 108, 3) := by decide +kernel
theorem dX8_like_21 : decode cX8_like 21 = .ok (.ifCond .eq 23, 3) := by decide +kernel
theorem dX8_like_24 : decode cX8_like 24 = .ok (.iload 4, 2) := by decide +kernel
theorem dX8_like_26 : decode cX8_like 26 = .ok (.invokestatic 111, 3) := by decide +kernel
theorem dX8_like_29 : decode cX8_like 29 = .ok (.ifCond .eq 15, 3) := by decide +kernel
theorem dX8_like_32 : decode cX8_like 32 = .ok (.aload_n 0, 1) := by decide +kernel
theorem dX8_like_33 : decode cX8_like 33 = .ok (.iload_n 1, 1) := by decide +kernel
theorem dX8_like_34 : decode cX8_like 34 = .ok (.iload_n 2, 1) := by decide +kernel
theorem dX8_like_35 : decode cX8_like 35 = .ok (.iload_n 3, 1) := by decide +kernel
theorem dX8_like_36 : decode cX8_like 36 = .ok (.iload 4, 2) := by decide +kernel
theorem dX8_like_38 : decode cX8_like 38 = .ok (.invokevirtual 122, 3) := by decide +kernel
theorem dX8_like_41 : decode cX8_like 41 = .ok (.goto 5, 3) := by decide +kernel
theorem dX8_like_44 : decode cX8_like 44 = .ok (.bipush (-2), 2) := by decide +kernel
theorem dX8_like_46 : decode cX8_like 46 = .ok (.ireturn, 1) := by decide +kernel
theorem dX8_bits_0 : decode cX8_bits 0 = .ok (.iconst 0, 1) := by decide +kernel
theorem dX8_bits_1 : decode cX8_bits 1 = .ok (.istore_n 1, 1) := by decide +kernel
theorem dX8_bits_2 : decode cX8_bits 2 = .ok (.iconst 0, 1) := by decide +kernel
theorem dX8_bits_3 : decode cX8_bits 3 = .ok (.istore_n 2, 1) := by decide +kernel
theorem dX8_bits_4 : decode cX8_bits 4 = .ok (.iload_n 2, 1) := by decide +kernel
theorem dX8_bits_5 : decode cX8_bits 5 = .ok (.bipush 20, 2) := by decide +kernel
theorem dX8_bits_7 : decode cX8_bits 7 = .ok (.if_icmp .ge 17, 3) := by decide +kernel
theorem dX8_bits_10 : decode cX8_bits 10 = .ok (.iload_n 1, 1) := by decide +kernel
theorem dX8_bits_11 : decode cX8_bits 11 = .ok (.iload_n 0, 1) := by decide +kernel
theorem dX8_bits_12 : decode cX8_bits 12 = .ok (.iload_n 2, 1) := by decide +kernel
theorem dX8_bits_13 : decode cX8_bits 13 = .ok (.ishr, 1) := by decide +kernel
theorem dX8_bits_14 : decode cX8_bits 14 = .ok (.iconst 1, 1) := by decide +kernel
theorem dX8_bits_15 : decode cX8_bits 15 = .ok (.iand, 1) := by decide +kernel
theorem dX8_bits_16 : decode cX8_bits 16 = .ok (.iadd, 1) := by decide +kernel
theorem dX8_bits_17 : decode cX8_bits 17 = .ok (.istore_n 1, 1) := by decide +kernel
theorem dX8_bits_18 : decode cX8_bits 18 = .ok (.iinc 2 1, 3) := by decide +kernel
theorem dX8_bits_21 : decode cX8_bits 21 = .ok (.goto (-17), 3) := by decide +kernel
theorem dX8_bits_24 : decode cX8_bits 24 = .ok (.iload_n 1, 1) := by decide +kernel
theorem dX8_bits_25 : decode cX8_bits 25 = .ok (.ireturn, 1) := by decide +kernel
theorem dX8_least_0 : decode cX8_least 0 = .ok (.iconst 0, 1) := by decide +kernel
theorem dX8_least_1 : decode cX8_least 1 = .ok (.istore_n 1, 1) := by decide +kernel
theorem dX8_least_2 : decode cX8_least 2 = .ok (.iload_n 0, 1) := by decide +kernel
theorem dX8_least_3 : decode cX8_least 3 = .ok (.iload_n 1, 1) := by decide +kernel
theorem dX8_least_4 : decode cX8_least 4 = .ok (.ishr, 1) := by decide +kernel
theorem dX8_least_5 : decode cX8_least 5 = .ok (.iconst 1, 1) := by decide +kernel
theorem dX8_least_6 : decode cX8_least 6 = .ok (.iand, 1) := by decide +kernel
theorem dX8_least_7 : decode cX8_least 7 = .ok (.ifCond .ne 9, 3) := by decide +kernel
theorem dX8_least_10 : decode cX8_least 10 = .ok (.iinc 1 1, 3) := by decide +kernel
theorem dX8_least_13 : decode cX8_least 13 = .ok (.goto (-11), 3) := by decide +kernel
theorem dX8_least_16 : decode cX8_least 16 = .ok (.iload_n 1, 1) := by decide +kernel
theorem dX8_least_17 : decode cX8_least 17 = .ok (.ireturn, 1) := by decide +kernel
set_option maxRecDepth 20000 in
theorem ggX8_groups_X8_isVersion : GoodIn wsX8_groups wsX8_isVersion := goodIn_r _ [6, 7, 8, 9, 5, 10, 64, 65, 66, 67, 68, 69, 70, 71, 72, 73, 74, 75, 76, 77, 78, 79, 80, 81, 82] (by decide +kernel) (by decide +kernel)
set_option maxRecDepth 20000 in
theorem gX8_groups_X8_isVersion : GoodIn wsX8_groups (wsV RX8 72 RX8 yX8_isVersion wsX8_isVersion) := goodIn_app (goodIn_of _ (by decide +kernel)) ggX8_groups_X8_isVersion
set_option maxRecDepth 20000 in
theorem ggX8_groups_X8_isWay : GoodIn wsX8_groups wsX8_isWay := goodIn_r _ [13, 8, 9, 5, 10] (by decide +kernel) (by decide +kernel)
set_option maxRecDepth 20000 in
theorem gX8_groups_X8_isWay : GoodIn wsX8_groups (va_wsS RX8 105 yX8_isWay wsX8_isWay) := goodIn_app (goodIn_of _ (by decide +kernel)) ggX8_groups_X8_isWay
set_option maxRecDepth 20000 in
theorem ggX8_groups_X8_isLength : GoodIn wsX8_groups wsX8_isLength := goodIn_r _ [16, 8, 9, 5, 10] (by decide +kernel) (by decide +kernel)
set_option maxRecDepth 20000 in
theorem gX8_groups_X8_isLength : GoodIn wsX8_groups (va_wsS RX8 111 yX8_isLength wsX8_isLength) := goodIn_app (goodIn_of _ (by decide +kernel)) ggX8_groups_X8_isLength
set_option maxRecDepth 20000 in
theorem ggX8_groups_X8_likeOf : GoodIn wsX8_groups wsX8_likeOf := goodIn_r _ [20, 1, 21, 22, 23, 5, 24, 25, 26, 27, 28, 29, 30, 31, 32, 33, 34, 35, 36, 37, 38, 39, 40, 41, 42, 43, 44, 45, 46, 47, 48, 49, 50, 8, 9, 10, 51, 52, 53, 54, 55, 56, 57, 64, 65, 66, 67, 68, 69, 70, 71, 72, 73, 74, 75, 76, 77, 78, 79, 80, 81, 82] (by decide +kernel) (by decide +kernel)
set_option maxRecDepth 20000 in
theorem gX8_groups_X8_likeOf : GoodIn wsX8_groups (wsV RX8 122 RX8 yX8_likeOf wsX8_likeOf) := goodIn_app (goodIn_of _ (by decide +kernel)) ggX8_groups_X8_likeOf
set_option maxRecDepth 20000 in
theorem ggX8_groups_X8_bits : GoodIn wsX8_groups wsX8_bits := goodIn_r _ [60] (by decide +kernel) (by decide +kernel)
set_option maxRecDepth 20000 in
theorem gX8_groups_X8_bits : GoodIn wsX8_groups (va_wsS RX8 126 yX8_bits wsX8_bits) := goodIn_app (goodIn_of _ (by decide +kernel)) ggX8_groups_X8_bits
set_option maxRecDepth 20000 in
theorem ggX8_groups_X8_least : GoodIn wsX8_groups wsX8_least := goodIn_r _ [63] (by decide +kernel) (by decide +kernel)
set_option maxRecDepth 20000 in
theorem gX8_groups_X8_least : GoodIn wsX8_groups (va_wsS RX8 130 yX8_least wsX8_least) := goodIn_app (goodIn_of _ (by decide +kernel)) ggX8_groups_X8_least
theorem dX8_groups_0 : decode cX8_groups 0 = .ok (.aload_n 0, 1) := by decide +kernel
theorem dX8_groups_1 : decode cX8_groups 1 = .ok (.iload_n 1, 1) := by decide +kernel
theorem dX8_groups_2 : decode cX8_groups 2 = .ok (.invokevirtual 72, 3) := by decide +kernel
theorem dX8_groups_5 : decode cX8_groups 5 = .ok (.ifCond .ne 5, 3) := by decide +kernel
theorem dX8_groups_8 : decode cX8_groups 8 = .ok (.iconst (-1), 1) := by decide +kernel
theorem dX8_groups_9 : decode cX8_groups 9 = .ok (.ireturn, 1) := by decide +kernel
theorem dX8_groups_10 : decode cX8_groups 10 = .ok (.iload_n 2, 1) := by decide +kernel
theorem dX8_groups_11 : decode cX8_groups 11 = .ok (.invokestatic 105, 3) := by decide +kernel
theorem dX8_groups_14 : decode cX8_groups 14 = .ok (.ifCond .eq 10, 3) := by decide +kernel
theorem dX8_groups_17 : decode cX8_groups 17 = .ok (.iload_n 3, 1) := by decide +kernel
theorem dX8_groups_18 : decode cX8_groups 18 = .ok (.invokestatic 111, 3) := by decide +kernel
theorem dX8_groups_21 : decode cX8_groups 21 = .ok (.ifCond .ne 6, 3) := by decide +kernel
theorem dX8_groups_24 : decode cX8_groups 24 = .ok (.bipush (-2), 2) := by decide +kernel
theorem dX8_groups_26 : decode cX8_groups 26 = .ok (.ireturn, 1) := by decide +kernel
theorem dX8_groups_27 : decode cX8_groups 27 = .ok (.iconst 0, 1) := by decide +kernel
theorem dX8_groups_28 : decode cX8_groups 28 = .ok (.istore 5, 2) := by decide +kernel
theorem dX8_groups_30 : decode cX8_groups 30 = .ok (.iconst 0, 1) := by decide +kernel
theorem dX8_groups_31 : decode cX8_groups 31 = .ok (.istore 6, 2) := by decide +kernel
theorem dX8_groups_33 : decode cX8_groups 33 = .ok (.iload 6, 2) := by decide +kernel
theorem dX8_groups_35 : decode cX8_groups 35 = .ok (.iload_n 3, 1) := by decide +kernel
theorem dX8_groups_36 : decode cX8_groups 36 = .ok (.iadd, 1) := by decide +kernel
theorem dX8_groups_37 : decode cX8_groups 37 = .ok (.aload_n 0, 1) := by decide +kernel
theorem dX8_groups_38 : decode cX8_groups 38 = .ok (.getfield 58, 3) := by decide +kernel
theorem dX8_groups_41 : decode cX8_groups 41 = .ok (.if_icmp .gt 52, 3) := by decide +kernel
theorem dX8_groups_44 : decode cX8_groups 44 = .ok (.aload_n 0, 1) := by decide +kernel
theorem dX8_groups_45 : decode cX8_groups 45 = .ok (.iload_n 1, 1) := by decide +kernel
theorem dX8_groups_46 : decode cX8_groups 46 = .ok (.iload_n 2, 1) := by decide +kernel
theorem dX8_groups_47 : decode cX8_groups 47 = .ok (.iload 6, 2) := by decide +kernel
theorem dX8_groups_49 : decode cX8_groups 49 = .ok (.iload_n 3, 1) := by decide +kernel
theorem dX8_groups_50 : decode cX8_groups 50 = .ok (.invokevirtual 122, 3) := by decide +kernel
theorem dX8_groups_53 : decode cX8_groups 53 = .ok (.istore 7, 2) := by decide +kernel
theorem dX8_groups_55 : decode cX8_groups 55 = .ok (.iload 7, 2) := by decide +kernel
theorem dX8_groups_57 : decode cX8_groups 57 = .ok (.invokestatic 126, 3) := by decide +kernel
theorem dX8_groups_60 : decode cX8_groups 60 = .ok (.iconst 1, 1) := by decide +kernel
theorem dX8_groups_61 : decode cX8_groups 61 = .ok (.if_icmp .le 26, 3) := by decide +kernel
theorem dX8_groups_64 : decode cX8_groups 64 = .ok (.iload 7, 2) := by decide +kernel
theorem dX8_groups_66 : decode cX8_groups 66 = .ok (.invokestatic 130, 3) := by decide +kernel
theorem dX8_groups_69 : decode cX8_groups 69 = .ok (.iload 6, 2) := by decide +kernel
theorem dX8_groups_71 : decode cX8_groups 71 = .ok (.if_icmp .ne 16, 3) := by decide +kernel
theorem dX8_groups_74 : decode cX8_groups 74 = .ok (.iload 5, 2) := by decide +kernel
theorem dX8_groups_76 : decode cX8_groups 76 = .ok (.iload 4, 2) := by decide +kernel
theorem dX8_groups_78 : decode cX8_groups 78 = .ok (.if_icmp .ne 6, 3) := by decide +kernel
theorem dX8_groups_81 : decode cX8_groups 81 = .ok (.iload 6, 2) := by decide +kernel
theorem dX8_groups_83 : decode cX8_groups 83 = .ok (.ireturn, 1) := by decide +kernel
theorem dX8_groups_84 : decode cX8_groups 84 = .ok (.iinc 5 1, 3) := by decide +kernel
theorem dX8_groups_87 : decode cX8_groups 87 = .ok (.iinc 6 1, 3) := by decide +kernel
theorem dX8_groups_90 : decode cX8_groups 90 = .ok (.goto (-57), 3) := by decide +kernel
theorem dX8_groups_93 : decode cX8_groups 93 = .ok (.iload 4, 2) := by decide +kernel
theorem dX8_groups_95 : decode cX8_groups 95 = .ok (.iconst (-1), 1) := by decide +kernel
theorem dX8_groups_96 : decode cX8_groups 96 = .ok (.if_icmp .ne 8, 3) := by decide +kernel
theorem dX8_groups_99 : decode cX8_groups 99 = .ok (.iload 5, 2) := by decide +kernel
theorem dX8_groups_101 : decode cX8_groups 101 = .ok (.goto 5, 3) := by decide +kernel
theorem dX8_groups_104 : decode cX8_groups 104 = .ok (.bipush (-6), 2) := by decide +kernel
theorem dX8_groups_106 : decode cX8_groups 106 = .ok (.ireturn, 1) := by decide +kernel
set_option maxRecDepth 20000 in
theorem ggX8_whole_X8_isVersion : GoodIn wsX8_whole wsX8_isVersion := goodIn_r _ [5, 6, 7, 8, 4, 9, 67, 68, 69, 70, 71, 72, 73, 74, 75, 76, 77, 78, 79, 80, 81, 82, 83, 84, 85] (by decide +kernel) (by decide +kernel)
set_option maxRecDepth 20000 in
theorem gX8_whole_X8_isVersion : GoodIn wsX8_whole (wsV RX8 72 RX8 yX8_isVersion wsX8_isVersion) := goodIn_app (goodIn_of _ (by decide +kernel)) ggX8_whole_X8_isVersion
set_option maxRecDepth 20000 in
theorem ggX8_whole_X8_isWay : GoodIn wsX8_whole wsX8_isWay := goodIn_r _ [12, 7, 8, 4, 9] (by decide +kernel) (by decide +kernel)
set_option maxRecDepth 20000 in
theorem gX8_whole_X8_isWay : GoodIn wsX8_whole (va_wsS RX8 105 yX8_isWay wsX8_isWay) := goodIn_app (goodIn_of _ (by decide +kernel)) ggX8_whole_X8_isWay
set_option maxRecDepth 20000 in
theorem ggX8_whole_X8_isStart : GoodIn wsX8_whole wsX8_isStart := goodIn_r _ [15, 7, 8, 4, 9] (by decide +kernel) (by decide +kernel)
set_option maxRecDepth 20000 in
theorem gX8_whole_X8_isStart : GoodIn wsX8_whole (va_wsS RX8 108 yX8_isStart wsX8_isStart) := goodIn_app (goodIn_of _ (by decide +kernel)) ggX8_whole_X8_isStart
set_option maxRecDepth 20000 in
theorem ggX8_whole_X8_isLength : GoodIn wsX8_whole wsX8_isLength := goodIn_r _ [18, 7, 8, 4, 9] (by decide +kernel) (by decide +kernel)
set_option maxRecDepth 20000 in
theorem gX8_whole_X8_isLength : GoodIn wsX8_whole (va_wsS RX8 111 yX8_isLength wsX8_isLength) := goodIn_app (goodIn_of _ (by decide +kernel)) ggX8_whole_X8_isLength
set_option maxRecDepth 20000 in
theorem ggX8_whole_X8_likeOf : GoodIn wsX8_whole wsX8_likeOf := goodIn_r _ [22, 23, 24, 25, 26, 4, 27, 28, 29, 30, 31, 32, 33, 34, 35, 36, 37, 38, 39, 40, 41, 42, 43, 44, 45, 46, 47, 48, 49, 50, 51, 52, 53, 7, 8, 9, 54, 55, 56, 57, 58, 59, 60, 67, 68, 69, 70, 71, 72, 73, 74, 75, 76, 77, 78, 79, 80, 81, 82, 83, 84, 85] (by decide +kernel) (by decide +kernel)
set_option maxRecDepth 20000 in
theorem gX8_whole_X8_likeOf : GoodIn wsX8_whole (wsV RX8 122 RX8 yX8_likeOf wsX8_likeOf) := goodIn_app (goodIn_of _ (by decide +kernel)) ggX8_whole_X8_likeOf
set_option maxRecDepth 20000 in
theorem ggX8_whole_X8_bits : GoodIn wsX8_whole wsX8_bits := goodIn_r _ [63] (by decide +kernel) (by decide +kernel)
set_option maxRecDepth 20000 in
theorem gX8_whole_X8_bits : GoodIn wsX8_whole (va_wsS RX8 126 yX8_bits wsX8_bits) := goodIn_app (goodIn_of _ (by decide +kernel)) ggX8_whole_X8_bits
set_option maxRecDepth 20000 in
theorem ggX8_whole_X8_least : GoodIn wsX8_whole wsX8_least := goodIn_r _ [66] (by decide +kernel) (by decide +kernel)
set_option maxRecDepth 20000 in
theorem gX8_whole_X8_least : GoodIn wsX8_whole (va_wsS RX8 130 yX8_least wsX8_least) := goodIn_app (goodIn_of _ (by decide +kernel)) ggX8_whole_X8_least
theorem dX8_whole_0 : decode cX8_whole 0 = .ok (.aload_n 0, 1) := by decide +kernel
theorem dX8_whole_1 : decode cX8_whole 1 = .ok (.iload_n 1, 1) := by decide +kernel
theorem dX8_whole_2 : decode cX8_whole 2 = .ok (.invokevirtual 72, 3) := by decide +kernel
theorem dX8_whole_5 : decode cX8_whole 5 = .ok (.ifCond .ne 5, 3) := by decide +kernel
theorem dX8_whole_8 : decode cX8_whole 8 = .ok (.iconst (-1), 1) := by decide +kernel
theorem dX8_whole_9 : decode cX8_whole 9 = .ok (.ireturn, 1) := by decide +kernel
theorem dX8_whole_10 : decode cX8_whole 10 = .ok (.iload_n 2, 1) := by decide +kernel
theorem dX8_whole_11 : decode cX8_whole 11 = .ok (.invokestatic 105, 3) := by decide +kernel
theorem dX8_whole_14 : decode cX8_whole 14 = .ok (.ifCond .eq 18, 3) := by decide +kernel
theorem dX8_whole_17 : decode cX8_whole 17 = .ok (.iload_n 3, 1) := by decide +kernel
theorem dX8_whole_18 : decode cX8_whole 18 = .ok (.invokestatic 108, 3) := by decide +kernel
theorem dX8_whole_21 : decode cX8_whole 21 = .ok (.ifCond .eq 11, 3) := by decide +kernel
theorem dX8_whole_24 : decode cX8_whole 24 = .ok (.iload 4, 2) := by decide +kernel
theorem dX8_whole_26 : decode cX8_whole 26 = .ok (.invokestatic 111, 3) := by decide +kernel
theorem dX8_whole_29 : decode cX8_whole 29 = .ok (.ifCond .ne 6, 3) := by decide +kernel
theorem dX8_whole_32 : decode cX8_whole 32 = .ok (.bipush (-2), 2) := by decide +kernel
theorem dX8_whole_34 : decode cX8_whole 34 = .ok (.ireturn, 1) := by decide +kernel
theorem dX8_whole_35 : decode cX8_whole 35 = .ok (.aload_n 0, 1) := by decide +kernel
theorem dX8_whole_36 : decode cX8_whole 36 = .ok (.iload_n 1, 1) := by decide +kernel
theorem dX8_whole_37 : decode cX8_whole 37 = .ok (.iload_n 2, 1) := by decide +kernel
theorem dX8_whole_38 : decode cX8_whole 38 = .ok (.iload_n 3, 1) := by decide +kernel
theorem dX8_whole_39 : decode cX8_whole 39 = .ok (.iload 4, 2) := by decide +kernel
theorem dX8_whole_41 : decode cX8_whole 41 = .ok (.invokevirtual 122, 3) := by decide +kernel
theorem dX8_whole_44 : decode cX8_whole 44 = .ok (.istore 5, 2) := by decide +kernel
theorem dX8_whole_46 : decode cX8_whole 46 = .ok (.iload 5, 2) := by decide +kernel
theorem dX8_whole_48 : decode cX8_whole 48 = .ok (.invokestatic 126, 3) := by decide +kernel
theorem dX8_whole_51 : decode cX8_whole 51 = .ok (.iconst 2, 1) := by decide +kernel
theorem dX8_whole_52 : decode cX8_whole 52 = .ok (.if_icmp .ge 6, 3) := by decide +kernel
theorem dX8_whole_55 : decode cX8_whole 55 = .ok (.bipush (-5), 2) := by decide +kernel
theorem dX8_whole_57 : decode cX8_whole 57 = .ok (.ireturn, 1) := by decide +kernel
theorem dX8_whole_58 : decode cX8_whole 58 = .ok (.iload 5, 2) := by decide +kernel
theorem dX8_whole_60 : decode cX8_whole 60 = .ok (.invokestatic 130, 3) := by decide +kernel
theorem dX8_whole_63 : decode cX8_whole 63 = .ok (.istore 6, 2) := by decide +kernel
theorem dX8_whole_65 : decode cX8_whole 65 = .ok (.aload_n 0, 1) := by decide +kernel
theorem dX8_whole_66 : decode cX8_whole 66 = .ok (.iload_n 1, 1) := by decide +kernel
theorem dX8_whole_67 : decode cX8_whole 67 = .ok (.iload_n 2, 1) := by decide +kernel
theorem dX8_whole_68 : decode cX8_whole 68 = .ok (.iload 6, 2) := by decide +kernel
theorem dX8_whole_70 : decode cX8_whole 70 = .ok (.iload 4, 2) := by decide +kernel
theorem dX8_whole_72 : decode cX8_whole 72 = .ok (.iconst 1, 1) := by decide +kernel
theorem dX8_whole_73 : decode cX8_whole 73 = .ok (.iadd, 1) := by decide +kernel
theorem dX8_whole_74 : decode cX8_whole 74 = .ok (.invokevirtual 122, 3) := by decide +kernel
theorem dX8_whole_77 : decode cX8_whole 77 = .ok (.iload 5, 2) := by decide +kernel
theorem dX8_whole_79 : decode cX8_whole 79 = .ok (.if_icmp .ne 7, 3) := by decide +kernel
theorem dX8_whole_82 : decode cX8_whole 82 = .ok (.iconst 1, 1) := by decide +kernel
theorem dX8_whole_83 : decode cX8_whole 83 = .ok (.goto 4, 3) := by decide +kernel
theorem dX8_whole_86 : decode cX8_whole 86 = .ok (.iconst 0, 1) := by decide +kernel
theorem dX8_whole_87 : decode cX8_whole 87 = .ok (.istore 7, 2) := by decide +kernel
theorem dX8_whole_89 : decode cX8_whole 89 = .ok (.iload 6, 2) := by decide +kernel
theorem dX8_whole_91 : decode cX8_whole 91 = .ok (.ifCond .le 28, 3) := by decide +kernel
theorem dX8_whole_94 : decode cX8_whole 94 = .ok (.aload_n 0, 1) := by decide +kernel
theorem dX8_whole_95 : decode cX8_whole 95 = .ok (.iload_n 1, 1) := by decide +kernel
theorem dX8_whole_96 : decode cX8_whole 96 = .ok (.iload_n 2, 1) := by decide +kernel
theorem dX8_whole_97 : decode cX8_whole 97 = .ok (.iload 6, 2) := by decide +kernel
theorem dX8_whole_99 : decode cX8_whole 99 = .ok (.iconst 1, 1) := by decide +kernel
theorem dX8_whole_100 : decode cX8_whole 100 = .ok (.isub, 1) := by decide +kernel
theorem dX8_whole_101 : decode cX8_whole 101 = .ok (.iload 4, 2) := by decide +kernel
theorem dX8_whole_103 : decode cX8_whole 103 = .ok (.iconst 1, 1) := by decide +kernel
theorem dX8_whole_104 : decode cX8_whole 104 = .ok (.iadd, 1) := by decide +kernel
theorem dX8_whole_105 : decode cX8_whole 105 = .ok (.invokevirtual 122, 3) := by decide +kernel
theorem dX8_whole_108 : decode cX8_whole 108 = .ok (.iload 5, 2) := by decide +kernel
theorem dX8_whole_110 : decode cX8_whole 110 = .ok (.iconst 1, 1) := by decide +kernel
theorem dX8_whole_111 : decode cX8_whole 111 = .ok (.ishr, 1) := by decide +kernel
theorem dX8_whole_112 : decode cX8_whole 112 = .ok (.if_icmp .ne 7, 3) := by decide +kernel
theorem dX8_whole_115 : decode cX8_whole 115 = .ok (.iconst 1, 1) := by decide +kernel
theorem dX8_whole_116 : decode cX8_whole 116 = .ok (.goto 4, 3) := by decide +kernel
theorem dX8_whole_119 : decode cX8_whole 119 = .ok (.iconst 0, 1) := by decide +kernel
theorem dX8_whole_120 : decode cX8_whole 120 = .ok (.istore 8, 2) := by decide +kernel
theorem dX8_whole_122 : decode cX8_whole 122 = .ok (.iload 7, 2) := by decide +kernel
theorem dX8_whole_124 : decode cX8_whole 124 = .ok (.ifCond .ne 8, 3) := by decide +kernel
theorem dX8_whole_127 : decode cX8_whole 127 = .ok (.iload 8, 2) := by decide +kernel
theorem dX8_whole_129 : decode cX8_whole 129 = .ok (.ifCond .eq 7, 3) := by decide +kernel
theorem dX8_whole_132 : decode cX8_whole 132 = .ok (.iconst 0, 1) := by decide +kernel
theorem dX8_whole_133 : decode cX8_whole 133 = .ok (.goto 4, 3) := by decide +kernel
theorem dX8_whole_136 : decode cX8_whole 136 = .ok (.iconst 1, 1) := by decide +kernel
theorem dX8_whole_137 : decode cX8_whole 137 = .ok (.ireturn, 1) := by decide +kernel
theorem dX8_takenOf_0 : decode cX8_takenOf 0 = .ok (.iconst 0, 1) := by decide +kernel
theorem dX8_takenOf_1 : decode cX8_takenOf 1 = .ok (.istore_n 3, 1) := by decide +kernel
theorem dX8_takenOf_2 : decode cX8_takenOf 2 = .ok (.iconst 0, 1) := by decide +kernel
theorem dX8_takenOf_3 : decode cX8_takenOf 3 = .ok (.istore 4, 2) := by decide +kernel
theorem dX8_takenOf_5 : decode cX8_takenOf 5 = .ok (.iconst 0, 1) := by decide +kernel
theorem dX8_takenOf_6 : decode cX8_takenOf 6 = .ok (.istore 5, 2) := by decide +kernel
theorem dX8_takenOf_8 : decode cX8_takenOf 8 = .ok (.iload 5, 2) := by decide +kernel
theorem dX8_takenOf_10 : decode cX8_takenOf 10 = .ok (.aload_n 0, 1) := by decide +kernel
theorem dX8_takenOf_11 : decode cX8_takenOf 11 = .ok (.getfield 58, 3) := by decide +kernel
theorem dX8_takenOf_14 : decode cX8_takenOf 14 = .ok (.if_icmp .ge 39, 3) := by decide +kernel
theorem dX8_takenOf_17 : decode cX8_takenOf 17 = .ok (.iload_n 1, 1) := by decide +kernel
theorem dX8_takenOf_18 : decode cX8_takenOf 18 = .ok (.iload 5, 2) := by decide +kernel
theorem dX8_takenOf_20 : decode cX8_takenOf 20 = .ok (.ishr, 1) := by decide +kernel
theorem dX8_takenOf_21 : decode cX8_takenOf 21 = .ok (.iconst 1, 1) := by decide +kernel
theorem dX8_takenOf_22 : decode cX8_takenOf 22 = .ok (.iand, 1) := by decide +kernel
theorem dX8_takenOf_23 : decode cX8_takenOf 23 = .ok (.iconst 1, 1) := by decide +kernel
theorem dX8_takenOf_24 : decode cX8_takenOf 24 = .ok (.if_icmp .ne 23, 3) := by decide +kernel
theorem dX8_takenOf_27 : decode cX8_takenOf 27 = .ok (.iload 5, 2) := by decide +kernel
theorem dX8_takenOf_29 : decode cX8_takenOf 29 = .ok (.iload 4, 2) := by decide +kernel
theorem dX8_takenOf_31 : decode cX8_takenOf 31 = .ok (.if_icmp .lt 16, 3) := by decide +kernel
theorem dX8_takenOf_34 : decode cX8_takenOf 34 = .ok (.iload_n 3, 1) := by decide +kernel
theorem dX8_takenOf_35 : decode cX8_takenOf 35 = .ok (.iconst 1, 1) := by decide +kernel
theorem dX8_takenOf_36 : decode cX8_takenOf 36 = .ok (.iload 5, 2) := by decide +kernel
theorem dX8_takenOf_38 : decode cX8_takenOf 38 = .ok (.ishl, 1) := by decide +kernel
theorem dX8_takenOf_39 : decode cX8_takenOf 39 = .ok (.ior, 1) := by decide +kernel
theorem dX8_takenOf_40 : decode cX8_takenOf 40 = .ok (.istore_n 3, 1) := by decide +kernel
theorem dX8_takenOf_41 : decode cX8_takenOf 41 = .ok (.iload 5, 2) := by decide +kernel
theorem dX8_takenOf_43 : decode cX8_takenOf 43 = .ok (.iload_n 2, 1) := by decide +kernel
theorem dX8_takenOf_44 : decode cX8_takenOf 44 = .ok (.iadd, 1) := by decide +kernel
theorem dX8_takenOf_45 : decode cX8_takenOf 45 = .ok (.istore 4, 2) := by decide +kernel
theorem dX8_takenOf_47 : decode cX8_takenOf 47 = .ok (.iinc 5 1, 3) := by decide +kernel
theorem dX8_takenOf_50 : decode cX8_takenOf 50 = .ok (.goto (-42), 3) := by decide +kernel
theorem dX8_takenOf_53 : decode cX8_takenOf 53 = .ok (.iload_n 3, 1) := by decide +kernel
theorem dX8_takenOf_54 : decode cX8_takenOf 54 = .ok (.ireturn, 1) := by decide +kernel
set_option maxRecDepth 20000 in
theorem ggX8_isSame_X8_least : GoodIn wsX8_isSame wsX8_least := goodIn_r _ [5] (by decide +kernel) (by decide +kernel)
set_option maxRecDepth 20000 in
theorem gX8_isSame_X8_least : GoodIn wsX8_isSame (va_wsS RX8 130 yX8_least wsX8_least) := goodIn_app (goodIn_of _ (by decide +kernel)) ggX8_isSame_X8_least
set_option maxRecDepth 20000 in
theorem ggX8_isSame_X8_signAt : GoodIn wsX8_isSame wsX8_signAt := goodIn_r _ [9, 10, 11, 12, 13, 14, 15, 16, 17, 18, 19, 20, 21, 22, 23, 24, 25, 26, 27, 28, 29] (by decide +kernel) (by decide +kernel)
set_option maxRecDepth 20000 in
theorem gX8_isSame_X8_signAt : GoodIn wsX8_isSame (wsV RX8 79 RX8 yX8_signAt wsX8_signAt) := goodIn_app (goodIn_of _ (by decide +kernel)) ggX8_isSame_X8_signAt
theorem dX8_isSame_0 : decode cX8_isSame 0 = .ok (.aload_n 0, 1) := by decide +kernel
theorem dX8_isSame_1 : decode cX8_isSame 1 = .ok (.iload_n 1, 1) := by decide +kernel
theorem dX8_isSame_2 : decode cX8_isSame 2 = .ok (.iload_n 2, 1) := by decide +kernel
theorem dX8_isSame_3 : decode cX8_isSame 3 = .ok (.invokestatic 130, 3) := by decide +kernel
theorem dX8_isSame_6 : decode cX8_isSame 6 = .ok (.iload_n 3, 1) := by decide +kernel
theorem dX8_isSame_7 : decode cX8_isSame 7 = .ok (.iadd, 1) := by decide +kernel
theorem dX8_isSame_8 : decode cX8_isSame 8 = .ok (.iload 4, 2) := by decide +kernel
theorem dX8_isSame_10 : decode cX8_isSame 10 = .ok (.invokevirtual 79, 3) := by decide +kernel
theorem dX8_isSame_13 : decode cX8_isSame 13 = .ok (.istore 5, 2) := by decide +kernel
theorem dX8_isSame_15 : decode cX8_isSame 15 = .ok (.iconst 1, 1) := by decide +kernel
theorem dX8_isSame_16 : decode cX8_isSame 16 = .ok (.istore 6, 2) := by decide +kernel
theorem dX8_isSame_18 : decode cX8_isSame 18 = .ok (.iconst 0, 1) := by decide +kernel
theorem dX8_isSame_19 : decode cX8_isSame 19 = .ok (.istore 7, 2) := by decide +kernel
theorem dX8_isSame_21 : decode cX8_isSame 21 = .ok (.iload 7, 2) := by decide +kernel
theorem dX8_isSame_23 : decode cX8_isSame 23 = .ok (.aload_n 0, 1) := by decide +kernel
theorem dX8_isSame_24 : decode cX8_isSame 24 = .ok (.getfield 58, 3) := by decide +kernel
theorem dX8_isSame_27 : decode cX8_isSame 27 = .ok (.if_icmp .ge 46, 3) := by decide +kernel
theorem dX8_isSame_30 : decode cX8_isSame 30 = .ok (.iload 6, 2) := by decide +kernel
theorem dX8_isSame_32 : decode cX8_isSame 32 = .ok (.ifCond .eq 32, 3) := by decide +kernel
theorem dX8_isSame_35 : decode cX8_isSame 35 = .ok (.iload_n 2, 1) := by decide +kernel
theorem dX8_isSame_36 : decode cX8_isSame 36 = .ok (.iload 7, 2) := by decide +kernel
theorem dX8_isSame_38 : decode cX8_isSame 38 = .ok (.ishr, 1) := by decide +kernel
theorem dX8_isSame_39 : decode cX8_isSame 39 = .ok (.iconst 1, 1) := by decide +kernel
theorem dX8_isSame_40 : decode cX8_isSame 40 = .ok (.iand, 1) := by decide +kernel
theorem dX8_isSame_41 : decode cX8_isSame 41 = .ok (.ifCond .eq 19, 3) := by decide +kernel
theorem dX8_isSame_44 : decode cX8_isSame 44 = .ok (.aload_n 0, 1) := by decide +kernel
theorem dX8_isSame_45 : decode cX8_isSame 45 = .ok (.iload_n 1, 1) := by decide +kernel
theorem dX8_isSame_46 : decode cX8_isSame 46 = .ok (.iload 7, 2) := by decide +kernel
theorem dX8_isSame_48 : decode cX8_isSame 48 = .ok (.iload_n 3, 1) := by decide +kernel
theorem dX8_isSame_49 : decode cX8_isSame 49 = .ok (.iadd, 1) := by decide +kernel
theorem dX8_isSame_50 : decode cX8_isSame 50 = .ok (.iload 4, 2) := by decide +kernel
theorem dX8_isSame_52 : decode cX8_isSame 52 = .ok (.invokevirtual 79, 3) := by decide +kernel
theorem dX8_isSame_55 : decode cX8_isSame 55 = .ok (.iload 5, 2) := by decide +kernel
theorem dX8_isSame_57 : decode cX8_isSame 57 = .ok (.if_icmp .ne 7, 3) := by decide +kernel
theorem dX8_isSame_60 : decode cX8_isSame 60 = .ok (.iconst 1, 1) := by decide +kernel
theorem dX8_isSame_61 : decode cX8_isSame 61 = .ok (.goto 4, 3) := by decide +kernel
theorem dX8_isSame_64 : decode cX8_isSame 64 = .ok (.iconst 0, 1) := by decide +kernel
theorem dX8_isSame_65 : decode cX8_isSame 65 = .ok (.istore 6, 2) := by decide +kernel
theorem dX8_isSame_67 : decode cX8_isSame 67 = .ok (.iinc 7 1, 3) := by decide +kernel
theorem dX8_isSame_70 : decode cX8_isSame 70 = .ok (.goto (-49), 3) := by decide +kernel
theorem dX8_isSame_73 : decode cX8_isSame 73 = .ok (.iload 6, 2) := by decide +kernel
theorem dX8_isSame_75 : decode cX8_isSame 75 = .ok (.ireturn, 1) := by decide +kernel
set_option maxRecDepth 20000 in
theorem ggX8_areOne_X8_signAt : GoodIn wsX8_areOne wsX8_signAt := goodIn_r _ [6, 7, 8, 9, 10, 11, 12, 13, 14, 15, 16, 17, 18, 19, 20, 21, 22, 23, 24, 25, 26] (by decide +kernel) (by decide +kernel)
set_option maxRecDepth 20000 in
theorem gX8_areOne_X8_signAt : GoodIn wsX8_areOne (wsV RX8 79 RX8 yX8_signAt wsX8_signAt) := goodIn_app (goodIn_of _ (by decide +kernel)) ggX8_areOne_X8_signAt
theorem dX8_areOne_0 : decode cX8_areOne 0 = .ok (.iconst 1, 1) := by decide +kernel
theorem dX8_areOne_1 : decode cX8_areOne 1 = .ok (.istore 7, 2) := by decide +kernel
theorem dX8_areOne_3 : decode cX8_areOne 3 = .ok (.iconst 0, 1) := by decide +kernel
theorem dX8_areOne_4 : decode cX8_areOne 4 = .ok (.istore 8, 2) := by decide +kernel
theorem dX8_areOne_6 : decode cX8_areOne 6 = .ok (.iload 8, 2) := by decide +kernel
theorem dX8_areOne_8 : decode cX8_areOne 8 = .ok (.aload_n 0, 1) := by decide +kernel
theorem dX8_areOne_9 : decode cX8_areOne 9 = .ok (.getfield 58, 3) := by decide +kernel
theorem dX8_areOne_12 : decode cX8_areOne 12 = .ok (.if_icmp .ge 56, 3) := by decide +kernel
theorem dX8_areOne_15 : decode cX8_areOne 15 = .ok (.iload 7, 2) := by decide +kernel
theorem dX8_areOne_17 : decode cX8_areOne 17 = .ok (.ifCond .eq 42, 3) := by decide +kernel
theorem dX8_areOne_20 : decode cX8_areOne 20 = .ok (.iload_n 2, 1) := by decide +kernel
theorem dX8_areOne_21 : decode cX8_areOne 21 = .ok (.iload 8, 2) := by decide +kernel
theorem dX8_areOne_23 : decode cX8_areOne 23 = .ok (.ishr, 1) := by decide +kernel
theorem dX8_areOne_24 : decode cX8_areOne 24 = .ok (.iconst 1, 1) := by decide +kernel
theorem dX8_areOne_25 : decode cX8_areOne 25 = .ok (.iand, 1) := by decide +kernel
theorem dX8_areOne_26 : decode cX8_areOne 26 = .ok (.ifCond .eq 29, 3) := by decide +kernel
theorem dX8_areOne_29 : decode cX8_areOne 29 = .ok (.aload_n 0, 1) := by decide +kernel
theorem dX8_areOne_30 : decode cX8_areOne 30 = .ok (.iload_n 1, 1) := by decide +kernel
theorem dX8_areOne_31 : decode cX8_areOne 31 = .ok (.iload 8, 2) := by decide +kernel
theorem dX8_areOne_33 : decode cX8_areOne 33 = .ok (.iload_n 3, 1) := by decide +kernel
theorem dX8_areOne_34 : decode cX8_areOne 34 = .ok (.iadd, 1) := by decide +kernel
theorem dX8_areOne_35 : decode cX8_areOne 35 = .ok (.iload 4, 2) := by decide +kernel
theorem dX8_areOne_37 : decode cX8_areOne 37 = .ok (.invokevirtual 79, 3) := by decide +kernel
theorem dX8_areOne_40 : decode cX8_areOne 40 = .ok (.aload_n 0, 1) := by decide +kernel
theorem dX8_areOne_41 : decode cX8_areOne 41 = .ok (.iload_n 1, 1) := by decide +kernel
theorem dX8_areOne_42 : decode cX8_areOne 42 = .ok (.iload 8, 2) := by decide +kernel
theorem dX8_areOne_44 : decode cX8_areOne 44 = .ok (.iload 5, 2) := by decide +kernel
theorem dX8_areOne_46 : decode cX8_areOne 46 = .ok (.iadd, 1) := by decide +kernel
theorem dX8_areOne_47 : decode cX8_areOne 47 = .ok (.iload 6, 2) := by decide +kernel
theorem dX8_areOne_49 : decode cX8_areOne 49 = .ok (.invokevirtual 79, 3) := by decide +kernel
theorem dX8_areOne_52 : decode cX8_areOne 52 = .ok (.if_icmp .ne 7, 3) := by decide +kernel
theorem dX8_areOne_55 : decode cX8_areOne 55 = .ok (.iconst 1, 1) := by decide +kernel
theorem dX8_areOne_56 : decode cX8_areOne 56 = .ok (.goto 4, 3) := by decide +kernel
theorem dX8_areOne_59 : decode cX8_areOne 59 = .ok (.iconst 0, 1) := by decide +kernel
theorem dX8_areOne_60 : decode cX8_areOne 60 = .ok (.istore 7, 2) := by decide +kernel
theorem dX8_areOne_62 : decode cX8_areOne 62 = .ok (.iinc 8 1, 3) := by decide +kernel
theorem dX8_areOne_65 : decode cX8_areOne 65 = .ok (.goto (-59), 3) := by decide +kernel
theorem dX8_areOne_68 : decode cX8_areOne 68 = .ok (.iload 7, 2) := by decide +kernel
theorem dX8_areOne_70 : decode cX8_areOne 70 = .ok (.ireturn, 1) := by decide +kernel
set_option maxRecDepth 20000 in
theorem ggX8_isTold_X8_least : GoodIn wsX8_isTold wsX8_least := goodIn_r _ [4] (by decide +kernel) (by decide +kernel)
set_option maxRecDepth 20000 in
theorem gX8_isTold_X8_least : GoodIn wsX8_isTold (va_wsS RX8 130 yX8_least wsX8_least) := goodIn_app (goodIn_of _ (by decide +kernel)) ggX8_isTold_X8_least
set_option maxRecDepth 20000 in
theorem ggX8_isTold_X8_signAt : GoodIn wsX8_isTold wsX8_signAt := goodIn_r _ [8, 9, 24, 25, 26, 27, 28, 29, 30, 31, 32, 33, 34, 35, 36, 37, 38, 39, 40, 41, 42] (by decide +kernel) (by decide +kernel)
set_option maxRecDepth 20000 in
theorem gX8_isTold_X8_signAt : GoodIn wsX8_isTold (wsV RX8 79 RX8 yX8_signAt wsX8_signAt) := goodIn_app (goodIn_of _ (by decide +kernel)) ggX8_isTold_X8_signAt
set_option maxRecDepth 20000 in
theorem ggX8_isTold_X8_isName : GoodIn wsX8_isTold wsX8_isName := goodIn_r _ [12, 13, 14, 3, 15] (by decide +kernel) (by decide +kernel)
set_option maxRecDepth 20000 in
theorem gX8_isTold_X8_isName : GoodIn wsX8_isTold (va_wsS RX8 83 yX8_isName wsX8_isName) := goodIn_app (goodIn_of _ (by decide +kernel)) ggX8_isTold_X8_isName
set_option maxRecDepth 20000 in
theorem ggX8_isTold_X8_isNumber : GoodIn wsX8_isTold wsX8_isNumber := goodIn_r _ [18, 13, 14, 3, 15] (by decide +kernel) (by decide +kernel)
set_option maxRecDepth 20000 in
theorem gX8_isTold_X8_isNumber : GoodIn wsX8_isTold (va_wsS RX8 90 yX8_isNumber wsX8_isNumber) := goodIn_app (goodIn_of _ (by decide +kernel)) ggX8_isTold_X8_isNumber
set_option maxRecDepth 20000 in
theorem ggX8_isTold_X8_isSame : GoodIn wsX8_isTold wsX8_isSame := goodIn_r _ [22, 23, 1, 2, 3, 4, 5, 6, 7, 8, 9, 24, 25, 26, 27, 28, 29, 30, 31, 32, 33, 34, 35, 36, 37, 38, 39, 40, 41, 42] (by decide +kernel) (by decide +kernel)
set_option maxRecDepth 20000 in
theorem gX8_isTold_X8_isSame : GoodIn wsX8_isTold (wsV RX8 133 RX8 yX8_isSame wsX8_isSame) := goodIn_app (goodIn_of _ (by decide +kernel)) ggX8_isTold_X8_isSame
theorem dX8_isTold_0 : decode cX8_isTold 0 = .ok (.aload_n 0, 1) := by decide +kernel
theorem dX8_isTold_1 : decode cX8_isTold 1 = .ok (.iload_n 1, 1) := by decide +kernel
theorem dX8_isTold_2 : decode cX8_isTold 2 = .ok (.iload_n 2, 1) := by decide +kernel
theorem dX8_isTold_3 : decode cX8_isTold 3 = .ok (.invokestatic 130, 3) := by decide +kernel
theorem dX8_isTold_6 : decode cX8_isTold 6 = .ok (.iload_n 3, 1) := by decide +kernel
theorem dX8_isTold_7 : decode cX8_isTold 7 = .ok (.iadd, 1) := by decide +kernel
theorem dX8_isTold_8 : decode cX8_isTold 8 = .ok (.iload 4, 2) := by decide +kernel
theorem dX8_isTold_10 : decode cX8_isTold 10 = .ok (.invokevirtual 79, 3) := by decide +kernel
theorem dX8_isTold_13 : decode cX8_isTold 13 = .ok (.istore 5, 2) := by decide +kernel
theorem dX8_isTold_15 : decode cX8_isTold 15 = .ok (.iload 5, 2) := by decide +kernel
theorem dX8_isTold_17 : decode cX8_isTold 17 = .ok (.invokestatic 83, 3) := by decide +kernel
theorem dX8_isTold_20 : decode cX8_isTold 20 = .ok (.ifCond .ne 11, 3) := by decide +kernel
theorem dX8_isTold_23 : decode cX8_isTold 23 = .ok (.iload 5, 2) := by decide +kernel
theorem dX8_isTold_25 : decode cX8_isTold 25 = .ok (.invokestatic 90, 3) := by decide +kernel
theorem dX8_isTold_28 : decode cX8_isTold 28 = .ok (.ifCond .eq 19, 3) := by decide +kernel
theorem dX8_isTold_31 : decode cX8_isTold 31 = .ok (.aload_n 0, 1) := by decide +kernel
theorem dX8_isTold_32 : decode cX8_isTold 32 = .ok (.iload_n 1, 1) := by decide +kernel
theorem dX8_isTold_33 : decode cX8_isTold 33 = .ok (.iload_n 2, 1) := by decide +kernel
theorem dX8_isTold_34 : decode cX8_isTold 34 = .ok (.iload_n 3, 1) := by decide +kernel
theorem dX8_isTold_35 : decode cX8_isTold 35 = .ok (.iload 4, 2) := by decide +kernel
theorem dX8_isTold_37 : decode cX8_isTold 37 = .ok (.invokevirtual 133, 3) := by decide +kernel
theorem dX8_isTold_40 : decode cX8_isTold 40 = .ok (.ifCond .ne 7, 3) := by decide +kernel
theorem dX8_isTold_43 : decode cX8_isTold 43 = .ok (.iconst 1, 1) := by decide +kernel
theorem dX8_isTold_44 : decode cX8_isTold 44 = .ok (.goto 4, 3) := by decide +kernel
theorem dX8_isTold_47 : decode cX8_isTold 47 = .ok (.iconst 0, 1) := by decide +kernel
theorem dX8_isTold_48 : decode cX8_isTold 48 = .ok (.ireturn, 1) := by decide +kernel
set_option maxRecDepth 20000 in
theorem ggX8_toldOf_X8_least : GoodIn wsX8_toldOf wsX8_least := goodIn_r _ [4] (by decide +kernel) (by decide +kernel)
set_option maxRecDepth 20000 in
theorem gX8_toldOf_X8_least : GoodIn wsX8_toldOf (va_wsS RX8 130 yX8_least wsX8_least) := goodIn_app (goodIn_of _ (by decide +kernel)) ggX8_toldOf_X8_least
set_option maxRecDepth 20000 in
theorem ggX8_toldOf_X8_size : GoodIn wsX8_toldOf wsX8_size := goodIn_r _ [8, 9, 37, 38, 39, 40, 41, 42, 43, 44, 45, 46, 47, 48, 49, 50, 51, 52, 53, 54, 55] (by decide +kernel) (by decide +kernel)
set_option maxRecDepth 20000 in
theorem gX8_toldOf_X8_size : GoodIn wsX8_toldOf (wsV RX8 75 RX8 yX8_size wsX8_size) := goodIn_app (goodIn_of _ (by decide +kernel)) ggX8_toldOf_X8_size
set_option maxRecDepth 20000 in
theorem ggX8_toldOf_X8_isTold : GoodIn wsX8_toldOf wsX8_isTold := goodIn_r _ [13, 1, 2, 3, 4, 14, 15, 16, 17, 18, 19, 20, 21, 22, 23, 24, 25, 26, 27, 28, 29, 30, 31, 32, 37, 38, 39, 40, 41, 42, 43, 44, 45, 46, 47, 48, 49, 50, 51, 52, 53, 54, 55] (by decide +kernel) (by decide +kernel)
set_option maxRecDepth 20000 in
theorem gX8_toldOf_X8_isTold : GoodIn wsX8_toldOf (wsV RX8 136 RX8 yX8_isTold wsX8_isTold) := goodIn_app (goodIn_of _ (by decide +kernel)) ggX8_toldOf_X8_isTold
set_option maxRecDepth 20000 in
theorem ggX8_toldOf_X8_areOne : GoodIn wsX8_toldOf wsX8_areOne := goodIn_r _ [36, 32, 14, 15, 16, 3, 17, 18, 37, 38, 39, 40, 41, 42, 43, 44, 45, 46, 47, 48, 49, 50, 51, 52, 53, 54, 55] (by decide +kernel) (by decide +kernel)
set_option maxRecDepth 20000 in
theorem gX8_toldOf_X8_areOne : GoodIn wsX8_toldOf (wsV RX8 139 RX8 yX8_areOne wsX8_areOne) := goodIn_app (goodIn_of _ (by decide +kernel)) ggX8_toldOf_X8_areOne
theorem dX8_toldOf_0 : decode cX8_toldOf 0 = .ok (.iload_n 2, 1) := by decide +kernel
theorem dX8_toldOf_1 : decode cX8_toldOf 1 = .ok (.invokestatic 130, 3) := by decide +kernel
theorem dX8_toldOf_4 : decode cX8_toldOf 4 = .ok (.istore 4, 2) := by decide +kernel
theorem dX8_toldOf_6 : decode cX8_toldOf 6 = .ok (.iconst 0, 1) := by decide +kernel
theorem dX8_toldOf_7 : decode cX8_toldOf 7 = .ok (.istore 5, 2) := by decide +kernel
theorem dX8_toldOf_9 : decode cX8_toldOf 9 = .ok (.iconst 0, 1) := by decide +kernel
theorem dX8_toldOf_10 : decode cX8_toldOf 10 = .ok (.istore 6, 2) := by decide +kernel
theorem dX8_toldOf_12 : decode cX8_toldOf 12 = .ok (.iload 6, 2) := by decide +kernel
theorem dX8_toldOf_14 : decode cX8_toldOf 14 = .ok (.bipush 8, 2) := by decide +kernel
theorem dX8_toldOf_16 : decode cX8_toldOf 16 = .ok (.iload_n 3, 1) := by decide +kernel
theorem dX8_toldOf_17 : decode cX8_toldOf 17 = .ok (.imul, 1) := by decide +kernel
theorem dX8_toldOf_18 : decode cX8_toldOf 18 = .ok (.if_icmp .ge 141, 3) := by decide +kernel
theorem dX8_toldOf_21 : decode cX8_toldOf 21 = .ok (.iload 6, 2) := by decide +kernel
theorem dX8_toldOf_23 : decode cX8_toldOf 23 = .ok (.bipush 8, 2) := by decide +kernel
theorem dX8_toldOf_25 : decode cX8_toldOf 25 = .ok (.idiv, 1) := by decide +kernel
theorem dX8_toldOf_26 : decode cX8_toldOf 26 = .ok (.istore 7, 2) := by decide +kernel
theorem dX8_toldOf_28 : decode cX8_toldOf 28 = .ok (.iload 6, 2) := by decide +kernel
theorem dX8_toldOf_30 : decode cX8_toldOf 30 = .ok (.bipush 8, 2) := by decide +kernel
theorem dX8_toldOf_32 : decode cX8_toldOf 32 = .ok (.irem, 1) := by decide +kernel
theorem dX8_toldOf_33 : decode cX8_toldOf 33 = .ok (.istore 8, 2) := by decide +kernel
theorem dX8_toldOf_35 : decode cX8_toldOf 35 = .ok (.iload 8, 2) := by decide +kernel
theorem dX8_toldOf_37 : decode cX8_toldOf 37 = .ok (.aload_n 0, 1) := by decide +kernel
theorem dX8_toldOf_38 : decode cX8_toldOf 38 = .ok (.iload_n 1, 1) := by decide +kernel
theorem dX8_toldOf_39 : decode cX8_toldOf 39 = .ok (.iload 4, 2) := by decide +kernel
theorem dX8_toldOf_41 : decode cX8_toldOf 41 = .ok (.iload 7, 2) := by decide +kernel
theorem dX8_toldOf_43 : decode cX8_toldOf 43 = .ok (.iadd, 1) := by decide +kernel
theorem dX8_toldOf_44 : decode cX8_toldOf 44 = .ok (.invokevirtual 75, 3) := by decide +kernel
theorem dX8_toldOf_47 : decode cX8_toldOf 47 = .ok (.if_icmp .ge 106, 3) := by decide +kernel
theorem dX8_toldOf_50 : decode cX8_toldOf 50 = .ok (.aload_n 0, 1) := by decide +kernel
theorem dX8_toldOf_51 : decode cX8_toldOf 51 = .ok (.iload_n 1, 1) := by decide +kernel
theorem dX8_toldOf_52 : decode cX8_toldOf 52 = .ok (.iload_n 2, 1) := by decide +kernel
theorem dX8_toldOf_53 : decode cX8_toldOf 53 = .ok (.iload 7, 2) := by decide +kernel
theorem dX8_toldOf_55 : decode cX8_toldOf 55 = .ok (.iload 8, 2) := by decide +kernel
theorem dX8_toldOf_57 : decode cX8_toldOf 57 = .ok (.invokevirtual 136, 3) := by decide +kernel
theorem dX8_toldOf_60 : decode cX8_toldOf 60 = .ok (.ifCond .eq 93, 3) := by decide +kernel
theorem dX8_toldOf_63 : decode cX8_toldOf 63 = .ok (.iconst 0, 1) := by decide +kernel
theorem dX8_toldOf_64 : decode cX8_toldOf 64 = .ok (.istore 9, 2) := by decide +kernel
theorem dX8_toldOf_66 : decode cX8_toldOf 66 = .ok (.iconst 0, 1) := by decide +kernel
theorem dX8_toldOf_67 : decode cX8_toldOf 67 = .ok (.istore 10, 2) := by decide +kernel
theorem dX8_toldOf_69 : decode cX8_toldOf 69 = .ok (.iload 10, 2) := by decide +kernel
theorem dX8_toldOf_71 : decode cX8_toldOf 71 = .ok (.iload 6, 2) := by decide +kernel
theorem dX8_toldOf_73 : decode cX8_toldOf 73 = .ok (.if_icmp .ge 65, 3) := by decide +kernel
theorem dX8_toldOf_76 : decode cX8_toldOf 76 = .ok (.iload 9, 2) := by decide +kernel
theorem dX8_toldOf_78 : decode cX8_toldOf 78 = .ok (.ifCond .ne 60, 3) := by decide +kernel
theorem dX8_toldOf_81 : decode cX8_toldOf 81 = .ok (.iload 10, 2) := by decide +kernel
theorem dX8_toldOf_83 : decode cX8_toldOf 83 = .ok (.bipush 8, 2) := by decide +kernel
theorem dX8_toldOf_85 : decode cX8_toldOf 85 = .ok (.irem, 1) := by decide +kernel
theorem dX8_toldOf_86 : decode cX8_toldOf 86 = .ok (.aload_n 0, 1) := by decide +kernel
theorem dX8_toldOf_87 : decode cX8_toldOf 87 = .ok (.iload_n 1, 1) := by decide +kernel
theorem dX8_toldOf_88 : decode cX8_toldOf 88 = .ok (.iload 4, 2) := by decide +kernel
theorem dX8_toldOf_90 : decode cX8_toldOf 90 = .ok (.iload 10, 2) := by decide +kernel
theorem dX8_toldOf_92 : decode cX8_toldOf 92 = .ok (.bipush 8, 2) := by decide +kernel
theorem dX8_toldOf_94 : decode cX8_toldOf 94 = .ok (.idiv, 1) := by decide +kernel
theorem dX8_toldOf_95 : decode cX8_toldOf 95 = .ok (.iadd, 1) := by decide +kernel
theorem dX8_toldOf_96 : decode cX8_toldOf 96 = .ok (.invokevirtual 75, 3) := by decide +kernel
theorem dX8_toldOf_99 : decode cX8_toldOf 99 = .ok (.if_icmp .ge 30, 3) := by decide +kernel
theorem dX8_toldOf_102 : decode cX8_toldOf 102 = .ok (.aload_n 0, 1) := by decide +kernel
theorem dX8_toldOf_103 : decode cX8_toldOf 103 = .ok (.iload_n 1, 1) := by decide +kernel
theorem dX8_toldOf_104 : decode cX8_toldOf 104 = .ok (.iload_n 2, 1) := by decide +kernel
theorem dX8_toldOf_105 : decode cX8_toldOf 105 = .ok (.iload 7, 2) := by decide +kernel
theorem dX8_toldOf_107 : decode cX8_toldOf 107 = .ok (.iload 8, 2) := by decide +kernel
theorem dX8_toldOf_109 : decode cX8_toldOf 109 = .ok (.iload 10, 2) := by decide +kernel
theorem dX8_toldOf_111 : decode cX8_toldOf 111 = .ok (.bipush 8, 2) := by decide +kernel
theorem dX8_toldOf_113 : decode cX8_toldOf 113 = .ok (.idiv, 1) := by decide +kernel
theorem dX8_toldOf_114 : decode cX8_toldOf 114 = .ok (.iload 10, 2) := by decide +kernel
theorem dX8_toldOf_116 : decode cX8_toldOf 116 = .ok (.bipush 8, 2) := by decide +kernel
theorem dX8_toldOf_118 : decode cX8_toldOf 118 = .ok (.irem, 1) := by decide +kernel
theorem dX8_toldOf_119 : decode cX8_toldOf 119 = .ok (.invokevirtual 139, 3) := by decide +kernel
theorem dX8_toldOf_122 : decode cX8_toldOf 122 = .ok (.ifCond .eq 7, 3) := by decide +kernel
theorem dX8_toldOf_125 : decode cX8_toldOf 125 = .ok (.iconst 1, 1) := by decide +kernel
theorem dX8_toldOf_126 : decode cX8_toldOf 126 = .ok (.goto 4, 3) := by decide +kernel
theorem dX8_toldOf_129 : decode cX8_toldOf 129 = .ok (.iconst 0, 1) := by decide +kernel
theorem dX8_toldOf_130 : decode cX8_toldOf 130 = .ok (.istore 9, 2) := by decide +kernel
theorem dX8_toldOf_132 : decode cX8_toldOf 132 = .ok (.iinc 10 1, 3) := by decide +kernel
theorem dX8_toldOf_135 : decode cX8_toldOf 135 = .ok (.goto (-66), 3) := by decide +kernel
theorem dX8_toldOf_138 : decode cX8_toldOf 138 = .ok (.iload 5, 2) := by decide +kernel
theorem dX8_toldOf_140 : decode cX8_toldOf 140 = .ok (.iload 9, 2) := by decide +kernel
theorem dX8_toldOf_142 : decode cX8_toldOf 142 = .ok (.ifCond .eq 7, 3) := by decide +kernel
theorem dX8_toldOf_145 : decode cX8_toldOf 145 = .ok (.iconst 0, 1) := by decide +kernel
theorem dX8_toldOf_146 : decode cX8_toldOf 146 = .ok (.goto 4, 3) := by decide +kernel
theorem dX8_toldOf_149 : decode cX8_toldOf 149 = .ok (.iconst 1, 1) := by decide +kernel
theorem dX8_toldOf_150 : decode cX8_toldOf 150 = .ok (.iadd, 1) := by decide +kernel
theorem dX8_toldOf_151 : decode cX8_toldOf 151 = .ok (.istore 5, 2) := by decide +kernel
theorem dX8_toldOf_153 : decode cX8_toldOf 153 = .ok (.iinc 6 1, 3) := by decide +kernel
theorem dX8_toldOf_156 : decode cX8_toldOf 156 = .ok (.goto (-144), 3) := by decide +kernel
theorem dX8_toldOf_159 : decode cX8_toldOf 159 = .ok (.iload 5, 2) := by decide +kernel
theorem dX8_toldOf_161 : decode cX8_toldOf 161 = .ok (.ireturn, 1) := by decide +kernel
set_option maxRecDepth 20000 in
theorem ggX8_savesOf_X8_bits : GoodIn wsX8_savesOf wsX8_bits := goodIn_r _ [4] (by decide +kernel) (by decide +kernel)
set_option maxRecDepth 20000 in
theorem gX8_savesOf_X8_bits : GoodIn wsX8_savesOf (va_wsS RX8 126 yX8_bits wsX8_bits) := goodIn_app (goodIn_of _ (by decide +kernel)) ggX8_savesOf_X8_bits
set_option maxRecDepth 20000 in
theorem ggX8_savesOf_X8_toldOf : GoodIn wsX8_savesOf wsX8_toldOf := goodIn_r _ [8, 9, 10, 3, 11, 12, 13, 14, 15, 16, 17, 18, 19, 20, 21, 22, 23, 24, 25, 26, 27, 28, 29, 30, 31, 32, 33, 34, 35, 36, 37, 38, 39, 40, 41, 42, 43, 44, 45, 46, 47, 48, 49, 50, 51, 52, 53, 54, 55, 56, 57, 58, 59, 60, 61, 62] (by decide +kernel) (by decide +kernel)
set_option maxRecDepth 20000 in
theorem gX8_savesOf_X8_toldOf : GoodIn wsX8_savesOf (wsV RX8 143 RX8 yX8_toldOf wsX8_toldOf) := goodIn_app (goodIn_of _ (by decide +kernel)) ggX8_savesOf_X8_toldOf
theorem dX8_savesOf_0 : decode cX8_savesOf 0 = .ok (.iload_n 2, 1) := by decide +kernel
theorem dX8_savesOf_1 : decode cX8_savesOf 1 = .ok (.invokestatic 126, 3) := by decide +kernel
theorem dX8_savesOf_4 : decode cX8_savesOf 4 = .ok (.istore 4, 2) := by decide +kernel
theorem dX8_savesOf_6 : decode cX8_savesOf 6 = .ok (.iload_n 3, 1) := by decide +kernel
theorem dX8_savesOf_7 : decode cX8_savesOf 7 = .ok (.iload 4, 2) := by decide +kernel
theorem dX8_savesOf_9 : decode cX8_savesOf 9 = .ok (.imul, 1) := by decide +kernel
theorem dX8_savesOf_10 : decode cX8_savesOf 10 = .ok (.iload_n 3, 1) := by decide +kernel
theorem dX8_savesOf_11 : decode cX8_savesOf 11 = .ok (.isub, 1) := by decide +kernel
theorem dX8_savesOf_12 : decode cX8_savesOf 12 = .ok (.iconst 1, 1) := by decide +kernel
theorem dX8_savesOf_13 : decode cX8_savesOf 13 = .ok (.isub, 1) := by decide +kernel
theorem dX8_savesOf_14 : decode cX8_savesOf 14 = .ok (.iload 4, 2) := by decide +kernel
theorem dX8_savesOf_16 : decode cX8_savesOf 16 = .ok (.isub, 1) := by decide +kernel
theorem dX8_savesOf_17 : decode cX8_savesOf 17 = .ok (.aload_n 0, 1) := by decide +kernel
theorem dX8_savesOf_18 : decode cX8_savesOf 18 = .ok (.iload_n 1, 1) := by decide +kernel
theorem dX8_savesOf_19 : decode cX8_savesOf 19 = .ok (.iload_n 2, 1) := by decide +kernel
theorem dX8_savesOf_20 : decode cX8_savesOf 20 = .ok (.iload_n 3, 1) := by decide +kernel
theorem dX8_savesOf_21 : decode cX8_savesOf 21 = .ok (.invokevirtual 143, 3) := by decide +kernel
theorem dX8_savesOf_24 : decode cX8_savesOf 24 = .ok (.isub, 1) := by decide +kernel
