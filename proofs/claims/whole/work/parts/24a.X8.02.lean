theorem dX8_savesOf_25 : decode cX8_savesOf 25 = .ok (.ireturn, 1) := by decide +kernel
set_option maxRecDepth 20000 in
theorem ggX8_pulled_X8_isVersion : GoodIn wsX8_pulled wsX8_isVersion := goodIn_r _ [5, 6, 7, 8, 4, 9, 91, 92, 93, 94, 95, 96, 97, 98, 99, 100, 101, 102, 103, 104, 105, 106, 107, 108, 109] (by decide +kernel) (by decide +kernel)
set_option maxRecDepth 20000 in
theorem gX8_pulled_X8_isVersion : GoodIn wsX8_pulled (wsV RX8 72 RX8 yX8_isVersion wsX8_isVersion) := goodIn_app (goodIn_of _ (by decide +kernel)) ggX8_pulled_X8_isVersion
set_option maxRecDepth 20000 in
theorem ggX8_pulled_X8_isWay : GoodIn wsX8_pulled wsX8_isWay := goodIn_r _ [12, 7, 8, 4, 9] (by decide +kernel) (by decide +kernel)
set_option maxRecDepth 20000 in
theorem gX8_pulled_X8_isWay : GoodIn wsX8_pulled (va_wsS RX8 105 yX8_isWay wsX8_isWay) := goodIn_app (goodIn_of _ (by decide +kernel)) ggX8_pulled_X8_isWay
set_option maxRecDepth 20000 in
theorem ggX8_pulled_X8_isStart : GoodIn wsX8_pulled wsX8_isStart := goodIn_r _ [15, 7, 8, 4, 9] (by decide +kernel) (by decide +kernel)
set_option maxRecDepth 20000 in
theorem gX8_pulled_X8_isStart : GoodIn wsX8_pulled (va_wsS RX8 108 yX8_isStart wsX8_isStart) := goodIn_app (goodIn_of _ (by decide +kernel)) ggX8_pulled_X8_isStart
set_option maxRecDepth 20000 in
theorem ggX8_pulled_X8_isLength : GoodIn wsX8_pulled wsX8_isLength := goodIn_r _ [18, 7, 8, 4, 9] (by decide +kernel) (by decide +kernel)
set_option maxRecDepth 20000 in
theorem gX8_pulled_X8_isLength : GoodIn wsX8_pulled (va_wsS RX8 111 yX8_isLength wsX8_isLength) := goodIn_app (goodIn_of _ (by decide +kernel)) ggX8_pulled_X8_isLength
set_option maxRecDepth 20000 in
theorem ggX8_pulled_X8_in : GoodIn wsX8_pulled wsX8_in := goodIn_r _ [9] (by decide +kernel) (by decide +kernel)
set_option maxRecDepth 20000 in
theorem gX8_pulled_X8_in : GoodIn wsX8_pulled (va_wsS RX8 54 yX8_in wsX8_in) := goodIn_app (goodIn_of _ (by decide +kernel)) ggX8_pulled_X8_in
set_option maxRecDepth 20000 in
theorem ggX8_pulled_X8_likeOf : GoodIn wsX8_pulled wsX8_likeOf := goodIn_r _ [22, 23, 24, 25, 26, 4, 27, 28, 29, 30, 31, 32, 33, 34, 35, 36, 37, 38, 39, 40, 41, 42, 43, 44, 45, 46, 47, 48, 49, 50, 51, 52, 53, 7, 8, 9, 54, 55, 56, 57, 58, 59, 60, 91, 92, 93, 94, 95, 96, 97, 98, 99, 100, 101, 102, 103, 104, 105, 106, 107, 108, 109] (by decide +kernel) (by decide +kernel)
set_option maxRecDepth 20000 in
theorem gX8_pulled_X8_likeOf : GoodIn wsX8_pulled (wsV RX8 122 RX8 yX8_likeOf wsX8_likeOf) := goodIn_app (goodIn_of _ (by decide +kernel)) ggX8_pulled_X8_likeOf
set_option maxRecDepth 20000 in
theorem ggX8_pulled_X8_takenOf : GoodIn wsX8_pulled wsX8_takenOf := goodIn_r _ [64, 23, 91, 92, 93, 94, 95, 96, 97, 98, 99, 100, 101, 102, 103, 104, 105, 106, 107, 108, 109] (by decide +kernel) (by decide +kernel)
set_option maxRecDepth 20000 in
theorem gX8_pulled_X8_takenOf : GoodIn wsX8_pulled (wsV RX8 146 RX8 yX8_takenOf wsX8_takenOf) := goodIn_app (goodIn_of _ (by decide +kernel)) ggX8_pulled_X8_takenOf
set_option maxRecDepth 20000 in
theorem ggX8_pulled_X8_bits : GoodIn wsX8_pulled wsX8_bits := goodIn_r _ [67] (by decide +kernel) (by decide +kernel)
set_option maxRecDepth 20000 in
theorem gX8_pulled_X8_bits : GoodIn wsX8_pulled (va_wsS RX8 126 yX8_bits wsX8_bits) := goodIn_app (goodIn_of _ (by decide +kernel)) ggX8_pulled_X8_bits
set_option maxRecDepth 20000 in
theorem ggX8_pulled_X8_toldOf : GoodIn wsX8_pulled wsX8_toldOf := goodIn_r _ [71, 72, 73, 4, 74, 37, 38, 39, 40, 41, 75, 76, 77, 78, 42, 43, 44, 45, 46, 51, 52, 53, 7, 8, 9, 58, 59, 60, 79, 80, 81, 82, 23, 83, 84, 85, 86, 91, 92, 93, 94, 95, 96, 97, 98, 99, 100, 101, 102, 103, 104, 105, 106, 107, 108, 109] (by decide +kernel) (by decide +kernel)
set_option maxRecDepth 20000 in
theorem gX8_pulled_X8_toldOf : GoodIn wsX8_pulled (wsV RX8 143 RX8 yX8_toldOf wsX8_toldOf) := goodIn_app (goodIn_of _ (by decide +kernel)) ggX8_pulled_X8_toldOf
set_option maxRecDepth 20000 in
theorem ggX8_pulled_X8_savesOf : GoodIn wsX8_pulled wsX8_savesOf := goodIn_r _ [90, 65, 66, 4, 67, 68, 69, 70, 71, 72, 73, 74, 37, 38, 39, 40, 41, 75, 76, 77, 78, 42, 43, 44, 45, 46, 51, 52, 53, 7, 8, 9, 58, 59, 60, 79, 80, 81, 82, 23, 83, 84, 85, 86, 91, 92, 93, 94, 95, 96, 97, 98, 99, 100, 101, 102, 103, 104, 105, 106, 107, 108, 109] (by decide +kernel) (by decide +kernel)
set_option maxRecDepth 20000 in
theorem gX8_pulled_X8_savesOf : GoodIn wsX8_pulled (wsV RX8 149 RX8 yX8_savesOf wsX8_savesOf) := goodIn_app (goodIn_of _ (by decide +kernel)) ggX8_pulled_X8_savesOf
theorem dX8_pulled_0 : decode cX8_pulled 0 = .ok (.aload_n 0, 1) := by decide +kernel
theorem dX8_pulled_1 : decode cX8_pulled 1 = .ok (.iload_n 1, 1) := by decide +kernel
theorem dX8_pulled_2 : decode cX8_pulled 2 = .ok (.invokevirtual 72, 3) := by decide +kernel
theorem dX8_pulled_5 : decode cX8_pulled 5 = .ok (.ifCond .ne 7, 3) := by decide +kernel
theorem dX8_pulled_8 : decode cX8_pulled 8 = .ok (.sipush (-1001), 3) := by decide +kernel
theorem dX8_pulled_11 : decode cX8_pulled 11 = .ok (.ireturn, 1) := by decide +kernel
theorem dX8_pulled_12 : decode cX8_pulled 12 = .ok (.iload_n 2, 1) := by decide +kernel
theorem dX8_pulled_13 : decode cX8_pulled 13 = .ok (.invokestatic 105, 3) := by decide +kernel
theorem dX8_pulled_16 : decode cX8_pulled 16 = .ok (.ifCond .eq 28, 3) := by decide +kernel
theorem dX8_pulled_19 : decode cX8_pulled 19 = .ok (.iload_n 3, 1) := by decide +kernel
theorem dX8_pulled_20 : decode cX8_pulled 20 = .ok (.invokestatic 108, 3) := by decide +kernel
theorem dX8_pulled_23 : decode cX8_pulled 23 = .ok (.ifCond .eq 21, 3) := by decide +kernel
theorem dX8_pulled_26 : decode cX8_pulled 26 = .ok (.iload 4, 2) := by decide +kernel
theorem dX8_pulled_28 : decode cX8_pulled 28 = .ok (.invokestatic 111, 3) := by decide +kernel
theorem dX8_pulled_31 : decode cX8_pulled 31 = .ok (.ifCond .eq 13, 3) := by decide +kernel
theorem dX8_pulled_34 : decode cX8_pulled 34 = .ok (.iload 5, 2) := by decide +kernel
theorem dX8_pulled_36 : decode cX8_pulled 36 = .ok (.iconst 0, 1) := by decide +kernel
theorem dX8_pulled_37 : decode cX8_pulled 37 = .ok (.iconst 2, 1) := by decide +kernel
theorem dX8_pulled_38 : decode cX8_pulled 38 = .ok (.invokestatic 54, 3) := by decide +kernel
theorem dX8_pulled_41 : decode cX8_pulled 41 = .ok (.ifCond .ne 7, 3) := by decide +kernel
theorem dX8_pulled_44 : decode cX8_pulled 44 = .ok (.sipush (-1002), 3) := by decide +kernel
theorem dX8_pulled_47 : decode cX8_pulled 47 = .ok (.ireturn, 1) := by decide +kernel
theorem dX8_pulled_48 : decode cX8_pulled 48 = .ok (.aload_n 0, 1) := by decide +kernel
theorem dX8_pulled_49 : decode cX8_pulled 49 = .ok (.aload_n 0, 1) := by decide +kernel
theorem dX8_pulled_50 : decode cX8_pulled 50 = .ok (.iload_n 1, 1) := by decide +kernel
theorem dX8_pulled_51 : decode cX8_pulled 51 = .ok (.iload_n 2, 1) := by decide +kernel
theorem dX8_pulled_52 : decode cX8_pulled 52 = .ok (.iload_n 3, 1) := by decide +kernel
theorem dX8_pulled_53 : decode cX8_pulled 53 = .ok (.iload 4, 2) := by decide +kernel
theorem dX8_pulled_55 : decode cX8_pulled 55 = .ok (.invokevirtual 122, 3) := by decide +kernel
theorem dX8_pulled_58 : decode cX8_pulled 58 = .ok (.iload 4, 2) := by decide +kernel
theorem dX8_pulled_60 : decode cX8_pulled 60 = .ok (.invokevirtual 146, 3) := by decide +kernel
theorem dX8_pulled_63 : decode cX8_pulled 63 = .ok (.istore 6, 2) := by decide +kernel
theorem dX8_pulled_65 : decode cX8_pulled 65 = .ok (.iload 6, 2) := by decide +kernel
theorem dX8_pulled_67 : decode cX8_pulled 67 = .ok (.invokestatic 126, 3) := by decide +kernel
theorem dX8_pulled_70 : decode cX8_pulled 70 = .ok (.iconst 2, 1) := by decide +kernel
theorem dX8_pulled_71 : decode cX8_pulled 71 = .ok (.if_icmp .ge 7, 3) := by decide +kernel
theorem dX8_pulled_74 : decode cX8_pulled 74 = .ok (.sipush (-1005), 3) := by decide +kernel
theorem dX8_pulled_77 : decode cX8_pulled 77 = .ok (.ireturn, 1) := by decide +kernel
theorem dX8_pulled_78 : decode cX8_pulled 78 = .ok (.iload 5, 2) := by decide +kernel
theorem dX8_pulled_80 : decode cX8_pulled 80 = .ok (.ifCond .ne 8, 3) := by decide +kernel
theorem dX8_pulled_83 : decode cX8_pulled 83 = .ok (.iload 6, 2) := by decide +kernel
theorem dX8_pulled_85 : decode cX8_pulled 85 = .ok (.goto 30, 3) := by decide +kernel
theorem dX8_pulled_88 : decode cX8_pulled 88 = .ok (.iload 5, 2) := by decide +kernel
theorem dX8_pulled_90 : decode cX8_pulled 90 = .ok (.iconst 1, 1) := by decide +kernel
theorem dX8_pulled_91 : decode cX8_pulled 91 = .ok (.if_icmp .ne 15, 3) := by decide +kernel
theorem dX8_pulled_94 : decode cX8_pulled 94 = .ok (.aload_n 0, 1) := by decide +kernel
theorem dX8_pulled_95 : decode cX8_pulled 95 = .ok (.iload_n 1, 1) := by decide +kernel
theorem dX8_pulled_96 : decode cX8_pulled 96 = .ok (.iload 6, 2) := by decide +kernel
theorem dX8_pulled_98 : decode cX8_pulled 98 = .ok (.iload 4, 2) := by decide +kernel
theorem dX8_pulled_100 : decode cX8_pulled 100 = .ok (.invokevirtual 143, 3) := by decide +kernel
theorem dX8_pulled_103 : decode cX8_pulled 103 = .ok (.goto 12, 3) := by decide +kernel
theorem dX8_pulled_106 : decode cX8_pulled 106 = .ok (.aload_n 0, 1) := by decide +kernel
theorem dX8_pulled_107 : decode cX8_pulled 107 = .ok (.iload_n 1, 1) := by decide +kernel
theorem dX8_pulled_108 : decode cX8_pulled 108 = .ok (.iload 6, 2) := by decide +kernel
theorem dX8_pulled_110 : decode cX8_pulled 110 = .ok (.iload 4, 2) := by decide +kernel
theorem dX8_pulled_112 : decode cX8_pulled 112 = .ok (.invokevirtual 149, 3) := by decide +kernel
theorem dX8_pulled_115 : decode cX8_pulled 115 = .ok (.ireturn, 1) := by decide +kernel
set_option maxRecDepth 20000 in
theorem ggX8_laySavings_X8_likeOf : GoodIn wsX8_laySavings wsX8_likeOf := goodIn_r _ [11, 2, 12, 13, 14, 10, 15, 16, 17, 18, 19, 20, 21, 22, 23, 24, 25, 26, 27, 28, 29, 30, 31, 32, 33, 34, 35, 36, 37, 38, 39, 40, 41, 42, 43, 44, 45, 46, 47, 48, 49, 50, 51, 82, 83, 84, 85, 86, 87, 88, 89, 90, 91, 92, 93, 94, 95, 96, 97, 98, 99, 100] (by decide +kernel) (by decide +kernel)
set_option maxRecDepth 20000 in
theorem gX8_laySavings_X8_likeOf : GoodIn wsX8_laySavings (wsV RX8 122 RX8 yX8_likeOf wsX8_likeOf) := goodIn_app (goodIn_of _ (by decide +kernel)) ggX8_laySavings_X8_likeOf
set_option maxRecDepth 20000 in
theorem ggX8_laySavings_X8_least : GoodIn wsX8_laySavings wsX8_least := goodIn_r _ [54] (by decide +kernel) (by decide +kernel)
set_option maxRecDepth 20000 in
theorem gX8_laySavings_X8_least : GoodIn wsX8_laySavings (va_wsS RX8 130 yX8_least wsX8_least) := goodIn_app (goodIn_of _ (by decide +kernel)) ggX8_laySavings_X8_least
set_option maxRecDepth 20000 in
theorem ggX8_laySavings_X8_takenOf : GoodIn wsX8_laySavings wsX8_takenOf := goodIn_r _ [58, 2, 82, 83, 84, 85, 86, 87, 88, 89, 90, 91, 92, 93, 94, 95, 96, 97, 98, 99, 100] (by decide +kernel) (by decide +kernel)
set_option maxRecDepth 20000 in
theorem gX8_laySavings_X8_takenOf : GoodIn wsX8_laySavings (wsV RX8 146 RX8 yX8_takenOf wsX8_takenOf) := goodIn_app (goodIn_of _ (by decide +kernel)) ggX8_laySavings_X8_takenOf
set_option maxRecDepth 20000 in
theorem ggX8_laySavings_X8_bits : GoodIn wsX8_laySavings wsX8_bits := goodIn_r _ [61] (by decide +kernel) (by decide +kernel)
set_option maxRecDepth 20000 in
theorem gX8_laySavings_X8_bits : GoodIn wsX8_laySavings (va_wsS RX8 126 yX8_bits wsX8_bits) := goodIn_app (goodIn_of _ (by decide +kernel)) ggX8_laySavings_X8_bits
set_option maxRecDepth 20000 in
theorem ggX8_laySavings_X8_savesOf : GoodIn wsX8_laySavings wsX8_savesOf := goodIn_r _ [65, 59, 60, 10, 61, 66, 67, 68, 69, 52, 53, 54, 25, 26, 27, 28, 29, 70, 71, 72, 73, 30, 31, 32, 33, 34, 39, 40, 41, 42, 43, 44, 49, 50, 51, 74, 75, 76, 77, 2, 78, 79, 80, 81, 82, 83, 84, 85, 86, 87, 88, 89, 90, 91, 92, 93, 94, 95, 96, 97, 98, 99, 100] (by decide +kernel) (by decide +kernel)
set_option maxRecDepth 20000 in
theorem gX8_laySavings_X8_savesOf : GoodIn wsX8_laySavings (wsV RX8 149 RX8 yX8_savesOf wsX8_savesOf) := goodIn_app (goodIn_of _ (by decide +kernel)) ggX8_laySavings_X8_savesOf
theorem dX8_laySavings_0 : decode cX8_laySavings 0 = .ok (.aload_n 0, 1) := by decide +kernel
theorem dX8_laySavings_1 : decode cX8_laySavings 1 = .ok (.iconst 0, 1) := by decide +kernel
theorem dX8_laySavings_2 : decode cX8_laySavings 2 = .ok (.putfield 152, 3) := by decide +kernel
theorem dX8_laySavings_5 : decode cX8_laySavings 5 = .ok (.iconst 1, 1) := by decide +kernel
theorem dX8_laySavings_6 : decode cX8_laySavings 6 = .ok (.istore_n 3, 1) := by decide +kernel
theorem dX8_laySavings_7 : decode cX8_laySavings 7 = .ok (.iconst 2, 1) := by decide +kernel
theorem dX8_laySavings_8 : decode cX8_laySavings 8 = .ok (.iload_n 3, 1) := by decide +kernel
theorem dX8_laySavings_9 : decode cX8_laySavings 9 = .ok (.imul, 1) := by decide +kernel
theorem dX8_laySavings_10 : decode cX8_laySavings 10 = .ok (.aload_n 0, 1) := by decide +kernel
theorem dX8_laySavings_11 : decode cX8_laySavings 11 = .ok (.getfield 58, 3) := by decide +kernel
theorem dX8_laySavings_14 : decode cX8_laySavings 14 = .ok (.if_icmp .gt 172, 3) := by decide +kernel
theorem dX8_laySavings_17 : decode cX8_laySavings 17 = .ok (.iconst 0, 1) := by decide +kernel
theorem dX8_laySavings_18 : decode cX8_laySavings 18 = .ok (.istore 4, 2) := by decide +kernel
theorem dX8_laySavings_20 : decode cX8_laySavings 20 = .ok (.iload 4, 2) := by decide +kernel
theorem dX8_laySavings_22 : decode cX8_laySavings 22 = .ok (.iload_n 3, 1) := by decide +kernel
theorem dX8_laySavings_23 : decode cX8_laySavings 23 = .ok (.iadd, 1) := by decide +kernel
theorem dX8_laySavings_24 : decode cX8_laySavings 24 = .ok (.aload_n 0, 1) := by decide +kernel
theorem dX8_laySavings_25 : decode cX8_laySavings 25 = .ok (.getfield 58, 3) := by decide +kernel
theorem dX8_laySavings_28 : decode cX8_laySavings 28 = .ok (.if_icmp .gt 152, 3) := by decide +kernel
theorem dX8_laySavings_31 : decode cX8_laySavings 31 = .ok (.aload_n 0, 1) := by decide +kernel
theorem dX8_laySavings_32 : decode cX8_laySavings 32 = .ok (.iload_n 1, 1) := by decide +kernel
theorem dX8_laySavings_33 : decode cX8_laySavings 33 = .ok (.iload_n 2, 1) := by decide +kernel
theorem dX8_laySavings_34 : decode cX8_laySavings 34 = .ok (.iload 4, 2) := by decide +kernel
theorem dX8_laySavings_36 : decode cX8_laySavings 36 = .ok (.iload_n 3, 1) := by decide +kernel
theorem dX8_laySavings_37 : decode cX8_laySavings 37 = .ok (.invokevirtual 122, 3) := by decide +kernel
theorem dX8_laySavings_40 : decode cX8_laySavings 40 = .ok (.istore 5, 2) := by decide +kernel
theorem dX8_laySavings_42 : decode cX8_laySavings 42 = .ok (.iload 5, 2) := by decide +kernel
theorem dX8_laySavings_44 : decode cX8_laySavings 44 = .ok (.invokestatic 130, 3) := by decide +kernel
theorem dX8_laySavings_47 : decode cX8_laySavings 47 = .ok (.iload 4, 2) := by decide +kernel
theorem dX8_laySavings_49 : decode cX8_laySavings 49 = .ok (.if_icmp .ne 13, 3) := by decide +kernel
theorem dX8_laySavings_52 : decode cX8_laySavings 52 = .ok (.aload_n 0, 1) := by decide +kernel
theorem dX8_laySavings_53 : decode cX8_laySavings 53 = .ok (.iload 5, 2) := by decide +kernel
theorem dX8_laySavings_55 : decode cX8_laySavings 55 = .ok (.iload_n 3, 1) := by decide +kernel
theorem dX8_laySavings_56 : decode cX8_laySavings 56 = .ok (.invokevirtual 146, 3) := by decide +kernel
theorem dX8_laySavings_59 : decode cX8_laySavings 59 = .ok (.goto 4, 3) := by decide +kernel
theorem dX8_laySavings_62 : decode cX8_laySavings 62 = .ok (.iconst 0, 1) := by decide +kernel
theorem dX8_laySavings_63 : decode cX8_laySavings 63 = .ok (.istore 6, 2) := by decide +kernel
theorem dX8_laySavings_65 : decode cX8_laySavings 65 = .ok (.iload 6, 2) := by decide +kernel
theorem dX8_laySavings_67 : decode cX8_laySavings 67 = .ok (.invokestatic 126, 3) := by decide +kernel
theorem dX8_laySavings_70 : decode cX8_laySavings 70 = .ok (.iconst 1, 1) := by decide +kernel
theorem dX8_laySavings_71 : decode cX8_laySavings 71 = .ok (.if_icmp .le 14, 3) := by decide +kernel
theorem dX8_laySavings_74 : decode cX8_laySavings 74 = .ok (.aload_n 0, 1) := by decide +kernel
theorem dX8_laySavings_75 : decode cX8_laySavings 75 = .ok (.iload_n 1, 1) := by decide +kernel
theorem dX8_laySavings_76 : decode cX8_laySavings 76 = .ok (.iload 6, 2) := by decide +kernel
theorem dX8_laySavings_78 : decode cX8_laySavings 78 = .ok (.iload_n 3, 1) := by decide +kernel
theorem dX8_laySavings_79 : decode cX8_laySavings 79 = .ok (.invokevirtual 149, 3) := by decide +kernel
theorem dX8_laySavings_82 : decode cX8_laySavings 82 = .ok (.goto 4, 3) := by decide +kernel
theorem dX8_laySavings_85 : decode cX8_laySavings 85 = .ok (.iconst 0, 1) := by decide +kernel
theorem dX8_laySavings_86 : decode cX8_laySavings 86 = .ok (.istore 7, 2) := by decide +kernel
theorem dX8_laySavings_88 : decode cX8_laySavings 88 = .ok (.iload 7, 2) := by decide +kernel
theorem dX8_laySavings_90 : decode cX8_laySavings 90 = .ok (.ifCond .le 84, 3) := by decide +kernel
theorem dX8_laySavings_93 : decode cX8_laySavings 93 = .ok (.aload_n 0, 1) := by decide +kernel
theorem dX8_laySavings_94 : decode cX8_laySavings 94 = .ok (.getfield 29, 3) := by decide +kernel
theorem dX8_laySavings_97 : decode cX8_laySavings 97 = .ok (.aload_n 0, 1) := by decide +kernel
theorem dX8_laySavings_98 : decode cX8_laySavings 98 = .ok (.getfield 152, 3) := by decide +kernel
theorem dX8_laySavings_101 : decode cX8_laySavings 101 = .ok (.iload 7, 2) := by decide +kernel
theorem dX8_laySavings_103 : decode cX8_laySavings 103 = .ok (.iastore, 1) := by decide +kernel
theorem dX8_laySavings_104 : decode cX8_laySavings 104 = .ok (.aload_n 0, 1) := by decide +kernel
theorem dX8_laySavings_105 : decode cX8_laySavings 105 = .ok (.getfield 32, 3) := by decide +kernel
theorem dX8_laySavings_108 : decode cX8_laySavings 108 = .ok (.aload_n 0, 1) := by decide +kernel
theorem dX8_laySavings_109 : decode cX8_laySavings 109 = .ok (.getfield 152, 3) := by decide +kernel
theorem dX8_laySavings_112 : decode cX8_laySavings 112 = .ok (.iload 4, 2) := by decide +kernel
theorem dX8_laySavings_114 : decode cX8_laySavings 114 = .ok (.iastore, 1) := by decide +kernel
theorem dX8_laySavings_115 : decode cX8_laySavings 115 = .ok (.aload_n 0, 1) := by decide +kernel
theorem dX8_laySavings_116 : decode cX8_laySavings 116 = .ok (.getfield 35, 3) := by decide +kernel
theorem dX8_laySavings_119 : decode cX8_laySavings 119 = .ok (.aload_n 0, 1) := by decide +kernel
theorem dX8_laySavings_120 : decode cX8_laySavings 120 = .ok (.getfield 152, 3) := by decide +kernel
theorem dX8_laySavings_123 : decode cX8_laySavings 123 = .ok (.iload_n 3, 1) := by decide +kernel
theorem dX8_laySavings_124 : decode cX8_laySavings 124 = .ok (.iastore, 1) := by decide +kernel
theorem dX8_laySavings_125 : decode cX8_laySavings 125 = .ok (.iconst 0, 1) := by decide +kernel
theorem dX8_laySavings_126 : decode cX8_laySavings 126 = .ok (.istore 8, 2) := by decide +kernel
theorem dX8_laySavings_128 : decode cX8_laySavings 128 = .ok (.iconst 0, 1) := by decide +kernel
theorem dX8_laySavings_129 : decode cX8_laySavings 129 = .ok (.istore 9, 2) := by decide +kernel
theorem dX8_laySavings_131 : decode cX8_laySavings 131 = .ok (.iload 9, 2) := by decide +kernel
theorem dX8_laySavings_133 : decode cX8_laySavings 133 = .ok (.iload_n 3, 1) := by decide +kernel
theorem dX8_laySavings_134 : decode cX8_laySavings 134 = .ok (.if_icmp .ge 19, 3) := by decide +kernel
theorem dX8_laySavings_137 : decode cX8_laySavings 137 = .ok (.iload 8, 2) := by decide +kernel
theorem dX8_laySavings_139 : decode cX8_laySavings 139 = .ok (.iload 6, 2) := by decide +kernel
theorem dX8_laySavings_141 : decode cX8_laySavings 141 = .ok (.iload 9, 2) := by decide +kernel
theorem dX8_laySavings_143 : decode cX8_laySavings 143 = .ok (.ishl, 1) := by decide +kernel
theorem dX8_laySavings_144 : decode cX8_laySavings 144 = .ok (.ior, 1) := by decide +kernel
theorem dX8_laySavings_145 : decode cX8_laySavings 145 = .ok (.istore 8, 2) := by decide +kernel
theorem dX8_laySavings_147 : decode cX8_laySavings 147 = .ok (.iinc 9 1, 3) := by decide +kernel
theorem dX8_laySavings_150 : decode cX8_laySavings 150 = .ok (.goto (-19), 3) := by decide +kernel
theorem dX8_laySavings_153 : decode cX8_laySavings 153 = .ok (.aload_n 0, 1) := by decide +kernel
theorem dX8_laySavings_154 : decode cX8_laySavings 154 = .ok (.getfield 38, 3) := by decide +kernel
theorem dX8_laySavings_157 : decode cX8_laySavings 157 = .ok (.aload_n 0, 1) := by decide +kernel
theorem dX8_laySavings_158 : decode cX8_laySavings 158 = .ok (.getfield 152, 3) := by decide +kernel
theorem dX8_laySavings_161 : decode cX8_laySavings 161 = .ok (.iload 8, 2) := by decide +kernel
theorem dX8_laySavings_163 : decode cX8_laySavings 163 = .ok (.iastore, 1) := by decide +kernel
theorem dX8_laySavings_164 : decode cX8_laySavings 164 = .ok (.aload_n 0, 1) := by decide +kernel
theorem dX8_laySavings_165 : decode cX8_laySavings 165 = .ok (.dup, 1) := by decide +kernel
theorem dX8_laySavings_166 : decode cX8_laySavings 166 = .ok (.getfield 152, 3) := by decide +kernel
theorem dX8_laySavings_169 : decode cX8_laySavings 169 = .ok (.iconst 1, 1) := by decide +kernel
theorem dX8_laySavings_170 : decode cX8_laySavings 170 = .ok (.iadd, 1) := by decide +kernel
theorem dX8_laySavings_171 : decode cX8_laySavings 171 = .ok (.putfield 152, 3) := by decide +kernel
theorem dX8_laySavings_174 : decode cX8_laySavings 174 = .ok (.iinc 4 1, 3) := by decide +kernel
theorem dX8_laySavings_177 : decode cX8_laySavings 177 = .ok (.goto (-157), 3) := by decide +kernel
theorem dX8_laySavings_180 : decode cX8_laySavings 180 = .ok (.iinc 3 1, 3) := by decide +kernel
theorem dX8_laySavings_183 : decode cX8_laySavings 183 = .ok (.goto (-176), 3) := by decide +kernel
theorem dX8_laySavings_186 : decode cX8_laySavings 186 = .ok (.return_, 1) := by decide +kernel
set_option maxRecDepth 20000 in
theorem ggX8_best_X8_isVersion : GoodIn wsX8_best wsX8_isVersion := goodIn_r _ [9, 10, 11, 12, 8, 13, 94, 95, 96, 97, 98, 99, 100, 101, 102, 103, 104, 105, 106, 107, 108, 109, 110, 111, 112] (by decide +kernel) (by decide +kernel)
set_option maxRecDepth 20000 in
theorem gX8_best_X8_isVersion : GoodIn wsX8_best (wsV RX8 72 RX8 yX8_isVersion wsX8_isVersion) := goodIn_app (goodIn_of _ (by decide +kernel)) ggX8_best_X8_isVersion
set_option maxRecDepth 20000 in
theorem ggX8_best_X8_isWay : GoodIn wsX8_best wsX8_isWay := goodIn_r _ [16, 11, 12, 8, 13] (by decide +kernel) (by decide +kernel)
set_option maxRecDepth 20000 in
theorem gX8_best_X8_isWay : GoodIn wsX8_best (va_wsS RX8 105 yX8_isWay wsX8_isWay) := goodIn_app (goodIn_of _ (by decide +kernel)) ggX8_best_X8_isWay
set_option maxRecDepth 20000 in
theorem ggX8_best_X8_in : GoodIn wsX8_best wsX8_in := goodIn_r _ [13] (by decide +kernel) (by decide +kernel)
set_option maxRecDepth 20000 in
theorem gX8_best_X8_in : GoodIn wsX8_best (va_wsS RX8 54 yX8_in wsX8_in) := goodIn_app (goodIn_of _ (by decide +kernel)) ggX8_best_X8_in
set_option maxRecDepth 20000 in
theorem ggX8_best_X8_laySavings : GoodIn wsX8_best wsX8_laySavings := goodIn_r _ [20, 1, 21, 2, 3, 4, 22, 23, 24, 25, 8, 26, 27, 28, 29, 30, 31, 32, 33, 34, 35, 36, 37, 38, 39, 40, 41, 42, 43, 44, 45, 46, 47, 48, 49, 50, 51, 52, 53, 54, 55, 56, 11, 12, 13, 57, 58, 59, 60, 61, 62, 63, 64, 65, 66, 67, 68, 69, 70, 71, 72, 73, 74, 75, 76, 77, 78, 79, 80, 81, 82, 83, 84, 85, 86, 87, 88, 89, 90, 91, 92, 93, 94, 95, 96, 97, 98, 99, 100, 101, 102, 103, 104, 105, 106, 107, 108, 109, 110, 111, 112] (by decide +kernel) (by decide +kernel)
set_option maxRecDepth 20000 in
theorem gX8_best_X8_laySavings : GoodIn wsX8_best (wsV RX8 155 RX8 yX8_laySavings wsX8_laySavings) := goodIn_app (goodIn_of _ (by decide +kernel)) ggX8_best_X8_laySavings
theorem dX8_best_0 : decode cX8_best 0 = .ok (.aload_n 0, 1) := by decide +kernel
theorem dX8_best_1 : decode cX8_best 1 = .ok (.iload_n 1, 1) := by decide +kernel
theorem dX8_best_2 : decode cX8_best 2 = .ok (.invokevirtual 72, 3) := by decide +kernel
theorem dX8_best_5 : decode cX8_best 5 = .ok (.ifCond .ne 5, 3) := by decide +kernel
theorem dX8_best_8 : decode cX8_best 8 = .ok (.iconst (-1), 1) := by decide +kernel
theorem dX8_best_9 : decode cX8_best 9 = .ok (.ireturn, 1) := by decide +kernel
theorem dX8_best_10 : decode cX8_best 10 = .ok (.iload_n 2, 1) := by decide +kernel
theorem dX8_best_11 : decode cX8_best 11 = .ok (.invokestatic 105, 3) := by decide +kernel
theorem dX8_best_14 : decode cX8_best 14 = .ok (.ifCond .eq 12, 3) := by decide +kernel
theorem dX8_best_17 : decode cX8_best 17 = .ok (.iload_n 3, 1) := by decide +kernel
theorem dX8_best_18 : decode cX8_best 18 = .ok (.iconst 0, 1) := by decide +kernel
theorem dX8_best_19 : decode cX8_best 19 = .ok (.iconst 2, 1) := by decide +kernel
theorem dX8_best_20 : decode cX8_best 20 = .ok (.invokestatic 54, 3) := by decide +kernel
theorem dX8_best_23 : decode cX8_best 23 = .ok (.ifCond .ne 6, 3) := by decide +kernel
theorem dX8_best_26 : decode cX8_best 26 = .ok (.bipush (-2), 2) := by decide +kernel
theorem dX8_best_28 : decode cX8_best 28 = .ok (.ireturn, 1) := by decide +kernel
theorem dX8_best_29 : decode cX8_best 29 = .ok (.aload_n 0, 1) := by decide +kernel
theorem dX8_best_30 : decode cX8_best 30 = .ok (.iload_n 1, 1) := by decide +kernel
theorem dX8_best_31 : decode cX8_best 31 = .ok (.iload_n 2, 1) := by decide +kernel
theorem dX8_best_32 : decode cX8_best 32 = .ok (.invokevirtual 155, 3) := by decide +kernel
theorem dX8_best_35 : decode cX8_best 35 = .ok (.bipush (-6), 2) := by decide +kernel
theorem dX8_best_37 : decode cX8_best 37 = .ok (.istore 4, 2) := by decide +kernel
theorem dX8_best_39 : decode cX8_best 39 = .ok (.iconst 0, 1) := by decide +kernel
theorem dX8_best_40 : decode cX8_best 40 = .ok (.istore 5, 2) := by decide +kernel
theorem dX8_best_42 : decode cX8_best 42 = .ok (.iload 5, 2) := by decide +kernel
theorem dX8_best_44 : decode cX8_best 44 = .ok (.aload_n 0, 1) := by decide +kernel
theorem dX8_best_45 : decode cX8_best 45 = .ok (.getfield 152, 3) := by decide +kernel
theorem dX8_best_48 : decode cX8_best 48 = .ok (.if_icmp .ge 40, 3) := by decide +kernel
theorem dX8_best_51 : decode cX8_best 51 = .ok (.iload 4, 2) := by decide +kernel
theorem dX8_best_53 : decode cX8_best 53 = .ok (.ifCond .lt 20, 3) := by decide +kernel
theorem dX8_best_56 : decode cX8_best 56 = .ok (.aload_n 0, 1) := by decide +kernel
theorem dX8_best_57 : decode cX8_best 57 = .ok (.getfield 29, 3) := by decide +kernel
theorem dX8_best_60 : decode cX8_best 60 = .ok (.iload 5, 2) := by decide +kernel
theorem dX8_best_62 : decode cX8_best 62 = .ok (.iaload, 1) := by decide +kernel
theorem dX8_best_63 : decode cX8_best 63 = .ok (.aload_n 0, 1) := by decide +kernel
theorem dX8_best_64 : decode cX8_best 64 = .ok (.getfield 29, 3) := by decide +kernel
theorem dX8_best_67 : decode cX8_best 67 = .ok (.iload 4, 2) := by decide +kernel
theorem dX8_best_69 : decode cX8_best 69 = .ok (.iaload, 1) := by decide +kernel
theorem dX8_best_70 : decode cX8_best 70 = .ok (.if_icmp .le 8, 3) := by decide +kernel
theorem dX8_best_73 : decode cX8_best 73 = .ok (.iload 5, 2) := by decide +kernel
theorem dX8_best_75 : decode cX8_best 75 = .ok (.goto 5, 3) := by decide +kernel
theorem dX8_best_78 : decode cX8_best 78 = .ok (.iload 4, 2) := by decide +kernel
theorem dX8_best_80 : decode cX8_best 80 = .ok (.istore 4, 2) := by decide +kernel
theorem dX8_best_82 : decode cX8_best 82 = .ok (.iinc 5 1, 3) := by decide +kernel
theorem dX8_best_85 : decode cX8_best 85 = .ok (.goto (-43), 3) := by decide +kernel
theorem dX8_best_88 : decode cX8_best 88 = .ok (.iload 4, 2) := by decide +kernel
theorem dX8_best_90 : decode cX8_best 90 = .ok (.ifCond .ge 8, 3) := by decide +kernel
theorem dX8_best_93 : decode cX8_best 93 = .ok (.bipush (-6), 2) := by decide +kernel
theorem dX8_best_95 : decode cX8_best 95 = .ok (.goto 39, 3) := by decide +kernel
theorem dX8_best_98 : decode cX8_best 98 = .ok (.iload_n 3, 1) := by decide +kernel
theorem dX8_best_99 : decode cX8_best 99 = .ok (.ifCond .ne 13, 3) := by decide +kernel
theorem dX8_best_102 : decode cX8_best 102 = .ok (.aload_n 0, 1) := by decide +kernel
theorem dX8_best_103 : decode cX8_best 103 = .ok (.getfield 29, 3) := by decide +kernel
theorem dX8_best_106 : decode cX8_best 106 = .ok (.iload 4, 2) := by decide +kernel
theorem dX8_best_108 : decode cX8_best 108 = .ok (.iaload, 1) := by decide +kernel
theorem dX8_best_109 : decode cX8_best 109 = .ok (.goto 25, 3) := by decide +kernel
theorem dX8_best_112 : decode cX8_best 112 = .ok (.iload_n 3, 1) := by decide +kernel
theorem dX8_best_113 : decode cX8_best 113 = .ok (.iconst 1, 1) := by decide +kernel
theorem dX8_best_114 : decode cX8_best 114 = .ok (.if_icmp .ne 13, 3) := by decide +kernel
theorem dX8_best_117 : decode cX8_best 117 = .ok (.aload_n 0, 1) := by decide +kernel
theorem dX8_best_118 : decode cX8_best 118 = .ok (.getfield 32, 3) := by decide +kernel
theorem dX8_best_121 : decode cX8_best 121 = .ok (.iload 4, 2) := by decide +kernel
theorem dX8_best_123 : decode cX8_best 123 = .ok (.iaload, 1) := by decide +kernel
theorem dX8_best_124 : decode cX8_best 124 = .ok (.goto 10, 3) := by decide +kernel
theorem dX8_best_127 : decode cX8_best 127 = .ok (.aload_n 0, 1) := by decide +kernel
theorem dX8_best_128 : decode cX8_best 128 = .ok (.getfield 35, 3) := by decide +kernel
theorem dX8_best_131 : decode cX8_best 131 = .ok (.iload 4, 2) := by decide +kernel
theorem dX8_best_133 : decode cX8_best 133 = .ok (.iaload, 1) := by decide +kernel
theorem dX8_best_134 : decode cX8_best 134 = .ok (.ireturn, 1) := by decide +kernel
set_option maxRecDepth 20000 in
theorem ggX8_two_X8_isVersion : GoodIn wsX8_two wsX8_isVersion := goodIn_r _ [8, 9, 10, 11, 7, 12, 94, 95, 96, 97, 98, 99, 100, 101, 102, 103, 104, 105, 106, 107, 108, 109, 110, 111, 112] (by decide +kernel) (by decide +kernel)
set_option maxRecDepth 20000 in
theorem gX8_two_X8_isVersion : GoodIn wsX8_two (wsV RX8 72 RX8 yX8_isVersion wsX8_isVersion) := goodIn_app (goodIn_of _ (by decide +kernel)) ggX8_two_X8_isVersion
set_option maxRecDepth 20000 in
theorem ggX8_two_X8_isWay : GoodIn wsX8_two wsX8_isWay := goodIn_r _ [15, 10, 11, 7, 12] (by decide +kernel) (by decide +kernel)
set_option maxRecDepth 20000 in
theorem gX8_two_X8_isWay : GoodIn wsX8_two (va_wsS RX8 105 yX8_isWay wsX8_isWay) := goodIn_app (goodIn_of _ (by decide +kernel)) ggX8_two_X8_isWay
set_option maxRecDepth 20000 in
theorem ggX8_two_X8_laySavings : GoodIn wsX8_two wsX8_laySavings := goodIn_r _ [19, 1, 20, 2, 21, 22, 3, 23, 24, 25, 7, 26, 27, 28, 29, 30, 31, 32, 33, 34, 35, 36, 37, 38, 39, 40, 41, 42, 43, 44, 45, 46, 47, 48, 49, 50, 51, 52, 53, 54, 55, 56, 10, 11, 12, 57, 58, 59, 60, 61, 62, 63, 64, 65, 66, 67, 68, 69, 70, 71, 72, 73, 74, 75, 76, 77, 78, 79, 80, 81, 82, 83, 84, 85, 86, 87, 88, 89, 90, 91, 92, 93, 94, 95, 96, 97, 98, 99, 100, 101, 102, 103, 104, 105, 106, 107, 108, 109, 110, 111, 112] (by decide +kernel) (by decide +kernel)
set_option maxRecDepth 20000 in
theorem gX8_two_X8_laySavings : GoodIn wsX8_two (wsV RX8 155 RX8 yX8_laySavings wsX8_laySavings) := goodIn_app (goodIn_of _ (by decide +kernel)) ggX8_two_X8_laySavings
theorem dX8_two_0 : decode cX8_two 0 = .ok (.aload_n 0, 1) := by decide +kernel
theorem dX8_two_1 : decode cX8_two 1 = .ok (.iload_n 1, 1) := by decide +kernel
theorem dX8_two_2 : decode cX8_two 2 = .ok (.invokevirtual 72, 3) := by decide +kernel
theorem dX8_two_5 : decode cX8_two 5 = .ok (.ifCond .ne 5, 3) := by decide +kernel
theorem dX8_two_8 : decode cX8_two 8 = .ok (.iconst (-1), 1) := by decide +kernel
theorem dX8_two_9 : decode cX8_two 9 = .ok (.ireturn, 1) := by decide +kernel
theorem dX8_two_10 : decode cX8_two 10 = .ok (.iload_n 2, 1) := by decide +kernel
theorem dX8_two_11 : decode cX8_two 11 = .ok (.invokestatic 105, 3) := by decide +kernel
theorem dX8_two_14 : decode cX8_two 14 = .ok (.ifCond .ne 6, 3) := by decide +kernel
theorem dX8_two_17 : decode cX8_two 17 = .ok (.bipush (-2), 2) := by decide +kernel
theorem dX8_two_19 : decode cX8_two 19 = .ok (.ireturn, 1) := by decide +kernel
theorem dX8_two_20 : decode cX8_two 20 = .ok (.aload_n 0, 1) := by decide +kernel
theorem dX8_two_21 : decode cX8_two 21 = .ok (.iload_n 1, 1) := by decide +kernel
theorem dX8_two_22 : decode cX8_two 22 = .ok (.iload_n 2, 1) := by decide +kernel
theorem dX8_two_23 : decode cX8_two 23 = .ok (.invokevirtual 155, 3) := by decide +kernel
theorem dX8_two_26 : decode cX8_two 26 = .ok (.iconst 0, 1) := by decide +kernel
theorem dX8_two_27 : decode cX8_two 27 = .ok (.istore_n 3, 1) := by decide +kernel
theorem dX8_two_28 : decode cX8_two 28 = .ok (.iconst 0, 1) := by decide +kernel
theorem dX8_two_29 : decode cX8_two 29 = .ok (.istore 4, 2) := by decide +kernel
theorem dX8_two_31 : decode cX8_two 31 = .ok (.iload 4, 2) := by decide +kernel
theorem dX8_two_33 : decode cX8_two 33 = .ok (.aload_n 0, 1) := by decide +kernel
theorem dX8_two_34 : decode cX8_two 34 = .ok (.getfield 152, 3) := by decide +kernel
theorem dX8_two_37 : decode cX8_two 37 = .ok (.if_icmp .ge 117, 3) := by decide +kernel
theorem dX8_two_40 : decode cX8_two 40 = .ok (.aload_n 0, 1) := by decide +kernel
theorem dX8_two_41 : decode cX8_two 41 = .ok (.getfield 29, 3) := by decide +kernel
theorem dX8_two_44 : decode cX8_two 44 = .ok (.iload 4, 2) := by decide +kernel
theorem dX8_two_46 : decode cX8_two 46 = .ok (.iaload, 1) := by decide +kernel
theorem dX8_two_47 : decode cX8_two 47 = .ok (.iload_n 3, 1) := by decide +kernel
theorem dX8_two_48 : decode cX8_two 48 = .ok (.if_icmp .le 13, 3) := by decide +kernel
theorem dX8_two_51 : decode cX8_two 51 = .ok (.aload_n 0, 1) := by decide +kernel
theorem dX8_two_52 : decode cX8_two 52 = .ok (.getfield 29, 3) := by decide +kernel
theorem dX8_two_55 : decode cX8_two 55 = .ok (.iload 4, 2) := by decide +kernel
theorem dX8_two_57 : decode cX8_two 57 = .ok (.iaload, 1) := by decide +kernel
theorem dX8_two_58 : decode cX8_two 58 = .ok (.goto 4, 3) := by decide +kernel
theorem dX8_two_61 : decode cX8_two 61 = .ok (.iload_n 3, 1) := by decide +kernel
theorem dX8_two_62 : decode cX8_two 62 = .ok (.istore_n 3, 1) := by decide +kernel
theorem dX8_two_63 : decode cX8_two 63 = .ok (.iconst 0, 1) := by decide +kernel
theorem dX8_two_64 : decode cX8_two 64 = .ok (.istore 5, 2) := by decide +kernel
theorem dX8_two_66 : decode cX8_two 66 = .ok (.iload 5, 2) := by decide +kernel
theorem dX8_two_68 : decode cX8_two 68 = .ok (.iload 4, 2) := by decide +kernel
theorem dX8_two_70 : decode cX8_two 70 = .ok (.if_icmp .ge 78, 3) := by decide +kernel
theorem dX8_two_73 : decode cX8_two 73 = .ok (.aload_n 0, 1) := by decide +kernel
theorem dX8_two_74 : decode cX8_two 74 = .ok (.getfield 38, 3) := by decide +kernel
theorem dX8_two_77 : decode cX8_two 77 = .ok (.iload 4, 2) := by decide +kernel
theorem dX8_two_79 : decode cX8_two 79 = .ok (.iaload, 1) := by decide +kernel
theorem dX8_two_80 : decode cX8_two 80 = .ok (.aload_n 0, 1) := by decide +kernel
theorem dX8_two_81 : decode cX8_two 81 = .ok (.getfield 38, 3) := by decide +kernel
theorem dX8_two_84 : decode cX8_two 84 = .ok (.iload 5, 2) := by decide +kernel
theorem dX8_two_86 : decode cX8_two 86 = .ok (.iaload, 1) := by decide +kernel
theorem dX8_two_87 : decode cX8_two 87 = .ok (.iand, 1) := by decide +kernel
theorem dX8_two_88 : decode cX8_two 88 = .ok (.ifCond .ne 7, 3) := by decide +kernel
theorem dX8_two_91 : decode cX8_two 91 = .ok (.iconst 1, 1) := by decide +kernel
theorem dX8_two_92 : decode cX8_two 92 = .ok (.goto 4, 3) := by decide +kernel
theorem dX8_two_95 : decode cX8_two 95 = .ok (.iconst 0, 1) := by decide +kernel
theorem dX8_two_96 : decode cX8_two 96 = .ok (.istore 6, 2) := by decide +kernel
theorem dX8_two_98 : decode cX8_two 98 = .ok (.iload 6, 2) := by decide +kernel
theorem dX8_two_100 : decode cX8_two 100 = .ok (.ifCond .eq 40, 3) := by decide +kernel
theorem dX8_two_103 : decode cX8_two 103 = .ok (.aload_n 0, 1) := by decide +kernel
theorem dX8_two_104 : decode cX8_two 104 = .ok (.getfield 29, 3) := by decide +kernel
theorem dX8_two_107 : decode cX8_two 107 = .ok (.iload 4, 2) := by decide +kernel
theorem dX8_two_109 : decode cX8_two 109 = .ok (.iaload, 1) := by decide +kernel
theorem dX8_two_110 : decode cX8_two 110 = .ok (.aload_n 0, 1) := by decide +kernel
theorem dX8_two_111 : decode cX8_two 111 = .ok (.getfield 29, 3) := by decide +kernel
theorem dX8_two_114 : decode cX8_two 114 = .ok (.iload 5, 2) := by decide +kernel
theorem dX8_two_116 : decode cX8_two 116 = .ok (.iaload, 1) := by decide +kernel
theorem dX8_two_117 : decode cX8_two 117 = .ok (.iadd, 1) := by decide +kernel
theorem dX8_two_118 : decode cX8_two 118 = .ok (.iload_n 3, 1) := by decide +kernel
theorem dX8_two_119 : decode cX8_two 119 = .ok (.if_icmp .le 21, 3) := by decide +kernel
theorem dX8_two_122 : decode cX8_two 122 = .ok (.aload_n 0, 1) := by decide +kernel
theorem dX8_two_123 : decode cX8_two 123 = .ok (.getfield 29, 3) := by decide +kernel
theorem dX8_two_126 : decode cX8_two 126 = .ok (.iload 4, 2) := by decide +kernel
theorem dX8_two_128 : decode cX8_two 128 = .ok (.iaload, 1) := by decide +kernel
theorem dX8_two_129 : decode cX8_two 129 = .ok (.aload_n 0, 1) := by decide +kernel
theorem dX8_two_130 : decode cX8_two 130 = .ok (.getfield 29, 3) := by decide +kernel
theorem dX8_two_133 : decode cX8_two 133 = .ok (.iload 5, 2) := by decide +kernel
theorem dX8_two_135 : decode cX8_two 135 = .ok (.iaload, 1) := by decide +kernel
theorem dX8_two_136 : decode cX8_two 136 = .ok (.iadd, 1) := by decide +kernel
theorem dX8_two_137 : decode cX8_two 137 = .ok (.goto 4, 3) := by decide +kernel
theorem dX8_two_140 : decode cX8_two 140 = .ok (.iload_n 3, 1) := by decide +kernel
theorem dX8_two_141 : decode cX8_two 141 = .ok (.istore_n 3, 1) := by decide +kernel
theorem dX8_two_142 : decode cX8_two 142 = .ok (.iinc 5 1, 3) := by decide +kernel
theorem dX8_two_145 : decode cX8_two 145 = .ok (.goto (-79), 3) := by decide +kernel
theorem dX8_two_148 : decode cX8_two 148 = .ok (.iinc 4 1, 3) := by decide +kernel
theorem dX8_two_151 : decode cX8_two 151 = .ok (.goto (-120), 3) := by decide +kernel
theorem dX8_two_154 : decode cX8_two 154 = .ok (.iload_n 3, 1) := by decide +kernel
theorem dX8_two_155 : decode cX8_two 155 = .ok (.ireturn, 1) := by decide +kernel
set_option maxRecDepth 20000 in
theorem ggX8_forgotten_X8_isVersion : GoodIn wsX8_forgotten wsX8_isVersion := goodIn_r _ [8, 9, 10, 11, 7, 12, 60, 61, 62, 63, 64, 65, 66, 67, 68, 69, 70, 71, 72, 73, 74, 75, 76, 77, 78] (by decide +kernel) (by decide +kernel)
set_option maxRecDepth 20000 in
theorem gX8_forgotten_X8_isVersion : GoodIn wsX8_forgotten (wsV RX8 72 RX8 yX8_isVersion wsX8_isVersion) := goodIn_app (goodIn_of _ (by decide +kernel)) ggX8_forgotten_X8_isVersion
set_option maxRecDepth 20000 in
theorem ggX8_forgotten_X8_areRows : GoodIn wsX8_forgotten wsX8_areRows := goodIn_r _ [15, 16, 17, 7, 18, 10, 11, 12, 19, 20, 21, 22, 23, 24] (by decide +kernel) (by decide +kernel)
set_option maxRecDepth 20000 in
theorem gX8_forgotten_X8_areRows : GoodIn wsX8_forgotten (va_wsS RX8 114 yX8_areRows wsX8_areRows) := goodIn_app (goodIn_of _ (by decide +kernel)) ggX8_forgotten_X8_areRows
set_option maxRecDepth 20000 in
theorem ggX8_forgotten_X8_in : GoodIn wsX8_forgotten wsX8_in := goodIn_r _ [12] (by decide +kernel) (by decide +kernel)
set_option maxRecDepth 20000 in
theorem gX8_forgotten_X8_in : GoodIn wsX8_forgotten (va_wsS RX8 54 yX8_in wsX8_in) := goodIn_app (goodIn_of _ (by decide +kernel)) ggX8_forgotten_X8_in
set_option maxRecDepth 20000 in
theorem ggX8_forgotten_X8_isThere : GoodIn wsX8_forgotten wsX8_isThere := goodIn_r _ [28, 29, 60, 61, 62, 63, 64, 65, 66, 67, 68, 69, 70, 71, 72, 73, 74, 75, 76, 77, 78] (by decide +kernel) (by decide +kernel)
set_option maxRecDepth 20000 in
theorem gX8_forgotten_X8_isThere : GoodIn wsX8_forgotten (wsV RX8 93 RX8 yX8_isThere wsX8_isThere) := goodIn_app (goodIn_of _ (by decide +kernel)) ggX8_forgotten_X8_isThere
set_option maxRecDepth 20000 in
theorem ggX8_forgotten_X8_rowsAlike : GoodIn wsX8_forgotten wsX8_rowsAlike := goodIn_r _ [33, 34, 35, 1, 2, 3, 25, 26, 27, 7, 28, 29, 36, 37, 38, 39, 40, 41, 42, 43, 44, 45, 46, 47, 48, 49, 50, 51, 52, 10, 11, 12, 53, 54, 55, 56, 57, 58, 59, 60, 61, 62, 63, 64, 65, 66, 67, 68, 69, 70, 71, 72, 73, 74, 75, 76, 77, 78] (by decide +kernel) (by decide +kernel)
set_option maxRecDepth 20000 in
theorem gX8_forgotten_X8_rowsAlike : GoodIn wsX8_forgotten (wsV RX8 118 RX8 yX8_rowsAlike wsX8_rowsAlike) := goodIn_app (goodIn_of _ (by decide +kernel)) ggX8_forgotten_X8_rowsAlike
set_option maxRecDepth 20000 in
theorem ggX8_forgotten_X8_size : GoodIn wsX8_forgotten wsX8_size := goodIn_r _ [39, 40, 60, 61, 62, 63, 64, 65, 66, 67, 68, 69, 70, 71, 72, 73, 74, 75, 76, 77, 78] (by decide +kernel) (by decide +kernel)
set_option maxRecDepth 20000 in
theorem gX8_forgotten_X8_size : GoodIn wsX8_forgotten (wsV RX8 75 RX8 yX8_size wsX8_size) := goodIn_app (goodIn_of _ (by decide +kernel)) ggX8_forgotten_X8_size
set_option maxRecDepth 20000 in
theorem ggX8_forgotten_X8_signAt : GoodIn wsX8_forgotten wsX8_signAt := goodIn_r _ [44, 45, 60, 61, 62, 63, 64, 65, 66, 67, 68, 69, 70, 71, 72, 73, 74, 75, 76, 77, 78] (by decide +kernel) (by decide +kernel)
set_option maxRecDepth 20000 in
theorem gX8_forgotten_X8_signAt : GoodIn wsX8_forgotten (wsV RX8 79 RX8 yX8_signAt wsX8_signAt) := goodIn_app (goodIn_of _ (by decide +kernel)) ggX8_forgotten_X8_signAt
set_option maxRecDepth 20000 in
theorem ggX8_forgotten_X8_isName : GoodIn wsX8_forgotten wsX8_isName := goodIn_r _ [52, 10, 11, 7, 12] (by decide +kernel) (by decide +kernel)
set_option maxRecDepth 20000 in
theorem gX8_forgotten_X8_isName : GoodIn wsX8_forgotten (va_wsS RX8 83 yX8_isName wsX8_isName) := goodIn_app (goodIn_of _ (by decide +kernel)) ggX8_forgotten_X8_isName
theorem dX8_forgotten_0 : decode cX8_forgotten 0 = .ok (.aload_n 0, 1) := by decide +kernel
theorem dX8_forgotten_1 : decode cX8_forgotten 1 = .ok (.iload_n 1, 1) := by decide +kernel
theorem dX8_forgotten_2 : decode cX8_forgotten 2 = .ok (.invokevirtual 72, 3) := by decide +kernel
theorem dX8_forgotten_5 : decode cX8_forgotten 5 = .ok (.ifCond .ne 5, 3) := by decide +kernel
theorem dX8_forgotten_8 : decode cX8_forgotten 8 = .ok (.iconst (-1), 1) := by decide +kernel
theorem dX8_forgotten_9 : decode cX8_forgotten 9 = .ok (.ireturn, 1) := by decide +kernel
theorem dX8_forgotten_10 : decode cX8_forgotten 10 = .ok (.iconst 0, 1) := by decide +kernel
theorem dX8_forgotten_11 : decode cX8_forgotten 11 = .ok (.iload_n 2, 1) := by decide +kernel
theorem dX8_forgotten_12 : decode cX8_forgotten 12 = .ok (.iload_n 3, 1) := by decide +kernel
theorem dX8_forgotten_13 : decode cX8_forgotten 13 = .ok (.iload 4, 2) := by decide +kernel
theorem dX8_forgotten_15 : decode cX8_forgotten 15 = .ok (.invokestatic 114, 3) := by decide +kernel
theorem dX8_forgotten_18 : decode cX8_forgotten 18 = .ok (.ifCond .eq 13, 3) := by decide +kernel
theorem dX8_forgotten_21 : decode cX8_forgotten 21 = .ok (.iload 5, 2) := by decide +kernel
theorem dX8_forgotten_23 : decode cX8_forgotten 23 = .ok (.iconst 0, 1) := by decide +kernel
theorem dX8_forgotten_24 : decode cX8_forgotten 24 = .ok (.iconst 1, 1) := by decide +kernel
theorem dX8_forgotten_25 : decode cX8_forgotten 25 = .ok (.invokestatic 54, 3) := by decide +kernel
theorem dX8_forgotten_28 : decode cX8_forgotten 28 = .ok (.ifCond .ne 6, 3) := by decide +kernel
theorem dX8_forgotten_31 : decode cX8_forgotten 31 = .ok (.bipush (-2), 2) := by decide +kernel
theorem dX8_forgotten_33 : decode cX8_forgotten 33 = .ok (.ireturn, 1) := by decide +kernel
theorem dX8_forgotten_34 : decode cX8_forgotten 34 = .ok (.iload_n 2, 1) := by decide +kernel
theorem dX8_forgotten_35 : decode cX8_forgotten 35 = .ok (.iload 4, 2) := by decide +kernel
theorem dX8_forgotten_37 : decode cX8_forgotten 37 = .ok (.iadd, 1) := by decide +kernel
theorem dX8_forgotten_38 : decode cX8_forgotten 38 = .ok (.iload_n 3, 1) := by decide +kernel
theorem dX8_forgotten_39 : decode cX8_forgotten 39 = .ok (.if_icmp .le 11, 3) := by decide +kernel
theorem dX8_forgotten_42 : decode cX8_forgotten 42 = .ok (.iload_n 3, 1) := by decide +kernel
theorem dX8_forgotten_43 : decode cX8_forgotten 43 = .ok (.iload 4, 2) := by decide +kernel
theorem dX8_forgotten_45 : decode cX8_forgotten 45 = .ok (.iadd, 1) := by decide +kernel
theorem dX8_forgotten_46 : decode cX8_forgotten 46 = .ok (.iload_n 2, 1) := by decide +kernel
theorem dX8_forgotten_47 : decode cX8_forgotten 47 = .ok (.if_icmp .gt 7, 3) := by decide +kernel
theorem dX8_forgotten_50 : decode cX8_forgotten 50 = .ok (.iconst 1, 1) := by decide +kernel
theorem dX8_forgotten_51 : decode cX8_forgotten 51 = .ok (.goto 4, 3) := by decide +kernel
theorem dX8_forgotten_54 : decode cX8_forgotten 54 = .ok (.iconst 0, 1) := by decide +kernel
theorem dX8_forgotten_55 : decode cX8_forgotten 55 = .ok (.istore 6, 2) := by decide +kernel
theorem dX8_forgotten_57 : decode cX8_forgotten 57 = .ok (.iload 6, 2) := by decide +kernel
theorem dX8_forgotten_59 : decode cX8_forgotten 59 = .ok (.ifCond .eq 36, 3) := by decide +kernel
theorem dX8_forgotten_62 : decode cX8_forgotten 62 = .ok (.aload_n 0, 1) := by decide +kernel
theorem dX8_forgotten_63 : decode cX8_forgotten 63 = .ok (.iload_n 2, 1) := by decide +kernel
theorem dX8_forgotten_64 : decode cX8_forgotten 64 = .ok (.iload 4, 2) := by decide +kernel
theorem dX8_forgotten_66 : decode cX8_forgotten 66 = .ok (.invokevirtual 93, 3) := by decide +kernel
theorem dX8_forgotten_69 : decode cX8_forgotten 69 = .ok (.ifCond .eq 26, 3) := by decide +kernel
theorem dX8_forgotten_72 : decode cX8_forgotten 72 = .ok (.aload_n 0, 1) := by decide +kernel
theorem dX8_forgotten_73 : decode cX8_forgotten 73 = .ok (.iload_n 3, 1) := by decide +kernel
theorem dX8_forgotten_74 : decode cX8_forgotten 74 = .ok (.iload 4, 2) := by decide +kernel
theorem dX8_forgotten_76 : decode cX8_forgotten 76 = .ok (.invokevirtual 93, 3) := by decide +kernel
theorem dX8_forgotten_79 : decode cX8_forgotten 79 = .ok (.ifCond .eq 16, 3) := by decide +kernel
theorem dX8_forgotten_82 : decode cX8_forgotten 82 = .ok (.aload_n 0, 1) := by decide +kernel
theorem dX8_forgotten_83 : decode cX8_forgotten 83 = .ok (.iload_n 1, 1) := by decide +kernel
theorem dX8_forgotten_84 : decode cX8_forgotten 84 = .ok (.iconst 1, 1) := by decide +kernel
theorem dX8_forgotten_85 : decode cX8_forgotten 85 = .ok (.iload_n 2, 1) := by decide +kernel
theorem dX8_forgotten_86 : decode cX8_forgotten 86 = .ok (.iload_n 3, 1) := by decide +kernel
theorem dX8_forgotten_87 : decode cX8_forgotten 87 = .ok (.iload 4, 2) := by decide +kernel
theorem dX8_forgotten_89 : decode cX8_forgotten 89 = .ok (.invokevirtual 118, 3) := by decide +kernel
theorem dX8_forgotten_92 : decode cX8_forgotten 92 = .ok (.ifCond .eq 6, 3) := by decide +kernel
theorem dX8_forgotten_95 : decode cX8_forgotten 95 = .ok (.bipush (-6), 2) := by decide +kernel
theorem dX8_forgotten_97 : decode cX8_forgotten 97 = .ok (.ireturn, 1) := by decide +kernel
theorem dX8_forgotten_98 : decode cX8_forgotten 98 = .ok (.bipush (-6), 2) := by decide +kernel
theorem dX8_forgotten_100 : decode cX8_forgotten 100 = .ok (.istore 7, 2) := by decide +kernel
theorem dX8_forgotten_102 : decode cX8_forgotten 102 = .ok (.iconst 0, 1) := by decide +kernel
theorem dX8_forgotten_103 : decode cX8_forgotten 103 = .ok (.istore 8, 2) := by decide +kernel
theorem dX8_forgotten_105 : decode cX8_forgotten 105 = .ok (.iload 8, 2) := by decide +kernel
theorem dX8_forgotten_107 : decode cX8_forgotten 107 = .ok (.iload 4, 2) := by decide +kernel
theorem dX8_forgotten_109 : decode cX8_forgotten 109 = .ok (.if_icmp .ge 141, 3) := by decide +kernel
theorem dX8_forgotten_112 : decode cX8_forgotten 112 = .ok (.iload 7, 2) := by decide +kernel
theorem dX8_forgotten_114 : decode cX8_forgotten 114 = .ok (.ifCond .ge 136, 3) := by decide +kernel
theorem dX8_forgotten_117 : decode cX8_forgotten 117 = .ok (.iconst 0, 1) := by decide +kernel
theorem dX8_forgotten_118 : decode cX8_forgotten 118 = .ok (.istore 9, 2) := by decide +kernel
theorem dX8_forgotten_120 : decode cX8_forgotten 120 = .ok (.iload 9, 2) := by decide +kernel
theorem dX8_forgotten_122 : decode cX8_forgotten 122 = .ok (.aload_n 0, 1) := by decide +kernel
theorem dX8_forgotten_123 : decode cX8_forgotten 123 = .ok (.iload_n 1, 1) := by decide +kernel
theorem dX8_forgotten_124 : decode cX8_forgotten 124 = .ok (.iload_n 3, 1) := by decide +kernel
theorem dX8_forgotten_125 : decode cX8_forgotten 125 = .ok (.iload 8, 2) := by decide +kernel
theorem dX8_forgotten_127 : decode cX8_forgotten 127 = .ok (.iadd, 1) := by decide +kernel
theorem dX8_forgotten_128 : decode cX8_forgotten 128 = .ok (.invokevirtual 75, 3) := by decide +kernel
theorem dX8_forgotten_131 : decode cX8_forgotten 131 = .ok (.if_icmp .ge 113, 3) := by decide +kernel
theorem dX8_forgotten_134 : decode cX8_forgotten 134 = .ok (.iload 7, 2) := by decide +kernel
theorem dX8_forgotten_136 : decode cX8_forgotten 136 = .ok (.ifCond .ge 108, 3) := by decide +kernel
theorem dX8_forgotten_139 : decode cX8_forgotten 139 = .ok (.bipush 97, 2) := by decide +kernel
theorem dX8_forgotten_141 : decode cX8_forgotten 141 = .ok (.istore 10, 2) := by decide +kernel
theorem dX8_forgotten_143 : decode cX8_forgotten 143 = .ok (.iload 10, 2) := by decide +kernel
theorem dX8_forgotten_145 : decode cX8_forgotten 145 = .ok (.bipush 122, 2) := by decide +kernel
theorem dX8_forgotten_147 : decode cX8_forgotten 147 = .ok (.if_icmp .gt 91, 3) := by decide +kernel
theorem dX8_forgotten_150 : decode cX8_forgotten 150 = .ok (.iload 7, 2) := by decide +kernel
theorem dX8_forgotten_152 : decode cX8_forgotten 152 = .ok (.ifCond .ge 86, 3) := by decide +kernel
theorem dX8_forgotten_155 : decode cX8_forgotten 155 = .ok (.aload_n 0, 1) := by decide +kernel
theorem dX8_forgotten_156 : decode cX8_forgotten 156 = .ok (.iload_n 1, 1) := by decide +kernel
theorem dX8_forgotten_157 : decode cX8_forgotten 157 = .ok (.iload_n 3, 1) := by decide +kernel
theorem dX8_forgotten_158 : decode cX8_forgotten 158 = .ok (.iload 8, 2) := by decide +kernel
theorem dX8_forgotten_160 : decode cX8_forgotten 160 = .ok (.iadd, 1) := by decide +kernel
theorem dX8_forgotten_161 : decode cX8_forgotten 161 = .ok (.iload 9, 2) := by decide +kernel
theorem dX8_forgotten_163 : decode cX8_forgotten 163 = .ok (.invokevirtual 79, 3) := by decide +kernel
theorem dX8_forgotten_166 : decode cX8_forgotten 166 = .ok (.invokestatic 83, 3) := by decide +kernel
theorem dX8_forgotten_169 : decode cX8_forgotten 169 = .ok (.ifCond .eq 69, 3) := by decide +kernel
theorem dX8_forgotten_172 : decode cX8_forgotten 172 = .ok (.aload_n 0, 1) := by decide +kernel
theorem dX8_forgotten_173 : decode cX8_forgotten 173 = .ok (.iload 8, 2) := by decide +kernel
theorem dX8_forgotten_175 : decode cX8_forgotten 175 = .ok (.putfield 25, 3) := by decide +kernel
theorem dX8_forgotten_178 : decode cX8_forgotten 178 = .ok (.aload_n 0, 1) := by decide +kernel
theorem dX8_forgotten_179 : decode cX8_forgotten 179 = .ok (.iload 9, 2) := by decide +kernel
theorem dX8_forgotten_181 : decode cX8_forgotten 181 = .ok (.putfield 96, 3) := by decide +kernel
theorem dX8_forgotten_184 : decode cX8_forgotten 184 = .ok (.aload_n 0, 1) := by decide +kernel
theorem dX8_forgotten_185 : decode cX8_forgotten 185 = .ok (.iload 10, 2) := by decide +kernel
theorem dX8_forgotten_187 : decode cX8_forgotten 187 = .ok (.putfield 99, 3) := by decide +kernel
theorem dX8_forgotten_190 : decode cX8_forgotten 190 = .ok (.aload_n 0, 1) := by decide +kernel
theorem dX8_forgotten_191 : decode cX8_forgotten 191 = .ok (.iload_n 1, 1) := by decide +kernel
theorem dX8_forgotten_192 : decode cX8_forgotten 192 = .ok (.iconst 1, 1) := by decide +kernel
theorem dX8_forgotten_193 : decode cX8_forgotten 193 = .ok (.iload_n 2, 1) := by decide +kernel
theorem dX8_forgotten_194 : decode cX8_forgotten 194 = .ok (.iload_n 3, 1) := by decide +kernel
theorem dX8_forgotten_195 : decode cX8_forgotten 195 = .ok (.iload 4, 2) := by decide +kernel
theorem dX8_forgotten_197 : decode cX8_forgotten 197 = .ok (.invokevirtual 118, 3) := by decide +kernel
theorem dX8_forgotten_200 : decode cX8_forgotten 200 = .ok (.istore 11, 2) := by decide +kernel
theorem dX8_forgotten_202 : decode cX8_forgotten 202 = .ok (.iload 11, 2) := by decide +kernel
theorem dX8_forgotten_204 : decode cX8_forgotten 204 = .ok (.ifCond .eq 24, 3) := by decide +kernel
theorem dX8_forgotten_207 : decode cX8_forgotten 207 = .ok (.iload 5, 2) := by decide +kernel
theorem dX8_forgotten_209 : decode cX8_forgotten 209 = .ok (.ifCond .ne 14, 3) := by decide +kernel
theorem dX8_forgotten_212 : decode cX8_forgotten 212 = .ok (.bipush 10, 2) := by decide +kernel
theorem dX8_forgotten_214 : decode cX8_forgotten 214 = .ok (.iload 8, 2) := by decide +kernel
theorem dX8_forgotten_216 : decode cX8_forgotten 216 = .ok (.imul, 1) := by decide +kernel
theorem dX8_forgotten_217 : decode cX8_forgotten 217 = .ok (.iload 9, 2) := by decide +kernel
theorem dX8_forgotten_219 : decode cX8_forgotten 219 = .ok (.iadd, 1) := by decide +kernel
theorem dX8_forgotten_220 : decode cX8_forgotten 220 = .ok (.goto 10, 3) := by decide +kernel
theorem dX8_forgotten_223 : decode cX8_forgotten 223 = .ok (.iload 10, 2) := by decide +kernel
theorem dX8_forgotten_225 : decode cX8_forgotten 225 = .ok (.goto 5, 3) := by decide +kernel
theorem dX8_forgotten_228 : decode cX8_forgotten 228 = .ok (.bipush (-6), 2) := by decide +kernel
theorem dX8_forgotten_230 : decode cX8_forgotten 230 = .ok (.istore 7, 2) := by decide +kernel
theorem dX8_forgotten_232 : decode cX8_forgotten 232 = .ok (.iinc 10 1, 3) := by decide +kernel
theorem dX8_forgotten_235 : decode cX8_forgotten 235 = .ok (.goto (-92), 3) := by decide +kernel
theorem dX8_forgotten_238 : decode cX8_forgotten 238 = .ok (.iinc 9 1, 3) := by decide +kernel
theorem dX8_forgotten_241 : decode cX8_forgotten 241 = .ok (.goto (-121), 3) := by decide +kernel
theorem dX8_forgotten_244 : decode cX8_forgotten 244 = .ok (.iinc 8 1, 3) := by decide +kernel
theorem dX8_forgotten_247 : decode cX8_forgotten 247 = .ok (.goto (-142), 3) := by decide +kernel
theorem dX8_forgotten_250 : decode cX8_forgotten 250 = .ok (.aload_n 0, 1) := by decide +kernel
theorem dX8_forgotten_251 : decode cX8_forgotten 251 = .ok (.bipush (-6), 2) := by decide +kernel
theorem dX8_forgotten_253 : decode cX8_forgotten 253 = .ok (.putfield 25, 3) := by decide +kernel
theorem dX8_forgotten_256 : decode cX8_forgotten 256 = .ok (.iload 7, 2) := by decide +kernel
theorem dX8_forgotten_258 : decode cX8_forgotten 258 = .ok (.ireturn, 1) := by decide +kernel
set_option maxRecDepth 20000 in
theorem ggX8_parted_X8_areRows : GoodIn wsX8_parted wsX8_areRows := goodIn_r _ [5, 6, 7, 4, 8, 9, 10, 11, 12, 13, 14, 15, 16, 17] (by decide +kernel) (by decide +kernel)
set_option maxRecDepth 20000 in
theorem gX8_parted_X8_areRows : GoodIn wsX8_parted (va_wsS RX8 114 yX8_areRows wsX8_areRows) := goodIn_app (goodIn_of _ (by decide +kernel)) ggX8_parted_X8_areRows
set_option maxRecDepth 20000 in
theorem ggX8_parted_X8_rowsAlike : GoodIn wsX8_parted wsX8_rowsAlike := goodIn_r _ [21, 22, 23, 24, 25, 26, 27, 28, 29, 4, 30, 31, 32, 33, 34, 35, 36, 37, 38, 39, 40, 41, 42, 43, 44, 45, 46, 47, 48, 9, 10, 11, 49, 50, 51, 52, 53, 54, 55, 56, 57, 58, 59, 60, 61, 62, 63, 64, 65, 66, 67, 68, 69, 70, 71, 72, 73, 74] (by decide +kernel) (by decide +kernel)
set_option maxRecDepth 20000 in
theorem gX8_parted_X8_rowsAlike : GoodIn wsX8_parted (wsV RX8 118 RX8 yX8_rowsAlike wsX8_rowsAlike) := goodIn_app (goodIn_of _ (by decide +kernel)) ggX8_parted_X8_rowsAlike
theorem dX8_parted_0 : decode cX8_parted 0 = .ok (.iload_n 1, 1) := by decide +kernel
theorem dX8_parted_1 : decode cX8_parted 1 = .ok (.iload_n 2, 1) := by decide +kernel
theorem dX8_parted_2 : decode cX8_parted 2 = .ok (.iload_n 3, 1) := by decide +kernel
theorem dX8_parted_3 : decode cX8_parted 3 = .ok (.iload 4, 2) := by decide +kernel
theorem dX8_parted_5 : decode cX8_parted 5 = .ok (.invokestatic 114, 3) := by decide +kernel
theorem dX8_parted_8 : decode cX8_parted 8 = .ok (.ifCond .ne 6, 3) := by decide +kernel
theorem dX8_parted_11 : decode cX8_parted 11 = .ok (.bipush (-2), 2) := by decide +kernel
theorem dX8_parted_13 : decode cX8_parted 13 = .ok (.ireturn, 1) := by decide +kernel
theorem dX8_parted_14 : decode cX8_parted 14 = .ok (.iconst 0, 1) := by decide +kernel
theorem dX8_parted_15 : decode cX8_parted 15 = .ok (.istore 5, 2) := by decide +kernel
theorem dX8_parted_17 : decode cX8_parted 17 = .ok (.iconst 0, 1) := by decide +kernel
theorem dX8_parted_18 : decode cX8_parted 18 = .ok (.istore 6, 2) := by decide +kernel
theorem dX8_parted_20 : decode cX8_parted 20 = .ok (.iload 6, 2) := by decide +kernel
theorem dX8_parted_22 : decode cX8_parted 22 = .ok (.aload_n 0, 1) := by decide +kernel
theorem dX8_parted_23 : decode cX8_parted 23 = .ok (.getfield 51, 3) := by decide +kernel
theorem dX8_parted_26 : decode cX8_parted 26 = .ok (.if_icmp .ge 52, 3) := by decide +kernel
theorem dX8_parted_29 : decode cX8_parted 29 = .ok (.aload_n 0, 1) := by decide +kernel
theorem dX8_parted_30 : decode cX8_parted 30 = .ok (.iload 6, 2) := by decide +kernel
theorem dX8_parted_32 : decode cX8_parted 32 = .ok (.iload_n 1, 1) := by decide +kernel
theorem dX8_parted_33 : decode cX8_parted 33 = .ok (.iload_n 2, 1) := by decide +kernel
theorem dX8_parted_34 : decode cX8_parted 34 = .ok (.iload_n 3, 1) := by decide +kernel
theorem dX8_parted_35 : decode cX8_parted 35 = .ok (.iload 4, 2) := by decide +kernel
theorem dX8_parted_37 : decode cX8_parted 37 = .ok (.invokevirtual 118, 3) := by decide +kernel
theorem dX8_parted_40 : decode cX8_parted 40 = .ok (.istore 7, 2) := by decide +kernel
theorem dX8_parted_42 : decode cX8_parted 42 = .ok (.iload 5, 2) := by decide +kernel
theorem dX8_parted_44 : decode cX8_parted 44 = .ok (.ifCond .eq 11, 3) := by decide +kernel
theorem dX8_parted_47 : decode cX8_parted 47 = .ok (.iload 7, 2) := by decide +kernel
theorem dX8_parted_49 : decode cX8_parted 49 = .ok (.ifCond .ne 6, 3) := by decide +kernel
theorem dX8_parted_52 : decode cX8_parted 52 = .ok (.iload 6, 2) := by decide +kernel
theorem dX8_parted_54 : decode cX8_parted 54 = .ok (.ireturn, 1) := by decide +kernel
theorem dX8_parted_55 : decode cX8_parted 55 = .ok (.iload 5, 2) := by decide +kernel
theorem dX8_parted_57 : decode cX8_parted 57 = .ok (.ifCond .ne 8, 3) := by decide +kernel
theorem dX8_parted_60 : decode cX8_parted 60 = .ok (.iload 7, 2) := by decide +kernel
theorem dX8_parted_62 : decode cX8_parted 62 = .ok (.ifCond .eq 7, 3) := by decide +kernel
theorem dX8_parted_65 : decode cX8_parted 65 = .ok (.iconst 1, 1) := by decide +kernel
theorem dX8_parted_66 : decode cX8_parted 66 = .ok (.goto 4, 3) := by decide +kernel
theorem dX8_parted_69 : decode cX8_parted 69 = .ok (.iconst 0, 1) := by decide +kernel
theorem dX8_parted_70 : decode cX8_parted 70 = .ok (.istore 5, 2) := by decide +kernel
theorem dX8_parted_72 : decode cX8_parted 72 = .ok (.iinc 6 1, 3) := by decide +kernel
theorem dX8_parted_75 : decode cX8_parted 75 = .ok (.goto (-55), 3) := by decide +kernel
theorem dX8_parted_78 : decode cX8_parted 78 = .ok (.bipush (-6), 2) := by decide +kernel
theorem dX8_parted_80 : decode cX8_parted 80 = .ok (.ireturn, 1) := by decide +kernel
set_option maxRecDepth 20000 in
theorem ggX8_isOther_X8_size : GoodIn wsX8_isOther wsX8_size := goodIn_r _ [5, 6, 12, 13, 14, 15, 16, 17, 18, 19, 20, 21, 22, 23, 24, 25, 26, 27, 28, 29, 30] (by decide +kernel) (by decide +kernel)
set_option maxRecDepth 20000 in
theorem gX8_isOther_X8_size : GoodIn wsX8_isOther (wsV RX8 75 RX8 yX8_size wsX8_size) := goodIn_app (goodIn_of _ (by decide +kernel)) ggX8_isOther_X8_size
set_option maxRecDepth 20000 in
theorem ggX8_isOther_X8_signAt : GoodIn wsX8_isOther wsX8_signAt := goodIn_r _ [10, 11, 12, 13, 14, 15, 16, 17, 18, 19, 20, 21, 22, 23, 24, 25, 26, 27, 28, 29, 30] (by decide +kernel) (by decide +kernel)
set_option maxRecDepth 20000 in
theorem gX8_isOther_X8_signAt : GoodIn wsX8_isOther (wsV RX8 79 RX8 yX8_signAt wsX8_signAt) := goodIn_app (goodIn_of _ (by decide +kernel)) ggX8_isOther_X8_signAt
theorem dX8_isOther_0 : decode cX8_isOther 0 = .ok (.aload_n 0, 1) := by decide +kernel
theorem dX8_isOther_1 : decode cX8_isOther 1 = .ok (.iload_n 1, 1) := by decide +kernel
theorem dX8_isOther_2 : decode cX8_isOther 2 = .ok (.iload_n 2, 1) := by decide +kernel
theorem dX8_isOther_3 : decode cX8_isOther 3 = .ok (.invokevirtual 75, 3) := by decide +kernel
theorem dX8_isOther_6 : decode cX8_isOther 6 = .ok (.aload_n 0, 1) := by decide +kernel
theorem dX8_isOther_7 : decode cX8_isOther 7 = .ok (.iload_n 1, 1) := by decide +kernel
theorem dX8_isOther_8 : decode cX8_isOther 8 = .ok (.iconst 1, 1) := by decide +kernel
theorem dX8_isOther_9 : decode cX8_isOther 9 = .ok (.iadd, 1) := by decide +kernel
theorem dX8_isOther_10 : decode cX8_isOther 10 = .ok (.iload_n 2, 1) := by decide +kernel
theorem dX8_isOther_11 : decode cX8_isOther 11 = .ok (.invokevirtual 75, 3) := by decide +kernel
theorem dX8_isOther_14 : decode cX8_isOther 14 = .ok (.if_icmp .ne 7, 3) := by decide +kernel
theorem dX8_isOther_17 : decode cX8_isOther 17 = .ok (.iconst 1, 1) := by decide +kernel
theorem dX8_isOther_18 : decode cX8_isOther 18 = .ok (.goto 4, 3) := by decide +kernel
theorem dX8_isOther_21 : decode cX8_isOther 21 = .ok (.iconst 0, 1) := by decide +kernel
theorem dX8_isOther_22 : decode cX8_isOther 22 = .ok (.istore_n 3, 1) := by decide +kernel
theorem dX8_isOther_23 : decode cX8_isOther 23 = .ok (.iconst 0, 1) := by decide +kernel
theorem dX8_isOther_24 : decode cX8_isOther 24 = .ok (.istore 4, 2) := by decide +kernel
theorem dX8_isOther_26 : decode cX8_isOther 26 = .ok (.iload 4, 2) := by decide +kernel
theorem dX8_isOther_28 : decode cX8_isOther 28 = .ok (.aload_n 0, 1) := by decide +kernel
theorem dX8_isOther_29 : decode cX8_isOther 29 = .ok (.iload_n 1, 1) := by decide +kernel
theorem dX8_isOther_30 : decode cX8_isOther 30 = .ok (.iload_n 2, 1) := by decide +kernel
theorem dX8_isOther_31 : decode cX8_isOther 31 = .ok (.invokevirtual 75, 3) := by decide +kernel
theorem dX8_isOther_34 : decode cX8_isOther 34 = .ok (.if_icmp .ge 40, 3) := by decide +kernel
theorem dX8_isOther_37 : decode cX8_isOther 37 = .ok (.iload_n 3, 1) := by decide +kernel
theorem dX8_isOther_38 : decode cX8_isOther 38 = .ok (.ifCond .eq 36, 3) := by decide +kernel
theorem dX8_isOther_41 : decode cX8_isOther 41 = .ok (.aload_n 0, 1) := by decide +kernel
theorem dX8_isOther_42 : decode cX8_isOther 42 = .ok (.iload_n 1, 1) := by decide +kernel
theorem dX8_isOther_43 : decode cX8_isOther 43 = .ok (.iload_n 2, 1) := by decide +kernel
theorem dX8_isOther_44 : decode cX8_isOther 44 = .ok (.iload 4, 2) := by decide +kernel
theorem dX8_isOther_46 : decode cX8_isOther 46 = .ok (.invokevirtual 79, 3) := by decide +kernel
theorem dX8_isOther_49 : decode cX8_isOther 49 = .ok (.aload_n 0, 1) := by decide +kernel
theorem dX8_isOther_50 : decode cX8_isOther 50 = .ok (.iload_n 1, 1) := by decide +kernel
theorem dX8_isOther_51 : decode cX8_isOther 51 = .ok (.iconst 1, 1) := by decide +kernel
theorem dX8_isOther_52 : decode cX8_isOther 52 = .ok (.iadd, 1) := by decide +kernel
theorem dX8_isOther_53 : decode cX8_isOther 53 = .ok (.iload_n 2, 1) := by decide +kernel
theorem dX8_isOther_54 : decode cX8_isOther 54 = .ok (.iload 4, 2) := by decide +kernel
theorem dX8_isOther_56 : decode cX8_isOther 56 = .ok (.invokevirtual 79, 3) := by decide +kernel
theorem dX8_isOther_59 : decode cX8_isOther 59 = .ok (.if_icmp .ne 7, 3) := by decide +kernel
theorem dX8_isOther_62 : decode cX8_isOther 62 = .ok (.iconst 1, 1) := by decide +kernel
theorem dX8_isOther_63 : decode cX8_isOther 63 = .ok (.goto 4, 3) := by decide +kernel
theorem dX8_isOther_66 : decode cX8_isOther 66 = .ok (.iconst 0, 1) := by decide +kernel
theorem dX8_isOther_67 : decode cX8_isOther 67 = .ok (.istore_n 3, 1) := by decide +kernel
theorem dX8_isOther_68 : decode cX8_isOther 68 = .ok (.iinc 4 1, 3) := by decide +kernel
theorem dX8_isOther_71 : decode cX8_isOther 71 = .ok (.goto (-45), 3) := by decide +kernel
theorem dX8_isOther_74 : decode cX8_isOther 74 = .ok (.iload_n 3, 1) := by decide +kernel
theorem dX8_isOther_75 : decode cX8_isOther 75 = .ok (.ifCond .ne 7, 3) := by decide +kernel
theorem dX8_isOther_78 : decode cX8_isOther 78 = .ok (.iconst 1, 1) := by decide +kernel
theorem dX8_isOther_79 : decode cX8_isOther 79 = .ok (.goto 4, 3) := by decide +kernel
theorem dX8_isOther_82 : decode cX8_isOther 82 = .ok (.iconst 0, 1) := by decide +kernel
theorem dX8_isOther_83 : decode cX8_isOther 83 = .ok (.ireturn, 1) := by decide +kernel
set_option maxRecDepth 20000 in
theorem ggX8_mendsOf_X8_rowsAlike : GoodIn wsX8_mendsOf wsX8_rowsAlike := goodIn_r _ [5, 6, 7, 8, 9, 10, 11, 12, 13, 4, 14, 15, 16, 17, 18, 19, 20, 21, 22, 23, 24, 25, 26, 27, 28, 29, 30, 31, 32, 33, 34, 35, 36, 37, 38, 39, 40, 41, 42, 47, 48, 49, 50, 51, 52, 53, 54, 55, 56, 57, 58, 59, 60, 61, 62, 63, 64, 65] (by decide +kernel) (by decide +kernel)
set_option maxRecDepth 20000 in
theorem gX8_mendsOf_X8_rowsAlike : GoodIn wsX8_mendsOf (wsV RX8 118 RX8 yX8_rowsAlike wsX8_rowsAlike) := goodIn_app (goodIn_of _ (by decide +kernel)) ggX8_mendsOf_X8_rowsAlike
set_option maxRecDepth 20000 in
theorem ggX8_mendsOf_X8_isOther : GoodIn wsX8_mendsOf wsX8_isOther := goodIn_r _ [46, 16, 17, 18, 4, 19, 20, 21, 22, 23, 24, 25, 47, 48, 49, 50, 51, 52, 53, 54, 55, 56, 57, 58, 59, 60, 61, 62, 63, 64, 65] (by decide +kernel) (by decide +kernel)
set_option maxRecDepth 20000 in
theorem gX8_mendsOf_X8_isOther : GoodIn wsX8_mendsOf (wsV RX8 158 RX8 yX8_isOther wsX8_isOther) := goodIn_app (goodIn_of _ (by decide +kernel)) ggX8_mendsOf_X8_isOther
theorem dX8_mendsOf_0 : decode cX8_mendsOf 0 = .ok (.iconst 0, 1) := by decide +kernel
theorem dX8_mendsOf_1 : decode cX8_mendsOf 1 = .ok (.istore 5, 2) := by decide +kernel
theorem dX8_mendsOf_3 : decode cX8_mendsOf 3 = .ok (.aload_n 0, 1) := by decide +kernel
theorem dX8_mendsOf_4 : decode cX8_mendsOf 4 = .ok (.iload_n 1, 1) := by decide +kernel
theorem dX8_mendsOf_5 : decode cX8_mendsOf 5 = .ok (.iconst 1, 1) := by decide +kernel
theorem dX8_mendsOf_6 : decode cX8_mendsOf 6 = .ok (.iload_n 2, 1) := by decide +kernel
theorem dX8_mendsOf_7 : decode cX8_mendsOf 7 = .ok (.iload_n 3, 1) := by decide +kernel
theorem dX8_mendsOf_8 : decode cX8_mendsOf 8 = .ok (.iload 4, 2) := by decide +kernel
theorem dX8_mendsOf_10 : decode cX8_mendsOf 10 = .ok (.invokevirtual 118, 3) := by decide +kernel
theorem dX8_mendsOf_13 : decode cX8_mendsOf 13 = .ok (.ifCond .eq 56, 3) := by decide +kernel
theorem dX8_mendsOf_16 : decode cX8_mendsOf 16 = .ok (.iconst 0, 1) := by decide +kernel
theorem dX8_mendsOf_17 : decode cX8_mendsOf 17 = .ok (.istore 6, 2) := by decide +kernel
theorem dX8_mendsOf_19 : decode cX8_mendsOf 19 = .ok (.iload 6, 2) := by decide +kernel
theorem dX8_mendsOf_21 : decode cX8_mendsOf 21 = .ok (.iload 4, 2) := by decide +kernel
theorem dX8_mendsOf_23 : decode cX8_mendsOf 23 = .ok (.if_icmp .ge 46, 3) := by decide +kernel
theorem dX8_mendsOf_26 : decode cX8_mendsOf 26 = .ok (.iload 5, 2) := by decide +kernel
