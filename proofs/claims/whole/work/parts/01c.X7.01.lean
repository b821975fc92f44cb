set_option maxRecDepth 20000 in
theorem gX7_best_X7_isWay : GoodIn wsX7_best (va_wsS RX7 104 yX7_isWay wsX7_isWay) := goodIn_app (goodIn_of _ (by decide +kernel)) ggX7_best_X7_isWay
set_option maxRecDepth 20000 in
theorem ggX7_best_X7_isUpTo : GoodIn wsX7_best wsX7_isUpTo := goodIn_r _ [9] (by decide +kernel) (by decide +kernel)
set_option maxRecDepth 20000 in
theorem gX7_best_X7_isUpTo : GoodIn wsX7_best (va_wsS RX7 119 yX7_isUpTo wsX7_isUpTo) := goodIn_app (goodIn_of _ (by decide +kernel)) ggX7_best_X7_isUpTo
set_option maxRecDepth 20000 in
theorem ggX7_best_X7_refusalIn : GoodIn wsX7_best wsX7_refusalIn := goodIn_r _ [13, 14, 15, 16, 17, 18, 19, 20, 162, 163, 164, 165, 166, 167, 168, 169, 170, 171, 172, 173, 183, 184, 185, 186] (by decide +kernel) (by decide +kernel)
set_option maxRecDepth 20000 in
theorem gX7_best_X7_refusalIn : GoodIn wsX7_best (wsV RX7 111 RX7 yX7_refusalIn wsX7_refusalIn) := goodIn_app (goodIn_of _ (by decide +kernel)) ggX7_best_X7_refusalIn
set_option maxRecDepth 20000 in
theorem ggX7_best_X2_compareAll : GoodIn wsX7_best wsX2_compareAll := goodIn_r _ [25, 26, 27, 28, 29, 18, 30, 31, 32, 33, 34, 24, 35, 36, 37, 38, 39, 40, 41, 42, 43, 44, 45, 46, 47, 48, 49, 50, 51, 52, 53, 54, 55, 56, 57, 58, 59, 60, 20, 61, 62, 63, 64, 65, 66, 67, 68, 69, 70, 71, 5, 72, 73, 74, 75, 76, 77, 78, 79, 187, 188, 189, 190, 191, 192, 183, 184, 185, 186, 193, 194, 195] (by decide +kernel) (by decide +kernel)
set_option maxRecDepth 20000 in
theorem gX7_best_X2_compareAll : GoodIn wsX7_best (wsV RX7 123 RX2 yX2_compareAll wsX2_compareAll) := goodIn_app (goodIn_of _ (by decide +kernel)) ggX7_best_X2_compareAll
set_option maxRecDepth 20000 in
theorem ggX7_best_X4_lookAtAll : GoodIn wsX7_best wsX4_lookAtAll := goodIn_r _ [84, 85, 86, 87, 88, 89, 90, 28, 29, 18, 30, 31, 91, 92, 93, 24, 94, 95, 96, 97, 98, 26, 27, 99, 100, 101, 102, 36, 37, 38, 39, 40, 103, 104, 105, 106, 107, 108, 109, 110, 111, 112, 113, 114, 115, 116, 117, 118, 119, 120, 121, 122, 123, 124, 125, 126, 127, 128, 129, 130, 131, 132, 133, 134, 135, 136, 137, 138, 139, 140, 58, 59, 60, 20, 61, 141, 142, 143, 144, 145, 63, 64, 65, 66, 146, 147, 148, 149, 150, 151, 152, 153, 154, 155, 156, 83, 157, 158, 159, 160, 161, 174, 175, 176, 177, 178, 179, 180, 181, 182, 183, 184, 185, 186, 187, 188, 189, 190, 191, 192, 196, 197, 198, 199, 200, 201, 202, 203, 204] (by decide +kernel) (by decide +kernel)
set_option maxRecDepth 20000 in
theorem gX7_best_X4_lookAtAll : GoodIn wsX7_best (wsV RX7 176 RX4 yX4_lookAtAll wsX4_lookAtAll) := goodIn_app (goodIn_of _ (by decide +kernel)) ggX7_best_X4_lookAtAll
theorem dX7_best_0 : decode cX7_best 0 = .ok (.aload_n 0, 1) := by decide +kernel
theorem dX7_best_1 : decode cX7_best 1 = .ok (.iload_n 1, 1) := by decide +kernel
theorem dX7_best_2 : decode cX7_best 2 = .ok (.iload_n 2, 1) := by decide +kernel
theorem dX7_best_3 : decode cX7_best 3 = .ok (.invokestatic 104, 3) := by decide +kernel
theorem dX7_best_6 : decode cX7_best 6 = .ok (.ifCond .eq 15, 3) := by decide +kernel
theorem dX7_best_9 : decode cX7_best 9 = .ok (.iload_n 3, 1) := by decide +kernel
theorem dX7_best_10 : decode cX7_best 10 = .ok (.iconst 2, 1) := by decide +kernel
theorem dX7_best_11 : decode cX7_best 11 = .ok (.invokestatic 119, 3) := by decide +kernel
theorem dX7_best_14 : decode cX7_best 14 = .ok (.ifCond .eq 7, 3) := by decide +kernel
theorem dX7_best_17 : decode cX7_best 17 = .ok (.iconst 1, 1) := by decide +kernel
theorem dX7_best_18 : decode cX7_best 18 = .ok (.goto 4, 3) := by decide +kernel
theorem dX7_best_21 : decode cX7_best 21 = .ok (.iconst 0, 1) := by decide +kernel
theorem dX7_best_22 : decode cX7_best 22 = .ok (.invokevirtual 111, 3) := by decide +kernel
theorem dX7_best_25 : decode cX7_best 25 = .ok (.istore 4, 2) := by decide +kernel
theorem dX7_best_27 : decode cX7_best 27 = .ok (.iload 4, 2) := by decide +kernel
theorem dX7_best_29 : decode cX7_best 29 = .ok (.ifCond .eq 6, 3) := by decide +kernel
theorem dX7_best_32 : decode cX7_best 32 = .ok (.iload 4, 2) := by decide +kernel
theorem dX7_best_34 : decode cX7_best 34 = .ok (.ireturn, 1) := by decide +kernel
theorem dX7_best_35 : decode cX7_best 35 = .ok (.aload_n 0, 1) := by decide +kernel
theorem dX7_best_36 : decode cX7_best 36 = .ok (.getfield 31, 3) := by decide +kernel
theorem dX7_best_39 : decode cX7_best 39 = .ok (.iload_n 1, 1) := by decide +kernel
theorem dX7_best_40 : decode cX7_best 40 = .ok (.iload_n 2, 1) := by decide +kernel
theorem dX7_best_41 : decode cX7_best 41 = .ok (.invokevirtual 123, 3) := by decide +kernel
theorem dX7_best_44 : decode cX7_best 44 = .ok (.aload_n 0, 1) := by decide +kernel
theorem dX7_best_45 : decode cX7_best 45 = .ok (.getfield 49, 3) := by decide +kernel
theorem dX7_best_48 : decode cX7_best 48 = .ok (.iload_n 1, 1) := by decide +kernel
theorem dX7_best_49 : decode cX7_best 49 = .ok (.invokevirtual 176, 3) := by decide +kernel
theorem dX7_best_52 : decode cX7_best 52 = .ok (.aload_n 0, 1) := by decide +kernel
theorem dX7_best_53 : decode cX7_best 53 = .ok (.getfield 49, 3) := by decide +kernel
theorem dX7_best_56 : decode cX7_best 56 = .ok (.getfield 180, 3) := by decide +kernel
theorem dX7_best_59 : decode cX7_best 59 = .ok (.ifCond .ne 6, 3) := by decide +kernel
theorem dX7_best_62 : decode cX7_best 62 = .ok (.bipush (-6), 2) := by decide +kernel
theorem dX7_best_64 : decode cX7_best 64 = .ok (.ireturn, 1) := by decide +kernel
theorem dX7_best_65 : decode cX7_best 65 = .ok (.iload_n 3, 1) := by decide +kernel
theorem dX7_best_66 : decode cX7_best 66 = .ok (.ifCond .ne 11, 3) := by decide +kernel
theorem dX7_best_69 : decode cX7_best 69 = .ok (.aload_n 0, 1) := by decide +kernel
theorem dX7_best_70 : decode cX7_best 70 = .ok (.getfield 49, 3) := by decide +kernel
theorem dX7_best_73 : decode cX7_best 73 = .ok (.getfield 180, 3) := by decide +kernel
theorem dX7_best_76 : decode cX7_best 76 = .ok (.ireturn, 1) := by decide +kernel
theorem dX7_best_77 : decode cX7_best 77 = .ok (.iload_n 3, 1) := by decide +kernel
theorem dX7_best_78 : decode cX7_best 78 = .ok (.iconst 1, 1) := by decide +kernel
theorem dX7_best_79 : decode cX7_best 79 = .ok (.if_icmp .ne 13, 3) := by decide +kernel
theorem dX7_best_82 : decode cX7_best 82 = .ok (.aload_n 0, 1) := by decide +kernel
theorem dX7_best_83 : decode cX7_best 83 = .ok (.getfield 49, 3) := by decide +kernel
theorem dX7_best_86 : decode cX7_best 86 = .ok (.getfield 183, 3) := by decide +kernel
theorem dX7_best_89 : decode cX7_best 89 = .ok (.goto 10, 3) := by decide +kernel
theorem dX7_best_92 : decode cX7_best 92 = .ok (.aload_n 0, 1) := by decide +kernel
theorem dX7_best_93 : decode cX7_best 93 = .ok (.getfield 49, 3) := by decide +kernel
theorem dX7_best_96 : decode cX7_best 96 = .ok (.getfield 186, 3) := by decide +kernel
theorem dX7_best_99 : decode cX7_best 99 = .ok (.ireturn, 1) := by decide +kernel
set_option maxRecDepth 20000 in
theorem ggX7_two_X7_isWay : GoodIn wsX7_two wsX7_isWay := goodIn_r _ [6, 7, 8, 5, 9] (by decide +kernel) (by decide +kernel)
set_option maxRecDepth 20000 in
theorem gX7_two_X7_isWay : GoodIn wsX7_two (va_wsS RX7 104 yX7_isWay wsX7_isWay) := goodIn_app (goodIn_of _ (by decide +kernel)) ggX7_two_X7_isWay
set_option maxRecDepth 20000 in
theorem ggX7_two_X7_refusalIn : GoodIn wsX7_two wsX7_refusalIn := goodIn_r _ [13, 14, 15, 16, 17, 18, 19, 20, 170, 171, 172, 173, 174, 175, 176, 177, 178, 179, 180, 181, 182, 183, 184, 185] (by decide +kernel) (by decide +kernel)
set_option maxRecDepth 20000 in
theorem gX7_two_X7_refusalIn : GoodIn wsX7_two (wsV RX7 111 RX7 yX7_refusalIn wsX7_refusalIn) := goodIn_app (goodIn_of _ (by decide +kernel)) ggX7_two_X7_refusalIn
set_option maxRecDepth 20000 in
theorem ggX7_two_X2_compareAll : GoodIn wsX7_two wsX2_compareAll := goodIn_r _ [25, 26, 27, 28, 29, 18, 30, 31, 32, 33, 34, 24, 35, 36, 37, 38, 39, 40, 41, 42, 43, 44, 45, 46, 47, 48, 49, 50, 51, 52, 53, 54, 55, 56, 57, 58, 59, 60, 20, 61, 62, 63, 64, 65, 66, 67, 68, 69, 70, 71, 5, 72, 73, 74, 75, 76, 77, 78, 79, 186, 187, 188, 189, 190, 191, 182, 183, 184, 185, 192, 193, 194] (by decide +kernel) (by decide +kernel)
set_option maxRecDepth 20000 in
theorem gX7_two_X2_compareAll : GoodIn wsX7_two (wsV RX7 123 RX2 yX2_compareAll wsX2_compareAll) := goodIn_app (goodIn_of _ (by decide +kernel)) ggX7_two_X2_compareAll
set_option maxRecDepth 20000 in
theorem ggX7_two_X4_lookAtAll : GoodIn wsX7_two wsX4_lookAtAll := goodIn_r _ [84, 85, 86, 87, 88, 89, 90, 28, 29, 18, 30, 31, 91, 92, 93, 24, 94, 95, 96, 97, 98, 26, 27, 99, 100, 101, 102, 36, 37, 38, 39, 40, 103, 104, 105, 106, 107, 108, 109, 110, 111, 112, 113, 114, 115, 116, 117, 118, 119, 120, 121, 122, 123, 124, 125, 126, 127, 128, 129, 130, 131, 132, 133, 134, 135, 136, 137, 138, 139, 140, 58, 59, 60, 20, 61, 141, 142, 143, 144, 145, 63, 64, 65, 66, 146, 147, 148, 149, 150, 151, 152, 153, 154, 155, 156, 83, 157, 158, 159, 160, 161, 195, 196, 197, 198, 199, 200, 201, 202, 203, 182, 183, 184, 185, 186, 187, 188, 189, 190, 191, 204, 205, 206, 207, 208, 209, 210, 211, 212] (by decide +kernel) (by decide +kernel)
set_option maxRecDepth 20000 in
theorem gX7_two_X4_lookAtAll : GoodIn wsX7_two (wsV RX7 176 RX4 yX4_lookAtAll wsX4_lookAtAll) := goodIn_app (goodIn_of _ (by decide +kernel)) ggX7_two_X4_lookAtAll
set_option maxRecDepth 20000 in
theorem ggX7_two_X4_bestSumOfTwo : GoodIn wsX7_two wsX4_bestSumOfTwo := goodIn_r _ [165, 86, 85, 159, 158, 166, 167, 168, 169, 195, 196, 197, 198, 199, 200, 201, 202, 203] (by decide +kernel) (by decide +kernel)
set_option maxRecDepth 20000 in
theorem gX7_two_X4_bestSumOfTwo : GoodIn wsX7_two (wsV RX7 189 RX4 yX4_bestSumOfTwo wsX4_bestSumOfTwo) := goodIn_app (goodIn_of _ (by decide +kernel)) ggX7_two_X4_bestSumOfTwo
theorem dX7_two_0 : decode cX7_two 0 = .ok (.aload_n 0, 1) := by decide +kernel
theorem dX7_two_1 : decode cX7_two 1 = .ok (.iload_n 1, 1) := by decide +kernel
theorem dX7_two_2 : decode cX7_two 2 = .ok (.iload_n 2, 1) := by decide +kernel
theorem dX7_two_3 : decode cX7_two 3 = .ok (.invokestatic 104, 3) := by decide +kernel
theorem dX7_two_6 : decode cX7_two 6 = .ok (.invokevirtual 111, 3) := by decide +kernel
theorem dX7_two_9 : decode cX7_two 9 = .ok (.istore_n 3, 1) := by decide +kernel
theorem dX7_two_10 : decode cX7_two 10 = .ok (.iload_n 3, 1) := by decide +kernel
theorem dX7_two_11 : decode cX7_two 11 = .ok (.ifCond .eq 5, 3) := by decide +kernel
theorem dX7_two_14 : decode cX7_two 14 = .ok (.iload_n 3, 1) := by decide +kernel
theorem dX7_two_15 : decode cX7_two 15 = .ok (.ireturn, 1) := by decide +kernel
theorem dX7_two_16 : decode cX7_two 16 = .ok (.aload_n 0, 1) := by decide +kernel
theorem dX7_two_17 : decode cX7_two 17 = .ok (.getfield 31, 3) := by decide +kernel
theorem dX7_two_20 : decode cX7_two 20 = .ok (.iload_n 1, 1) := by decide +kernel
theorem dX7_two_21 : decode cX7_two 21 = .ok (.iload_n 2, 1) := by decide +kernel
theorem dX7_two_22 : decode cX7_two 22 = .ok (.invokevirtual 123, 3) := by decide +kernel
theorem dX7_two_25 : decode cX7_two 25 = .ok (.aload_n 0, 1) := by decide +kernel
theorem dX7_two_26 : decode cX7_two 26 = .ok (.getfield 49, 3) := by decide +kernel
theorem dX7_two_29 : decode cX7_two 29 = .ok (.iload_n 1, 1) := by decide +kernel
theorem dX7_two_30 : decode cX7_two 30 = .ok (.invokevirtual 176, 3) := by decide +kernel
theorem dX7_two_33 : decode cX7_two 33 = .ok (.aload_n 0, 1) := by decide +kernel
theorem dX7_two_34 : decode cX7_two 34 = .ok (.getfield 49, 3) := by decide +kernel
theorem dX7_two_37 : decode cX7_two 37 = .ok (.invokevirtual 189, 3) := by decide +kernel
theorem dX7_two_40 : decode cX7_two 40 = .ok (.ireturn, 1) := by decide +kernel
set_option maxRecDepth 20000 in
theorem ggX7_forgotten_X7_areRows : GoodIn wsX7_forgotten wsX7_areRows := goodIn_r _ [5, 6, 7, 4, 8, 9, 10, 11, 12, 13, 14] (by decide +kernel) (by decide +kernel)
set_option maxRecDepth 20000 in
theorem gX7_forgotten_X7_areRows : GoodIn wsX7_forgotten (va_wsS RX7 107 yX7_areRows wsX7_areRows) := goodIn_app (goodIn_of _ (by decide +kernel)) ggX7_forgotten_X7_areRows
set_option maxRecDepth 20000 in
theorem ggX7_forgotten_X7_isUpTo : GoodIn wsX7_forgotten wsX7_isUpTo := goodIn_r _ [11] (by decide +kernel) (by decide +kernel)
set_option maxRecDepth 20000 in
theorem gX7_forgotten_X7_isUpTo : GoodIn wsX7_forgotten (va_wsS RX7 119 yX7_isUpTo wsX7_isUpTo) := goodIn_app (goodIn_of _ (by decide +kernel)) ggX7_forgotten_X7_isUpTo
set_option maxRecDepth 20000 in
theorem ggX7_forgotten_X7_refusalIn : GoodIn wsX7_forgotten wsX7_refusalIn := goodIn_r _ [18, 19, 20, 21, 22, 23, 24, 25, 115, 116, 117, 118, 119, 120, 121, 122, 123, 124, 125, 126, 131, 132, 133, 134] (by decide +kernel) (by decide +kernel)
set_option maxRecDepth 20000 in
theorem gX7_forgotten_X7_refusalIn : GoodIn wsX7_forgotten (wsV RX7 111 RX7 yX7_refusalIn wsX7_refusalIn) := goodIn_app (goodIn_of _ (by decide +kernel)) ggX7_forgotten_X7_refusalIn
set_option maxRecDepth 20000 in
theorem ggX7_forgotten_X6_seek : GoodIn wsX7_forgotten wsX6_seek := goodIn_r _ [30, 31, 32, 33, 34, 35, 36, 37, 38, 39, 40, 41, 42, 43, 44, 45, 46, 47, 48, 49, 50, 23, 51, 52, 53, 54, 55, 56, 57, 58, 59, 60, 61, 62, 63, 64, 65, 66, 67, 68, 69, 70, 71, 72, 73, 74, 75, 76, 77, 25, 78, 79, 80, 81, 82, 83, 84, 85, 86, 87, 88, 4, 89, 90, 91, 92, 93, 94, 95, 96, 97, 98, 99, 100, 101, 102, 103, 104, 105, 106, 107, 108, 109, 110, 111, 112, 113, 114, 127, 128, 129, 130, 135, 136, 137, 138, 139, 140, 131, 132, 133, 134, 141, 142, 143] (by decide +kernel) (by decide +kernel)
set_option maxRecDepth 20000 in
theorem gX7_forgotten_X6_seek : GoodIn wsX7_forgotten (wsV RX7 192 RX6 yX6_seek wsX6_seek) := goodIn_app (goodIn_of _ (by decide +kernel)) ggX7_forgotten_X6_seek
theorem dX7_forgotten_0 : decode cX7_forgotten 0 = .ok (.aload_n 0, 1) := by decide +kernel
theorem dX7_forgotten_1 : decode cX7_forgotten 1 = .ok (.iload_n 1, 1) := by decide +kernel
theorem dX7_forgotten_2 : decode cX7_forgotten 2 = .ok (.iload_n 2, 1) := by decide +kernel
theorem dX7_forgotten_3 : decode cX7_forgotten 3 = .ok (.iload_n 3, 1) := by decide +kernel
theorem dX7_forgotten_4 : decode cX7_forgotten 4 = .ok (.iload 4, 2) := by decide +kernel
theorem dX7_forgotten_6 : decode cX7_forgotten 6 = .ok (.invokestatic 107, 3) := by decide +kernel
theorem dX7_forgotten_9 : decode cX7_forgotten 9 = .ok (.ifCond .eq 16, 3) := by decide +kernel
theorem dX7_forgotten_12 : decode cX7_forgotten 12 = .ok (.iload 5, 2) := by decide +kernel
theorem dX7_forgotten_14 : decode cX7_forgotten 14 = .ok (.iconst 1, 1) := by decide +kernel
theorem dX7_forgotten_15 : decode cX7_forgotten 15 = .ok (.invokestatic 119, 3) := by decide +kernel
theorem dX7_forgotten_18 : decode cX7_forgotten 18 = .ok (.ifCond .eq 7, 3) := by decide +kernel
theorem dX7_forgotten_21 : decode cX7_forgotten 21 = .ok (.iconst 1, 1) := by decide +kernel
theorem dX7_forgotten_22 : decode cX7_forgotten 22 = .ok (.goto 4, 3) := by decide +kernel
theorem dX7_forgotten_25 : decode cX7_forgotten 25 = .ok (.iconst 0, 1) := by decide +kernel
theorem dX7_forgotten_26 : decode cX7_forgotten 26 = .ok (.invokevirtual 111, 3) := by decide +kernel
theorem dX7_forgotten_29 : decode cX7_forgotten 29 = .ok (.istore 6, 2) := by decide +kernel
theorem dX7_forgotten_31 : decode cX7_forgotten 31 = .ok (.iload 6, 2) := by decide +kernel
theorem dX7_forgotten_33 : decode cX7_forgotten 33 = .ok (.ifCond .eq 6, 3) := by decide +kernel
theorem dX7_forgotten_36 : decode cX7_forgotten 36 = .ok (.iload 6, 2) := by decide +kernel
theorem dX7_forgotten_38 : decode cX7_forgotten 38 = .ok (.ireturn, 1) := by decide +kernel
theorem dX7_forgotten_39 : decode cX7_forgotten 39 = .ok (.aload_n 0, 1) := by decide +kernel
theorem dX7_forgotten_40 : decode cX7_forgotten 40 = .ok (.getfield 56, 3) := by decide +kernel
theorem dX7_forgotten_43 : decode cX7_forgotten 43 = .ok (.iload_n 1, 1) := by decide +kernel
theorem dX7_forgotten_44 : decode cX7_forgotten 44 = .ok (.iload_n 2, 1) := by decide +kernel
theorem dX7_forgotten_45 : decode cX7_forgotten 45 = .ok (.iload_n 3, 1) := by decide +kernel
theorem dX7_forgotten_46 : decode cX7_forgotten 46 = .ok (.iload 4, 2) := by decide +kernel
theorem dX7_forgotten_48 : decode cX7_forgotten 48 = .ok (.invokevirtual 192, 3) := by decide +kernel
theorem dX7_forgotten_51 : decode cX7_forgotten 51 = .ok (.aload_n 0, 1) := by decide +kernel
theorem dX7_forgotten_52 : decode cX7_forgotten 52 = .ok (.getfield 56, 3) := by decide +kernel
theorem dX7_forgotten_55 : decode cX7_forgotten 55 = .ok (.getfield 196, 3) := by decide +kernel
theorem dX7_forgotten_58 : decode cX7_forgotten 58 = .ok (.ifCond .ne 6, 3) := by decide +kernel
theorem dX7_forgotten_61 : decode cX7_forgotten 61 = .ok (.bipush (-6), 2) := by decide +kernel
theorem dX7_forgotten_63 : decode cX7_forgotten 63 = .ok (.ireturn, 1) := by decide +kernel
theorem dX7_forgotten_64 : decode cX7_forgotten 64 = .ok (.iload 5, 2) := by decide +kernel
theorem dX7_forgotten_66 : decode cX7_forgotten 66 = .ok (.ifCond .ne 13, 3) := by decide +kernel
theorem dX7_forgotten_69 : decode cX7_forgotten 69 = .ok (.aload_n 0, 1) := by decide +kernel
theorem dX7_forgotten_70 : decode cX7_forgotten 70 = .ok (.getfield 56, 3) := by decide +kernel
theorem dX7_forgotten_73 : decode cX7_forgotten 73 = .ok (.getfield 199, 3) := by decide +kernel
theorem dX7_forgotten_76 : decode cX7_forgotten 76 = .ok (.goto 10, 3) := by decide +kernel
theorem dX7_forgotten_79 : decode cX7_forgotten 79 = .ok (.aload_n 0, 1) := by decide +kernel
theorem dX7_forgotten_80 : decode cX7_forgotten 80 = .ok (.getfield 56, 3) := by decide +kernel
theorem dX7_forgotten_83 : decode cX7_forgotten 83 = .ok (.getfield 196, 3) := by decide +kernel
theorem dX7_forgotten_86 : decode cX7_forgotten 86 = .ok (.ireturn, 1) := by decide +kernel
set_option maxRecDepth 20000 in
theorem ggX7_parted_X7_isWay : GoodIn wsX7_parted wsX7_isWay := goodIn_r _ [6, 7, 8, 5, 9] (by decide +kernel) (by decide +kernel)
set_option maxRecDepth 20000 in
theorem gX7_parted_X7_isWay : GoodIn wsX7_parted (va_wsS RX7 104 yX7_isWay wsX7_isWay) := goodIn_app (goodIn_of _ (by decide +kernel)) ggX7_parted_X7_isWay
set_option maxRecDepth 20000 in
theorem ggX7_parted_X7_areRows : GoodIn wsX7_parted wsX7_areRows := goodIn_r _ [12, 13, 14, 5, 15, 7, 8, 9, 16, 17, 18] (by decide +kernel) (by decide +kernel)
set_option maxRecDepth 20000 in
theorem gX7_parted_X7_areRows : GoodIn wsX7_parted (va_wsS RX7 107 yX7_areRows wsX7_areRows) := goodIn_app (goodIn_of _ (by decide +kernel)) ggX7_parted_X7_areRows
set_option maxRecDepth 20000 in
theorem ggX7_parted_X0_versions : GoodIn wsX7_parted wsX0_versions := goodIn_r _ [23, 24, 95, 96, 97, 98] (by decide +kernel) (by decide +kernel)
set_option maxRecDepth 20000 in
theorem gX7_parted_X0_versions : GoodIn wsX7_parted (wsV RX7 83 RX0 yX0_versions wsX0_versions) := goodIn_app (goodIn_of _ (by decide +kernel)) ggX7_parted_X0_versions
set_option maxRecDepth 20000 in
theorem ggX7_parted_X2_rowsAlike : GoodIn wsX7_parted wsX2_rowsAlike := goodIn_r _ [29, 30, 31, 32, 28, 33, 34, 35, 36, 37, 38, 39, 40, 41, 22, 42, 43, 44, 45, 46, 47, 48, 49, 50, 51, 52, 53, 54, 55, 56, 57, 58, 59, 60, 61, 62, 63, 24, 64, 65, 66, 67, 68, 69, 70, 71, 72, 73, 74, 5, 75, 76, 77, 78, 79, 80, 81, 82, 99, 100, 101, 102, 103, 104, 95, 96, 97, 98, 105, 106, 107] (by decide +kernel) (by decide +kernel)
set_option maxRecDepth 20000 in
theorem gX7_parted_X2_rowsAlike : GoodIn wsX7_parted (wsV RX7 115 RX2 yX2_rowsAlike wsX2_rowsAlike) := goodIn_app (goodIn_of _ (by decide +kernel)) ggX7_parted_X2_rowsAlike
theorem dX7_parted_0 : decode cX7_parted 0 = .ok (.iload_n 1, 1) := by decide +kernel
theorem dX7_parted_1 : decode cX7_parted 1 = .ok (.invokestatic 104, 3) := by decide +kernel
theorem dX7_parted_4 : decode cX7_parted 4 = .ok (.ifCond .eq 13, 3) := by decide +kernel
theorem dX7_parted_7 : decode cX7_parted 7 = .ok (.iload_n 2, 1) := by decide +kernel
theorem dX7_parted_8 : decode cX7_parted 8 = .ok (.iload_n 3, 1) := by decide +kernel
theorem dX7_parted_9 : decode cX7_parted 9 = .ok (.iload 4, 2) := by decide +kernel
theorem dX7_parted_11 : decode cX7_parted 11 = .ok (.invokestatic 107, 3) := by decide +kernel
theorem dX7_parted_14 : decode cX7_parted 14 = .ok (.ifCond .ne 6, 3) := by decide +kernel
theorem dX7_parted_17 : decode cX7_parted 17 = .ok (.bipush (-2), 2) := by decide +kernel
theorem dX7_parted_19 : decode cX7_parted 19 = .ok (.ireturn, 1) := by decide +kernel
theorem dX7_parted_20 : decode cX7_parted 20 = .ok (.iconst 0, 1) := by decide +kernel
theorem dX7_parted_21 : decode cX7_parted 21 = .ok (.istore 5, 2) := by decide +kernel
theorem dX7_parted_23 : decode cX7_parted 23 = .ok (.iconst 0, 1) := by decide +kernel
theorem dX7_parted_24 : decode cX7_parted 24 = .ok (.istore 6, 2) := by decide +kernel
theorem dX7_parted_26 : decode cX7_parted 26 = .ok (.iload 6, 2) := by decide +kernel
theorem dX7_parted_28 : decode cX7_parted 28 = .ok (.aload_n 0, 1) := by decide +kernel
theorem dX7_parted_29 : decode cX7_parted 29 = .ok (.getfield 10, 3) := by decide +kernel
theorem dX7_parted_32 : decode cX7_parted 32 = .ok (.invokevirtual 83, 3) := by decide +kernel
theorem dX7_parted_35 : decode cX7_parted 35 = .ok (.if_icmp .ge 42, 3) := by decide +kernel
theorem dX7_parted_38 : decode cX7_parted 38 = .ok (.aload_n 0, 1) := by decide +kernel
theorem dX7_parted_39 : decode cX7_parted 39 = .ok (.getfield 31, 3) := by decide +kernel
theorem dX7_parted_42 : decode cX7_parted 42 = .ok (.iload 6, 2) := by decide +kernel
theorem dX7_parted_44 : decode cX7_parted 44 = .ok (.iload_n 1, 1) := by decide +kernel
theorem dX7_parted_45 : decode cX7_parted 45 = .ok (.iload_n 2, 1) := by decide +kernel
theorem dX7_parted_46 : decode cX7_parted 46 = .ok (.iload_n 3, 1) := by decide +kernel
theorem dX7_parted_47 : decode cX7_parted 47 = .ok (.iload 4, 2) := by decide +kernel
theorem dX7_parted_49 : decode cX7_parted 49 = .ok (.invokevirtual 115, 3) := by decide +kernel
theorem dX7_parted_52 : decode cX7_parted 52 = .ok (.istore 7, 2) := by decide +kernel
theorem dX7_parted_54 : decode cX7_parted 54 = .ok (.iload 5, 2) := by decide +kernel
theorem dX7_parted_56 : decode cX7_parted 56 = .ok (.ifCond .eq 11, 3) := by decide +kernel
theorem dX7_parted_59 : decode cX7_parted 59 = .ok (.iload 7, 2) := by decide +kernel
theorem dX7_parted_61 : decode cX7_parted 61 = .ok (.ifCond .ne 6, 3) := by decide +kernel
theorem dX7_parted_64 : decode cX7_parted 64 = .ok (.iload 6, 2) := by decide +kernel
theorem dX7_parted_66 : decode cX7_parted 66 = .ok (.ireturn, 1) := by decide +kernel
theorem dX7_parted_67 : decode cX7_parted 67 = .ok (.iload 7, 2) := by decide +kernel
theorem dX7_parted_69 : decode cX7_parted 69 = .ok (.istore 5, 2) := by decide +kernel
theorem dX7_parted_71 : decode cX7_parted 71 = .ok (.iinc 6 1, 3) := by decide +kernel
theorem dX7_parted_74 : decode cX7_parted 74 = .ok (.goto (-48), 3) := by decide +kernel
theorem dX7_parted_77 : decode cX7_parted 77 = .ok (.bipush (-6), 2) := by decide +kernel
theorem dX7_parted_79 : decode cX7_parted 79 = .ok (.ireturn, 1) := by decide +kernel
set_option maxRecDepth 20000 in
theorem ggX7_mends_X7_areRows : GoodIn wsX7_mends wsX7_areRows := goodIn_r _ [5, 6, 7, 4, 8, 9, 10, 11, 12, 13, 14] (by decide +kernel) (by decide +kernel)
set_option maxRecDepth 20000 in
theorem gX7_mends_X7_areRows : GoodIn wsX7_mends (va_wsS RX7 107 yX7_areRows wsX7_areRows) := goodIn_app (goodIn_of _ (by decide +kernel)) ggX7_mends_X7_areRows
set_option maxRecDepth 20000 in
theorem ggX7_mends_X7_refusalBehind : GoodIn wsX7_mends wsX7_refusalBehind := goodIn_r _ [18, 19, 20, 21, 22, 23, 24, 25, 26, 27, 28, 4, 29, 30, 31, 32, 33, 102, 103, 104, 105, 106, 107, 108, 109, 110, 111, 112, 113, 114, 115, 116, 117] (by decide +kernel) (by decide +kernel)
set_option maxRecDepth 20000 in
theorem gX7_mends_X7_refusalBehind : GoodIn wsX7_mends (wsV RX7 202 RX7 yX7_refusalBehind wsX7_refusalBehind) := goodIn_app (goodIn_of _ (by decide +kernel)) ggX7_mends_X7_refusalBehind
set_option maxRecDepth 20000 in
theorem ggX7_mends_X2_rowsAlike : GoodIn wsX7_mends wsX2_rowsAlike := goodIn_r _ [38, 39, 40, 41, 37, 42, 43, 44, 45, 46, 47, 48, 49, 50, 23, 51, 52, 53, 54, 55, 56, 57, 58, 59, 60, 61, 62, 63, 64, 65, 66, 67, 68, 69, 70, 71, 72, 25, 73, 74, 75, 76, 77, 78, 79, 80, 81, 82, 83, 4, 84, 85, 86, 87, 88, 89, 90, 91, 118, 119, 120, 121, 122, 123, 114, 115, 116, 117, 124, 125, 126] (by decide +kernel) (by decide +kernel)
set_option maxRecDepth 20000 in
theorem gX7_mends_X2_rowsAlike : GoodIn wsX7_mends (wsV RX7 115 RX2 yX2_rowsAlike wsX2_rowsAlike) := goodIn_app (goodIn_of _ (by decide +kernel)) ggX7_mends_X2_rowsAlike
set_option maxRecDepth 20000 in
theorem ggX7_mends_X7_wasMendedInFirstAlone : GoodIn wsX7_mends wsX7_wasMendedInFirstAlone := goodIn_r _ [95, 19, 96, 97, 98, 23, 99, 100, 70, 71, 72, 25, 52, 73, 101, 75, 76, 77, 78, 102, 103, 104, 105, 106, 107, 108, 109, 110, 111, 112, 113, 114, 115, 116, 117] (by decide +kernel) (by decide +kernel)
set_option maxRecDepth 20000 in
theorem gX7_mends_X7_wasMendedInFirstAlone : GoodIn wsX7_mends (wsV RX7 205 RX7 yX7_wasMendedInFirstAlone wsX7_wasMendedInFirstAlone) := goodIn_app (goodIn_of _ (by decide +kernel)) ggX7_mends_X7_wasMendedInFirstAlone
theorem dX7_mends_0 : decode cX7_mends 0 = .ok (.aload_n 0, 1) := by decide +kernel
theorem dX7_mends_1 : decode cX7_mends 1 = .ok (.iload_n 1, 1) := by decide +kernel
theorem dX7_mends_2 : decode cX7_mends 2 = .ok (.iload_n 2, 1) := by decide +kernel
theorem dX7_mends_3 : decode cX7_mends 3 = .ok (.iload_n 3, 1) := by decide +kernel
theorem dX7_mends_4 : decode cX7_mends 4 = .ok (.iload 4, 2) := by decide +kernel
theorem dX7_mends_6 : decode cX7_mends 6 = .ok (.invokestatic 107, 3) := by decide +kernel
theorem dX7_mends_9 : decode cX7_mends 9 = .ok (.invokevirtual 202, 3) := by decide +kernel
theorem dX7_mends_12 : decode cX7_mends 12 = .ok (.istore 5, 2) := by decide +kernel
theorem dX7_mends_14 : decode cX7_mends 14 = .ok (.iload 5, 2) := by decide +kernel
theorem dX7_mends_16 : decode cX7_mends 16 = .ok (.ifCond .eq 6, 3) := by decide +kernel
theorem dX7_mends_19 : decode cX7_mends 19 = .ok (.iload 5, 2) := by decide +kernel
theorem dX7_mends_21 : decode cX7_mends 21 = .ok (.ireturn, 1) := by decide +kernel
theorem dX7_mends_22 : decode cX7_mends 22 = .ok (.aload_n 0, 1) := by decide +kernel
theorem dX7_mends_23 : decode cX7_mends 23 = .ok (.getfield 31, 3) := by decide +kernel
theorem dX7_mends_26 : decode cX7_mends 26 = .ok (.iload_n 1, 1) := by decide +kernel
theorem dX7_mends_27 : decode cX7_mends 27 = .ok (.iconst 1, 1) := by decide +kernel
theorem dX7_mends_28 : decode cX7_mends 28 = .ok (.iload_n 2, 1) := by decide +kernel
theorem dX7_mends_29 : decode cX7_mends 29 = .ok (.iload_n 3, 1) := by decide +kernel
theorem dX7_mends_30 : decode cX7_mends 30 = .ok (.iload 4, 2) := by decide +kernel
theorem dX7_mends_32 : decode cX7_mends 32 = .ok (.invokevirtual 115, 3) := by decide +kernel
theorem dX7_mends_35 : decode cX7_mends 35 = .ok (.ifCond .ne 5, 3) := by decide +kernel
theorem dX7_mends_38 : decode cX7_mends 38 = .ok (.iconst 0, 1) := by decide +kernel
theorem dX7_mends_39 : decode cX7_mends 39 = .ok (.ireturn, 1) := by decide +kernel
theorem dX7_mends_40 : decode cX7_mends 40 = .ok (.iconst 0, 1) := by decide +kernel
theorem dX7_mends_41 : decode cX7_mends 41 = .ok (.istore 6, 2) := by decide +kernel
theorem dX7_mends_43 : decode cX7_mends 43 = .ok (.iconst 0, 1) := by decide +kernel
theorem dX7_mends_44 : decode cX7_mends 44 = .ok (.istore 7, 2) := by decide +kernel
theorem dX7_mends_46 : decode cX7_mends 46 = .ok (.iload 7, 2) := by decide +kernel
theorem dX7_mends_48 : decode cX7_mends 48 = .ok (.iload 4, 2) := by decide +kernel
theorem dX7_mends_50 : decode cX7_mends 50 = .ok (.if_icmp .ge 34, 3) := by decide +kernel
theorem dX7_mends_53 : decode cX7_mends 53 = .ok (.aload_n 0, 1) := by decide +kernel
theorem dX7_mends_54 : decode cX7_mends 54 = .ok (.iload_n 1, 1) := by decide +kernel
theorem dX7_mends_55 : decode cX7_mends 55 = .ok (.iload_n 2, 1) := by decide +kernel
theorem dX7_mends_56 : decode cX7_mends 56 = .ok (.iload 7, 2) := by decide +kernel
theorem dX7_mends_58 : decode cX7_mends 58 = .ok (.iadd, 1) := by decide +kernel
theorem dX7_mends_59 : decode cX7_mends 59 = .ok (.iload_n 3, 1) := by decide +kernel
theorem dX7_mends_60 : decode cX7_mends 60 = .ok (.iload 7, 2) := by decide +kernel
theorem dX7_mends_62 : decode cX7_mends 62 = .ok (.iadd, 1) := by decide +kernel
theorem dX7_mends_63 : decode cX7_mends 63 = .ok (.invokevirtual 205, 3) := by decide +kernel
theorem dX7_mends_66 : decode cX7_mends 66 = .ok (.ifCond .eq 12, 3) := by decide +kernel
theorem dX7_mends_69 : decode cX7_mends 69 = .ok (.iload 6, 2) := by decide +kernel
theorem dX7_mends_71 : decode cX7_mends 71 = .ok (.iconst 1, 1) := by decide +kernel
theorem dX7_mends_72 : decode cX7_mends 72 = .ok (.iload 7, 2) := by decide +kernel
theorem dX7_mends_74 : decode cX7_mends 74 = .ok (.ishl, 1) := by decide +kernel
theorem dX7_mends_75 : decode cX7_mends 75 = .ok (.ior, 1) := by decide +kernel
theorem dX7_mends_76 : decode cX7_mends 76 = .ok (.istore 6, 2) := by decide +kernel
theorem dX7_mends_78 : decode cX7_mends 78 = .ok (.iinc 7 1, 3) := by decide +kernel
theorem dX7_mends_81 : decode cX7_mends 81 = .ok (.goto (-35), 3) := by decide +kernel
theorem dX7_mends_84 : decode cX7_mends 84 = .ok (.iload 6, 2) := by decide +kernel
theorem dX7_mends_86 : decode cX7_mends 86 = .ok (.ireturn, 1) := by decide +kernel
set_option maxRecDepth 20000 in
theorem ggX7_mend_X7_areRows : GoodIn wsX7_mend wsX7_areRows := goodIn_r _ [6, 7, 8, 5, 9, 10, 11, 12, 13, 14, 15] (by decide +kernel) (by decide +kernel)
set_option maxRecDepth 20000 in
theorem gX7_mend_X7_areRows : GoodIn wsX7_mend (va_wsS RX7 107 yX7_areRows wsX7_areRows) := goodIn_app (goodIn_of _ (by decide +kernel)) ggX7_mend_X7_areRows
set_option maxRecDepth 20000 in
theorem ggX7_mend_X7_isUpTo : GoodIn wsX7_mend wsX7_isUpTo := goodIn_r _ [12] (by decide +kernel) (by decide +kernel)
set_option maxRecDepth 20000 in
theorem gX7_mend_X7_isUpTo : GoodIn wsX7_mend (va_wsS RX7 119 yX7_isUpTo wsX7_isUpTo) := goodIn_app (goodIn_of _ (by decide +kernel)) ggX7_mend_X7_isUpTo
set_option maxRecDepth 20000 in
theorem ggX7_mend_X7_refusalBehind : GoodIn wsX7_mend wsX7_refusalBehind := goodIn_r _ [19, 2, 20, 21, 22, 23, 24, 25, 26, 27, 28, 5, 29, 30, 31, 32, 33, 112, 113, 114, 115, 116, 117, 118, 119, 120, 121, 122, 123, 130, 131, 132, 133] (by decide +kernel) (by decide +kernel)
set_option maxRecDepth 20000 in
theorem gX7_mend_X7_refusalBehind : GoodIn wsX7_mend (wsV RX7 202 RX7 yX7_refusalBehind wsX7_refusalBehind) := goodIn_app (goodIn_of _ (by decide +kernel)) ggX7_mend_X7_refusalBehind
set_option maxRecDepth 20000 in
theorem ggX7_mend_X2_rowsAlike : GoodIn wsX7_mend wsX2_rowsAlike := goodIn_r _ [38, 39, 40, 41, 37, 42, 43, 44, 45, 46, 47, 48, 49, 50, 23, 51, 52, 53, 54, 55, 56, 57, 58, 59, 60, 61, 62, 63, 64, 65, 66, 67, 68, 69, 70, 71, 72, 25, 73, 74, 75, 76, 77, 78, 79, 80, 81, 82, 83, 5, 84, 85, 86, 87, 88, 89, 90, 91, 124, 125, 126, 127, 128, 129, 130, 131, 132, 133, 134, 135, 136] (by decide +kernel) (by decide +kernel)
set_option maxRecDepth 20000 in
theorem gX7_mend_X2_rowsAlike : GoodIn wsX7_mend (wsV RX7 115 RX2 yX2_rowsAlike wsX2_rowsAlike) := goodIn_app (goodIn_of _ (by decide +kernel)) ggX7_mend_X2_rowsAlike
set_option maxRecDepth 20000 in
theorem ggX7_mend_X7_wasMendedInFirstAlone : GoodIn wsX7_mend wsX7_wasMendedInFirstAlone := goodIn_r _ [95, 2, 96, 97, 98, 23, 99, 100, 70, 71, 72, 25, 52, 73, 101, 75, 76, 77, 78, 112, 113, 114, 115, 116, 117, 118, 119, 120, 121, 122, 123, 130, 131, 132, 133] (by decide +kernel) (by decide +kernel)
set_option maxRecDepth 20000 in
theorem gX7_mend_X7_wasMendedInFirstAlone : GoodIn wsX7_mend (wsV RX7 205 RX7 yX7_wasMendedInFirstAlone wsX7_wasMendedInFirstAlone) := goodIn_app (goodIn_of _ (by decide +kernel)) ggX7_mend_X7_wasMendedInFirstAlone
set_option maxRecDepth 20000 in
theorem ggX7_mend_X0_sizeOf : GoodIn wsX7_mend wsX0_sizeOf := goodIn_r _ [72, 25, 52, 73, 130, 131, 132, 133] (by decide +kernel) (by decide +kernel)
set_option maxRecDepth 20000 in
theorem gX7_mend_X0_sizeOf : GoodIn wsX7_mend (wsV RX7 96 RX0 yX0_sizeOf wsX0_sizeOf) := goodIn_app (goodIn_of _ (by decide +kernel)) ggX7_mend_X0_sizeOf
set_option maxRecDepth 20000 in
theorem ggX7_mend_X0_signAt : GoodIn wsX7_mend wsX0_signAt := goodIn_r _ [77, 25, 52, 73, 78, 130, 131, 132, 133] (by decide +kernel) (by decide +kernel)
set_option maxRecDepth 20000 in
theorem gX7_mend_X0_signAt : GoodIn wsX7_mend (wsV RX7 100 RX0 yX0_signAt wsX0_signAt) := goodIn_app (goodIn_of _ (by decide +kernel)) ggX7_mend_X0_signAt
set_option maxRecDepth 20000 in
theorem ggX7_mend_X3_renamed : GoodIn wsX7_mend wsX3_renamed := goodIn_r _ [107, 89, 108, 109, 110, 61, 111, 63, 83, 5, 84, 134, 135, 136] (by decide +kernel) (by decide +kernel)
set_option maxRecDepth 20000 in
theorem gX7_mend_X3_renamed : GoodIn wsX7_mend (wsV RX7 212 RX3 yX3_renamed wsX3_renamed) := goodIn_app (goodIn_of _ (by decide +kernel)) ggX7_mend_X3_renamed
theorem dX7_mend_0 : decode cX7_mend 0 = .ok (.aload_n 0, 1) := by decide +kernel
theorem dX7_mend_1 : decode cX7_mend 1 = .ok (.iload_n 1, 1) := by decide +kernel
theorem dX7_mend_2 : decode cX7_mend 2 = .ok (.iload_n 2, 1) := by decide +kernel
theorem dX7_mend_3 : decode cX7_mend 3 = .ok (.iload_n 3, 1) := by decide +kernel
theorem dX7_mend_4 : decode cX7_mend 4 = .ok (.iload 4, 2) := by decide +kernel
theorem dX7_mend_6 : decode cX7_mend 6 = .ok (.invokestatic 107, 3) := by decide +kernel
theorem dX7_mend_9 : decode cX7_mend 9 = .ok (.ifCond .eq 19, 3) := by decide +kernel
theorem dX7_mend_12 : decode cX7_mend 12 = .ok (.iload 5, 2) := by decide +kernel
theorem dX7_mend_14 : decode cX7_mend 14 = .ok (.iload 4, 2) := by decide +kernel
theorem dX7_mend_16 : decode cX7_mend 16 = .ok (.iconst 1, 1) := by decide +kernel
theorem dX7_mend_17 : decode cX7_mend 17 = .ok (.isub, 1) := by decide +kernel
theorem dX7_mend_18 : decode cX7_mend 18 = .ok (.invokestatic 119, 3) := by decide +kernel
theorem dX7_mend_21 : decode cX7_mend 21 = .ok (.ifCond .eq 7, 3) := by decide +kernel
theorem dX7_mend_24 : decode cX7_mend 24 = .ok (.iconst 1, 1) := by decide +kernel
theorem dX7_mend_25 : decode cX7_mend 25 = .ok (.goto 4, 3) := by decide +kernel
theorem dX7_mend_28 : decode cX7_mend 28 = .ok (.iconst 0, 1) := by decide +kernel
theorem dX7_mend_29 : decode cX7_mend 29 = .ok (.invokevirtual 202, 3) := by decide +kernel
theorem dX7_mend_32 : decode cX7_mend 32 = .ok (.istore 7, 2) := by decide +kernel
theorem dX7_mend_34 : decode cX7_mend 34 = .ok (.iload 7, 2) := by decide +kernel
theorem dX7_mend_36 : decode cX7_mend 36 = .ok (.ifCond .eq 6, 3) := by decide +kernel
theorem dX7_mend_39 : decode cX7_mend 39 = .ok (.iload 7, 2) := by decide +kernel
theorem dX7_mend_41 : decode cX7_mend 41 = .ok (.ireturn, 1) := by decide +kernel
theorem dX7_mend_42 : decode cX7_mend 42 = .ok (.aload_n 0, 1) := by decide +kernel
theorem dX7_mend_43 : decode cX7_mend 43 = .ok (.getfield 31, 3) := by decide +kernel
theorem dX7_mend_46 : decode cX7_mend 46 = .ok (.iload_n 1, 1) := by decide +kernel
theorem dX7_mend_47 : decode cX7_mend 47 = .ok (.iconst 1, 1) := by decide +kernel
theorem dX7_mend_48 : decode cX7_mend 48 = .ok (.iload_n 2, 1) := by decide +kernel
theorem dX7_mend_49 : decode cX7_mend 49 = .ok (.iload_n 3, 1) := by decide +kernel
theorem dX7_mend_50 : decode cX7_mend 50 = .ok (.iload 4, 2) := by decide +kernel
theorem dX7_mend_52 : decode cX7_mend 52 = .ok (.invokevirtual 115, 3) := by decide +kernel
theorem dX7_mend_55 : decode cX7_mend 55 = .ok (.ifCond .ne 6, 3) := by decide +kernel
theorem dX7_mend_58 : decode cX7_mend 58 = .ok (.bipush (-5), 2) := by decide +kernel
theorem dX7_mend_60 : decode cX7_mend 60 = .ok (.ireturn, 1) := by decide +kernel
theorem dX7_mend_61 : decode cX7_mend 61 = .ok (.aload_n 0, 1) := by decide +kernel
theorem dX7_mend_62 : decode cX7_mend 62 = .ok (.iload_n 1, 1) := by decide +kernel
theorem dX7_mend_63 : decode cX7_mend 63 = .ok (.iload_n 2, 1) := by decide +kernel
theorem dX7_mend_64 : decode cX7_mend 64 = .ok (.iload 5, 2) := by decide +kernel
theorem dX7_mend_66 : decode cX7_mend 66 = .ok (.iadd, 1) := by decide +kernel
theorem dX7_mend_67 : decode cX7_mend 67 = .ok (.iload_n 3, 1) := by decide +kernel
theorem dX7_mend_68 : decode cX7_mend 68 = .ok (.iload 5, 2) := by decide +kernel
theorem dX7_mend_70 : decode cX7_mend 70 = .ok (.iadd, 1) := by decide +kernel
theorem dX7_mend_71 : decode cX7_mend 71 = .ok (.invokevirtual 205, 3) := by decide +kernel
theorem dX7_mend_74 : decode cX7_mend 74 = .ok (.ifCond .ne 6, 3) := by decide +kernel
theorem dX7_mend_77 : decode cX7_mend 77 = .ok (.bipush (-5), 2) := by decide +kernel
theorem dX7_mend_79 : decode cX7_mend 79 = .ok (.ireturn, 1) := by decide +kernel
theorem dX7_mend_80 : decode cX7_mend 80 = .ok (.iload 6, 2) := by decide +kernel
theorem dX7_mend_82 : decode cX7_mend 82 = .ok (.iconst (-1), 1) := by decide +kernel
theorem dX7_mend_83 : decode cX7_mend 83 = .ok (.if_icmp .ne 18, 3) := by decide +kernel
theorem dX7_mend_86 : decode cX7_mend 86 = .ok (.aload_n 0, 1) := by decide +kernel
theorem dX7_mend_87 : decode cX7_mend 87 = .ok (.getfield 10, 3) := by decide +kernel
theorem dX7_mend_90 : decode cX7_mend 90 = .ok (.iload_n 1, 1) := by decide +kernel
theorem dX7_mend_91 : decode cX7_mend 91 = .ok (.iconst 1, 1) := by decide +kernel
theorem dX7_mend_92 : decode cX7_mend 92 = .ok (.iadd, 1) := by decide +kernel
theorem dX7_mend_93 : decode cX7_mend 93 = .ok (.iload_n 2, 1) := by decide +kernel
theorem dX7_mend_94 : decode cX7_mend 94 = .ok (.iload 5, 2) := by decide +kernel
theorem dX7_mend_96 : decode cX7_mend 96 = .ok (.iadd, 1) := by decide +kernel
theorem dX7_mend_97 : decode cX7_mend 97 = .ok (.invokevirtual 96, 3) := by decide +kernel
theorem dX7_mend_100 : decode cX7_mend 100 = .ok (.ireturn, 1) := by decide +kernel
theorem dX7_mend_101 : decode cX7_mend 101 = .ok (.aload_n 0, 1) := by decide +kernel
theorem dX7_mend_102 : decode cX7_mend 102 = .ok (.getfield 10, 3) := by decide +kernel
theorem dX7_mend_105 : decode cX7_mend 105 = .ok (.iload_n 1, 1) := by decide +kernel
theorem dX7_mend_106 : decode cX7_mend 106 = .ok (.iconst 1, 1) := by decide +kernel
theorem dX7_mend_107 : decode cX7_mend 107 = .ok (.iadd, 1) := by decide +kernel
theorem dX7_mend_108 : decode cX7_mend 108 = .ok (.iload_n 2, 1) := by decide +kernel
theorem dX7_mend_109 : decode cX7_mend 109 = .ok (.iload 5, 2) := by decide +kernel
theorem dX7_mend_111 : decode cX7_mend 111 = .ok (.iadd, 1) := by decide +kernel
theorem dX7_mend_112 : decode cX7_mend 112 = .ok (.iload 6, 2) := by decide +kernel
theorem dX7_mend_114 : decode cX7_mend 114 = .ok (.invokevirtual 100, 3) := by decide +kernel
theorem dX7_mend_117 : decode cX7_mend 117 = .ok (.istore 8, 2) := by decide +kernel
theorem dX7_mend_119 : decode cX7_mend 119 = .ok (.iload 8, 2) := by decide +kernel
theorem dX7_mend_121 : decode cX7_mend 121 = .ok (.ifCond .ne 8, 3) := by decide +kernel
theorem dX7_mend_124 : decode cX7_mend 124 = .ok (.bipush (-6), 2) := by decide +kernel
theorem dX7_mend_126 : decode cX7_mend 126 = .ok (.goto 15, 3) := by decide +kernel
theorem dX7_mend_129 : decode cX7_mend 129 = .ok (.aload_n 0, 1) := by decide +kernel
theorem dX7_mend_130 : decode cX7_mend 130 = .ok (.getfield 31, 3) := by decide +kernel
theorem dX7_mend_133 : decode cX7_mend 133 = .ok (.getfield 208, 3) := by decide +kernel
theorem dX7_mend_136 : decode cX7_mend 136 = .ok (.iload 8, 2) := by decide +kernel
theorem dX7_mend_138 : decode cX7_mend 138 = .ok (.invokevirtual 212, 3) := by decide +kernel
theorem dX7_mend_141 : decode cX7_mend 141 = .ok (.ireturn, 1) := by decide +kernel
set_option maxRecDepth 20000 in
theorem ggX7_far_X0_hasVersion : GoodIn wsX7_far wsX0_hasVersion := goodIn_r _ [7, 8, 55, 56, 57, 58] (by decide +kernel) (by decide +kernel)
set_option maxRecDepth 20000 in
theorem gX7_far_X0_hasVersion : GoodIn wsX7_far (wsV RX7 93 RX0 yX0_hasVersion wsX0_hasVersion) := goodIn_app (goodIn_of _ (by decide +kernel)) ggX7_far_X0_hasVersion
set_option maxRecDepth 20000 in
theorem ggX7_far_X0_hasLine : GoodIn wsX7_far wsX0_hasLine := goodIn_r _ [12, 13, 55, 56, 57, 58] (by decide +kernel) (by decide +kernel)
set_option maxRecDepth 20000 in
theorem gX7_far_X0_hasLine : GoodIn wsX7_far (wsV RX7 79 RX0 yX0_hasLine wsX0_hasLine) := goodIn_app (goodIn_of _ (by decide +kernel)) ggX7_far_X0_hasLine
set_option maxRecDepth 20000 in
theorem ggX7_far_X1_between : GoodIn wsX7_far wsX1_between := goodIn_r _ [18, 19, 20, 21, 22, 23, 24, 25, 26, 27, 6, 28, 8, 13, 29, 30, 31, 32, 33, 34, 35, 36, 17, 37, 38, 39, 40, 41, 42, 59, 60, 55, 56, 57, 58] (by decide +kernel) (by decide +kernel)
set_option maxRecDepth 20000 in
theorem gX7_far_X1_between : GoodIn wsX7_far (wsV RX7 217 RX1 yX1_between wsX1_between) := goodIn_app (goodIn_of _ (by decide +kernel)) ggX7_far_X1_between
theorem dX7_far_0 : decode cX7_far 0 = .ok (.aload_n 0, 1) := by decide +kernel
theorem dX7_far_1 : decode cX7_far 1 = .ok (.getfield 10, 3) := by decide +kernel
theorem dX7_far_4 : decode cX7_far 4 = .ok (.iload_n 1, 1) := by decide +kernel
theorem dX7_far_5 : decode cX7_far 5 = .ok (.invokevirtual 93, 3) := by decide +kernel
theorem dX7_far_8 : decode cX7_far 8 = .ok (.ifCond .eq 25, 3) := by decide +kernel
theorem dX7_far_11 : decode cX7_far 11 = .ok (.aload_n 0, 1) := by decide +kernel
theorem dX7_far_12 : decode cX7_far 12 = .ok (.getfield 10, 3) := by decide +kernel
theorem dX7_far_15 : decode cX7_far 15 = .ok (.iload_n 2, 1) := by decide +kernel
theorem dX7_far_16 : decode cX7_far 16 = .ok (.invokevirtual 79, 3) := by decide +kernel
theorem dX7_far_19 : decode cX7_far 19 = .ok (.ifCond .eq 14, 3) := by decide +kernel
theorem dX7_far_22 : decode cX7_far 22 = .ok (.aload_n 0, 1) := by decide +kernel
theorem dX7_far_23 : decode cX7_far 23 = .ok (.getfield 10, 3) := by decide +kernel
theorem dX7_far_26 : decode cX7_far 26 = .ok (.iload_n 3, 1) := by decide +kernel
theorem dX7_far_27 : decode cX7_far 27 = .ok (.invokevirtual 79, 3) := by decide +kernel
theorem dX7_far_30 : decode cX7_far 30 = .ok (.ifCond .ne 5, 3) := by decide +kernel
theorem dX7_far_33 : decode cX7_far 33 = .ok (.iconst (-1), 1) := by decide +kernel
theorem dX7_far_34 : decode cX7_far 34 = .ok (.ireturn, 1) := by decide +kernel
theorem dX7_far_35 : decode cX7_far 35 = .ok (.aload_n 0, 1) := by decide +kernel
theorem dX7_far_36 : decode cX7_far 36 = .ok (.getfield 63, 3) := by decide +kernel
theorem dX7_far_39 : decode cX7_far 39 = .ok (.iload_n 1, 1) := by decide +kernel
theorem dX7_far_40 : decode cX7_far 40 = .ok (.iload_n 2, 1) := by decide +kernel
theorem dX7_far_41 : decode cX7_far 41 = .ok (.iload_n 3, 1) := by decide +kernel
theorem dX7_far_42 : decode cX7_far 42 = .ok (.invokevirtual 217, 3) := by decide +kernel
theorem dX7_far_45 : decode cX7_far 45 = .ok (.ireturn, 1) := by decide +kernel
set_option maxRecDepth 20000 in
theorem ggX7_near_X0_hasVersion : GoodIn wsX7_near wsX0_hasVersion := goodIn_r _ [7, 8, 62, 63, 64, 65] (by decide +kernel) (by decide +kernel)
set_option maxRecDepth 20000 in
theorem gX7_near_X0_hasVersion : GoodIn wsX7_near (wsV RX7 93 RX0 yX0_hasVersion wsX0_hasVersion) := goodIn_app (goodIn_of _ (by decide +kernel)) ggX7_near_X0_hasVersion
set_option maxRecDepth 20000 in
theorem ggX7_near_X0_hasLine : GoodIn wsX7_near wsX0_hasLine := goodIn_r _ [12, 13, 62, 63, 64, 65] (by decide +kernel) (by decide +kernel)
set_option maxRecDepth 20000 in
theorem gX7_near_X0_hasLine : GoodIn wsX7_near (wsV RX7 79 RX0 yX0_hasLine wsX0_hasLine) := goodIn_app (goodIn_of _ (by decide +kernel)) ggX7_near_X0_hasLine
set_option maxRecDepth 20000 in
theorem ggX7_near_X7_isUpTo : GoodIn wsX7_near wsX7_isUpTo := goodIn_r _ [17] (by decide +kernel) (by decide +kernel)
set_option maxRecDepth 20000 in
theorem gX7_near_X7_isUpTo : GoodIn wsX7_near (va_wsS RX7 119 yX7_isUpTo wsX7_isUpTo) := goodIn_app (goodIn_of _ (by decide +kernel)) ggX7_near_X7_isUpTo
set_option maxRecDepth 20000 in
theorem ggX7_near_X0_lines : GoodIn wsX7_near wsX0_lines := goodIn_r _ [21, 13, 62, 63, 64, 65] (by decide +kernel) (by decide +kernel)
set_option maxRecDepth 20000 in
theorem gX7_near_X0_lines : GoodIn wsX7_near (wsV RX7 71 RX0 yX0_lines wsX0_lines) := goodIn_app (goodIn_of _ (by decide +kernel)) ggX7_near_X0_lines
set_option maxRecDepth 20000 in
theorem ggX7_near_X1_between : GoodIn wsX7_near wsX1_between := goodIn_r _ [26, 27, 28, 29, 30, 31, 32, 33, 34, 35, 6, 36, 8, 13, 37, 38, 39, 40, 41, 42, 43, 44, 25, 45, 46, 16, 47, 48, 49, 66, 67, 62, 63, 64, 65] (by decide +kernel) (by decide +kernel)
set_option maxRecDepth 20000 in
theorem gX7_near_X1_between : GoodIn wsX7_near (wsV RX7 217 RX1 yX1_between wsX1_between) := goodIn_app (goodIn_of _ (by decide +kernel)) ggX7_near_X1_between
theorem dX7_near_0 : decode cX7_near 0 = .ok (.aload_n 0, 1) := by decide +kernel
theorem dX7_near_1 : decode cX7_near 1 = .ok (.getfield 10, 3) := by decide +kernel
theorem dX7_near_4 : decode cX7_near 4 = .ok (.iload_n 1, 1) := by decide +kernel
theorem dX7_near_5 : decode cX7_near 5 = .ok (.invokevirtual 93, 3) := by decide +kernel
theorem dX7_near_8 : decode cX7_near 8 = .ok (.ifCond .eq 14, 3) := by decide +kernel
theorem dX7_near_11 : decode cX7_near 11 = .ok (.aload_n 0, 1) := by decide +kernel
theorem dX7_near_12 : decode cX7_near 12 = .ok (.getfield 10, 3) := by decide +kernel
theorem dX7_near_15 : decode cX7_near 15 = .ok (.iload_n 2, 1) := by decide +kernel
theorem dX7_near_16 : decode cX7_near 16 = .ok (.invokevirtual 79, 3) := by decide +kernel
theorem dX7_near_19 : decode cX7_near 19 = .ok (.ifCond .ne 5, 3) := by decide +kernel
theorem dX7_near_22 : decode cX7_near 22 = .ok (.iconst (-1), 1) := by decide +kernel
theorem dX7_near_23 : decode cX7_near 23 = .ok (.ireturn, 1) := by decide +kernel
theorem dX7_near_24 : decode cX7_near 24 = .ok (.iload_n 3, 1) := by decide +kernel
theorem dX7_near_25 : decode cX7_near 25 = .ok (.bipush 24, 2) := by decide +kernel
theorem dX7_near_27 : decode cX7_near 27 = .ok (.invokestatic 119, 3) := by decide +kernel
theorem dX7_near_30 : decode cX7_near 30 = .ok (.ifCond .ne 6, 3) := by decide +kernel
theorem dX7_near_33 : decode cX7_near 33 = .ok (.bipush (-2), 2) := by decide +kernel
theorem dX7_near_35 : decode cX7_near 35 = .ok (.ireturn, 1) := by decide +kernel
theorem dX7_near_36 : decode cX7_near 36 = .ok (.iconst 0, 1) := by decide +kernel
theorem dX7_near_37 : decode cX7_near 37 = .ok (.istore 4, 2) := by decide +kernel
theorem dX7_near_39 : decode cX7_near 39 = .ok (.iconst 0, 1) := by decide +kernel
theorem dX7_near_40 : decode cX7_near 40 = .ok (.istore 5, 2) := by decide +kernel
theorem dX7_near_42 : decode cX7_near 42 = .ok (.iload 5, 2) := by decide +kernel
theorem dX7_near_44 : decode cX7_near 44 = .ok (.aload_n 0, 1) := by decide +kernel
theorem dX7_near_45 : decode cX7_near 45 = .ok (.getfield 10, 3) := by decide +kernel
theorem dX7_near_48 : decode cX7_near 48 = .ok (.invokevirtual 71, 3) := by decide +kernel
theorem dX7_near_51 : decode cX7_near 51 = .ok (.if_icmp .ge 33, 3) := by decide +kernel
theorem dX7_near_54 : decode cX7_near 54 = .ok (.aload_n 0, 1) := by decide +kernel
theorem dX7_near_55 : decode cX7_near 55 = .ok (.getfield 63, 3) := by decide +kernel
theorem dX7_near_58 : decode cX7_near 58 = .ok (.iload_n 1, 1) := by decide +kernel
theorem dX7_near_59 : decode cX7_near 59 = .ok (.iload_n 2, 1) := by decide +kernel
theorem dX7_near_60 : decode cX7_near 60 = .ok (.iload 5, 2) := by decide +kernel
theorem dX7_near_62 : decode cX7_near 62 = .ok (.invokevirtual 217, 3) := by decide +kernel
theorem dX7_near_65 : decode cX7_near 65 = .ok (.iload_n 3, 1) := by decide +kernel
theorem dX7_near_66 : decode cX7_near 66 = .ok (.if_icmp .gt 12, 3) := by decide +kernel
theorem dX7_near_69 : decode cX7_near 69 = .ok (.iload 4, 2) := by decide +kernel
theorem dX7_near_71 : decode cX7_near 71 = .ok (.iconst 1, 1) := by decide +kernel
theorem dX7_near_72 : decode cX7_near 72 = .ok (.iload 5, 2) := by decide +kernel
theorem dX7_near_74 : decode cX7_near 74 = .ok (.ishl, 1) := by decide +kernel
theorem dX7_near_75 : decode cX7_near 75 = .ok (.ior, 1) := by decide +kernel
theorem dX7_near_76 : decode cX7_near 76 = .ok (.istore 4, 2) := by decide +kernel
theorem dX7_near_78 : decode cX7_near 78 = .ok (.iinc 5 1, 3) := by decide +kernel
theorem dX7_near_81 : decode cX7_near 81 = .ok (.goto (-39), 3) := by decide +kernel
theorem dX7_near_84 : decode cX7_near 84 = .ok (.iload 4, 2) := by decide +kernel
theorem dX7_near_86 : decode cX7_near 86 = .ok (.ireturn, 1) := by decide +kernel
set_option maxRecDepth 20000 in
theorem ggX7_image_X7_isUpTo : GoodIn wsX7_image wsX7_isUpTo := goodIn_r _ [9] (by decide +kernel) (by decide +kernel)
set_option maxRecDepth 20000 in
theorem gX7_image_X7_isUpTo : GoodIn wsX7_image (va_wsS RX7 119 yX7_isUpTo wsX7_isUpTo) := goodIn_app (goodIn_of _ (by decide +kernel)) ggX7_image_X7_isUpTo
set_option maxRecDepth 20000 in
theorem ggX7_image_X0_becomeAs : GoodIn wsX7_image wsX0_becomeAs := goodIn_r _ [14, 15, 16, 17, 18, 19, 20, 21, 22, 35, 36, 37, 38] (by decide +kernel) (by decide +kernel)
set_option maxRecDepth 20000 in
theorem gX7_image_X0_becomeAs : GoodIn wsX7_image (wsV RX7 220 RX0 yX0_becomeAs wsX0_becomeAs) := goodIn_app (goodIn_of _ (by decide +kernel)) ggX7_image_X0_becomeAs
theorem dX7_image_0 : decode cX7_image 0 = .ok (.iload_n 1, 1) := by decide +kernel
theorem dX7_image_1 : decode cX7_image 1 = .ok (.iconst 1, 1) := by decide +kernel
theorem dX7_image_2 : decode cX7_image 2 = .ok (.invokestatic 119, 3) := by decide +kernel
theorem dX7_image_5 : decode cX7_image 5 = .ok (.ifCond .ne 6, 3) := by decide +kernel
theorem dX7_image_8 : decode cX7_image 8 = .ok (.bipush (-2), 2) := by decide +kernel
theorem dX7_image_10 : decode cX7_image 10 = .ok (.ireturn, 1) := by decide +kernel
theorem dX7_image_11 : decode cX7_image 11 = .ok (.iload_n 1, 1) := by decide +kernel
theorem dX7_image_12 : decode cX7_image 12 = .ok (.ifCond .ne 22, 3) := by decide +kernel
theorem dX7_image_15 : decode cX7_image 15 = .ok (.aload_n 0, 1) := by decide +kernel
theorem dX7_image_16 : decode cX7_image 16 = .ok (.getfield 16, 3) := by decide +kernel
theorem dX7_image_19 : decode cX7_image 19 = .ok (.aload_n 0, 1) := by decide +kernel
theorem dX7_image_20 : decode cX7_image 20 = .ok (.getfield 10, 3) := by decide +kernel
theorem dX7_image_23 : decode cX7_image 23 = .ok (.invokevirtual 220, 3) := by decide +kernel
theorem dX7_image_26 : decode cX7_image 26 = .ok (.aload_n 0, 1) := by decide +kernel
theorem dX7_image_27 : decode cX7_image 27 = .ok (.iconst 1, 1) := by decide +kernel
theorem dX7_image_28 : decode cX7_image 28 = .ok (.putfield 223, 3) := by decide +kernel
theorem dX7_image_31 : decode cX7_image 31 = .ok (.goto 19, 3) := by decide +kernel
theorem dX7_image_34 : decode cX7_image 34 = .ok (.aload_n 0, 1) := by decide +kernel
theorem dX7_image_35 : decode cX7_image 35 = .ok (.getfield 19, 3) := by decide +kernel
theorem dX7_image_38 : decode cX7_image 38 = .ok (.aload_n 0, 1) := by decide +kernel
theorem dX7_image_39 : decode cX7_image 39 = .ok (.getfield 10, 3) := by decide +kernel
theorem dX7_image_42 : decode cX7_image 42 = .ok (.invokevirtual 220, 3) := by decide +kernel
theorem dX7_image_45 : decode cX7_image 45 = .ok (.aload_n 0, 1) := by decide +kernel
theorem dX7_image_46 : decode cX7_image 46 = .ok (.iconst 1, 1) := by decide +kernel
theorem dX7_image_47 : decode cX7_image 47 = .ok (.putfield 227, 3) := by decide +kernel
theorem dX7_image_50 : decode cX7_image 50 = .ok (.iconst 1, 1) := by decide +kernel
theorem dX7_image_51 : decode cX7_image 51 = .ok (.ireturn, 1) := by decide +kernel
set_option maxRecDepth 20000 in
theorem ggX7_restore_X7_isUpTo : GoodIn wsX7_restore wsX7_isUpTo := goodIn_r _ [9] (by decide +kernel) (by decide +kernel)
set_option maxRecDepth 20000 in
theorem gX7_restore_X7_isUpTo : GoodIn wsX7_restore (va_wsS RX7 119 yX7_isUpTo wsX7_isUpTo) := goodIn_app (goodIn_of _ (by decide +kernel)) ggX7_restore_X7_isUpTo
set_option maxRecDepth 20000 in
theorem ggX7_restore_X0_becomeAs : GoodIn wsX7_restore wsX0_becomeAs := goodIn_r _ [14, 15, 16, 17, 18, 19, 20, 21, 22, 35, 36, 37, 38] (by decide +kernel) (by decide +kernel)
set_option maxRecDepth 20000 in
theorem gX7_restore_X0_becomeAs : GoodIn wsX7_restore (wsV RX7 220 RX0 yX0_becomeAs wsX0_becomeAs) := goodIn_app (goodIn_of _ (by decide +kernel)) ggX7_restore_X0_becomeAs
theorem dX7_restore_0 : decode cX7_restore 0 = .ok (.iload_n 1, 1) := by decide +kernel
theorem dX7_restore_1 : decode cX7_restore 1 = .ok (.iconst 1, 1) := by decide +kernel
theorem dX7_restore_2 : decode cX7_restore 2 = .ok (.invokestatic 119, 3) := by decide +kernel
theorem dX7_restore_5 : decode cX7_restore 5 = .ok (.ifCond .ne 6, 3) := by decide +kernel
theorem dX7_restore_8 : decode cX7_restore 8 = .ok (.bipush (-2), 2) := by decide +kernel
theorem dX7_restore_10 : decode cX7_restore 10 = .ok (.ireturn, 1) := by decide +kernel
theorem dX7_restore_11 : decode cX7_restore 11 = .ok (.iload_n 1, 1) := by decide +kernel
theorem dX7_restore_12 : decode cX7_restore 12 = .ok (.ifCond .ne 10, 3) := by decide +kernel
theorem dX7_restore_15 : decode cX7_restore 15 = .ok (.aload_n 0, 1) := by decide +kernel
theorem dX7_restore_16 : decode cX7_restore 16 = .ok (.getfield 223, 3) := by decide +kernel
theorem dX7_restore_19 : decode cX7_restore 19 = .ok (.goto 7, 3) := by decide +kernel
theorem dX7_restore_22 : decode cX7_restore 22 = .ok (.aload_n 0, 1) := by decide +kernel
theorem dX7_restore_23 : decode cX7_restore 23 = .ok (.getfield 227, 3) := by decide +kernel
theorem dX7_restore_26 : decode cX7_restore 26 = .ok (.istore_n 2, 1) := by decide +kernel
theorem dX7_restore_27 : decode cX7_restore 27 = .ok (.iload_n 2, 1) := by decide +kernel
theorem dX7_restore_28 : decode cX7_restore 28 = .ok (.ifCond .ne 6, 3) := by decide +kernel
theorem dX7_restore_31 : decode cX7_restore 31 = .ok (.bipush (-3), 2) := by decide +kernel
theorem dX7_restore_33 : decode cX7_restore 33 = .ok (.ireturn, 1) := by decide +kernel
theorem dX7_restore_34 : decode cX7_restore 34 = .ok (.aload_n 0, 1) := by decide +kernel
theorem dX7_restore_35 : decode cX7_restore 35 = .ok (.getfield 10, 3) := by decide +kernel
theorem dX7_restore_38 : decode cX7_restore 38 = .ok (.iload_n 1, 1) := by decide +kernel
theorem dX7_restore_39 : decode cX7_restore 39 = .ok (.ifCond .ne 10, 3) := by decide +kernel
theorem dX7_restore_42 : decode cX7_restore 42 = .ok (.aload_n 0, 1) := by decide +kernel
theorem dX7_restore_43 : decode cX7_restore 43 = .ok (.getfield 16, 3) := by decide +kernel
theorem dX7_restore_46 : decode cX7_restore 46 = .ok (.goto 7, 3) := by decide +kernel
theorem dX7_restore_49 : decode cX7_restore 49 = .ok (.aload_n 0, 1) := by decide +kernel
theorem dX7_restore_50 : decode cX7_restore 50 = .ok (.getfield 19, 3) := by decide +kernel
theorem dX7_restore_53 : decode cX7_restore 53 = .ok (.invokevirtual 220, 3) := by decide +kernel
theorem dX7_restore_56 : decode cX7_restore 56 = .ok (.iconst 1, 1) := by decide +kernel
theorem dX7_restore_57 : decode cX7_restore 57 = .ok (.ireturn, 1) := by decide +kernel
set_option maxRecDepth 20000 in
theorem ggX7_told_X0_lines : GoodIn wsX7_told wsX0_lines := goodIn_r _ [7, 8, 26, 27, 28, 29] (by decide +kernel) (by decide +kernel)
set_option maxRecDepth 20000 in
theorem gX7_told_X0_lines : GoodIn wsX7_told (wsV RX7 71 RX0 yX0_lines wsX0_lines) := goodIn_app (goodIn_of _ (by decide +kernel)) ggX7_told_X0_lines
set_option maxRecDepth 20000 in
theorem ggX7_told_X0_versions : GoodIn wsX7_told wsX0_versions := goodIn_r _ [12, 13, 26, 27, 28, 29] (by decide +kernel) (by decide +kernel)
set_option maxRecDepth 20000 in
theorem gX7_told_X0_versions : GoodIn wsX7_told (wsV RX7 83 RX0 yX0_versions wsX0_versions) := goodIn_app (goodIn_of _ (by decide +kernel)) ggX7_told_X0_versions
theorem dX7_told_0 : decode cX7_told 0 = .ok (.iload_n 1, 1) := by decide +kernel
theorem dX7_told_1 : decode cX7_told 1 = .ok (.tableswitch 48 0 2 #[27, 32, 40], 27) := by decide +kernel
theorem dX7_told_28 : decode cX7_told 28 = .ok (.aload_n 0, 1) := by decide +kernel
theorem dX7_told_29 : decode cX7_told 29 = .ok (.getfield 67, 3) := by decide +kernel
theorem dX7_told_32 : decode cX7_told 32 = .ok (.ireturn, 1) := by decide +kernel
theorem dX7_told_33 : decode cX7_told 33 = .ok (.aload_n 0, 1) := by decide +kernel
theorem dX7_told_34 : decode cX7_told 34 = .ok (.getfield 10, 3) := by decide +kernel
theorem dX7_told_37 : decode cX7_told 37 = .ok (.invokevirtual 71, 3) := by decide +kernel
theorem dX7_told_40 : decode cX7_told 40 = .ok (.ireturn, 1) := by decide +kernel
theorem dX7_told_41 : decode cX7_told 41 = .ok (.aload_n 0, 1) := by decide +kernel
theorem dX7_told_42 : decode cX7_told 42 = .ok (.getfield 10, 3) := by decide +kernel
theorem dX7_told_45 : decode cX7_told 45 = .ok (.invokevirtual 83, 3) := by decide +kernel
theorem dX7_told_48 : decode cX7_told 48 = .ok (.ireturn, 1) := by decide +kernel
theorem dX7_told_49 : decode cX7_told 49 = .ok (.bipush (-2), 2) := by decide +kernel
theorem dX7_told_51 : decode cX7_told 51 = .ok (.ireturn, 1) := by decide +kernel
set_option maxRecDepth 20000 in
theorem ggX7_refusalIn_X0_hasVersion : GoodIn wsX7_refusalIn wsX0_hasVersion := goodIn_r _ [6, 7, 20, 21, 22, 23] (by decide +kernel) (by decide +kernel)
set_option maxRecDepth 20000 in
theorem gX7_refusalIn_X0_hasVersion : GoodIn wsX7_refusalIn (wsV RX7 93 RX0 yX0_hasVersion wsX0_hasVersion) := goodIn_app (goodIn_of _ (by decide +kernel)) ggX7_refusalIn_X0_hasVersion
theorem dX7_refusalIn_0 : decode cX7_refusalIn 0 = .ok (.aload_n 0, 1) := by decide +kernel
theorem dX7_refusalIn_1 : decode cX7_refusalIn 1 = .ok (.getfield 10, 3) := by decide +kernel
theorem dX7_refusalIn_4 : decode cX7_refusalIn 4 = .ok (.iload_n 1, 1) := by decide +kernel
theorem dX7_refusalIn_5 : decode cX7_refusalIn 5 = .ok (.invokevirtual 93, 3) := by decide +kernel
theorem dX7_refusalIn_8 : decode cX7_refusalIn 8 = .ok (.ifCond .ne 5, 3) := by decide +kernel
theorem dX7_refusalIn_11 : decode cX7_refusalIn 11 = .ok (.iconst (-1), 1) := by decide +kernel
theorem dX7_refusalIn_12 : decode cX7_refusalIn 12 = .ok (.ireturn, 1) := by decide +kernel
theorem dX7_refusalIn_13 : decode cX7_refusalIn 13 = .ok (.iload_n 2, 1) := by decide +kernel
theorem dX7_refusalIn_14 : decode cX7_refusalIn 14 = .ok (.ifCond .eq 7, 3) := by decide +kernel
theorem dX7_refusalIn_17 : decode cX7_refusalIn 17 = .ok (.iconst 0, 1) := by decide +kernel
theorem dX7_refusalIn_18 : decode cX7_refusalIn 18 = .ok (.goto 5, 3) := by decide +kernel
theorem dX7_refusalIn_21 : decode cX7_refusalIn 21 = .ok (.bipush (-2), 2) := by decide +kernel
theorem dX7_refusalIn_23 : decode cX7_refusalIn 23 = .ok (.ireturn, 1) := by decide +kernel
set_option maxRecDepth 20000 in
theorem ggX7_refusalBehind_X0_versions : GoodIn wsX7_refusalBehind wsX0_versions := goodIn_r _ [6, 7, 29, 30, 31, 32] (by decide +kernel) (by decide +kernel)
set_option maxRecDepth 20000 in
theorem gX7_refusalBehind_X0_versions : GoodIn wsX7_refusalBehind (wsV RX7 83 RX0 yX0_versions wsX0_versions) := goodIn_app (goodIn_of _ (by decide +kernel)) ggX7_refusalBehind_X0_versions
set_option maxRecDepth 20000 in
theorem ggX7_refusalBehind_X7_refusalIn : GoodIn wsX7_refusalBehind wsX7_refusalIn := goodIn_r _ [12, 1, 13, 14, 15, 5, 16, 7, 17, 18, 19, 20, 21, 22, 23, 24, 25, 26, 27, 28, 29, 30, 31, 32] (by decide +kernel) (by decide +kernel)
set_option maxRecDepth 20000 in
theorem gX7_refusalBehind_X7_refusalIn : GoodIn wsX7_refusalBehind (wsV RX7 111 RX7 yX7_refusalIn wsX7_refusalIn) := goodIn_app (goodIn_of _ (by decide +kernel)) ggX7_refusalBehind_X7_refusalIn
theorem dX7_refusalBehind_0 : decode cX7_refusalBehind 0 = .ok (.iload_n 1, 1) := by decide +kernel
theorem dX7_refusalBehind_1 : decode cX7_refusalBehind 1 = .ok (.aload_n 0, 1) := by decide +kernel
theorem dX7_refusalBehind_2 : decode cX7_refusalBehind 2 = .ok (.getfield 10, 3) := by decide +kernel
theorem dX7_refusalBehind_5 : decode cX7_refusalBehind 5 = .ok (.invokevirtual 83, 3) := by decide +kernel
theorem dX7_refusalBehind_8 : decode cX7_refusalBehind 8 = .ok (.iconst 1, 1) := by decide +kernel
theorem dX7_refusalBehind_9 : decode cX7_refusalBehind 9 = .ok (.isub, 1) := by decide +kernel
theorem dX7_refusalBehind_10 : decode cX7_refusalBehind 10 = .ok (.if_icmp .ne 7, 3) := by decide +kernel
theorem dX7_refusalBehind_13 : decode cX7_refusalBehind 13 = .ok (.iconst (-1), 1) := by decide +kernel
theorem dX7_refusalBehind_14 : decode cX7_refusalBehind 14 = .ok (.goto 9, 3) := by decide +kernel
theorem dX7_refusalBehind_17 : decode cX7_refusalBehind 17 = .ok (.aload_n 0, 1) := by decide +kernel
theorem dX7_refusalBehind_18 : decode cX7_refusalBehind 18 = .ok (.iload_n 1, 1) := by decide +kernel
theorem dX7_refusalBehind_19 : decode cX7_refusalBehind 19 = .ok (.iload_n 2, 1) := by decide +kernel
theorem dX7_refusalBehind_20 : decode cX7_refusalBehind 20 = .ok (.invokevirtual 111, 3) := by decide +kernel
theorem dX7_refusalBehind_23 : decode cX7_refusalBehind 23 = .ok (.ireturn, 1) := by decide +kernel
theorem dX7_isUpTo_0 : decode cX7_isUpTo 0 = .ok (.iload_n 0, 1) := by decide +kernel
theorem dX7_isUpTo_1 : decode cX7_isUpTo 1 = .ok (.ifCond .lt 12, 3) := by decide +kernel
theorem dX7_isUpTo_4 : decode cX7_isUpTo 4 = .ok (.iload_n 0, 1) := by decide +kernel
theorem dX7_isUpTo_5 : decode cX7_isUpTo 5 = .ok (.iload_n 1, 1) := by decide +kernel
theorem dX7_isUpTo_6 : decode cX7_isUpTo 6 = .ok (.if_icmp .gt 7, 3) := by decide +kernel
theorem dX7_isUpTo_9 : decode cX7_isUpTo 9 = .ok (.iconst 1, 1) := by decide +kernel
theorem dX7_isUpTo_10 : decode cX7_isUpTo 10 = .ok (.goto 4, 3) := by decide +kernel
theorem dX7_isUpTo_13 : decode cX7_isUpTo 13 = .ok (.iconst 0, 1) := by decide +kernel
theorem dX7_isUpTo_14 : decode cX7_isUpTo 14 = .ok (.ireturn, 1) := by decide +kernel
set_option maxRecDepth 20000 in
theorem ggX7_isWay_X7_isUpTo : GoodIn wsX7_isWay wsX7_isUpTo := goodIn_r _ [4] (by decide +kernel) (by decide +kernel)
set_option maxRecDepth 20000 in
theorem gX7_isWay_X7_isUpTo : GoodIn wsX7_isWay (va_wsS RX7 119 yX7_isUpTo wsX7_isUpTo) := goodIn_app (goodIn_of _ (by decide +kernel)) ggX7_isWay_X7_isUpTo
theorem dX7_isWay_0 : decode cX7_isWay 0 = .ok (.iload_n 0, 1) := by decide +kernel
theorem dX7_isWay_1 : decode cX7_isWay 1 = .ok (.iconst 2, 1) := by decide +kernel
theorem dX7_isWay_2 : decode cX7_isWay 2 = .ok (.invokestatic 119, 3) := by decide +kernel
theorem dX7_isWay_5 : decode cX7_isWay 5 = .ok (.ireturn, 1) := by decide +kernel
set_option maxRecDepth 20000 in
theorem ggX7_isStart_X7_isUpTo : GoodIn wsX7_isStart wsX7_isUpTo := goodIn_r _ [4] (by decide +kernel) (by decide +kernel)
set_option maxRecDepth 20000 in
theorem gX7_isStart_X7_isUpTo : GoodIn wsX7_isStart (va_wsS RX7 119 yX7_isUpTo wsX7_isUpTo) := goodIn_app (goodIn_of _ (by decide +kernel)) ggX7_isStart_X7_isUpTo
theorem dX7_isStart_0 : decode cX7_isStart 0 = .ok (.iload_n 0, 1) := by decide +kernel
theorem dX7_isStart_1 : decode cX7_isStart 1 = .ok (.bipush 19, 2) := by decide +kernel
theorem dX7_isStart_3 : decode cX7_isStart 3 = .ok (.invokestatic 119, 3) := by decide +kernel
theorem dX7_isStart_6 : decode cX7_isStart 6 = .ok (.ireturn, 1) := by decide +kernel
theorem dX7_isLength_0 : decode cX7_isLength 0 = .ok (.iload_n 0, 1) := by decide +kernel
theorem dX7_isLength_1 : decode cX7_isLength 1 = .ok (.iconst 1, 1) := by decide +kernel
theorem dX7_isLength_2 : decode cX7_isLength 2 = .ok (.if_icmp .lt 13, 3) := by decide +kernel
theorem dX7_isLength_5 : decode cX7_isLength 5 = .ok (.iload_n 0, 1) := by decide +kernel
theorem dX7_isLength_6 : decode cX7_isLength 6 = .ok (.bipush 20, 2) := by decide +kernel
theorem dX7_isLength_8 : decode cX7_isLength 8 = .ok (.if_icmp .gt 7, 3) := by decide +kernel
theorem dX7_isLength_11 : decode cX7_isLength 11 = .ok (.iconst 1, 1) := by decide +kernel
theorem dX7_isLength_12 : decode cX7_isLength 12 = .ok (.goto 4, 3) := by decide +kernel
theorem dX7_isLength_15 : decode cX7_isLength 15 = .ok (.iconst 0, 1) := by decide +kernel
theorem dX7_isLength_16 : decode cX7_isLength 16 = .ok (.ireturn, 1) := by decide +kernel
set_option maxRecDepth 20000 in
theorem ggX7_areRows_X7_isStart : GoodIn wsX7_areRows wsX7_isStart := goodIn_r _ [4, 5, 6, 3, 7] (by decide +kernel) (by decide +kernel)
set_option maxRecDepth 20000 in
theorem gX7_areRows_X7_isStart : GoodIn wsX7_areRows (va_wsS RX7 139 yX7_isStart wsX7_isStart) := goodIn_app (goodIn_of _ (by decide +kernel)) ggX7_areRows_X7_isStart
set_option maxRecDepth 20000 in
theorem ggX7_areRows_X7_isLength : GoodIn wsX7_areRows wsX7_isLength := goodIn_r _ [10] (by decide +kernel) (by decide +kernel)
set_option maxRecDepth 20000 in
theorem gX7_areRows_X7_isLength : GoodIn wsX7_areRows (va_wsS RX7 142 yX7_isLength wsX7_isLength) := goodIn_app (goodIn_of _ (by decide +kernel)) ggX7_areRows_X7_isLength
theorem dX7_areRows_0 : decode cX7_areRows 0 = .ok (.iload_n 0, 1) := by decide +kernel
theorem dX7_areRows_1 : decode cX7_areRows 1 = .ok (.invokestatic 139, 3) := by decide +kernel
theorem dX7_areRows_4 : decode cX7_areRows 4 = .ok (.ifCond .eq 21, 3) := by decide +kernel
theorem dX7_areRows_7 : decode cX7_areRows 7 = .ok (.iload_n 1, 1) := by decide +kernel
theorem dX7_areRows_8 : decode cX7_areRows 8 = .ok (.invokestatic 139, 3) := by decide +kernel
theorem dX7_areRows_11 : decode cX7_areRows 11 = .ok (.ifCond .eq 14, 3) := by decide +kernel
theorem dX7_areRows_14 : decode cX7_areRows 14 = .ok (.iload_n 2, 1) := by decide +kernel
theorem dX7_areRows_15 : decode cX7_areRows 15 = .ok (.invokestatic 142, 3) := by decide +kernel
theorem dX7_areRows_18 : decode cX7_areRows 18 = .ok (.ifCond .eq 7, 3) := by decide +kernel
theorem dX7_areRows_21 : decode cX7_areRows 21 = .ok (.iconst 1, 1) := by decide +kernel
theorem dX7_areRows_22 : decode cX7_areRows 22 = .ok (.goto 4, 3) := by decide +kernel
theorem dX7_areRows_25 : decode cX7_areRows 25 = .ok (.iconst 0, 1) := by decide +kernel
theorem dX7_areRows_26 : decode cX7_areRows 26 = .ok (.ireturn, 1) := by decide +kernel
set_option maxRecDepth 20000 in
theorem ggX7_wasMendedInFirstAlone_X0_staysAsItIs : GoodIn wsX7_wasMendedInFirstAlone wsX0_staysAsItIs := goodIn_r _ [6, 7, 8, 9, 5, 10, 11, 12, 13, 14, 15, 16, 17, 18, 31, 32, 33, 34] (by decide +kernel) (by decide +kernel)
set_option maxRecDepth 20000 in
theorem gX7_wasMendedInFirstAlone_X0_staysAsItIs : GoodIn wsX7_wasMendedInFirstAlone (wsV RX7 230 RX0 yX0_staysAsItIs wsX0_staysAsItIs) := goodIn_app (goodIn_of _ (by decide +kernel)) ggX7_wasMendedInFirstAlone_X0_staysAsItIs
theorem dX7_wasMendedInFirstAlone_0 : decode cX7_wasMendedInFirstAlone 0 = .ok (.aload_n 0, 1) := by decide +kernel
