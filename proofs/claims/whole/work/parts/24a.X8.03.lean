theorem dX8_mendsOf_28 : decode cX8_mendsOf 28 = .ok (.aload_n 0, 1) := by decide +kernel
theorem dX8_mendsOf_29 : decode cX8_mendsOf 29 = .ok (.iload_n 1, 1) := by decide +kernel
theorem dX8_mendsOf_30 : decode cX8_mendsOf 30 = .ok (.iload_n 2, 1) := by decide +kernel
theorem dX8_mendsOf_31 : decode cX8_mendsOf 31 = .ok (.iload 6, 2) := by decide +kernel
theorem dX8_mendsOf_33 : decode cX8_mendsOf 33 = .ok (.iadd, 1) := by decide +kernel
theorem dX8_mendsOf_34 : decode cX8_mendsOf 34 = .ok (.invokevirtual 158, 3) := by decide +kernel
theorem dX8_mendsOf_37 : decode cX8_mendsOf 37 = .ok (.ifCond .eq 22, 3) := by decide +kernel
theorem dX8_mendsOf_40 : decode cX8_mendsOf 40 = .ok (.aload_n 0, 1) := by decide +kernel
theorem dX8_mendsOf_41 : decode cX8_mendsOf 41 = .ok (.iload_n 1, 1) := by decide +kernel
theorem dX8_mendsOf_42 : decode cX8_mendsOf 42 = .ok (.iload_n 3, 1) := by decide +kernel
theorem dX8_mendsOf_43 : decode cX8_mendsOf 43 = .ok (.iload 6, 2) := by decide +kernel
theorem dX8_mendsOf_45 : decode cX8_mendsOf 45 = .ok (.iadd, 1) := by decide +kernel
theorem dX8_mendsOf_46 : decode cX8_mendsOf 46 = .ok (.invokevirtual 158, 3) := by decide +kernel
theorem dX8_mendsOf_49 : decode cX8_mendsOf 49 = .ok (.ifCond .ne 10, 3) := by decide +kernel
theorem dX8_mendsOf_52 : decode cX8_mendsOf 52 = .ok (.iconst 1, 1) := by decide +kernel
theorem dX8_mendsOf_53 : decode cX8_mendsOf 53 = .ok (.iload 6, 2) := by decide +kernel
theorem dX8_mendsOf_55 : decode cX8_mendsOf 55 = .ok (.ishl, 1) := by decide +kernel
theorem dX8_mendsOf_56 : decode cX8_mendsOf 56 = .ok (.goto 4, 3) := by decide +kernel
theorem dX8_mendsOf_59 : decode cX8_mendsOf 59 = .ok (.iconst 0, 1) := by decide +kernel
theorem dX8_mendsOf_60 : decode cX8_mendsOf 60 = .ok (.ior, 1) := by decide +kernel
theorem dX8_mendsOf_61 : decode cX8_mendsOf 61 = .ok (.istore 5, 2) := by decide +kernel
theorem dX8_mendsOf_63 : decode cX8_mendsOf 63 = .ok (.iinc 6 1, 3) := by decide +kernel
theorem dX8_mendsOf_66 : decode cX8_mendsOf 66 = .ok (.goto (-47), 3) := by decide +kernel
theorem dX8_mendsOf_69 : decode cX8_mendsOf 69 = .ok (.iload 5, 2) := by decide +kernel
theorem dX8_mendsOf_71 : decode cX8_mendsOf 71 = .ok (.ireturn, 1) := by decide +kernel
set_option maxRecDepth 20000 in
theorem ggX8_mends_X8_in : GoodIn wsX8_mends wsX8_in := goodIn_r _ [5] (by decide +kernel) (by decide +kernel)
set_option maxRecDepth 20000 in
theorem gX8_mends_X8_in : GoodIn wsX8_mends (va_wsS RX8 54 yX8_in wsX8_in) := goodIn_app (goodIn_of _ (by decide +kernel)) ggX8_mends_X8_in
set_option maxRecDepth 20000 in
theorem ggX8_mends_X8_areRows : GoodIn wsX8_mends wsX8_areRows := goodIn_r _ [8, 9, 10, 4, 11, 2, 3, 5, 12, 13, 14, 15, 16, 17] (by decide +kernel) (by decide +kernel)
set_option maxRecDepth 20000 in
theorem gX8_mends_X8_areRows : GoodIn wsX8_mends (va_wsS RX8 114 yX8_areRows wsX8_areRows) := goodIn_app (goodIn_of _ (by decide +kernel)) ggX8_mends_X8_areRows
set_option maxRecDepth 20000 in
theorem ggX8_mends_X8_mendsOf : GoodIn wsX8_mends wsX8_mendsOf := goodIn_r _ [21, 22, 23, 24, 4, 25, 26, 27, 28, 29, 30, 31, 32, 33, 34, 35, 36, 37, 38, 39, 40, 41, 42, 43, 44, 45, 46, 47, 48, 49, 50, 51, 52, 2, 3, 5, 53, 54, 55, 56, 57, 58, 59, 60, 61, 62, 63, 64, 65, 66, 67, 68, 69, 70, 71, 72, 73, 74, 75, 76, 77, 78, 79, 80, 81, 82] (by decide +kernel) (by decide +kernel)
set_option maxRecDepth 20000 in
theorem gX8_mends_X8_mendsOf : GoodIn wsX8_mends (wsV RX8 161 RX8 yX8_mendsOf wsX8_mendsOf) := goodIn_app (goodIn_of _ (by decide +kernel)) ggX8_mends_X8_mendsOf
theorem dX8_mends_0 : decode cX8_mends 0 = .ok (.iload_n 1, 1) := by decide +kernel
theorem dX8_mends_1 : decode cX8_mends 1 = .ok (.iconst 0, 1) := by decide +kernel
theorem dX8_mends_2 : decode cX8_mends 2 = .ok (.aload_n 0, 1) := by decide +kernel
theorem dX8_mends_3 : decode cX8_mends 3 = .ok (.getfield 51, 3) := by decide +kernel
theorem dX8_mends_6 : decode cX8_mends 6 = .ok (.iconst 2, 1) := by decide +kernel
theorem dX8_mends_7 : decode cX8_mends 7 = .ok (.isub, 1) := by decide +kernel
theorem dX8_mends_8 : decode cX8_mends 8 = .ok (.invokestatic 54, 3) := by decide +kernel
theorem dX8_mends_11 : decode cX8_mends 11 = .ok (.ifCond .ne 5, 3) := by decide +kernel
theorem dX8_mends_14 : decode cX8_mends 14 = .ok (.iconst (-1), 1) := by decide +kernel
theorem dX8_mends_15 : decode cX8_mends 15 = .ok (.ireturn, 1) := by decide +kernel
theorem dX8_mends_16 : decode cX8_mends 16 = .ok (.iconst 0, 1) := by decide +kernel
theorem dX8_mends_17 : decode cX8_mends 17 = .ok (.iload_n 2, 1) := by decide +kernel
theorem dX8_mends_18 : decode cX8_mends 18 = .ok (.iload_n 3, 1) := by decide +kernel
theorem dX8_mends_19 : decode cX8_mends 19 = .ok (.iload 4, 2) := by decide +kernel
theorem dX8_mends_21 : decode cX8_mends 21 = .ok (.invokestatic 114, 3) := by decide +kernel
theorem dX8_mends_24 : decode cX8_mends 24 = .ok (.ifCond .eq 15, 3) := by decide +kernel
theorem dX8_mends_27 : decode cX8_mends 27 = .ok (.aload_n 0, 1) := by decide +kernel
theorem dX8_mends_28 : decode cX8_mends 28 = .ok (.iload_n 1, 1) := by decide +kernel
theorem dX8_mends_29 : decode cX8_mends 29 = .ok (.iload_n 2, 1) := by decide +kernel
theorem dX8_mends_30 : decode cX8_mends 30 = .ok (.iload_n 3, 1) := by decide +kernel
theorem dX8_mends_31 : decode cX8_mends 31 = .ok (.iload 4, 2) := by decide +kernel
theorem dX8_mends_33 : decode cX8_mends 33 = .ok (.invokevirtual 161, 3) := by decide +kernel
theorem dX8_mends_36 : decode cX8_mends 36 = .ok (.goto 5, 3) := by decide +kernel
theorem dX8_mends_39 : decode cX8_mends 39 = .ok (.bipush (-2), 2) := by decide +kernel
theorem dX8_mends_41 : decode cX8_mends 41 = .ok (.ireturn, 1) := by decide +kernel
set_option maxRecDepth 20000 in
theorem ggX8_mend_X8_in : GoodIn wsX8_mend wsX8_in := goodIn_r _ [6] (by decide +kernel) (by decide +kernel)
set_option maxRecDepth 20000 in
theorem gX8_mend_X8_in : GoodIn wsX8_mend (va_wsS RX8 54 yX8_in wsX8_in) := goodIn_app (goodIn_of _ (by decide +kernel)) ggX8_mend_X8_in
set_option maxRecDepth 20000 in
theorem ggX8_mend_X8_areRows : GoodIn wsX8_mend wsX8_areRows := goodIn_r _ [9, 10, 11, 5, 12, 3, 4, 6, 13, 14, 15, 16, 17, 18] (by decide +kernel) (by decide +kernel)
set_option maxRecDepth 20000 in
theorem gX8_mend_X8_areRows : GoodIn wsX8_mend (va_wsS RX8 114 yX8_areRows wsX8_areRows) := goodIn_app (goodIn_of _ (by decide +kernel)) ggX8_mend_X8_areRows
set_option maxRecDepth 20000 in
theorem ggX8_mend_X8_mendsOf : GoodIn wsX8_mend wsX8_mendsOf := goodIn_r _ [22, 23, 24, 25, 5, 26, 2, 27, 28, 29, 30, 31, 32, 33, 34, 35, 36, 37, 38, 39, 40, 41, 42, 43, 44, 45, 46, 47, 48, 49, 50, 51, 52, 3, 4, 6, 53, 54, 55, 56, 57, 58, 59, 60, 61, 62, 63, 64, 65, 66, 67, 68, 69, 70, 71, 72, 73, 74, 75, 76, 77, 78, 79, 80, 81, 82] (by decide +kernel) (by decide +kernel)
set_option maxRecDepth 20000 in
theorem gX8_mend_X8_mendsOf : GoodIn wsX8_mend (wsV RX8 161 RX8 yX8_mendsOf wsX8_mendsOf) := goodIn_app (goodIn_of _ (by decide +kernel)) ggX8_mend_X8_mendsOf
set_option maxRecDepth 20000 in
theorem ggX8_mend_X8_size : GoodIn wsX8_mend wsX8_size := goodIn_r _ [39, 40, 64, 65, 66, 67, 68, 69, 70, 71, 72, 73, 74, 75, 76, 77, 78, 79, 80, 81, 82] (by decide +kernel) (by decide +kernel)
set_option maxRecDepth 20000 in
theorem gX8_mend_X8_size : GoodIn wsX8_mend (wsV RX8 75 RX8 yX8_size wsX8_size) := goodIn_app (goodIn_of _ (by decide +kernel)) ggX8_mend_X8_size
set_option maxRecDepth 20000 in
theorem ggX8_mend_X8_signAt : GoodIn wsX8_mend wsX8_signAt := goodIn_r _ [44, 45, 64, 65, 66, 67, 68, 69, 70, 71, 72, 73, 74, 75, 76, 77, 78, 79, 80, 81, 82] (by decide +kernel) (by decide +kernel)
set_option maxRecDepth 20000 in
theorem gX8_mend_X8_signAt : GoodIn wsX8_mend (wsV RX8 79 RX8 yX8_signAt wsX8_signAt) := goodIn_app (goodIn_of _ (by decide +kernel)) ggX8_mend_X8_signAt
set_option maxRecDepth 20000 in
theorem ggX8_mend_X8_isName : GoodIn wsX8_mend wsX8_isName := goodIn_r _ [52, 3, 4, 5, 6] (by decide +kernel) (by decide +kernel)
set_option maxRecDepth 20000 in
theorem gX8_mend_X8_isName : GoodIn wsX8_mend (va_wsS RX8 83 yX8_isName wsX8_isName) := goodIn_app (goodIn_of _ (by decide +kernel)) ggX8_mend_X8_isName
theorem dX8_mend_0 : decode cX8_mend 0 = .ok (.iload_n 1, 1) := by decide +kernel
theorem dX8_mend_1 : decode cX8_mend 1 = .ok (.iconst 0, 1) := by decide +kernel
theorem dX8_mend_2 : decode cX8_mend 2 = .ok (.aload_n 0, 1) := by decide +kernel
theorem dX8_mend_3 : decode cX8_mend 3 = .ok (.getfield 51, 3) := by decide +kernel
theorem dX8_mend_6 : decode cX8_mend 6 = .ok (.iconst 2, 1) := by decide +kernel
theorem dX8_mend_7 : decode cX8_mend 7 = .ok (.isub, 1) := by decide +kernel
theorem dX8_mend_8 : decode cX8_mend 8 = .ok (.invokestatic 54, 3) := by decide +kernel
theorem dX8_mend_11 : decode cX8_mend 11 = .ok (.ifCond .ne 5, 3) := by decide +kernel
theorem dX8_mend_14 : decode cX8_mend 14 = .ok (.iconst (-1), 1) := by decide +kernel
theorem dX8_mend_15 : decode cX8_mend 15 = .ok (.ireturn, 1) := by decide +kernel
theorem dX8_mend_16 : decode cX8_mend 16 = .ok (.iconst 0, 1) := by decide +kernel
theorem dX8_mend_17 : decode cX8_mend 17 = .ok (.iload_n 2, 1) := by decide +kernel
theorem dX8_mend_18 : decode cX8_mend 18 = .ok (.iload_n 3, 1) := by decide +kernel
theorem dX8_mend_19 : decode cX8_mend 19 = .ok (.iload 4, 2) := by decide +kernel
theorem dX8_mend_21 : decode cX8_mend 21 = .ok (.invokestatic 114, 3) := by decide +kernel
theorem dX8_mend_24 : decode cX8_mend 24 = .ok (.ifCond .eq 16, 3) := by decide +kernel
theorem dX8_mend_27 : decode cX8_mend 27 = .ok (.iload 5, 2) := by decide +kernel
theorem dX8_mend_29 : decode cX8_mend 29 = .ok (.iconst 0, 1) := by decide +kernel
theorem dX8_mend_30 : decode cX8_mend 30 = .ok (.iload 4, 2) := by decide +kernel
theorem dX8_mend_32 : decode cX8_mend 32 = .ok (.iconst 1, 1) := by decide +kernel
theorem dX8_mend_33 : decode cX8_mend 33 = .ok (.isub, 1) := by decide +kernel
theorem dX8_mend_34 : decode cX8_mend 34 = .ok (.invokestatic 54, 3) := by decide +kernel
theorem dX8_mend_37 : decode cX8_mend 37 = .ok (.ifCond .ne 6, 3) := by decide +kernel
theorem dX8_mend_40 : decode cX8_mend 40 = .ok (.bipush (-2), 2) := by decide +kernel
theorem dX8_mend_42 : decode cX8_mend 42 = .ok (.ireturn, 1) := by decide +kernel
theorem dX8_mend_43 : decode cX8_mend 43 = .ok (.aload_n 0, 1) := by decide +kernel
theorem dX8_mend_44 : decode cX8_mend 44 = .ok (.iload_n 1, 1) := by decide +kernel
theorem dX8_mend_45 : decode cX8_mend 45 = .ok (.iload_n 2, 1) := by decide +kernel
theorem dX8_mend_46 : decode cX8_mend 46 = .ok (.iload_n 3, 1) := by decide +kernel
theorem dX8_mend_47 : decode cX8_mend 47 = .ok (.iload 4, 2) := by decide +kernel
theorem dX8_mend_49 : decode cX8_mend 49 = .ok (.invokevirtual 161, 3) := by decide +kernel
theorem dX8_mend_52 : decode cX8_mend 52 = .ok (.iload 5, 2) := by decide +kernel
theorem dX8_mend_54 : decode cX8_mend 54 = .ok (.ishr, 1) := by decide +kernel
theorem dX8_mend_55 : decode cX8_mend 55 = .ok (.iconst 1, 1) := by decide +kernel
theorem dX8_mend_56 : decode cX8_mend 56 = .ok (.iand, 1) := by decide +kernel
theorem dX8_mend_57 : decode cX8_mend 57 = .ok (.ifCond .ne 6, 3) := by decide +kernel
theorem dX8_mend_60 : decode cX8_mend 60 = .ok (.bipush (-5), 2) := by decide +kernel
theorem dX8_mend_62 : decode cX8_mend 62 = .ok (.ireturn, 1) := by decide +kernel
theorem dX8_mend_63 : decode cX8_mend 63 = .ok (.aload_n 0, 1) := by decide +kernel
theorem dX8_mend_64 : decode cX8_mend 64 = .ok (.iload_n 1, 1) := by decide +kernel
theorem dX8_mend_65 : decode cX8_mend 65 = .ok (.iconst 1, 1) := by decide +kernel
theorem dX8_mend_66 : decode cX8_mend 66 = .ok (.iadd, 1) := by decide +kernel
theorem dX8_mend_67 : decode cX8_mend 67 = .ok (.iload_n 2, 1) := by decide +kernel
theorem dX8_mend_68 : decode cX8_mend 68 = .ok (.iload 5, 2) := by decide +kernel
theorem dX8_mend_70 : decode cX8_mend 70 = .ok (.iadd, 1) := by decide +kernel
theorem dX8_mend_71 : decode cX8_mend 71 = .ok (.invokevirtual 75, 3) := by decide +kernel
theorem dX8_mend_74 : decode cX8_mend 74 = .ok (.istore 7, 2) := by decide +kernel
theorem dX8_mend_76 : decode cX8_mend 76 = .ok (.iload 6, 2) := by decide +kernel
theorem dX8_mend_78 : decode cX8_mend 78 = .ok (.iconst 0, 1) := by decide +kernel
theorem dX8_mend_79 : decode cX8_mend 79 = .ok (.iload 7, 2) := by decide +kernel
theorem dX8_mend_81 : decode cX8_mend 81 = .ok (.iconst 1, 1) := by decide +kernel
theorem dX8_mend_82 : decode cX8_mend 82 = .ok (.isub, 1) := by decide +kernel
theorem dX8_mend_83 : decode cX8_mend 83 = .ok (.invokestatic 54, 3) := by decide +kernel
theorem dX8_mend_86 : decode cX8_mend 86 = .ok (.ifCond .ne 17, 3) := by decide +kernel
theorem dX8_mend_89 : decode cX8_mend 89 = .ok (.iload 6, 2) := by decide +kernel
theorem dX8_mend_91 : decode cX8_mend 91 = .ok (.iconst (-1), 1) := by decide +kernel
theorem dX8_mend_92 : decode cX8_mend 92 = .ok (.if_icmp .ne 8, 3) := by decide +kernel
theorem dX8_mend_95 : decode cX8_mend 95 = .ok (.iload 7, 2) := by decide +kernel
theorem dX8_mend_97 : decode cX8_mend 97 = .ok (.goto 5, 3) := by decide +kernel
theorem dX8_mend_100 : decode cX8_mend 100 = .ok (.bipush (-6), 2) := by decide +kernel
theorem dX8_mend_102 : decode cX8_mend 102 = .ok (.ireturn, 1) := by decide +kernel
theorem dX8_mend_103 : decode cX8_mend 103 = .ok (.aload_n 0, 1) := by decide +kernel
theorem dX8_mend_104 : decode cX8_mend 104 = .ok (.iload_n 1, 1) := by decide +kernel
theorem dX8_mend_105 : decode cX8_mend 105 = .ok (.iconst 1, 1) := by decide +kernel
theorem dX8_mend_106 : decode cX8_mend 106 = .ok (.iadd, 1) := by decide +kernel
theorem dX8_mend_107 : decode cX8_mend 107 = .ok (.iload_n 2, 1) := by decide +kernel
theorem dX8_mend_108 : decode cX8_mend 108 = .ok (.iload 5, 2) := by decide +kernel
theorem dX8_mend_110 : decode cX8_mend 110 = .ok (.iadd, 1) := by decide +kernel
theorem dX8_mend_111 : decode cX8_mend 111 = .ok (.iload 6, 2) := by decide +kernel
theorem dX8_mend_113 : decode cX8_mend 113 = .ok (.invokevirtual 79, 3) := by decide +kernel
theorem dX8_mend_116 : decode cX8_mend 116 = .ok (.istore 8, 2) := by decide +kernel
theorem dX8_mend_118 : decode cX8_mend 118 = .ok (.iload 8, 2) := by decide +kernel
theorem dX8_mend_120 : decode cX8_mend 120 = .ok (.invokestatic 83, 3) := by decide +kernel
theorem dX8_mend_123 : decode cX8_mend 123 = .ok (.ifCond .eq 29, 3) := by decide +kernel
theorem dX8_mend_126 : decode cX8_mend 126 = .ok (.aload_n 0, 1) := by decide +kernel
theorem dX8_mend_127 : decode cX8_mend 127 = .ok (.getfield 19, 3) := by decide +kernel
theorem dX8_mend_130 : decode cX8_mend 130 = .ok (.iload 8, 2) := by decide +kernel
theorem dX8_mend_132 : decode cX8_mend 132 = .ok (.bipush 97, 2) := by decide +kernel
theorem dX8_mend_134 : decode cX8_mend 134 = .ok (.isub, 1) := by decide +kernel
theorem dX8_mend_135 : decode cX8_mend 135 = .ok (.iaload, 1) := by decide +kernel
theorem dX8_mend_136 : decode cX8_mend 136 = .ok (.ifCond .le 16, 3) := by decide +kernel
theorem dX8_mend_139 : decode cX8_mend 139 = .ok (.aload_n 0, 1) := by decide +kernel
theorem dX8_mend_140 : decode cX8_mend 140 = .ok (.getfield 19, 3) := by decide +kernel
theorem dX8_mend_143 : decode cX8_mend 143 = .ok (.iload 8, 2) := by decide +kernel
theorem dX8_mend_145 : decode cX8_mend 145 = .ok (.bipush 97, 2) := by decide +kernel
theorem dX8_mend_147 : decode cX8_mend 147 = .ok (.isub, 1) := by decide +kernel
theorem dX8_mend_148 : decode cX8_mend 148 = .ok (.iaload, 1) := by decide +kernel
theorem dX8_mend_149 : decode cX8_mend 149 = .ok (.goto 5, 3) := by decide +kernel
theorem dX8_mend_152 : decode cX8_mend 152 = .ok (.iload 8, 2) := by decide +kernel
theorem dX8_mend_154 : decode cX8_mend 154 = .ok (.ireturn, 1) := by decide +kernel
set_option maxRecDepth 20000 in
theorem ggX8_changes_X8_isName : GoodIn wsX8_changes wsX8_isName := goodIn_r _ [4, 5, 6, 3, 7] (by decide +kernel) (by decide +kernel)
set_option maxRecDepth 20000 in
theorem gX8_changes_X8_isName : GoodIn wsX8_changes (va_wsS RX8 83 yX8_isName wsX8_isName) := goodIn_app (goodIn_of _ (by decide +kernel)) ggX8_changes_X8_isName
set_option maxRecDepth 20000 in
theorem ggX8_changes_X8_isNumber : GoodIn wsX8_changes wsX8_isNumber := goodIn_r _ [10, 5, 6, 3, 7] (by decide +kernel) (by decide +kernel)
set_option maxRecDepth 20000 in
theorem gX8_changes_X8_isNumber : GoodIn wsX8_changes (va_wsS RX8 90 yX8_isNumber wsX8_isNumber) := goodIn_app (goodIn_of _ (by decide +kernel)) ggX8_changes_X8_isNumber
theorem dX8_changes_0 : decode cX8_changes 0 = .ok (.iload_n 0, 1) := by decide +kernel
theorem dX8_changes_1 : decode cX8_changes 1 = .ok (.iload_n 1, 1) := by decide +kernel
theorem dX8_changes_2 : decode cX8_changes 2 = .ok (.if_icmp .ne 5, 3) := by decide +kernel
theorem dX8_changes_5 : decode cX8_changes 5 = .ok (.iconst 0, 1) := by decide +kernel
theorem dX8_changes_6 : decode cX8_changes 6 = .ok (.ireturn, 1) := by decide +kernel
theorem dX8_changes_7 : decode cX8_changes 7 = .ok (.iload_n 0, 1) := by decide +kernel
theorem dX8_changes_8 : decode cX8_changes 8 = .ok (.invokestatic 83, 3) := by decide +kernel
theorem dX8_changes_11 : decode cX8_changes 11 = .ok (.ifCond .eq 10, 3) := by decide +kernel
theorem dX8_changes_14 : decode cX8_changes 14 = .ok (.iload_n 1, 1) := by decide +kernel
theorem dX8_changes_15 : decode cX8_changes 15 = .ok (.invokestatic 83, 3) := by decide +kernel
theorem dX8_changes_18 : decode cX8_changes 18 = .ok (.ifCond .ne 17, 3) := by decide +kernel
theorem dX8_changes_21 : decode cX8_changes 21 = .ok (.iload_n 0, 1) := by decide +kernel
theorem dX8_changes_22 : decode cX8_changes 22 = .ok (.invokestatic 90, 3) := by decide +kernel
theorem dX8_changes_25 : decode cX8_changes 25 = .ok (.ifCond .eq 14, 3) := by decide +kernel
theorem dX8_changes_28 : decode cX8_changes 28 = .ok (.iload_n 1, 1) := by decide +kernel
theorem dX8_changes_29 : decode cX8_changes 29 = .ok (.invokestatic 90, 3) := by decide +kernel
theorem dX8_changes_32 : decode cX8_changes 32 = .ok (.ifCond .eq 7, 3) := by decide +kernel
theorem dX8_changes_35 : decode cX8_changes 35 = .ok (.iconst 1, 1) := by decide +kernel
theorem dX8_changes_36 : decode cX8_changes 36 = .ok (.goto 4, 3) := by decide +kernel
theorem dX8_changes_39 : decode cX8_changes 39 = .ok (.iconst 3, 1) := by decide +kernel
theorem dX8_changes_40 : decode cX8_changes 40 = .ok (.ireturn, 1) := by decide +kernel
set_option maxRecDepth 20000 in
theorem ggX8_farOf_X8_size : GoodIn wsX8_farOf wsX8_size := goodIn_r _ [6, 7, 25, 26, 27, 28, 29, 30, 31, 32, 33, 34, 35, 36, 37, 38, 39, 40, 41, 42, 43] (by decide +kernel) (by decide +kernel)
set_option maxRecDepth 20000 in
theorem gX8_farOf_X8_size : GoodIn wsX8_farOf (wsV RX8 75 RX8 yX8_size wsX8_size) := goodIn_app (goodIn_of _ (by decide +kernel)) ggX8_farOf_X8_size
set_option maxRecDepth 20000 in
theorem ggX8_farOf_X8_signAt : GoodIn wsX8_farOf wsX8_signAt := goodIn_r _ [11, 12, 25, 26, 27, 28, 29, 30, 31, 32, 33, 34, 35, 36, 37, 38, 39, 40, 41, 42, 43] (by decide +kernel) (by decide +kernel)
set_option maxRecDepth 20000 in
theorem gX8_farOf_X8_signAt : GoodIn wsX8_farOf (wsV RX8 79 RX8 yX8_signAt wsX8_signAt) := goodIn_app (goodIn_of _ (by decide +kernel)) ggX8_farOf_X8_signAt
set_option maxRecDepth 20000 in
theorem ggX8_farOf_X8_changes : GoodIn wsX8_farOf wsX8_changes := goodIn_r _ [15, 16, 17, 5, 18, 19, 20, 21, 22, 23, 24] (by decide +kernel) (by decide +kernel)
set_option maxRecDepth 20000 in
theorem gX8_farOf_X8_changes : GoodIn wsX8_farOf (va_wsS RX8 164 yX8_changes wsX8_changes) := goodIn_app (goodIn_of _ (by decide +kernel)) ggX8_farOf_X8_changes
theorem dX8_farOf_0 : decode cX8_farOf 0 = .ok (.aload_n 0, 1) := by decide +kernel
theorem dX8_farOf_1 : decode cX8_farOf 1 = .ok (.iload_n 1, 1) := by decide +kernel
theorem dX8_farOf_2 : decode cX8_farOf 2 = .ok (.iload_n 3, 1) := by decide +kernel
theorem dX8_farOf_3 : decode cX8_farOf 3 = .ok (.invokevirtual 75, 3) := by decide +kernel
theorem dX8_farOf_6 : decode cX8_farOf 6 = .ok (.istore 4, 2) := by decide +kernel
theorem dX8_farOf_8 : decode cX8_farOf 8 = .ok (.iconst 0, 1) := by decide +kernel
theorem dX8_farOf_9 : decode cX8_farOf 9 = .ok (.istore 5, 2) := by decide +kernel
theorem dX8_farOf_11 : decode cX8_farOf 11 = .ok (.iload 5, 2) := by decide +kernel
theorem dX8_farOf_13 : decode cX8_farOf 13 = .ok (.iload 4, 2) := by decide +kernel
theorem dX8_farOf_15 : decode cX8_farOf 15 = .ok (.if_icmp .gt 20, 3) := by decide +kernel
theorem dX8_farOf_18 : decode cX8_farOf 18 = .ok (.aload_n 0, 1) := by decide +kernel
theorem dX8_farOf_19 : decode cX8_farOf 19 = .ok (.getfield 41, 3) := by decide +kernel
theorem dX8_farOf_22 : decode cX8_farOf 22 = .ok (.iload 5, 2) := by decide +kernel
theorem dX8_farOf_24 : decode cX8_farOf 24 = .ok (.iconst 2, 1) := by decide +kernel
theorem dX8_farOf_25 : decode cX8_farOf 25 = .ok (.iload 5, 2) := by decide +kernel
theorem dX8_farOf_27 : decode cX8_farOf 27 = .ok (.imul, 1) := by decide +kernel
theorem dX8_farOf_28 : decode cX8_farOf 28 = .ok (.iastore, 1) := by decide +kernel
theorem dX8_farOf_29 : decode cX8_farOf 29 = .ok (.iinc 5 1, 3) := by decide +kernel
theorem dX8_farOf_32 : decode cX8_farOf 32 = .ok (.goto (-21), 3) := by decide +kernel
theorem dX8_farOf_35 : decode cX8_farOf 35 = .ok (.iconst 1, 1) := by decide +kernel
theorem dX8_farOf_36 : decode cX8_farOf 36 = .ok (.istore 5, 2) := by decide +kernel
theorem dX8_farOf_38 : decode cX8_farOf 38 = .ok (.iload 5, 2) := by decide +kernel
theorem dX8_farOf_40 : decode cX8_farOf 40 = .ok (.aload_n 0, 1) := by decide +kernel
theorem dX8_farOf_41 : decode cX8_farOf 41 = .ok (.iload_n 1, 1) := by decide +kernel
theorem dX8_farOf_42 : decode cX8_farOf 42 = .ok (.iload_n 2, 1) := by decide +kernel
theorem dX8_farOf_43 : decode cX8_farOf 43 = .ok (.invokevirtual 75, 3) := by decide +kernel
theorem dX8_farOf_46 : decode cX8_farOf 46 = .ok (.if_icmp .gt 143, 3) := by decide +kernel
theorem dX8_farOf_49 : decode cX8_farOf 49 = .ok (.aload_n 0, 1) := by decide +kernel
theorem dX8_farOf_50 : decode cX8_farOf 50 = .ok (.getfield 41, 3) := by decide +kernel
theorem dX8_farOf_53 : decode cX8_farOf 53 = .ok (.iconst 0, 1) := by decide +kernel
theorem dX8_farOf_54 : decode cX8_farOf 54 = .ok (.iaload, 1) := by decide +kernel
theorem dX8_farOf_55 : decode cX8_farOf 55 = .ok (.istore 6, 2) := by decide +kernel
theorem dX8_farOf_57 : decode cX8_farOf 57 = .ok (.aload_n 0, 1) := by decide +kernel
theorem dX8_farOf_58 : decode cX8_farOf 58 = .ok (.getfield 41, 3) := by decide +kernel
theorem dX8_farOf_61 : decode cX8_farOf 61 = .ok (.iconst 0, 1) := by decide +kernel
theorem dX8_farOf_62 : decode cX8_farOf 62 = .ok (.iconst 2, 1) := by decide +kernel
theorem dX8_farOf_63 : decode cX8_farOf 63 = .ok (.iload 5, 2) := by decide +kernel
theorem dX8_farOf_65 : decode cX8_farOf 65 = .ok (.imul, 1) := by decide +kernel
theorem dX8_farOf_66 : decode cX8_farOf 66 = .ok (.iastore, 1) := by decide +kernel
theorem dX8_farOf_67 : decode cX8_farOf 67 = .ok (.iconst 1, 1) := by decide +kernel
theorem dX8_farOf_68 : decode cX8_farOf 68 = .ok (.istore 7, 2) := by decide +kernel
theorem dX8_farOf_70 : decode cX8_farOf 70 = .ok (.iload 7, 2) := by decide +kernel
theorem dX8_farOf_72 : decode cX8_farOf 72 = .ok (.iload 4, 2) := by decide +kernel
theorem dX8_farOf_74 : decode cX8_farOf 74 = .ok (.if_icmp .gt 109, 3) := by decide +kernel
theorem dX8_farOf_77 : decode cX8_farOf 77 = .ok (.aload_n 0, 1) := by decide +kernel
theorem dX8_farOf_78 : decode cX8_farOf 78 = .ok (.getfield 41, 3) := by decide +kernel
theorem dX8_farOf_81 : decode cX8_farOf 81 = .ok (.iload 7, 2) := by decide +kernel
theorem dX8_farOf_83 : decode cX8_farOf 83 = .ok (.iaload, 1) := by decide +kernel
theorem dX8_farOf_84 : decode cX8_farOf 84 = .ok (.istore 8, 2) := by decide +kernel
theorem dX8_farOf_86 : decode cX8_farOf 86 = .ok (.iload 6, 2) := by decide +kernel
theorem dX8_farOf_88 : decode cX8_farOf 88 = .ok (.aload_n 0, 1) := by decide +kernel
theorem dX8_farOf_89 : decode cX8_farOf 89 = .ok (.iload_n 1, 1) := by decide +kernel
theorem dX8_farOf_90 : decode cX8_farOf 90 = .ok (.iload_n 2, 1) := by decide +kernel
theorem dX8_farOf_91 : decode cX8_farOf 91 = .ok (.iload 5, 2) := by decide +kernel
theorem dX8_farOf_93 : decode cX8_farOf 93 = .ok (.iconst 1, 1) := by decide +kernel
theorem dX8_farOf_94 : decode cX8_farOf 94 = .ok (.isub, 1) := by decide +kernel
theorem dX8_farOf_95 : decode cX8_farOf 95 = .ok (.invokevirtual 79, 3) := by decide +kernel
theorem dX8_farOf_98 : decode cX8_farOf 98 = .ok (.aload_n 0, 1) := by decide +kernel
theorem dX8_farOf_99 : decode cX8_farOf 99 = .ok (.iload_n 1, 1) := by decide +kernel
theorem dX8_farOf_100 : decode cX8_farOf 100 = .ok (.iload_n 3, 1) := by decide +kernel
theorem dX8_farOf_101 : decode cX8_farOf 101 = .ok (.iload 7, 2) := by decide +kernel
theorem dX8_farOf_103 : decode cX8_farOf 103 = .ok (.iconst 1, 1) := by decide +kernel
theorem dX8_farOf_104 : decode cX8_farOf 104 = .ok (.isub, 1) := by decide +kernel
theorem dX8_farOf_105 : decode cX8_farOf 105 = .ok (.invokevirtual 79, 3) := by decide +kernel
theorem dX8_farOf_108 : decode cX8_farOf 108 = .ok (.invokestatic 164, 3) := by decide +kernel
theorem dX8_farOf_111 : decode cX8_farOf 111 = .ok (.iadd, 1) := by decide +kernel
theorem dX8_farOf_112 : decode cX8_farOf 112 = .ok (.istore 9, 2) := by decide +kernel
theorem dX8_farOf_114 : decode cX8_farOf 114 = .ok (.iload 8, 2) := by decide +kernel
theorem dX8_farOf_116 : decode cX8_farOf 116 = .ok (.iconst 2, 1) := by decide +kernel
theorem dX8_farOf_117 : decode cX8_farOf 117 = .ok (.iadd, 1) := by decide +kernel
theorem dX8_farOf_118 : decode cX8_farOf 118 = .ok (.iload 9, 2) := by decide +kernel
theorem dX8_farOf_120 : decode cX8_farOf 120 = .ok (.if_icmp .ge 10, 3) := by decide +kernel
theorem dX8_farOf_123 : decode cX8_farOf 123 = .ok (.iload 8, 2) := by decide +kernel
theorem dX8_farOf_125 : decode cX8_farOf 125 = .ok (.iconst 2, 1) := by decide +kernel
theorem dX8_farOf_126 : decode cX8_farOf 126 = .ok (.iadd, 1) := by decide +kernel
theorem dX8_farOf_127 : decode cX8_farOf 127 = .ok (.goto 5, 3) := by decide +kernel
theorem dX8_farOf_130 : decode cX8_farOf 130 = .ok (.iload 9, 2) := by decide +kernel
theorem dX8_farOf_132 : decode cX8_farOf 132 = .ok (.istore 9, 2) := by decide +kernel
theorem dX8_farOf_134 : decode cX8_farOf 134 = .ok (.aload_n 0, 1) := by decide +kernel
theorem dX8_farOf_135 : decode cX8_farOf 135 = .ok (.getfield 41, 3) := by decide +kernel
theorem dX8_farOf_138 : decode cX8_farOf 138 = .ok (.iload 7, 2) := by decide +kernel
theorem dX8_farOf_140 : decode cX8_farOf 140 = .ok (.aload_n 0, 1) := by decide +kernel
theorem dX8_farOf_141 : decode cX8_farOf 141 = .ok (.getfield 41, 3) := by decide +kernel
theorem dX8_farOf_144 : decode cX8_farOf 144 = .ok (.iload 7, 2) := by decide +kernel
theorem dX8_farOf_146 : decode cX8_farOf 146 = .ok (.iconst 1, 1) := by decide +kernel
theorem dX8_farOf_147 : decode cX8_farOf 147 = .ok (.isub, 1) := by decide +kernel
theorem dX8_farOf_148 : decode cX8_farOf 148 = .ok (.iaload, 1) := by decide +kernel
theorem dX8_farOf_149 : decode cX8_farOf 149 = .ok (.iconst 2, 1) := by decide +kernel
theorem dX8_farOf_150 : decode cX8_farOf 150 = .ok (.iadd, 1) := by decide +kernel
theorem dX8_farOf_151 : decode cX8_farOf 151 = .ok (.iload 9, 2) := by decide +kernel
theorem dX8_farOf_153 : decode cX8_farOf 153 = .ok (.if_icmp .ge 17, 3) := by decide +kernel
theorem dX8_farOf_156 : decode cX8_farOf 156 = .ok (.aload_n 0, 1) := by decide +kernel
theorem dX8_farOf_157 : decode cX8_farOf 157 = .ok (.getfield 41, 3) := by decide +kernel
theorem dX8_farOf_160 : decode cX8_farOf 160 = .ok (.iload 7, 2) := by decide +kernel
theorem dX8_farOf_162 : decode cX8_farOf 162 = .ok (.iconst 1, 1) := by decide +kernel
theorem dX8_farOf_163 : decode cX8_farOf 163 = .ok (.isub, 1) := by decide +kernel
theorem dX8_farOf_164 : decode cX8_farOf 164 = .ok (.iaload, 1) := by decide +kernel
theorem dX8_farOf_165 : decode cX8_farOf 165 = .ok (.iconst 2, 1) := by decide +kernel
theorem dX8_farOf_166 : decode cX8_farOf 166 = .ok (.iadd, 1) := by decide +kernel
theorem dX8_farOf_167 : decode cX8_farOf 167 = .ok (.goto 5, 3) := by decide +kernel
theorem dX8_farOf_170 : decode cX8_farOf 170 = .ok (.iload 9, 2) := by decide +kernel
theorem dX8_farOf_172 : decode cX8_farOf 172 = .ok (.iastore, 1) := by decide +kernel
theorem dX8_farOf_173 : decode cX8_farOf 173 = .ok (.iload 8, 2) := by decide +kernel
theorem dX8_farOf_175 : decode cX8_farOf 175 = .ok (.istore 6, 2) := by decide +kernel
theorem dX8_farOf_177 : decode cX8_farOf 177 = .ok (.iinc 7 1, 3) := by decide +kernel
theorem dX8_farOf_180 : decode cX8_farOf 180 = .ok (.goto (-110), 3) := by decide +kernel
theorem dX8_farOf_183 : decode cX8_farOf 183 = .ok (.iinc 5 1, 3) := by decide +kernel
theorem dX8_farOf_186 : decode cX8_farOf 186 = .ok (.goto (-148), 3) := by decide +kernel
theorem dX8_farOf_189 : decode cX8_farOf 189 = .ok (.aload_n 0, 1) := by decide +kernel
theorem dX8_farOf_190 : decode cX8_farOf 190 = .ok (.getfield 41, 3) := by decide +kernel
theorem dX8_farOf_193 : decode cX8_farOf 193 = .ok (.iload 4, 2) := by decide +kernel
theorem dX8_farOf_195 : decode cX8_farOf 195 = .ok (.iaload, 1) := by decide +kernel
theorem dX8_farOf_196 : decode cX8_farOf 196 = .ok (.ireturn, 1) := by decide +kernel
set_option maxRecDepth 20000 in
theorem ggX8_far_X8_isVersion : GoodIn wsX8_far wsX8_isVersion := goodIn_r _ [5, 6, 7, 8, 4, 9, 39, 40, 41, 42, 43, 44, 45, 46, 47, 48, 49, 50, 51, 52, 53, 54, 55, 56, 57] (by decide +kernel) (by decide +kernel)
set_option maxRecDepth 20000 in
theorem gX8_far_X8_isVersion : GoodIn wsX8_far (wsV RX8 72 RX8 yX8_isVersion wsX8_isVersion) := goodIn_app (goodIn_of _ (by decide +kernel)) ggX8_far_X8_isVersion
set_option maxRecDepth 20000 in
theorem ggX8_far_X8_isLine : GoodIn wsX8_far wsX8_isLine := goodIn_r _ [13, 14, 7, 8, 4, 9, 39, 40, 41, 42, 43, 44, 45, 46, 47, 48, 49, 50, 51, 52, 53, 54, 55, 56, 57] (by decide +kernel) (by decide +kernel)
set_option maxRecDepth 20000 in
theorem gX8_far_X8_isLine : GoodIn wsX8_far (wsV RX8 68 RX8 yX8_isLine wsX8_isLine) := goodIn_app (goodIn_of _ (by decide +kernel)) ggX8_far_X8_isLine
set_option maxRecDepth 20000 in
theorem ggX8_far_X8_farOf : GoodIn wsX8_far wsX8_farOf := goodIn_r _ [18, 19, 20, 21, 22, 4, 23, 24, 25, 26, 27, 28, 29, 30, 31, 32, 33, 34, 35, 7, 8, 9, 36, 37, 38, 39, 40, 41, 42, 43, 44, 45, 46, 47, 48, 49, 50, 51, 52, 53, 54, 55, 56, 57] (by decide +kernel) (by decide +kernel)
set_option maxRecDepth 20000 in
theorem gX8_far_X8_farOf : GoodIn wsX8_far (wsV RX8 167 RX8 yX8_farOf wsX8_farOf) := goodIn_app (goodIn_of _ (by decide +kernel)) ggX8_far_X8_farOf
theorem dX8_far_0 : decode cX8_far 0 = .ok (.aload_n 0, 1) := by decide +kernel
theorem dX8_far_1 : decode cX8_far 1 = .ok (.iload_n 1, 1) := by decide +kernel
theorem dX8_far_2 : decode cX8_far 2 = .ok (.invokevirtual 72, 3) := by decide +kernel
theorem dX8_far_5 : decode cX8_far 5 = .ok (.ifCond .eq 29, 3) := by decide +kernel
theorem dX8_far_8 : decode cX8_far 8 = .ok (.aload_n 0, 1) := by decide +kernel
theorem dX8_far_9 : decode cX8_far 9 = .ok (.iload_n 2, 1) := by decide +kernel
theorem dX8_far_10 : decode cX8_far 10 = .ok (.invokevirtual 68, 3) := by decide +kernel
theorem dX8_far_13 : decode cX8_far 13 = .ok (.ifCond .eq 21, 3) := by decide +kernel
theorem dX8_far_16 : decode cX8_far 16 = .ok (.aload_n 0, 1) := by decide +kernel
theorem dX8_far_17 : decode cX8_far 17 = .ok (.iload_n 3, 1) := by decide +kernel
theorem dX8_far_18 : decode cX8_far 18 = .ok (.invokevirtual 68, 3) := by decide +kernel
theorem dX8_far_21 : decode cX8_far 21 = .ok (.ifCond .eq 13, 3) := by decide +kernel
theorem dX8_far_24 : decode cX8_far 24 = .ok (.aload_n 0, 1) := by decide +kernel
theorem dX8_far_25 : decode cX8_far 25 = .ok (.iload_n 1, 1) := by decide +kernel
theorem dX8_far_26 : decode cX8_far 26 = .ok (.iload_n 2, 1) := by decide +kernel
theorem dX8_far_27 : decode cX8_far 27 = .ok (.iload_n 3, 1) := by decide +kernel
theorem dX8_far_28 : decode cX8_far 28 = .ok (.invokevirtual 167, 3) := by decide +kernel
theorem dX8_far_31 : decode cX8_far 31 = .ok (.goto 4, 3) := by decide +kernel
theorem dX8_far_34 : decode cX8_far 34 = .ok (.iconst (-1), 1) := by decide +kernel
theorem dX8_far_35 : decode cX8_far 35 = .ok (.ireturn, 1) := by decide +kernel
set_option maxRecDepth 20000 in
theorem ggX8_near_X8_isVersion : GoodIn wsX8_near wsX8_isVersion := goodIn_r _ [6, 7, 8, 9, 5, 10, 39, 40, 41, 42, 43, 44, 45, 46, 47, 48, 49, 50, 51, 52, 53, 54, 55, 56, 57] (by decide +kernel) (by decide +kernel)
set_option maxRecDepth 20000 in
theorem gX8_near_X8_isVersion : GoodIn wsX8_near (wsV RX8 72 RX8 yX8_isVersion wsX8_isVersion) := goodIn_app (goodIn_of _ (by decide +kernel)) ggX8_near_X8_isVersion
set_option maxRecDepth 20000 in
theorem ggX8_near_X8_isLine : GoodIn wsX8_near wsX8_isLine := goodIn_r _ [14, 1, 8, 9, 5, 10, 39, 40, 41, 42, 43, 44, 45, 46, 47, 48, 49, 50, 51, 52, 53, 54, 55, 56, 57] (by decide +kernel) (by decide +kernel)
set_option maxRecDepth 20000 in
theorem gX8_near_X8_isLine : GoodIn wsX8_near (wsV RX8 68 RX8 yX8_isLine wsX8_isLine) := goodIn_app (goodIn_of _ (by decide +kernel)) ggX8_near_X8_isLine
set_option maxRecDepth 20000 in
theorem ggX8_near_X8_in : GoodIn wsX8_near wsX8_in := goodIn_r _ [10] (by decide +kernel) (by decide +kernel)
set_option maxRecDepth 20000 in
theorem gX8_near_X8_in : GoodIn wsX8_near (va_wsS RX8 54 yX8_in wsX8_in) := goodIn_app (goodIn_of _ (by decide +kernel)) ggX8_near_X8_in
set_option maxRecDepth 20000 in
theorem ggX8_near_X8_farOf : GoodIn wsX8_near wsX8_farOf := goodIn_r _ [18, 19, 20, 21, 22, 5, 23, 24, 25, 26, 27, 28, 29, 30, 31, 32, 33, 34, 35, 8, 9, 10, 36, 37, 38, 39, 40, 41, 42, 43, 44, 45, 46, 47, 48, 49, 50, 51, 52, 53, 54, 55, 56, 57] (by decide +kernel) (by decide +kernel)
set_option maxRecDepth 20000 in
theorem gX8_near_X8_farOf : GoodIn wsX8_near (wsV RX8 167 RX8 yX8_farOf wsX8_farOf) := goodIn_app (goodIn_of _ (by decide +kernel)) ggX8_near_X8_farOf
theorem dX8_near_0 : decode cX8_near 0 = .ok (.aload_n 0, 1) := by decide +kernel
theorem dX8_near_1 : decode cX8_near 1 = .ok (.iload_n 1, 1) := by decide +kernel
theorem dX8_near_2 : decode cX8_near 2 = .ok (.invokevirtual 72, 3) := by decide +kernel
theorem dX8_near_5 : decode cX8_near 5 = .ok (.ifCond .eq 11, 3) := by decide +kernel
theorem dX8_near_8 : decode cX8_near 8 = .ok (.aload_n 0, 1) := by decide +kernel
theorem dX8_near_9 : decode cX8_near 9 = .ok (.iload_n 2, 1) := by decide +kernel
theorem dX8_near_10 : decode cX8_near 10 = .ok (.invokevirtual 68, 3) := by decide +kernel
theorem dX8_near_13 : decode cX8_near 13 = .ok (.ifCond .ne 5, 3) := by decide +kernel
theorem dX8_near_16 : decode cX8_near 16 = .ok (.iconst (-1), 1) := by decide +kernel
theorem dX8_near_17 : decode cX8_near 17 = .ok (.ireturn, 1) := by decide +kernel
theorem dX8_near_18 : decode cX8_near 18 = .ok (.iload_n 3, 1) := by decide +kernel
theorem dX8_near_19 : decode cX8_near 19 = .ok (.iconst 0, 1) := by decide +kernel
theorem dX8_near_20 : decode cX8_near 20 = .ok (.bipush 24, 2) := by decide +kernel
theorem dX8_near_22 : decode cX8_near 22 = .ok (.invokestatic 54, 3) := by decide +kernel
theorem dX8_near_25 : decode cX8_near 25 = .ok (.ifCond .ne 6, 3) := by decide +kernel
theorem dX8_near_28 : decode cX8_near 28 = .ok (.bipush (-2), 2) := by decide +kernel
theorem dX8_near_30 : decode cX8_near 30 = .ok (.ireturn, 1) := by decide +kernel
theorem dX8_near_31 : decode cX8_near 31 = .ok (.iconst 0, 1) := by decide +kernel
theorem dX8_near_32 : decode cX8_near 32 = .ok (.istore 4, 2) := by decide +kernel
theorem dX8_near_34 : decode cX8_near 34 = .ok (.iconst 0, 1) := by decide +kernel
theorem dX8_near_35 : decode cX8_near 35 = .ok (.istore 5, 2) := by decide +kernel
theorem dX8_near_37 : decode cX8_near 37 = .ok (.iload 5, 2) := by decide +kernel
theorem dX8_near_39 : decode cX8_near 39 = .ok (.aload_n 0, 1) := by decide +kernel
theorem dX8_near_40 : decode cX8_near 40 = .ok (.getfield 58, 3) := by decide +kernel
theorem dX8_near_43 : decode cX8_near 43 = .ok (.if_icmp .ge 34, 3) := by decide +kernel
theorem dX8_near_46 : decode cX8_near 46 = .ok (.iload 4, 2) := by decide +kernel
theorem dX8_near_48 : decode cX8_near 48 = .ok (.aload_n 0, 1) := by decide +kernel
theorem dX8_near_49 : decode cX8_near 49 = .ok (.iload_n 1, 1) := by decide +kernel
theorem dX8_near_50 : decode cX8_near 50 = .ok (.iload_n 2, 1) := by decide +kernel
theorem dX8_near_51 : decode cX8_near 51 = .ok (.iload 5, 2) := by decide +kernel
theorem dX8_near_53 : decode cX8_near 53 = .ok (.invokevirtual 167, 3) := by decide +kernel
theorem dX8_near_56 : decode cX8_near 56 = .ok (.iload_n 3, 1) := by decide +kernel
theorem dX8_near_57 : decode cX8_near 57 = .ok (.if_icmp .gt 10, 3) := by decide +kernel
theorem dX8_near_60 : decode cX8_near 60 = .ok (.iconst 1, 1) := by decide +kernel
theorem dX8_near_61 : decode cX8_near 61 = .ok (.iload 5, 2) := by decide +kernel
theorem dX8_near_63 : decode cX8_near 63 = .ok (.ishl, 1) := by decide +kernel
theorem dX8_near_64 : decode cX8_near 64 = .ok (.goto 4, 3) := by decide +kernel
theorem dX8_near_67 : decode cX8_near 67 = .ok (.iconst 0, 1) := by decide +kernel
theorem dX8_near_68 : decode cX8_near 68 = .ok (.ior, 1) := by decide +kernel
theorem dX8_near_69 : decode cX8_near 69 = .ok (.istore 4, 2) := by decide +kernel
theorem dX8_near_71 : decode cX8_near 71 = .ok (.iinc 5 1, 3) := by decide +kernel
theorem dX8_near_74 : decode cX8_near 74 = .ok (.goto (-37), 3) := by decide +kernel
theorem dX8_near_77 : decode cX8_near 77 = .ok (.iload 4, 2) := by decide +kernel
theorem dX8_near_79 : decode cX8_near 79 = .ok (.ireturn, 1) := by decide +kernel
set_option maxRecDepth 20000 in
theorem ggX8_image_X8_in : GoodIn wsX8_image wsX8_in := goodIn_r _ [10] (by decide +kernel) (by decide +kernel)
set_option maxRecDepth 20000 in
theorem gX8_image_X8_in : GoodIn wsX8_image (va_wsS RX8 54 yX8_in wsX8_in) := goodIn_app (goodIn_of _ (by decide +kernel)) ggX8_image_X8_in
theorem dX8_image_0 : decode cX8_image 0 = .ok (.iload_n 1, 1) := by decide +kernel
theorem dX8_image_1 : decode cX8_image 1 = .ok (.iconst 0, 1) := by decide +kernel
theorem dX8_image_2 : decode cX8_image 2 = .ok (.iconst 1, 1) := by decide +kernel
theorem dX8_image_3 : decode cX8_image 3 = .ok (.invokestatic 54, 3) := by decide +kernel
theorem dX8_image_6 : decode cX8_image 6 = .ok (.ifCond .ne 6, 3) := by decide +kernel
theorem dX8_image_9 : decode cX8_image 9 = .ok (.bipush (-2), 2) := by decide +kernel
theorem dX8_image_11 : decode cX8_image 11 = .ok (.ireturn, 1) := by decide +kernel
theorem dX8_image_12 : decode cX8_image 12 = .ok (.sipush 722, 3) := by decide +kernel
theorem dX8_image_15 : decode cX8_image 15 = .ok (.iload_n 1, 1) := by decide +kernel
theorem dX8_image_16 : decode cX8_image 16 = .ok (.imul, 1) := by decide +kernel
theorem dX8_image_17 : decode cX8_image 17 = .ok (.istore_n 2, 1) := by decide +kernel
theorem dX8_image_18 : decode cX8_image 18 = .ok (.aload_n 0, 1) := by decide +kernel
theorem dX8_image_19 : decode cX8_image 19 = .ok (.getfield 44, 3) := by decide +kernel
theorem dX8_image_22 : decode cX8_image 22 = .ok (.iload_n 2, 1) := by decide +kernel
theorem dX8_image_23 : decode cX8_image 23 = .ok (.aload_n 0, 1) := by decide +kernel
theorem dX8_image_24 : decode cX8_image 24 = .ok (.getfield 58, 3) := by decide +kernel
theorem dX8_image_27 : decode cX8_image 27 = .ok (.iastore, 1) := by decide +kernel
theorem dX8_image_28 : decode cX8_image 28 = .ok (.aload_n 0, 1) := by decide +kernel
theorem dX8_image_29 : decode cX8_image 29 = .ok (.getfield 44, 3) := by decide +kernel
theorem dX8_image_32 : decode cX8_image 32 = .ok (.iload_n 2, 1) := by decide +kernel
theorem dX8_image_33 : decode cX8_image 33 = .ok (.iconst 1, 1) := by decide +kernel
theorem dX8_image_34 : decode cX8_image 34 = .ok (.iadd, 1) := by decide +kernel
theorem dX8_image_35 : decode cX8_image 35 = .ok (.aload_n 0, 1) := by decide +kernel
theorem dX8_image_36 : decode cX8_image 36 = .ok (.getfield 51, 3) := by decide +kernel
theorem dX8_image_39 : decode cX8_image 39 = .ok (.iastore, 1) := by decide +kernel
theorem dX8_image_40 : decode cX8_image 40 = .ok (.iconst 0, 1) := by decide +kernel
theorem dX8_image_41 : decode cX8_image 41 = .ok (.istore_n 3, 1) := by decide +kernel
theorem dX8_image_42 : decode cX8_image 42 = .ok (.iload_n 3, 1) := by decide +kernel
theorem dX8_image_43 : decode cX8_image 43 = .ok (.bipush 80, 2) := by decide +kernel
theorem dX8_image_45 : decode cX8_image 45 = .ok (.if_icmp .ge 25, 3) := by decide +kernel
theorem dX8_image_48 : decode cX8_image 48 = .ok (.aload_n 0, 1) := by decide +kernel
theorem dX8_image_49 : decode cX8_image 49 = .ok (.getfield 44, 3) := by decide +kernel
theorem dX8_image_52 : decode cX8_image 52 = .ok (.iload_n 2, 1) := by decide +kernel
theorem dX8_image_53 : decode cX8_image 53 = .ok (.iconst 2, 1) := by decide +kernel
theorem dX8_image_54 : decode cX8_image 54 = .ok (.iadd, 1) := by decide +kernel
theorem dX8_image_55 : decode cX8_image 55 = .ok (.iload_n 3, 1) := by decide +kernel
theorem dX8_image_56 : decode cX8_image 56 = .ok (.iadd, 1) := by decide +kernel
theorem dX8_image_57 : decode cX8_image 57 = .ok (.aload_n 0, 1) := by decide +kernel
theorem dX8_image_58 : decode cX8_image 58 = .ok (.getfield 13, 3) := by decide +kernel
theorem dX8_image_61 : decode cX8_image 61 = .ok (.iload_n 3, 1) := by decide +kernel
theorem dX8_image_62 : decode cX8_image 62 = .ok (.iaload, 1) := by decide +kernel
theorem dX8_image_63 : decode cX8_image 63 = .ok (.iastore, 1) := by decide +kernel
theorem dX8_image_64 : decode cX8_image 64 = .ok (.iinc 3 1, 3) := by decide +kernel
theorem dX8_image_67 : decode cX8_image 67 = .ok (.goto (-25), 3) := by decide +kernel
theorem dX8_image_70 : decode cX8_image 70 = .ok (.iconst 0, 1) := by decide +kernel
theorem dX8_image_71 : decode cX8_image 71 = .ok (.istore_n 3, 1) := by decide +kernel
theorem dX8_image_72 : decode cX8_image 72 = .ok (.iload_n 3, 1) := by decide +kernel
theorem dX8_image_73 : decode cX8_image 73 = .ok (.sipush 640, 3) := by decide +kernel
theorem dX8_image_76 : decode cX8_image 76 = .ok (.if_icmp .ge 26, 3) := by decide +kernel
theorem dX8_image_79 : decode cX8_image 79 = .ok (.aload_n 0, 1) := by decide +kernel
theorem dX8_image_80 : decode cX8_image 80 = .ok (.getfield 44, 3) := by decide +kernel
theorem dX8_image_83 : decode cX8_image 83 = .ok (.iload_n 2, 1) := by decide +kernel
theorem dX8_image_84 : decode cX8_image 84 = .ok (.bipush 82, 2) := by decide +kernel
theorem dX8_image_86 : decode cX8_image 86 = .ok (.iadd, 1) := by decide +kernel
theorem dX8_image_87 : decode cX8_image 87 = .ok (.iload_n 3, 1) := by decide +kernel
theorem dX8_image_88 : decode cX8_image 88 = .ok (.iadd, 1) := by decide +kernel
theorem dX8_image_89 : decode cX8_image 89 = .ok (.aload_n 0, 1) := by decide +kernel
theorem dX8_image_90 : decode cX8_image 90 = .ok (.getfield 16, 3) := by decide +kernel
theorem dX8_image_93 : decode cX8_image 93 = .ok (.iload_n 3, 1) := by decide +kernel
theorem dX8_image_94 : decode cX8_image 94 = .ok (.iaload, 1) := by decide +kernel
theorem dX8_image_95 : decode cX8_image 95 = .ok (.iastore, 1) := by decide +kernel
theorem dX8_image_96 : decode cX8_image 96 = .ok (.iinc 3 1, 3) := by decide +kernel
theorem dX8_image_99 : decode cX8_image 99 = .ok (.goto (-27), 3) := by decide +kernel
theorem dX8_image_102 : decode cX8_image 102 = .ok (.aload_n 0, 1) := by decide +kernel
theorem dX8_image_103 : decode cX8_image 103 = .ok (.getfield 47, 3) := by decide +kernel
theorem dX8_image_106 : decode cX8_image 106 = .ok (.iload_n 1, 1) := by decide +kernel
theorem dX8_image_107 : decode cX8_image 107 = .ok (.iconst 1, 1) := by decide +kernel
theorem dX8_image_108 : decode cX8_image 108 = .ok (.bastore, 1) := by decide +kernel
theorem dX8_image_109 : decode cX8_image 109 = .ok (.iconst 1, 1) := by decide +kernel
theorem dX8_image_110 : decode cX8_image 110 = .ok (.ireturn, 1) := by decide +kernel
set_option maxRecDepth 20000 in
theorem ggX8_restore_X8_in : GoodIn wsX8_restore wsX8_in := goodIn_r _ [10] (by decide +kernel) (by decide +kernel)
set_option maxRecDepth 20000 in
theorem gX8_restore_X8_in : GoodIn wsX8_restore (va_wsS RX8 54 yX8_in wsX8_in) := goodIn_app (goodIn_of _ (by decide +kernel)) ggX8_restore_X8_in
theorem dX8_restore_0 : decode cX8_restore 0 = .ok (.iload_n 1, 1) := by decide +kernel
theorem dX8_restore_1 : decode cX8_restore 1 = .ok (.iconst 0, 1) := by decide +kernel
theorem dX8_restore_2 : decode cX8_restore 2 = .ok (.iconst 1, 1) := by decide +kernel
theorem dX8_restore_3 : decode cX8_restore 3 = .ok (.invokestatic 54, 3) := by decide +kernel
theorem dX8_restore_6 : decode cX8_restore 6 = .ok (.ifCond .ne 6, 3) := by decide +kernel
theorem dX8_restore_9 : decode cX8_restore 9 = .ok (.bipush (-2), 2) := by decide +kernel
theorem dX8_restore_11 : decode cX8_restore 11 = .ok (.ireturn, 1) := by decide +kernel
theorem dX8_restore_12 : decode cX8_restore 12 = .ok (.aload_n 0, 1) := by decide +kernel
theorem dX8_restore_13 : decode cX8_restore 13 = .ok (.getfield 47, 3) := by decide +kernel
theorem dX8_restore_16 : decode cX8_restore 16 = .ok (.iload_n 1, 1) := by decide +kernel
theorem dX8_restore_17 : decode cX8_restore 17 = .ok (.baload, 1) := by decide +kernel
theorem dX8_restore_18 : decode cX8_restore 18 = .ok (.ifCond .ne 6, 3) := by decide +kernel
theorem dX8_restore_21 : decode cX8_restore 21 = .ok (.bipush (-3), 2) := by decide +kernel
theorem dX8_restore_23 : decode cX8_restore 23 = .ok (.ireturn, 1) := by decide +kernel
theorem dX8_restore_24 : decode cX8_restore 24 = .ok (.sipush 722, 3) := by decide +kernel
theorem dX8_restore_27 : decode cX8_restore 27 = .ok (.iload_n 1, 1) := by decide +kernel
theorem dX8_restore_28 : decode cX8_restore 28 = .ok (.imul, 1) := by decide +kernel
theorem dX8_restore_29 : decode cX8_restore 29 = .ok (.istore_n 2, 1) := by decide +kernel
theorem dX8_restore_30 : decode cX8_restore 30 = .ok (.aload_n 0, 1) := by decide +kernel
theorem dX8_restore_31 : decode cX8_restore 31 = .ok (.aload_n 0, 1) := by decide +kernel
theorem dX8_restore_32 : decode cX8_restore 32 = .ok (.getfield 44, 3) := by decide +kernel
theorem dX8_restore_35 : decode cX8_restore 35 = .ok (.iload_n 2, 1) := by decide +kernel
theorem dX8_restore_36 : decode cX8_restore 36 = .ok (.iaload, 1) := by decide +kernel
theorem dX8_restore_37 : decode cX8_restore 37 = .ok (.putfield 58, 3) := by decide +kernel
theorem dX8_restore_40 : decode cX8_restore 40 = .ok (.aload_n 0, 1) := by decide +kernel
theorem dX8_restore_41 : decode cX8_restore 41 = .ok (.aload_n 0, 1) := by decide +kernel
theorem dX8_restore_42 : decode cX8_restore 42 = .ok (.getfield 44, 3) := by decide +kernel
theorem dX8_restore_45 : decode cX8_restore 45 = .ok (.iload_n 2, 1) := by decide +kernel
theorem dX8_restore_46 : decode cX8_restore 46 = .ok (.iconst 1, 1) := by decide +kernel
theorem dX8_restore_47 : decode cX8_restore 47 = .ok (.iadd, 1) := by decide +kernel
theorem dX8_restore_48 : decode cX8_restore 48 = .ok (.iaload, 1) := by decide +kernel
theorem dX8_restore_49 : decode cX8_restore 49 = .ok (.putfield 51, 3) := by decide +kernel
theorem dX8_restore_52 : decode cX8_restore 52 = .ok (.iconst 0, 1) := by decide +kernel
theorem dX8_restore_53 : decode cX8_restore 53 = .ok (.istore_n 3, 1) := by decide +kernel
theorem dX8_restore_54 : decode cX8_restore 54 = .ok (.iload_n 3, 1) := by decide +kernel
theorem dX8_restore_55 : decode cX8_restore 55 = .ok (.bipush 80, 2) := by decide +kernel
theorem dX8_restore_57 : decode cX8_restore 57 = .ok (.if_icmp .ge 25, 3) := by decide +kernel
theorem dX8_restore_60 : decode cX8_restore 60 = .ok (.aload_n 0, 1) := by decide +kernel
theorem dX8_restore_61 : decode cX8_restore 61 = .ok (.getfield 13, 3) := by decide +kernel
theorem dX8_restore_64 : decode cX8_restore 64 = .ok (.iload_n 3, 1) := by decide +kernel
theorem dX8_restore_65 : decode cX8_restore 65 = .ok (.aload_n 0, 1) := by decide +kernel
theorem dX8_restore_66 : decode cX8_restore 66 = .ok (.getfield 44, 3) := by decide +kernel
theorem dX8_restore_69 : decode cX8_restore 69 = .ok (.iload_n 2, 1) := by decide +kernel
theorem dX8_restore_70 : decode cX8_restore 70 = .ok (.iconst 2, 1) := by decide +kernel
theorem dX8_restore_71 : decode cX8_restore 71 = .ok (.iadd, 1) := by decide +kernel
theorem dX8_restore_72 : decode cX8_restore 72 = .ok (.iload_n 3, 1) := by decide +kernel
theorem dX8_restore_73 : decode cX8_restore 73 = .ok (.iadd, 1) := by decide +kernel
theorem dX8_restore_74 : decode cX8_restore 74 = .ok (.iaload, 1) := by decide +kernel
theorem dX8_restore_75 : decode cX8_restore 75 = .ok (.iastore, 1) := by decide +kernel
theorem dX8_restore_76 : decode cX8_restore 76 = .ok (.iinc 3 1, 3) := by decide +kernel
theorem dX8_restore_79 : decode cX8_restore 79 = .ok (.goto (-25), 3) := by decide +kernel
theorem dX8_restore_82 : decode cX8_restore 82 = .ok (.iconst 0, 1) := by decide +kernel
theorem dX8_restore_83 : decode cX8_restore 83 = .ok (.istore_n 3, 1) := by decide +kernel
theorem dX8_restore_84 : decode cX8_restore 84 = .ok (.iload_n 3, 1) := by decide +kernel
theorem dX8_restore_85 : decode cX8_restore 85 = .ok (.sipush 640, 3) := by decide +kernel
theorem dX8_restore_88 : decode cX8_restore 88 = .ok (.if_icmp .ge 26, 3) := by decide +kernel
theorem dX8_restore_91 : decode cX8_restore 91 = .ok (.aload_n 0, 1) := by decide +kernel
theorem dX8_restore_92 : decode cX8_restore 92 = .ok (.getfield 16, 3) := by decide +kernel
theorem dX8_restore_95 : decode cX8_restore 95 = .ok (.iload_n 3, 1) := by decide +kernel
theorem dX8_restore_96 : decode cX8_restore 96 = .ok (.aload_n 0, 1) := by decide +kernel
theorem dX8_restore_97 : decode cX8_restore 97 = .ok (.getfield 44, 3) := by decide +kernel
theorem dX8_restore_100 : decode cX8_restore 100 = .ok (.iload_n 2, 1) := by decide +kernel
theorem dX8_restore_101 : decode cX8_restore 101 = .ok (.bipush 82, 2) := by decide +kernel
theorem dX8_restore_103 : decode cX8_restore 103 = .ok (.iadd, 1) := by decide +kernel
theorem dX8_restore_104 : decode cX8_restore 104 = .ok (.iload_n 3, 1) := by decide +kernel
theorem dX8_restore_105 : decode cX8_restore 105 = .ok (.iadd, 1) := by decide +kernel
theorem dX8_restore_106 : decode cX8_restore 106 = .ok (.iaload, 1) := by decide +kernel
theorem dX8_restore_107 : decode cX8_restore 107 = .ok (.iastore, 1) := by decide +kernel
theorem dX8_restore_108 : decode cX8_restore 108 = .ok (.iinc 3 1, 3) := by decide +kernel
theorem dX8_restore_111 : decode cX8_restore 111 = .ok (.goto (-27), 3) := by decide +kernel
theorem dX8_restore_114 : decode cX8_restore 114 = .ok (.iconst 1, 1) := by decide +kernel
theorem dX8_restore_115 : decode cX8_restore 115 = .ok (.ireturn, 1) := by decide +kernel
theorem dX8_told_0 : decode cX8_told 0 = .ok (.iload_n 1, 1) := by decide +kernel
theorem dX8_told_1 : decode cX8_told 1 = .ok (.ifCond .ne 10, 3) := by decide +kernel
theorem dX8_told_4 : decode cX8_told 4 = .ok (.aload_n 0, 1) := by decide +kernel
theorem dX8_told_5 : decode cX8_told 5 = .ok (.getfield 61, 3) := by decide +kernel
theorem dX8_told_8 : decode cX8_told 8 = .ok (.goto 29, 3) := by decide +kernel
theorem dX8_told_11 : decode cX8_told 11 = .ok (.iload_n 1, 1) := by decide +kernel
theorem dX8_told_12 : decode cX8_told 12 = .ok (.iconst 1, 1) := by decide +kernel
theorem dX8_told_13 : decode cX8_told 13 = .ok (.if_icmp .ne 10, 3) := by decide +kernel
theorem dX8_told_16 : decode cX8_told 16 = .ok (.aload_n 0, 1) := by decide +kernel
theorem dX8_told_17 : decode cX8_told 17 = .ok (.getfield 58, 3) := by decide +kernel
theorem dX8_told_20 : decode cX8_told 20 = .ok (.goto 17, 3) := by decide +kernel
theorem dX8_told_23 : decode cX8_told 23 = .ok (.iload_n 1, 1) := by decide +kernel
theorem dX8_told_24 : decode cX8_told 24 = .ok (.iconst 2, 1) := by decide +kernel
theorem dX8_told_25 : decode cX8_told 25 = .ok (.if_icmp .ne 10, 3) := by decide +kernel
theorem dX8_told_28 : decode cX8_told 28 = .ok (.aload_n 0, 1) := by decide +kernel
theorem dX8_told_29 : decode cX8_told 29 = .ok (.getfield 51, 3) := by decide +kernel
theorem dX8_told_32 : decode cX8_told 32 = .ok (.goto 5, 3) := by decide +kernel
theorem dX8_told_35 : decode cX8_told 35 = .ok (.bipush (-2), 2) := by decide +kernel
theorem dX8_told_37 : decode cX8_told 37 = .ok (.ireturn, 1) := by decide +kernel
