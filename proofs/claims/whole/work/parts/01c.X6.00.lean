theorem dX6_init_0 : decode cX6_init 0 = .ok (.aload_n 0, 1) := by decide +kernel
theorem dX6_init_1 : decode cX6_init 1 = .ok (.invokespecial 3, 3) := by decide +kernel
theorem dX6_init_4 : decode cX6_init 4 = .ok (.aload_n 0, 1) := by decide +kernel
theorem dX6_init_5 : decode cX6_init 5 = .ok (.iconst 0, 1) := by decide +kernel
theorem dX6_init_6 : decode cX6_init 6 = .ok (.putfield 9, 3) := by decide +kernel
theorem dX6_init_9 : decode cX6_init 9 = .ok (.aload_n 0, 1) := by decide +kernel
theorem dX6_init_10 : decode cX6_init 10 = .ok (.iconst 0, 1) := by decide +kernel
theorem dX6_init_11 : decode cX6_init 11 = .ok (.putfield 15, 3) := by decide +kernel
theorem dX6_init_14 : decode cX6_init 14 = .ok (.aload_n 0, 1) := by decide +kernel
theorem dX6_init_15 : decode cX6_init 15 = .ok (.aload_n 1, 1) := by decide +kernel
theorem dX6_init_16 : decode cX6_init 16 = .ok (.putfield 18, 3) := by decide +kernel
theorem dX6_init_19 : decode cX6_init 19 = .ok (.aload_n 0, 1) := by decide +kernel
theorem dX6_init_20 : decode cX6_init 20 = .ok (.aload_n 2, 1) := by decide +kernel
theorem dX6_init_21 : decode cX6_init 21 = .ok (.putfield 22, 3) := by decide +kernel
theorem dX6_init_24 : decode cX6_init 24 = .ok (.return_, 1) := by decide +kernel
set_option maxRecDepth 20000 in
theorem ggX6_seek_X2_areThere : GoodIn wsX6_seek wsX2_areThere := goodIn_r _ [13, 14, 15, 4, 16, 17, 18, 19, 20, 21, 22, 23, 92, 93, 94, 95, 96, 97, 98, 99, 100, 101] (by decide +kernel) (by decide +kernel)
set_option maxRecDepth 20000 in
theorem gX6_seek_X2_areThere : GoodIn wsX6_seek (wsV RX6 32 RX2 yX2_areThere wsX2_areThere) := goodIn_app (goodIn_of _ (by decide +kernel)) ggX6_seek_X2_areThere
set_option maxRecDepth 20000 in
theorem ggX6_seek_X2_rowsAlike : GoodIn wsX6_seek wsX2_rowsAlike := goodIn_r _ [27, 28, 10, 11, 12, 13, 14, 15, 4, 16, 17, 18, 19, 20, 21, 22, 23, 29, 30, 31, 32, 33, 34, 35, 36, 37, 38, 39, 40, 41, 42, 43, 44, 45, 46, 47, 48, 49, 50, 51, 52, 53, 54, 55, 56, 57, 58, 59, 60, 61, 62, 63, 64, 65, 66, 67, 68, 69, 92, 93, 94, 95, 96, 97, 98, 99, 100, 101, 102, 103, 104] (by decide +kernel) (by decide +kernel)
set_option maxRecDepth 20000 in
theorem gX6_seek_X2_rowsAlike : GoodIn wsX6_seek (wsV RX6 38 RX2 yX2_rowsAlike wsX2_rowsAlike) := goodIn_app (goodIn_of _ (by decide +kernel)) ggX6_seek_X2_rowsAlike
set_option maxRecDepth 20000 in
theorem ggX6_seek_X0_sizeOf : GoodIn wsX6_seek wsX0_sizeOf := goodIn_r _ [48, 49, 23, 50, 98, 99, 100, 101] (by decide +kernel) (by decide +kernel)
set_option maxRecDepth 20000 in
theorem gX6_seek_X0_sizeOf : GoodIn wsX6_seek (wsV RX6 42 RX0 yX0_sizeOf wsX0_sizeOf) := goodIn_app (goodIn_of _ (by decide +kernel)) ggX6_seek_X0_sizeOf
set_option maxRecDepth 20000 in
theorem ggX6_seek_X0_signAt : GoodIn wsX6_seek wsX0_signAt := goodIn_r _ [54, 49, 23, 50, 55, 98, 99, 100, 101] (by decide +kernel) (by decide +kernel)
set_option maxRecDepth 20000 in
theorem gX6_seek_X0_signAt : GoodIn wsX6_seek (wsV RX6 48 RX0 yX0_signAt wsX0_signAt) := goodIn_app (goodIn_of _ (by decide +kernel)) ggX6_seek_X0_signAt
set_option maxRecDepth 20000 in
theorem ggX6_seek_X7_isName : GoodIn wsX6_seek wsX7_isName := goodIn_r _ [62] (by decide +kernel) (by decide +kernel)
set_option maxRecDepth 20000 in
theorem gX6_seek_X7_isName_n52 : GoodIn wsX6_seek (wsX7_isName) := ggX6_seek_X7_isName
set_option maxRecDepth 20000 in
theorem ggX6_seek_X2_rowsAlikeBut : GoodIn wsX6_seek wsX2_rowsAlikeBut := goodIn_r _ [75, 33, 34, 35, 36, 37, 38, 39, 40, 41, 42, 43, 12, 44, 17, 45, 46, 47, 21, 48, 49, 23, 50, 51, 52, 53, 54, 55, 56, 57, 58, 59, 60, 61, 62, 63, 64, 65, 66, 67, 68, 69, 92, 93, 94, 95, 96, 97, 102, 103, 104, 98, 99, 100, 101] (by decide +kernel) (by decide +kernel)
set_option maxRecDepth 20000 in
theorem gX6_seek_X2_rowsAlikeBut : GoodIn wsX6_seek (wsV RX6 56 RX2 yX2_rowsAlikeBut wsX2_rowsAlikeBut) := goodIn_app (goodIn_of _ (by decide +kernel)) ggX6_seek_X2_rowsAlikeBut
set_option maxRecDepth 20000 in
theorem ggX6_seek_X3_firstNameThatFits : GoodIn wsX6_seek wsX3_firstNameThatFits := goodIn_r _ [79, 40, 80, 81, 82, 37, 83, 39, 60, 61, 62, 84, 85, 86, 87, 67, 102, 103, 104] (by decide +kernel) (by decide +kernel)
set_option maxRecDepth 20000 in
theorem gX6_seek_X3_firstNameThatFits : GoodIn wsX6_seek (wsV RX6 63 RX3 yX3_firstNameThatFits wsX3_firstNameThatFits) := goodIn_app (goodIn_of _ (by decide +kernel)) ggX6_seek_X3_firstNameThatFits
theorem dX6_seek_0 : decode cX6_seek 0 = .ok (.aload_n 0, 1) := by decide +kernel
theorem dX6_seek_1 : decode cX6_seek 1 = .ok (.iconst 0, 1) := by decide +kernel
theorem dX6_seek_2 : decode cX6_seek 2 = .ok (.putfield 15, 3) := by decide +kernel
theorem dX6_seek_5 : decode cX6_seek 5 = .ok (.iload_n 2, 1) := by decide +kernel
theorem dX6_seek_6 : decode cX6_seek 6 = .ok (.iload_n 3, 1) := by decide +kernel
theorem dX6_seek_7 : decode cX6_seek 7 = .ok (.isub, 1) := by decide +kernel
theorem dX6_seek_8 : decode cX6_seek 8 = .ok (.invokestatic 26, 3) := by decide +kernel
theorem dX6_seek_11 : decode cX6_seek 11 = .ok (.iload 4, 2) := by decide +kernel
theorem dX6_seek_13 : decode cX6_seek 13 = .ok (.if_icmp .lt 17, 3) := by decide +kernel
theorem dX6_seek_16 : decode cX6_seek 16 = .ok (.aload_n 0, 1) := by decide +kernel
theorem dX6_seek_17 : decode cX6_seek 17 = .ok (.getfield 22, 3) := by decide +kernel
theorem dX6_seek_20 : decode cX6_seek 20 = .ok (.iload_n 2, 1) := by decide +kernel
theorem dX6_seek_21 : decode cX6_seek 21 = .ok (.iload_n 3, 1) := by decide +kernel
theorem dX6_seek_22 : decode cX6_seek 22 = .ok (.iload 4, 2) := by decide +kernel
theorem dX6_seek_24 : decode cX6_seek 24 = .ok (.invokevirtual 32, 3) := by decide +kernel
theorem dX6_seek_27 : decode cX6_seek 27 = .ok (.ifCond .ne 4, 3) := by decide +kernel
theorem dX6_seek_30 : decode cX6_seek 30 = .ok (.return_, 1) := by decide +kernel
theorem dX6_seek_31 : decode cX6_seek 31 = .ok (.aload_n 0, 1) := by decide +kernel
theorem dX6_seek_32 : decode cX6_seek 32 = .ok (.getfield 22, 3) := by decide +kernel
theorem dX6_seek_35 : decode cX6_seek 35 = .ok (.iload_n 1, 1) := by decide +kernel
theorem dX6_seek_36 : decode cX6_seek 36 = .ok (.iconst 1, 1) := by decide +kernel
theorem dX6_seek_37 : decode cX6_seek 37 = .ok (.iload_n 2, 1) := by decide +kernel
theorem dX6_seek_38 : decode cX6_seek 38 = .ok (.iload_n 3, 1) := by decide +kernel
theorem dX6_seek_39 : decode cX6_seek 39 = .ok (.iload 4, 2) := by decide +kernel
theorem dX6_seek_41 : decode cX6_seek 41 = .ok (.invokevirtual 38, 3) := by decide +kernel
theorem dX6_seek_44 : decode cX6_seek 44 = .ok (.ifCond .eq 4, 3) := by decide +kernel
theorem dX6_seek_47 : decode cX6_seek 47 = .ok (.return_, 1) := by decide +kernel
theorem dX6_seek_48 : decode cX6_seek 48 = .ok (.iconst 0, 1) := by decide +kernel
theorem dX6_seek_49 : decode cX6_seek 49 = .ok (.istore 5, 2) := by decide +kernel
theorem dX6_seek_51 : decode cX6_seek 51 = .ok (.iload 5, 2) := by decide +kernel
theorem dX6_seek_53 : decode cX6_seek 53 = .ok (.iload 4, 2) := by decide +kernel
theorem dX6_seek_55 : decode cX6_seek 55 = .ok (.if_icmp .ge 148, 3) := by decide +kernel
theorem dX6_seek_58 : decode cX6_seek 58 = .ok (.aload_n 0, 1) := by decide +kernel
theorem dX6_seek_59 : decode cX6_seek 59 = .ok (.getfield 15, 3) := by decide +kernel
theorem dX6_seek_62 : decode cX6_seek 62 = .ok (.ifCond .ne 141, 3) := by decide +kernel
theorem dX6_seek_65 : decode cX6_seek 65 = .ok (.aload_n 0, 1) := by decide +kernel
theorem dX6_seek_66 : decode cX6_seek 66 = .ok (.getfield 18, 3) := by decide +kernel
theorem dX6_seek_69 : decode cX6_seek 69 = .ok (.iload_n 1, 1) := by decide +kernel
theorem dX6_seek_70 : decode cX6_seek 70 = .ok (.iload_n 3, 1) := by decide +kernel
theorem dX6_seek_71 : decode cX6_seek 71 = .ok (.iload 5, 2) := by decide +kernel
theorem dX6_seek_73 : decode cX6_seek 73 = .ok (.iadd, 1) := by decide +kernel
theorem dX6_seek_74 : decode cX6_seek 74 = .ok (.invokevirtual 42, 3) := by decide +kernel
theorem dX6_seek_77 : decode cX6_seek 77 = .ok (.istore 6, 2) := by decide +kernel
theorem dX6_seek_79 : decode cX6_seek 79 = .ok (.iconst 0, 1) := by decide +kernel
theorem dX6_seek_80 : decode cX6_seek 80 = .ok (.istore 7, 2) := by decide +kernel
theorem dX6_seek_82 : decode cX6_seek 82 = .ok (.iload 7, 2) := by decide +kernel
theorem dX6_seek_84 : decode cX6_seek 84 = .ok (.iload 6, 2) := by decide +kernel
theorem dX6_seek_86 : decode cX6_seek 86 = .ok (.if_icmp .ge 111, 3) := by decide +kernel
theorem dX6_seek_89 : decode cX6_seek 89 = .ok (.aload_n 0, 1) := by decide +kernel
theorem dX6_seek_90 : decode cX6_seek 90 = .ok (.getfield 15, 3) := by decide +kernel
theorem dX6_seek_93 : decode cX6_seek 93 = .ok (.ifCond .ne 104, 3) := by decide +kernel
theorem dX6_seek_96 : decode cX6_seek 96 = .ok (.aload_n 0, 1) := by decide +kernel
theorem dX6_seek_97 : decode cX6_seek 97 = .ok (.getfield 18, 3) := by decide +kernel
theorem dX6_seek_100 : decode cX6_seek 100 = .ok (.iload_n 1, 1) := by decide +kernel
theorem dX6_seek_101 : decode cX6_seek 101 = .ok (.iload_n 2, 1) := by decide +kernel
theorem dX6_seek_102 : decode cX6_seek 102 = .ok (.iload 5, 2) := by decide +kernel
theorem dX6_seek_104 : decode cX6_seek 104 = .ok (.iadd, 1) := by decide +kernel
theorem dX6_seek_105 : decode cX6_seek 105 = .ok (.iload 7, 2) := by decide +kernel
theorem dX6_seek_107 : decode cX6_seek 107 = .ok (.invokevirtual 48, 3) := by decide +kernel
theorem dX6_seek_110 : decode cX6_seek 110 = .ok (.istore 8, 2) := by decide +kernel
theorem dX6_seek_112 : decode cX6_seek 112 = .ok (.aload_n 0, 1) := by decide +kernel
theorem dX6_seek_113 : decode cX6_seek 113 = .ok (.getfield 18, 3) := by decide +kernel
theorem dX6_seek_116 : decode cX6_seek 116 = .ok (.iload_n 1, 1) := by decide +kernel
theorem dX6_seek_117 : decode cX6_seek 117 = .ok (.iload_n 3, 1) := by decide +kernel
theorem dX6_seek_118 : decode cX6_seek 118 = .ok (.iload 5, 2) := by decide +kernel
theorem dX6_seek_120 : decode cX6_seek 120 = .ok (.iadd, 1) := by decide +kernel
theorem dX6_seek_121 : decode cX6_seek 121 = .ok (.iload 7, 2) := by decide +kernel
theorem dX6_seek_123 : decode cX6_seek 123 = .ok (.invokevirtual 48, 3) := by decide +kernel
theorem dX6_seek_126 : decode cX6_seek 126 = .ok (.istore 9, 2) := by decide +kernel
theorem dX6_seek_128 : decode cX6_seek 128 = .ok (.aload_n 0, 1) := by decide +kernel
theorem dX6_seek_129 : decode cX6_seek 129 = .ok (.iload 5, 2) := by decide +kernel
theorem dX6_seek_131 : decode cX6_seek 131 = .ok (.bipush 10, 2) := by decide +kernel
theorem dX6_seek_133 : decode cX6_seek 133 = .ok (.imul, 1) := by decide +kernel
theorem dX6_seek_134 : decode cX6_seek 134 = .ok (.iload 7, 2) := by decide +kernel
theorem dX6_seek_136 : decode cX6_seek 136 = .ok (.iadd, 1) := by decide +kernel
theorem dX6_seek_137 : decode cX6_seek 137 = .ok (.putfield 9, 3) := by decide +kernel
theorem dX6_seek_140 : decode cX6_seek 140 = .ok (.iload 8, 2) := by decide +kernel
theorem dX6_seek_142 : decode cX6_seek 142 = .ok (.invokestatic 52, 3) := by decide +kernel
theorem dX6_seek_145 : decode cX6_seek 145 = .ok (.ifCond .eq 46, 3) := by decide +kernel
theorem dX6_seek_148 : decode cX6_seek 148 = .ok (.iload 9, 2) := by decide +kernel
theorem dX6_seek_150 : decode cX6_seek 150 = .ok (.invokestatic 52, 3) := by decide +kernel
theorem dX6_seek_153 : decode cX6_seek 153 = .ok (.ifCond .eq 38, 3) := by decide +kernel
theorem dX6_seek_156 : decode cX6_seek 156 = .ok (.aload_n 0, 1) := by decide +kernel
theorem dX6_seek_157 : decode cX6_seek 157 = .ok (.getfield 22, 3) := by decide +kernel
theorem dX6_seek_160 : decode cX6_seek 160 = .ok (.iload_n 1, 1) := by decide +kernel
theorem dX6_seek_161 : decode cX6_seek 161 = .ok (.iload_n 2, 1) := by decide +kernel
theorem dX6_seek_162 : decode cX6_seek 162 = .ok (.iload_n 3, 1) := by decide +kernel
theorem dX6_seek_163 : decode cX6_seek 163 = .ok (.iload 4, 2) := by decide +kernel
theorem dX6_seek_165 : decode cX6_seek 165 = .ok (.aload_n 0, 1) := by decide +kernel
theorem dX6_seek_166 : decode cX6_seek 166 = .ok (.getfield 9, 3) := by decide +kernel
theorem dX6_seek_169 : decode cX6_seek 169 = .ok (.invokevirtual 56, 3) := by decide +kernel
theorem dX6_seek_172 : decode cX6_seek 172 = .ok (.ifCond .eq 19, 3) := by decide +kernel
theorem dX6_seek_175 : decode cX6_seek 175 = .ok (.aload_n 0, 1) := by decide +kernel
theorem dX6_seek_176 : decode cX6_seek 176 = .ok (.aload_n 0, 1) := by decide +kernel
theorem dX6_seek_177 : decode cX6_seek 177 = .ok (.getfield 22, 3) := by decide +kernel
theorem dX6_seek_180 : decode cX6_seek 180 = .ok (.getfield 59, 3) := by decide +kernel
theorem dX6_seek_183 : decode cX6_seek 183 = .ok (.iload 8, 2) := by decide +kernel
theorem dX6_seek_185 : decode cX6_seek 185 = .ok (.invokevirtual 63, 3) := by decide +kernel
theorem dX6_seek_188 : decode cX6_seek 188 = .ok (.putfield 15, 3) := by decide +kernel
theorem dX6_seek_191 : decode cX6_seek 191 = .ok (.iinc 7 1, 3) := by decide +kernel
theorem dX6_seek_194 : decode cX6_seek 194 = .ok (.goto (-112), 3) := by decide +kernel
theorem dX6_seek_197 : decode cX6_seek 197 = .ok (.iinc 5 1, 3) := by decide +kernel
theorem dX6_seek_200 : decode cX6_seek 200 = .ok (.goto (-149), 3) := by decide +kernel
theorem dX6_seek_203 : decode cX6_seek 203 = .ok (.return_, 1) := by decide +kernel
