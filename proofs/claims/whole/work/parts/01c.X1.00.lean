theorem dX1_init_0 : decode cX1_init 0 = .ok (.aload_n 0, 1) := by decide +kernel
theorem dX1_init_1 : decode cX1_init 1 = .ok (.invokespecial 3, 3) := by decide +kernel
theorem dX1_init_4 : decode cX1_init 4 = .ok (.aload_n 0, 1) := by decide +kernel
theorem dX1_init_5 : decode cX1_init 5 = .ok (.bipush 81, 2) := by decide +kernel
theorem dX1_init_7 : decode cX1_init 7 = .ok (.newarray .int, 2) := by decide +kernel
theorem dX1_init_9 : decode cX1_init 9 = .ok (.putfield 11, 3) := by decide +kernel
theorem dX1_init_12 : decode cX1_init 12 = .ok (.aload_n 0, 1) := by decide +kernel
theorem dX1_init_13 : decode cX1_init 13 = .ok (.aload_n 1, 1) := by decide +kernel
theorem dX1_init_14 : decode cX1_init 14 = .ok (.putfield 15, 3) := by decide +kernel
theorem dX1_init_17 : decode cX1_init 17 = .ok (.return_, 1) := by decide +kernel
set_option maxRecDepth 20000 in
theorem ggX1_between_X0_sizeOf : GoodIn wsX1_between wsX0_sizeOf := goodIn_r _ [11, 12, 13, 14, 31, 32, 33, 34] (by decide +kernel) (by decide +kernel)
set_option maxRecDepth 20000 in
theorem gX1_between_X0_sizeOf : GoodIn wsX1_between (wsV RX1 19 RX0 yX0_sizeOf wsX0_sizeOf) := goodIn_app (goodIn_of _ (by decide +kernel)) ggX1_between_X0_sizeOf
set_option maxRecDepth 20000 in
theorem ggX1_between_X0_signAt : GoodIn wsX1_between wsX0_signAt := goodIn_r _ [18, 12, 13, 14, 19, 31, 32, 33, 34] (by decide +kernel) (by decide +kernel)
set_option maxRecDepth 20000 in
theorem gX1_between_X0_signAt : GoodIn wsX1_between (wsV RX1 30 RX0 yX0_signAt wsX0_signAt) := goodIn_app (goodIn_of _ (by decide +kernel)) ggX1_between_X0_signAt
set_option maxRecDepth 20000 in
theorem ggX1_between_X1_swapCost : GoodIn wsX1_between wsX1_swapCost := goodIn_r _ [23, 24, 25, 26, 27, 28] (by decide +kernel) (by decide +kernel)
set_option maxRecDepth 20000 in
theorem gX1_between_X1_swapCost : GoodIn wsX1_between (va_wsS RX1 34 yX1_swapCost wsX1_swapCost) := goodIn_app (goodIn_of _ (by decide +kernel)) ggX1_between_X1_swapCost
theorem dX1_between_0 : decode cX1_between 0 = .ok (.aload_n 0, 1) := by decide +kernel
theorem dX1_between_1 : decode cX1_between 1 = .ok (.getfield 15, 3) := by decide +kernel
theorem dX1_between_4 : decode cX1_between 4 = .ok (.iload_n 1, 1) := by decide +kernel
theorem dX1_between_5 : decode cX1_between 5 = .ok (.iload_n 2, 1) := by decide +kernel
theorem dX1_between_6 : decode cX1_between 6 = .ok (.invokevirtual 19, 3) := by decide +kernel
theorem dX1_between_9 : decode cX1_between 9 = .ok (.bipush 8, 2) := by decide +kernel
theorem dX1_between_11 : decode cX1_between 11 = .ok (.invokestatic 25, 3) := by decide +kernel
theorem dX1_between_14 : decode cX1_between 14 = .ok (.istore 4, 2) := by decide +kernel
theorem dX1_between_16 : decode cX1_between 16 = .ok (.aload_n 0, 1) := by decide +kernel
theorem dX1_between_17 : decode cX1_between 17 = .ok (.getfield 15, 3) := by decide +kernel
theorem dX1_between_20 : decode cX1_between 20 = .ok (.iload_n 1, 1) := by decide +kernel
theorem dX1_between_21 : decode cX1_between 21 = .ok (.iload_n 3, 1) := by decide +kernel
theorem dX1_between_22 : decode cX1_between 22 = .ok (.invokevirtual 19, 3) := by decide +kernel
theorem dX1_between_25 : decode cX1_between 25 = .ok (.bipush 8, 2) := by decide +kernel
theorem dX1_between_27 : decode cX1_between 27 = .ok (.invokestatic 25, 3) := by decide +kernel
theorem dX1_between_30 : decode cX1_between 30 = .ok (.istore 5, 2) := by decide +kernel
theorem dX1_between_32 : decode cX1_between 32 = .ok (.iconst 0, 1) := by decide +kernel
theorem dX1_between_33 : decode cX1_between 33 = .ok (.istore 6, 2) := by decide +kernel
theorem dX1_between_35 : decode cX1_between 35 = .ok (.iload 6, 2) := by decide +kernel
theorem dX1_between_37 : decode cX1_between 37 = .ok (.iload 4, 2) := by decide +kernel
theorem dX1_between_39 : decode cX1_between 39 = .ok (.if_icmp .gt 23, 3) := by decide +kernel
theorem dX1_between_42 : decode cX1_between 42 = .ok (.aload_n 0, 1) := by decide +kernel
theorem dX1_between_43 : decode cX1_between 43 = .ok (.getfield 11, 3) := by decide +kernel
theorem dX1_between_46 : decode cX1_between 46 = .ok (.iload 6, 2) := by decide +kernel
theorem dX1_between_48 : decode cX1_between 48 = .ok (.bipush 9, 2) := by decide +kernel
theorem dX1_between_50 : decode cX1_between 50 = .ok (.imul, 1) := by decide +kernel
theorem dX1_between_51 : decode cX1_between 51 = .ok (.iload 6, 2) := by decide +kernel
theorem dX1_between_53 : decode cX1_between 53 = .ok (.iconst 2, 1) := by decide +kernel
theorem dX1_between_54 : decode cX1_between 54 = .ok (.imul, 1) := by decide +kernel
theorem dX1_between_55 : decode cX1_between 55 = .ok (.iastore, 1) := by decide +kernel
theorem dX1_between_56 : decode cX1_between 56 = .ok (.iinc 6 1, 3) := by decide +kernel
theorem dX1_between_59 : decode cX1_between 59 = .ok (.goto (-24), 3) := by decide +kernel
theorem dX1_between_62 : decode cX1_between 62 = .ok (.iconst 0, 1) := by decide +kernel
theorem dX1_between_63 : decode cX1_between 63 = .ok (.istore 6, 2) := by decide +kernel
theorem dX1_between_65 : decode cX1_between 65 = .ok (.iload 6, 2) := by decide +kernel
theorem dX1_between_67 : decode cX1_between 67 = .ok (.iload 5, 2) := by decide +kernel
theorem dX1_between_69 : decode cX1_between 69 = .ok (.if_icmp .gt 20, 3) := by decide +kernel
theorem dX1_between_72 : decode cX1_between 72 = .ok (.aload_n 0, 1) := by decide +kernel
theorem dX1_between_73 : decode cX1_between 73 = .ok (.getfield 11, 3) := by decide +kernel
theorem dX1_between_76 : decode cX1_between 76 = .ok (.iload 6, 2) := by decide +kernel
theorem dX1_between_78 : decode cX1_between 78 = .ok (.iload 6, 2) := by decide +kernel
theorem dX1_between_80 : decode cX1_between 80 = .ok (.iconst 2, 1) := by decide +kernel
theorem dX1_between_81 : decode cX1_between 81 = .ok (.imul, 1) := by decide +kernel
theorem dX1_between_82 : decode cX1_between 82 = .ok (.iastore, 1) := by decide +kernel
theorem dX1_between_83 : decode cX1_between 83 = .ok (.iinc 6 1, 3) := by decide +kernel
theorem dX1_between_86 : decode cX1_between 86 = .ok (.goto (-21), 3) := by decide +kernel
theorem dX1_between_89 : decode cX1_between 89 = .ok (.iconst 1, 1) := by decide +kernel
theorem dX1_between_90 : decode cX1_between 90 = .ok (.istore 6, 2) := by decide +kernel
theorem dX1_between_92 : decode cX1_between 92 = .ok (.iload 6, 2) := by decide +kernel
theorem dX1_between_94 : decode cX1_between 94 = .ok (.iload 4, 2) := by decide +kernel
theorem dX1_between_96 : decode cX1_between 96 = .ok (.if_icmp .gt 123, 3) := by decide +kernel
theorem dX1_between_99 : decode cX1_between 99 = .ok (.aload_n 0, 1) := by decide +kernel
theorem dX1_between_100 : decode cX1_between 100 = .ok (.getfield 15, 3) := by decide +kernel
theorem dX1_between_103 : decode cX1_between 103 = .ok (.iload_n 1, 1) := by decide +kernel
theorem dX1_between_104 : decode cX1_between 104 = .ok (.iload_n 2, 1) := by decide +kernel
theorem dX1_between_105 : decode cX1_between 105 = .ok (.iload 6, 2) := by decide +kernel
theorem dX1_between_107 : decode cX1_between 107 = .ok (.iconst 1, 1) := by decide +kernel
theorem dX1_between_108 : decode cX1_between 108 = .ok (.isub, 1) := by decide +kernel
theorem dX1_between_109 : decode cX1_between 109 = .ok (.invokevirtual 30, 3) := by decide +kernel
theorem dX1_between_112 : decode cX1_between 112 = .ok (.istore 7, 2) := by decide +kernel
theorem dX1_between_114 : decode cX1_between 114 = .ok (.iconst 1, 1) := by decide +kernel
theorem dX1_between_115 : decode cX1_between 115 = .ok (.istore 8, 2) := by decide +kernel
theorem dX1_between_117 : decode cX1_between 117 = .ok (.iload 8, 2) := by decide +kernel
theorem dX1_between_119 : decode cX1_between 119 = .ok (.iload 5, 2) := by decide +kernel
theorem dX1_between_121 : decode cX1_between 121 = .ok (.if_icmp .gt 92, 3) := by decide +kernel
theorem dX1_between_124 : decode cX1_between 124 = .ok (.iload 6, 2) := by decide +kernel
theorem dX1_between_126 : decode cX1_between 126 = .ok (.bipush 9, 2) := by decide +kernel
theorem dX1_between_128 : decode cX1_between 128 = .ok (.imul, 1) := by decide +kernel
theorem dX1_between_129 : decode cX1_between 129 = .ok (.iload 8, 2) := by decide +kernel
theorem dX1_between_131 : decode cX1_between 131 = .ok (.iadd, 1) := by decide +kernel
theorem dX1_between_132 : decode cX1_between 132 = .ok (.istore 9, 2) := by decide +kernel
theorem dX1_between_134 : decode cX1_between 134 = .ok (.aload_n 0, 1) := by decide +kernel
theorem dX1_between_135 : decode cX1_between 135 = .ok (.getfield 11, 3) := by decide +kernel
theorem dX1_between_138 : decode cX1_between 138 = .ok (.iload 9, 2) := by decide +kernel
theorem dX1_between_140 : decode cX1_between 140 = .ok (.bipush 9, 2) := by decide +kernel
theorem dX1_between_142 : decode cX1_between 142 = .ok (.isub, 1) := by decide +kernel
theorem dX1_between_143 : decode cX1_between 143 = .ok (.iconst 1, 1) := by decide +kernel
theorem dX1_between_144 : decode cX1_between 144 = .ok (.isub, 1) := by decide +kernel
theorem dX1_between_145 : decode cX1_between 145 = .ok (.iaload, 1) := by decide +kernel
theorem dX1_between_146 : decode cX1_between 146 = .ok (.iload 7, 2) := by decide +kernel
theorem dX1_between_148 : decode cX1_between 148 = .ok (.aload_n 0, 1) := by decide +kernel
theorem dX1_between_149 : decode cX1_between 149 = .ok (.getfield 15, 3) := by decide +kernel
theorem dX1_between_152 : decode cX1_between 152 = .ok (.iload_n 1, 1) := by decide +kernel
theorem dX1_between_153 : decode cX1_between 153 = .ok (.iload_n 3, 1) := by decide +kernel
theorem dX1_between_154 : decode cX1_between 154 = .ok (.iload 8, 2) := by decide +kernel
theorem dX1_between_156 : decode cX1_between 156 = .ok (.iconst 1, 1) := by decide +kernel
theorem dX1_between_157 : decode cX1_between 157 = .ok (.isub, 1) := by decide +kernel
theorem dX1_between_158 : decode cX1_between 158 = .ok (.invokevirtual 30, 3) := by decide +kernel
theorem dX1_between_161 : decode cX1_between 161 = .ok (.invokestatic 34, 3) := by decide +kernel
theorem dX1_between_164 : decode cX1_between 164 = .ok (.iadd, 1) := by decide +kernel
theorem dX1_between_165 : decode cX1_between 165 = .ok (.istore 10, 2) := by decide +kernel
theorem dX1_between_167 : decode cX1_between 167 = .ok (.aload_n 0, 1) := by decide +kernel
theorem dX1_between_168 : decode cX1_between 168 = .ok (.getfield 11, 3) := by decide +kernel
theorem dX1_between_171 : decode cX1_between 171 = .ok (.iload 9, 2) := by decide +kernel
theorem dX1_between_173 : decode cX1_between 173 = .ok (.iconst 1, 1) := by decide +kernel
theorem dX1_between_174 : decode cX1_between 174 = .ok (.isub, 1) := by decide +kernel
theorem dX1_between_175 : decode cX1_between 175 = .ok (.iaload, 1) := by decide +kernel
theorem dX1_between_176 : decode cX1_between 176 = .ok (.aload_n 0, 1) := by decide +kernel
theorem dX1_between_177 : decode cX1_between 177 = .ok (.getfield 11, 3) := by decide +kernel
theorem dX1_between_180 : decode cX1_between 180 = .ok (.iload 9, 2) := by decide +kernel
theorem dX1_between_182 : decode cX1_between 182 = .ok (.bipush 9, 2) := by decide +kernel
theorem dX1_between_184 : decode cX1_between 184 = .ok (.isub, 1) := by decide +kernel
theorem dX1_between_185 : decode cX1_between 185 = .ok (.iaload, 1) := by decide +kernel
theorem dX1_between_186 : decode cX1_between 186 = .ok (.invokestatic 25, 3) := by decide +kernel
theorem dX1_between_189 : decode cX1_between 189 = .ok (.iconst 2, 1) := by decide +kernel
theorem dX1_between_190 : decode cX1_between 190 = .ok (.iadd, 1) := by decide +kernel
theorem dX1_between_191 : decode cX1_between 191 = .ok (.istore 11, 2) := by decide +kernel
theorem dX1_between_193 : decode cX1_between 193 = .ok (.aload_n 0, 1) := by decide +kernel
theorem dX1_between_194 : decode cX1_between 194 = .ok (.getfield 11, 3) := by decide +kernel
theorem dX1_between_197 : decode cX1_between 197 = .ok (.iload 9, 2) := by decide +kernel
theorem dX1_between_199 : decode cX1_between 199 = .ok (.iload 10, 2) := by decide +kernel
theorem dX1_between_201 : decode cX1_between 201 = .ok (.iload 11, 2) := by decide +kernel
theorem dX1_between_203 : decode cX1_between 203 = .ok (.invokestatic 25, 3) := by decide +kernel
theorem dX1_between_206 : decode cX1_between 206 = .ok (.iastore, 1) := by decide +kernel
theorem dX1_between_207 : decode cX1_between 207 = .ok (.iinc 8 1, 3) := by decide +kernel
theorem dX1_between_210 : decode cX1_between 210 = .ok (.goto (-93), 3) := by decide +kernel
theorem dX1_between_213 : decode cX1_between 213 = .ok (.iinc 6 1, 3) := by decide +kernel
theorem dX1_between_216 : decode cX1_between 216 = .ok (.goto (-124), 3) := by decide +kernel
theorem dX1_between_219 : decode cX1_between 219 = .ok (.aload_n 0, 1) := by decide +kernel
theorem dX1_between_220 : decode cX1_between 220 = .ok (.getfield 11, 3) := by decide +kernel
theorem dX1_between_223 : decode cX1_between 223 = .ok (.iload 4, 2) := by decide +kernel
theorem dX1_between_225 : decode cX1_between 225 = .ok (.bipush 9, 2) := by decide +kernel
theorem dX1_between_227 : decode cX1_between 227 = .ok (.imul, 1) := by decide +kernel
theorem dX1_between_228 : decode cX1_between 228 = .ok (.iload 5, 2) := by decide +kernel
theorem dX1_between_230 : decode cX1_between 230 = .ok (.iadd, 1) := by decide +kernel
theorem dX1_between_231 : decode cX1_between 231 = .ok (.iaload, 1) := by decide +kernel
theorem dX1_between_232 : decode cX1_between 232 = .ok (.ireturn, 1) := by decide +kernel
set_option maxRecDepth 20000 in
theorem ggX1_swapCost_X7_isName : GoodIn wsX1_swapCost wsX7_isName := goodIn_r _ [3] (by decide +kernel) (by decide +kernel)
set_option maxRecDepth 20000 in
theorem gX1_swapCost_X7_isName_n37 : GoodIn wsX1_swapCost (wsX7_isName) := ggX1_swapCost_X7_isName
set_option maxRecDepth 20000 in
theorem ggX1_swapCost_X7_isNumber : GoodIn wsX1_swapCost wsX7_isNumber := goodIn_r _ [5] (by decide +kernel) (by decide +kernel)
set_option maxRecDepth 20000 in
theorem gX1_swapCost_X7_isNumber_n41 : GoodIn wsX1_swapCost (wsX7_isNumber) := ggX1_swapCost_X7_isNumber
theorem dX1_swapCost_0 : decode cX1_swapCost 0 = .ok (.iload_n 0, 1) := by decide +kernel
theorem dX1_swapCost_1 : decode cX1_swapCost 1 = .ok (.iload_n 1, 1) := by decide +kernel
theorem dX1_swapCost_2 : decode cX1_swapCost 2 = .ok (.if_icmp .ne 5, 3) := by decide +kernel
theorem dX1_swapCost_5 : decode cX1_swapCost 5 = .ok (.iconst 0, 1) := by decide +kernel
theorem dX1_swapCost_6 : decode cX1_swapCost 6 = .ok (.ireturn, 1) := by decide +kernel
theorem dX1_swapCost_7 : decode cX1_swapCost 7 = .ok (.iload_n 0, 1) := by decide +kernel
theorem dX1_swapCost_8 : decode cX1_swapCost 8 = .ok (.invokestatic 37, 3) := by decide +kernel
theorem dX1_swapCost_11 : decode cX1_swapCost 11 = .ok (.ifCond .eq 10, 3) := by decide +kernel
theorem dX1_swapCost_14 : decode cX1_swapCost 14 = .ok (.iload_n 1, 1) := by decide +kernel
theorem dX1_swapCost_15 : decode cX1_swapCost 15 = .ok (.invokestatic 37, 3) := by decide +kernel
theorem dX1_swapCost_18 : decode cX1_swapCost 18 = .ok (.ifCond .ne 17, 3) := by decide +kernel
theorem dX1_swapCost_21 : decode cX1_swapCost 21 = .ok (.iload_n 0, 1) := by decide +kernel
theorem dX1_swapCost_22 : decode cX1_swapCost 22 = .ok (.invokestatic 41, 3) := by decide +kernel
theorem dX1_swapCost_25 : decode cX1_swapCost 25 = .ok (.ifCond .eq 14, 3) := by decide +kernel
theorem dX1_swapCost_28 : decode cX1_swapCost 28 = .ok (.iload_n 1, 1) := by decide +kernel
theorem dX1_swapCost_29 : decode cX1_swapCost 29 = .ok (.invokestatic 41, 3) := by decide +kernel
theorem dX1_swapCost_32 : decode cX1_swapCost 32 = .ok (.ifCond .eq 7, 3) := by decide +kernel
theorem dX1_swapCost_35 : decode cX1_swapCost 35 = .ok (.iconst 1, 1) := by decide +kernel
theorem dX1_swapCost_36 : decode cX1_swapCost 36 = .ok (.goto 4, 3) := by decide +kernel
theorem dX1_swapCost_39 : decode cX1_swapCost 39 = .ok (.iconst 0, 1) := by decide +kernel
theorem dX1_swapCost_40 : decode cX1_swapCost 40 = .ok (.istore_n 2, 1) := by decide +kernel
theorem dX1_swapCost_41 : decode cX1_swapCost 41 = .ok (.iload_n 2, 1) := by decide +kernel
theorem dX1_swapCost_42 : decode cX1_swapCost 42 = .ok (.ifCond .eq 7, 3) := by decide +kernel
theorem dX1_swapCost_45 : decode cX1_swapCost 45 = .ok (.iconst 1, 1) := by decide +kernel
theorem dX1_swapCost_46 : decode cX1_swapCost 46 = .ok (.goto 4, 3) := by decide +kernel
theorem dX1_swapCost_49 : decode cX1_swapCost 49 = .ok (.iconst 3, 1) := by decide +kernel
theorem dX1_swapCost_50 : decode cX1_swapCost 50 = .ok (.ireturn, 1) := by decide +kernel
