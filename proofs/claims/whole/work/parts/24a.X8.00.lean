theorem dX8_init_0 : decode cX8_init 0 = .ok (.aload_n 0, 1) := by decide +kernel
theorem dX8_init_1 : decode cX8_init 1 = .ok (.invokespecial 1, 3) := by decide +kernel
theorem dX8_init_4 : decode cX8_init 4 = .ok (.aload_n 0, 1) := by decide +kernel
theorem dX8_init_5 : decode cX8_init 5 = .ok (.bipush 8, 2) := by decide +kernel
theorem dX8_init_7 : decode cX8_init 7 = .ok (.newarray .int, 2) := by decide +kernel
theorem dX8_init_9 : decode cX8_init 9 = .ok (.putfield 7, 3) := by decide +kernel
theorem dX8_init_12 : decode cX8_init 12 = .ok (.aload_n 0, 1) := by decide +kernel
theorem dX8_init_13 : decode cX8_init 13 = .ok (.bipush 80, 2) := by decide +kernel
theorem dX8_init_15 : decode cX8_init 15 = .ok (.newarray .int, 2) := by decide +kernel
theorem dX8_init_17 : decode cX8_init 17 = .ok (.putfield 13, 3) := by decide +kernel
theorem dX8_init_20 : decode cX8_init 20 = .ok (.aload_n 0, 1) := by decide +kernel
theorem dX8_init_21 : decode cX8_init 21 = .ok (.sipush 640, 3) := by decide +kernel
theorem dX8_init_24 : decode cX8_init 24 = .ok (.newarray .int, 2) := by decide +kernel
theorem dX8_init_26 : decode cX8_init 26 = .ok (.putfield 16, 3) := by decide +kernel
theorem dX8_init_29 : decode cX8_init 29 = .ok (.aload_n 0, 1) := by decide +kernel
theorem dX8_init_30 : decode cX8_init 30 = .ok (.bipush 26, 2) := by decide +kernel
theorem dX8_init_32 : decode cX8_init 32 = .ok (.newarray .int, 2) := by decide +kernel
theorem dX8_init_34 : decode cX8_init 34 = .ok (.putfield 19, 3) := by decide +kernel
theorem dX8_init_37 : decode cX8_init 37 = .ok (.aload_n 0, 1) := by decide +kernel
theorem dX8_init_38 : decode cX8_init 38 = .ok (.bipush 26, 2) := by decide +kernel
theorem dX8_init_40 : decode cX8_init 40 = .ok (.newarray .int, 2) := by decide +kernel
theorem dX8_init_42 : decode cX8_init 42 = .ok (.putfield 22, 3) := by decide +kernel
theorem dX8_init_45 : decode cX8_init 45 = .ok (.aload_n 0, 1) := by decide +kernel
theorem dX8_init_46 : decode cX8_init 46 = .ok (.bipush (-6), 2) := by decide +kernel
theorem dX8_init_48 : decode cX8_init 48 = .ok (.putfield 25, 3) := by decide +kernel
theorem dX8_init_51 : decode cX8_init 51 = .ok (.aload_n 0, 1) := by decide +kernel
theorem dX8_init_52 : decode cX8_init 52 = .ok (.sipush 400, 3) := by decide +kernel
theorem dX8_init_55 : decode cX8_init 55 = .ok (.newarray .int, 2) := by decide +kernel
theorem dX8_init_57 : decode cX8_init 57 = .ok (.putfield 29, 3) := by decide +kernel
theorem dX8_init_60 : decode cX8_init 60 = .ok (.aload_n 0, 1) := by decide +kernel
theorem dX8_init_61 : decode cX8_init 61 = .ok (.sipush 400, 3) := by decide +kernel
theorem dX8_init_64 : decode cX8_init 64 = .ok (.newarray .int, 2) := by decide +kernel
theorem dX8_init_66 : decode cX8_init 66 = .ok (.putfield 32, 3) := by decide +kernel
theorem dX8_init_69 : decode cX8_init 69 = .ok (.aload_n 0, 1) := by decide +kernel
theorem dX8_init_70 : decode cX8_init 70 = .ok (.sipush 400, 3) := by decide +kernel
theorem dX8_init_73 : decode cX8_init 73 = .ok (.newarray .int, 2) := by decide +kernel
theorem dX8_init_75 : decode cX8_init 75 = .ok (.putfield 35, 3) := by decide +kernel
theorem dX8_init_78 : decode cX8_init 78 = .ok (.aload_n 0, 1) := by decide +kernel
theorem dX8_init_79 : decode cX8_init 79 = .ok (.sipush 400, 3) := by decide +kernel
theorem dX8_init_82 : decode cX8_init 82 = .ok (.newarray .int, 2) := by decide +kernel
theorem dX8_init_84 : decode cX8_init 84 = .ok (.putfield 38, 3) := by decide +kernel
theorem dX8_init_87 : decode cX8_init 87 = .ok (.aload_n 0, 1) := by decide +kernel
theorem dX8_init_88 : decode cX8_init 88 = .ok (.bipush 9, 2) := by decide +kernel
theorem dX8_init_90 : decode cX8_init 90 = .ok (.newarray .int, 2) := by decide +kernel
theorem dX8_init_92 : decode cX8_init 92 = .ok (.putfield 41, 3) := by decide +kernel
theorem dX8_init_95 : decode cX8_init 95 = .ok (.aload_n 0, 1) := by decide +kernel
theorem dX8_init_96 : decode cX8_init 96 = .ok (.sipush 1444, 3) := by decide +kernel
theorem dX8_init_99 : decode cX8_init 99 = .ok (.newarray .int, 2) := by decide +kernel
theorem dX8_init_101 : decode cX8_init 101 = .ok (.putfield 44, 3) := by decide +kernel
theorem dX8_init_104 : decode cX8_init 104 = .ok (.aload_n 0, 1) := by decide +kernel
theorem dX8_init_105 : decode cX8_init 105 = .ok (.iconst 2, 1) := by decide +kernel
theorem dX8_init_106 : decode cX8_init 106 = .ok (.newarray .boolean, 2) := by decide +kernel
theorem dX8_init_108 : decode cX8_init 108 = .ok (.putfield 47, 3) := by decide +kernel
theorem dX8_init_111 : decode cX8_init 111 = .ok (.aload_n 0, 1) := by decide +kernel
theorem dX8_init_112 : decode cX8_init 112 = .ok (.iconst 1, 1) := by decide +kernel
theorem dX8_init_113 : decode cX8_init 113 = .ok (.putfield 51, 3) := by decide +kernel
theorem dX8_init_116 : decode cX8_init 116 = .ok (.return_, 1) := by decide +kernel
theorem dX8_in_0 : decode cX8_in 0 = .ok (.iload_n 0, 1) := by decide +kernel
theorem dX8_in_1 : decode cX8_in 1 = .ok (.iload_n 1, 1) := by decide +kernel
theorem dX8_in_2 : decode cX8_in 2 = .ok (.if_icmp .lt 12, 3) := by decide +kernel
theorem dX8_in_5 : decode cX8_in 5 = .ok (.iload_n 0, 1) := by decide +kernel
theorem dX8_in_6 : decode cX8_in 6 = .ok (.iload_n 2, 1) := by decide +kernel
theorem dX8_in_7 : decode cX8_in 7 = .ok (.if_icmp .gt 7, 3) := by decide +kernel
theorem dX8_in_10 : decode cX8_in 10 = .ok (.iconst 1, 1) := by decide +kernel
theorem dX8_in_11 : decode cX8_in 11 = .ok (.goto 4, 3) := by decide +kernel
theorem dX8_in_14 : decode cX8_in 14 = .ok (.iconst 0, 1) := by decide +kernel
theorem dX8_in_15 : decode cX8_in 15 = .ok (.ireturn, 1) := by decide +kernel
set_option maxRecDepth 20000 in
theorem ggX8_isVersion_X8_in : GoodIn wsX8_isVersion wsX8_in := goodIn_r _ [5] (by decide +kernel) (by decide +kernel)
set_option maxRecDepth 20000 in
theorem gX8_isVersion_X8_in : GoodIn wsX8_isVersion (va_wsS RX8 54 yX8_in wsX8_in) := goodIn_app (goodIn_of _ (by decide +kernel)) ggX8_isVersion_X8_in
theorem dX8_isVersion_0 : decode cX8_isVersion 0 = .ok (.iload_n 1, 1) := by decide +kernel
theorem dX8_isVersion_1 : decode cX8_isVersion 1 = .ok (.iconst 0, 1) := by decide +kernel
theorem dX8_isVersion_2 : decode cX8_isVersion 2 = .ok (.aload_n 0, 1) := by decide +kernel
theorem dX8_isVersion_3 : decode cX8_isVersion 3 = .ok (.getfield 51, 3) := by decide +kernel
theorem dX8_isVersion_6 : decode cX8_isVersion 6 = .ok (.iconst 1, 1) := by decide +kernel
theorem dX8_isVersion_7 : decode cX8_isVersion 7 = .ok (.isub, 1) := by decide +kernel
theorem dX8_isVersion_8 : decode cX8_isVersion 8 = .ok (.invokestatic 54, 3) := by decide +kernel
theorem dX8_isVersion_11 : decode cX8_isVersion 11 = .ok (.ireturn, 1) := by decide +kernel
set_option maxRecDepth 20000 in
theorem ggX8_isLine_X8_in : GoodIn wsX8_isLine wsX8_in := goodIn_r _ [5] (by decide +kernel) (by decide +kernel)
set_option maxRecDepth 20000 in
theorem gX8_isLine_X8_in : GoodIn wsX8_isLine (va_wsS RX8 54 yX8_in wsX8_in) := goodIn_app (goodIn_of _ (by decide +kernel)) ggX8_isLine_X8_in
theorem dX8_isLine_0 : decode cX8_isLine 0 = .ok (.iload_n 1, 1) := by decide +kernel
theorem dX8_isLine_1 : decode cX8_isLine 1 = .ok (.iconst 0, 1) := by decide +kernel
theorem dX8_isLine_2 : decode cX8_isLine 2 = .ok (.aload_n 0, 1) := by decide +kernel
theorem dX8_isLine_3 : decode cX8_isLine 3 = .ok (.getfield 58, 3) := by decide +kernel
theorem dX8_isLine_6 : decode cX8_isLine 6 = .ok (.iconst 1, 1) := by decide +kernel
theorem dX8_isLine_7 : decode cX8_isLine 7 = .ok (.isub, 1) := by decide +kernel
theorem dX8_isLine_8 : decode cX8_isLine 8 = .ok (.invokestatic 54, 3) := by decide +kernel
theorem dX8_isLine_11 : decode cX8_isLine 11 = .ok (.ireturn, 1) := by decide +kernel
set_option maxRecDepth 20000 in
theorem ggX8_isStart_X8_in : GoodIn wsX8_isStart wsX8_in := goodIn_r _ [4] (by decide +kernel) (by decide +kernel)
set_option maxRecDepth 20000 in
theorem gX8_isStart_X8_in : GoodIn wsX8_isStart (va_wsS RX8 54 yX8_in wsX8_in) := goodIn_app (goodIn_of _ (by decide +kernel)) ggX8_isStart_X8_in
theorem dX8_isStart_0 : decode cX8_isStart 0 = .ok (.iload_n 0, 1) := by decide +kernel
theorem dX8_isStart_1 : decode cX8_isStart 1 = .ok (.iconst 0, 1) := by decide +kernel
theorem dX8_isStart_2 : decode cX8_isStart 2 = .ok (.bipush 19, 2) := by decide +kernel
theorem dX8_isStart_4 : decode cX8_isStart 4 = .ok (.invokestatic 54, 3) := by decide +kernel
theorem dX8_isStart_7 : decode cX8_isStart 7 = .ok (.ireturn, 1) := by decide +kernel
set_option maxRecDepth 20000 in
theorem ggX8_isLength_X8_in : GoodIn wsX8_isLength wsX8_in := goodIn_r _ [4] (by decide +kernel) (by decide +kernel)
set_option maxRecDepth 20000 in
theorem gX8_isLength_X8_in : GoodIn wsX8_isLength (va_wsS RX8 54 yX8_in wsX8_in) := goodIn_app (goodIn_of _ (by decide +kernel)) ggX8_isLength_X8_in
theorem dX8_isLength_0 : decode cX8_isLength 0 = .ok (.iload_n 0, 1) := by decide +kernel
theorem dX8_isLength_1 : decode cX8_isLength 1 = .ok (.iconst 1, 1) := by decide +kernel
theorem dX8_isLength_2 : decode cX8_isLength 2 = .ok (.bipush 20, 2) := by decide +kernel
theorem dX8_isLength_4 : decode cX8_isLength 4 = .ok (.invokestatic 54, 3) := by decide +kernel
theorem dX8_isLength_7 : decode cX8_isLength 7 = .ok (.ireturn, 1) := by decide +kernel
set_option maxRecDepth 20000 in
theorem ggX8_isWay_X8_in : GoodIn wsX8_isWay wsX8_in := goodIn_r _ [4] (by decide +kernel) (by decide +kernel)
set_option maxRecDepth 20000 in
theorem gX8_isWay_X8_in : GoodIn wsX8_isWay (va_wsS RX8 54 yX8_in wsX8_in) := goodIn_app (goodIn_of _ (by decide +kernel)) ggX8_isWay_X8_in
theorem dX8_isWay_0 : decode cX8_isWay 0 = .ok (.iload_n 0, 1) := by decide +kernel
theorem dX8_isWay_1 : decode cX8_isWay 1 = .ok (.iconst 0, 1) := by decide +kernel
theorem dX8_isWay_2 : decode cX8_isWay 2 = .ok (.iconst 2, 1) := by decide +kernel
theorem dX8_isWay_3 : decode cX8_isWay 3 = .ok (.invokestatic 54, 3) := by decide +kernel
theorem dX8_isWay_6 : decode cX8_isWay 6 = .ok (.ireturn, 1) := by decide +kernel
set_option maxRecDepth 20000 in
theorem ggX8_isName_X8_in : GoodIn wsX8_isName wsX8_in := goodIn_r _ [4] (by decide +kernel) (by decide +kernel)
set_option maxRecDepth 20000 in
theorem gX8_isName_X8_in : GoodIn wsX8_isName (va_wsS RX8 54 yX8_in wsX8_in) := goodIn_app (goodIn_of _ (by decide +kernel)) ggX8_isName_X8_in
theorem dX8_isName_0 : decode cX8_isName 0 = .ok (.iload_n 0, 1) := by decide +kernel
theorem dX8_isName_1 : decode cX8_isName 1 = .ok (.bipush 97, 2) := by decide +kernel
theorem dX8_isName_3 : decode cX8_isName 3 = .ok (.bipush 122, 2) := by decide +kernel
theorem dX8_isName_5 : decode cX8_isName 5 = .ok (.invokestatic 54, 3) := by decide +kernel
theorem dX8_isName_8 : decode cX8_isName 8 = .ok (.ireturn, 1) := by decide +kernel
set_option maxRecDepth 20000 in
theorem ggX8_isNumber_X8_in : GoodIn wsX8_isNumber wsX8_in := goodIn_r _ [4] (by decide +kernel) (by decide +kernel)
set_option maxRecDepth 20000 in
theorem gX8_isNumber_X8_in : GoodIn wsX8_isNumber (va_wsS RX8 54 yX8_in wsX8_in) := goodIn_app (goodIn_of _ (by decide +kernel)) ggX8_isNumber_X8_in
theorem dX8_isNumber_0 : decode cX8_isNumber 0 = .ok (.iload_n 0, 1) := by decide +kernel
theorem dX8_isNumber_1 : decode cX8_isNumber 1 = .ok (.bipush 48, 2) := by decide +kernel
theorem dX8_isNumber_3 : decode cX8_isNumber 3 = .ok (.bipush 57, 2) := by decide +kernel
theorem dX8_isNumber_5 : decode cX8_isNumber 5 = .ok (.invokestatic 54, 3) := by decide +kernel
theorem dX8_isNumber_8 : decode cX8_isNumber 8 = .ok (.ireturn, 1) := by decide +kernel
set_option maxRecDepth 20000 in
theorem ggX8_say_X8_in : GoodIn wsX8_say wsX8_in := goodIn_r _ [6] (by decide +kernel) (by decide +kernel)
set_option maxRecDepth 20000 in
theorem gX8_say_X8_in : GoodIn wsX8_say (va_wsS RX8 54 yX8_in wsX8_in) := goodIn_app (goodIn_of _ (by decide +kernel)) ggX8_say_X8_in
theorem dX8_say_0 : decode cX8_say 0 = .ok (.iload_n 1, 1) := by decide +kernel
theorem dX8_say_1 : decode cX8_say 1 = .ok (.bipush 33, 2) := by decide +kernel
theorem dX8_say_3 : decode cX8_say 3 = .ok (.bipush 126, 2) := by decide +kernel
theorem dX8_say_5 : decode cX8_say 5 = .ok (.invokestatic 54, 3) := by decide +kernel
theorem dX8_say_8 : decode cX8_say 8 = .ok (.ifCond .ne 6, 3) := by decide +kernel
theorem dX8_say_11 : decode cX8_say 11 = .ok (.bipush (-2), 2) := by decide +kernel
theorem dX8_say_13 : decode cX8_say 13 = .ok (.ireturn, 1) := by decide +kernel
theorem dX8_say_14 : decode cX8_say 14 = .ok (.aload_n 0, 1) := by decide +kernel
theorem dX8_say_15 : decode cX8_say 15 = .ok (.getfield 61, 3) := by decide +kernel
theorem dX8_say_18 : decode cX8_say 18 = .ok (.bipush 8, 2) := by decide +kernel
theorem dX8_say_20 : decode cX8_say 20 = .ok (.if_icmp .ne 6, 3) := by decide +kernel
theorem dX8_say_23 : decode cX8_say 23 = .ok (.bipush (-4), 2) := by decide +kernel
theorem dX8_say_25 : decode cX8_say 25 = .ok (.ireturn, 1) := by decide +kernel
theorem dX8_say_26 : decode cX8_say 26 = .ok (.aload_n 0, 1) := by decide +kernel
theorem dX8_say_27 : decode cX8_say 27 = .ok (.getfield 7, 3) := by decide +kernel
theorem dX8_say_30 : decode cX8_say 30 = .ok (.aload_n 0, 1) := by decide +kernel
theorem dX8_say_31 : decode cX8_say 31 = .ok (.getfield 61, 3) := by decide +kernel
theorem dX8_say_34 : decode cX8_say 34 = .ok (.iload_n 1, 1) := by decide +kernel
theorem dX8_say_35 : decode cX8_say 35 = .ok (.iastore, 1) := by decide +kernel
theorem dX8_say_36 : decode cX8_say 36 = .ok (.aload_n 0, 1) := by decide +kernel
theorem dX8_say_37 : decode cX8_say 37 = .ok (.dup, 1) := by decide +kernel
theorem dX8_say_38 : decode cX8_say 38 = .ok (.getfield 61, 3) := by decide +kernel
theorem dX8_say_41 : decode cX8_say 41 = .ok (.iconst 1, 1) := by decide +kernel
theorem dX8_say_42 : decode cX8_say 42 = .ok (.iadd, 1) := by decide +kernel
theorem dX8_say_43 : decode cX8_say 43 = .ok (.putfield 61, 3) := by decide +kernel
theorem dX8_say_46 : decode cX8_say 46 = .ok (.aload_n 0, 1) := by decide +kernel
theorem dX8_say_47 : decode cX8_say 47 = .ok (.getfield 61, 3) := by decide +kernel
theorem dX8_say_50 : decode cX8_say 50 = .ok (.ireturn, 1) := by decide +kernel
theorem dX8_wipe_0 : decode cX8_wipe 0 = .ok (.aload_n 0, 1) := by decide +kernel
theorem dX8_wipe_1 : decode cX8_wipe 1 = .ok (.getfield 61, 3) := by decide +kernel
theorem dX8_wipe_4 : decode cX8_wipe 4 = .ok (.istore_n 1, 1) := by decide +kernel
theorem dX8_wipe_5 : decode cX8_wipe 5 = .ok (.aload_n 0, 1) := by decide +kernel
theorem dX8_wipe_6 : decode cX8_wipe 6 = .ok (.iconst 0, 1) := by decide +kernel
theorem dX8_wipe_7 : decode cX8_wipe 7 = .ok (.putfield 61, 3) := by decide +kernel
theorem dX8_wipe_10 : decode cX8_wipe 10 = .ok (.iload_n 1, 1) := by decide +kernel
theorem dX8_wipe_11 : decode cX8_wipe 11 = .ok (.ireturn, 1) := by decide +kernel
theorem dX8_put_0 : decode cX8_put 0 = .ok (.aload_n 0, 1) := by decide +kernel
theorem dX8_put_1 : decode cX8_put 1 = .ok (.getfield 13, 3) := by decide +kernel
theorem dX8_put_4 : decode cX8_put 4 = .ok (.bipush 20, 2) := by decide +kernel
theorem dX8_put_6 : decode cX8_put 6 = .ok (.iload_n 1, 1) := by decide +kernel
theorem dX8_put_7 : decode cX8_put 7 = .ok (.imul, 1) := by decide +kernel
theorem dX8_put_8 : decode cX8_put 8 = .ok (.iload_n 2, 1) := by decide +kernel
theorem dX8_put_9 : decode cX8_put 9 = .ok (.iadd, 1) := by decide +kernel
theorem dX8_put_10 : decode cX8_put 10 = .ok (.aload_n 0, 1) := by decide +kernel
theorem dX8_put_11 : decode cX8_put 11 = .ok (.getfield 61, 3) := by decide +kernel
theorem dX8_put_14 : decode cX8_put 14 = .ok (.iastore, 1) := by decide +kernel
theorem dX8_put_15 : decode cX8_put 15 = .ok (.iconst 0, 1) := by decide +kernel
theorem dX8_put_16 : decode cX8_put 16 = .ok (.istore_n 3, 1) := by decide +kernel
theorem dX8_put_17 : decode cX8_put 17 = .ok (.iload_n 3, 1) := by decide +kernel
theorem dX8_put_18 : decode cX8_put 18 = .ok (.aload_n 0, 1) := by decide +kernel
theorem dX8_put_19 : decode cX8_put 19 = .ok (.getfield 61, 3) := by decide +kernel
theorem dX8_put_22 : decode cX8_put 22 = .ok (.if_icmp .ge 32, 3) := by decide +kernel
theorem dX8_put_25 : decode cX8_put 25 = .ok (.aload_n 0, 1) := by decide +kernel
theorem dX8_put_26 : decode cX8_put 26 = .ok (.getfield 16, 3) := by decide +kernel
theorem dX8_put_29 : decode cX8_put 29 = .ok (.sipush 160, 3) := by decide +kernel
theorem dX8_put_32 : decode cX8_put 32 = .ok (.iload_n 1, 1) := by decide +kernel
theorem dX8_put_33 : decode cX8_put 33 = .ok (.imul, 1) := by decide +kernel
theorem dX8_put_34 : decode cX8_put 34 = .ok (.bipush 8, 2) := by decide +kernel
theorem dX8_put_36 : decode cX8_put 36 = .ok (.iload_n 2, 1) := by decide +kernel
theorem dX8_put_37 : decode cX8_put 37 = .ok (.imul, 1) := by decide +kernel
theorem dX8_put_38 : decode cX8_put 38 = .ok (.iadd, 1) := by decide +kernel
theorem dX8_put_39 : decode cX8_put 39 = .ok (.iload_n 3, 1) := by decide +kernel
theorem dX8_put_40 : decode cX8_put 40 = .ok (.iadd, 1) := by decide +kernel
theorem dX8_put_41 : decode cX8_put 41 = .ok (.aload_n 0, 1) := by decide +kernel
theorem dX8_put_42 : decode cX8_put 42 = .ok (.getfield 7, 3) := by decide +kernel
theorem dX8_put_45 : decode cX8_put 45 = .ok (.iload_n 3, 1) := by decide +kernel
theorem dX8_put_46 : decode cX8_put 46 = .ok (.iaload, 1) := by decide +kernel
theorem dX8_put_47 : decode cX8_put 47 = .ok (.iastore, 1) := by decide +kernel
theorem dX8_put_48 : decode cX8_put 48 = .ok (.iinc 3 1, 3) := by decide +kernel
theorem dX8_put_51 : decode cX8_put 51 = .ok (.goto (-34), 3) := by decide +kernel
theorem dX8_put_54 : decode cX8_put 54 = .ok (.return_, 1) := by decide +kernel
set_option maxRecDepth 20000 in
theorem ggX8_line_X8_put : GoodIn wsX8_line wsX8_put := goodIn_r _ [8, 9, 2, 10, 11, 12, 13, 14, 15, 16, 17, 18, 19, 20, 21, 22, 23, 24, 25, 26, 27, 28, 29, 30] (by decide +kernel) (by decide +kernel)
set_option maxRecDepth 20000 in
theorem gX8_line_X8_put : GoodIn wsX8_line (wsV RX8 64 RX8 yX8_put wsX8_put) := goodIn_app (goodIn_of _ (by decide +kernel)) ggX8_line_X8_put
theorem dX8_line_0 : decode cX8_line 0 = .ok (.aload_n 0, 1) := by decide +kernel
theorem dX8_line_1 : decode cX8_line 1 = .ok (.getfield 58, 3) := by decide +kernel
theorem dX8_line_4 : decode cX8_line 4 = .ok (.bipush 20, 2) := by decide +kernel
theorem dX8_line_6 : decode cX8_line 6 = .ok (.if_icmp .ne 6, 3) := by decide +kernel
theorem dX8_line_9 : decode cX8_line 9 = .ok (.bipush (-4), 2) := by decide +kernel
theorem dX8_line_11 : decode cX8_line 11 = .ok (.ireturn, 1) := by decide +kernel
theorem dX8_line_12 : decode cX8_line 12 = .ok (.aload_n 0, 1) := by decide +kernel
theorem dX8_line_13 : decode cX8_line 13 = .ok (.getfield 61, 3) := by decide +kernel
theorem dX8_line_16 : decode cX8_line 16 = .ok (.ifCond .ne 6, 3) := by decide +kernel
theorem dX8_line_19 : decode cX8_line 19 = .ok (.bipush (-5), 2) := by decide +kernel
theorem dX8_line_21 : decode cX8_line 21 = .ok (.ireturn, 1) := by decide +kernel
theorem dX8_line_22 : decode cX8_line 22 = .ok (.iconst 0, 1) := by decide +kernel
theorem dX8_line_23 : decode cX8_line 23 = .ok (.istore_n 1, 1) := by decide +kernel
theorem dX8_line_24 : decode cX8_line 24 = .ok (.iload_n 1, 1) := by decide +kernel
theorem dX8_line_25 : decode cX8_line 25 = .ok (.aload_n 0, 1) := by decide +kernel
theorem dX8_line_26 : decode cX8_line 26 = .ok (.getfield 51, 3) := by decide +kernel
theorem dX8_line_29 : decode cX8_line 29 = .ok (.if_icmp .ge 18, 3) := by decide +kernel
theorem dX8_line_32 : decode cX8_line 32 = .ok (.aload_n 0, 1) := by decide +kernel
theorem dX8_line_33 : decode cX8_line 33 = .ok (.iload_n 1, 1) := by decide +kernel
theorem dX8_line_34 : decode cX8_line 34 = .ok (.aload_n 0, 1) := by decide +kernel
theorem dX8_line_35 : decode cX8_line 35 = .ok (.getfield 58, 3) := by decide +kernel
theorem dX8_line_38 : decode cX8_line 38 = .ok (.invokevirtual 64, 3) := by decide +kernel
theorem dX8_line_41 : decode cX8_line 41 = .ok (.iinc 1 1, 3) := by decide +kernel
theorem dX8_line_44 : decode cX8_line 44 = .ok (.goto (-20), 3) := by decide +kernel
theorem dX8_line_47 : decode cX8_line 47 = .ok (.aload_n 0, 1) := by decide +kernel
theorem dX8_line_48 : decode cX8_line 48 = .ok (.iconst 0, 1) := by decide +kernel
theorem dX8_line_49 : decode cX8_line 49 = .ok (.putfield 61, 3) := by decide +kernel
theorem dX8_line_52 : decode cX8_line 52 = .ok (.aload_n 0, 1) := by decide +kernel
theorem dX8_line_53 : decode cX8_line 53 = .ok (.dup, 1) := by decide +kernel
theorem dX8_line_54 : decode cX8_line 54 = .ok (.getfield 58, 3) := by decide +kernel
theorem dX8_line_57 : decode cX8_line 57 = .ok (.iconst 1, 1) := by decide +kernel
theorem dX8_line_58 : decode cX8_line 58 = .ok (.iadd, 1) := by decide +kernel
theorem dX8_line_59 : decode cX8_line 59 = .ok (.putfield 58, 3) := by decide +kernel
theorem dX8_line_62 : decode cX8_line 62 = .ok (.aload_n 0, 1) := by decide +kernel
theorem dX8_line_63 : decode cX8_line 63 = .ok (.getfield 58, 3) := by decide +kernel
theorem dX8_line_66 : decode cX8_line 66 = .ok (.iconst 1, 1) := by decide +kernel
theorem dX8_line_67 : decode cX8_line 67 = .ok (.isub, 1) := by decide +kernel
theorem dX8_line_68 : decode cX8_line 68 = .ok (.ireturn, 1) := by decide +kernel
set_option maxRecDepth 20000 in
theorem ggX8_change_X8_isLine : GoodIn wsX8_change wsX8_isLine := goodIn_r _ [7, 8, 9, 10, 6, 11, 19, 20, 21, 22, 23, 24, 25, 26, 27, 28, 29, 30, 31, 32, 33, 34, 35, 36, 37] (by decide +kernel) (by decide +kernel)
set_option maxRecDepth 20000 in
theorem gX8_change_X8_isLine : GoodIn wsX8_change (wsV RX8 68 RX8 yX8_isLine wsX8_isLine) := goodIn_app (goodIn_of _ (by decide +kernel)) ggX8_change_X8_isLine
set_option maxRecDepth 20000 in
theorem ggX8_change_X8_put : GoodIn wsX8_change wsX8_put := goodIn_r _ [15, 16, 1, 17, 18, 19, 20, 21, 22, 23, 24, 25, 26, 27, 28, 29, 30, 31, 32, 33, 34, 35, 36, 37] (by decide +kernel) (by decide +kernel)
set_option maxRecDepth 20000 in
theorem gX8_change_X8_put : GoodIn wsX8_change (wsV RX8 64 RX8 yX8_put wsX8_put) := goodIn_app (goodIn_of _ (by decide +kernel)) ggX8_change_X8_put
theorem dX8_change_0 : decode cX8_change 0 = .ok (.aload_n 0, 1) := by decide +kernel
theorem dX8_change_1 : decode cX8_change 1 = .ok (.iload_n 1, 1) := by decide +kernel
theorem dX8_change_2 : decode cX8_change 2 = .ok (.invokevirtual 68, 3) := by decide +kernel
theorem dX8_change_5 : decode cX8_change 5 = .ok (.ifCond .ne 5, 3) := by decide +kernel
theorem dX8_change_8 : decode cX8_change 8 = .ok (.iconst (-1), 1) := by decide +kernel
theorem dX8_change_9 : decode cX8_change 9 = .ok (.ireturn, 1) := by decide +kernel
theorem dX8_change_10 : decode cX8_change 10 = .ok (.aload_n 0, 1) := by decide +kernel
theorem dX8_change_11 : decode cX8_change 11 = .ok (.getfield 61, 3) := by decide +kernel
theorem dX8_change_14 : decode cX8_change 14 = .ok (.ifCond .ne 6, 3) := by decide +kernel
theorem dX8_change_17 : decode cX8_change 17 = .ok (.bipush (-5), 2) := by decide +kernel
theorem dX8_change_19 : decode cX8_change 19 = .ok (.ireturn, 1) := by decide +kernel
theorem dX8_change_20 : decode cX8_change 20 = .ok (.aload_n 0, 1) := by decide +kernel
theorem dX8_change_21 : decode cX8_change 21 = .ok (.aload_n 0, 1) := by decide +kernel
theorem dX8_change_22 : decode cX8_change 22 = .ok (.getfield 51, 3) := by decide +kernel
theorem dX8_change_25 : decode cX8_change 25 = .ok (.iconst 1, 1) := by decide +kernel
theorem dX8_change_26 : decode cX8_change 26 = .ok (.isub, 1) := by decide +kernel
theorem dX8_change_27 : decode cX8_change 27 = .ok (.iload_n 1, 1) := by decide +kernel
theorem dX8_change_28 : decode cX8_change 28 = .ok (.invokevirtual 64, 3) := by decide +kernel
theorem dX8_change_31 : decode cX8_change 31 = .ok (.aload_n 0, 1) := by decide +kernel
theorem dX8_change_32 : decode cX8_change 32 = .ok (.iconst 0, 1) := by decide +kernel
theorem dX8_change_33 : decode cX8_change 33 = .ok (.putfield 61, 3) := by decide +kernel
theorem dX8_change_36 : decode cX8_change 36 = .ok (.iconst 1, 1) := by decide +kernel
theorem dX8_change_37 : decode cX8_change 37 = .ok (.ireturn, 1) := by decide +kernel
theorem dX8_version_0 : decode cX8_version 0 = .ok (.aload_n 0, 1) := by decide +kernel
theorem dX8_version_1 : decode cX8_version 1 = .ok (.getfield 51, 3) := by decide +kernel
theorem dX8_version_4 : decode cX8_version 4 = .ok (.iconst 4, 1) := by decide +kernel
theorem dX8_version_5 : decode cX8_version 5 = .ok (.if_icmp .ne 6, 3) := by decide +kernel
theorem dX8_version_8 : decode cX8_version 8 = .ok (.bipush (-4), 2) := by decide +kernel
theorem dX8_version_10 : decode cX8_version 10 = .ok (.ireturn, 1) := by decide +kernel
theorem dX8_version_11 : decode cX8_version 11 = .ok (.iconst 0, 1) := by decide +kernel
theorem dX8_version_12 : decode cX8_version 12 = .ok (.istore_n 1, 1) := by decide +kernel
theorem dX8_version_13 : decode cX8_version 13 = .ok (.iload_n 1, 1) := by decide +kernel
theorem dX8_version_14 : decode cX8_version 14 = .ok (.bipush 20, 2) := by decide +kernel
theorem dX8_version_16 : decode cX8_version 16 = .ok (.if_icmp .ge 40, 3) := by decide +kernel
theorem dX8_version_19 : decode cX8_version 19 = .ok (.aload_n 0, 1) := by decide +kernel
theorem dX8_version_20 : decode cX8_version 20 = .ok (.getfield 13, 3) := by decide +kernel
theorem dX8_version_23 : decode cX8_version 23 = .ok (.bipush 20, 2) := by decide +kernel
theorem dX8_version_25 : decode cX8_version 25 = .ok (.aload_n 0, 1) := by decide +kernel
theorem dX8_version_26 : decode cX8_version 26 = .ok (.getfield 51, 3) := by decide +kernel
theorem dX8_version_29 : decode cX8_version 29 = .ok (.imul, 1) := by decide +kernel
theorem dX8_version_30 : decode cX8_version 30 = .ok (.iload_n 1, 1) := by decide +kernel
theorem dX8_version_31 : decode cX8_version 31 = .ok (.iadd, 1) := by decide +kernel
theorem dX8_version_32 : decode cX8_version 32 = .ok (.aload_n 0, 1) := by decide +kernel
theorem dX8_version_33 : decode cX8_version 33 = .ok (.getfield 13, 3) := by decide +kernel
theorem dX8_version_36 : decode cX8_version 36 = .ok (.bipush 20, 2) := by decide +kernel
theorem dX8_version_38 : decode cX8_version 38 = .ok (.aload_n 0, 1) := by decide +kernel
theorem dX8_version_39 : decode cX8_version 39 = .ok (.getfield 51, 3) := by decide +kernel
theorem dX8_version_42 : decode cX8_version 42 = .ok (.imul, 1) := by decide +kernel
theorem dX8_version_43 : decode cX8_version 43 = .ok (.bipush 20, 2) := by decide +kernel
theorem dX8_version_45 : decode cX8_version 45 = .ok (.isub, 1) := by decide +kernel
theorem dX8_version_46 : decode cX8_version 46 = .ok (.iload_n 1, 1) := by decide +kernel
theorem dX8_version_47 : decode cX8_version 47 = .ok (.iadd, 1) := by decide +kernel
theorem dX8_version_48 : decode cX8_version 48 = .ok (.iaload, 1) := by decide +kernel
theorem dX8_version_49 : decode cX8_version 49 = .ok (.iastore, 1) := by decide +kernel
theorem dX8_version_50 : decode cX8_version 50 = .ok (.iinc 1 1, 3) := by decide +kernel
theorem dX8_version_53 : decode cX8_version 53 = .ok (.goto (-40), 3) := by decide +kernel
theorem dX8_version_56 : decode cX8_version 56 = .ok (.iconst 0, 1) := by decide +kernel
theorem dX8_version_57 : decode cX8_version 57 = .ok (.istore_n 1, 1) := by decide +kernel
theorem dX8_version_58 : decode cX8_version 58 = .ok (.iload_n 1, 1) := by decide +kernel
theorem dX8_version_59 : decode cX8_version 59 = .ok (.sipush 160, 3) := by decide +kernel
theorem dX8_version_62 : decode cX8_version 62 = .ok (.if_icmp .ge 43, 3) := by decide +kernel
theorem dX8_version_65 : decode cX8_version 65 = .ok (.aload_n 0, 1) := by decide +kernel
theorem dX8_version_66 : decode cX8_version 66 = .ok (.getfield 16, 3) := by decide +kernel
theorem dX8_version_69 : decode cX8_version 69 = .ok (.sipush 160, 3) := by decide +kernel
theorem dX8_version_72 : decode cX8_version 72 = .ok (.aload_n 0, 1) := by decide +kernel
theorem dX8_version_73 : decode cX8_version 73 = .ok (.getfield 51, 3) := by decide +kernel
theorem dX8_version_76 : decode cX8_version 76 = .ok (.imul, 1) := by decide +kernel
theorem dX8_version_77 : decode cX8_version 77 = .ok (.iload_n 1, 1) := by decide +kernel
theorem dX8_version_78 : decode cX8_version 78 = .ok (.iadd, 1) := by decide +kernel
theorem dX8_version_79 : decode cX8_version 79 = .ok (.aload_n 0, 1) := by decide +kernel
theorem dX8_version_80 : decode cX8_version 80 = .ok (.getfield 16, 3) := by decide +kernel
theorem dX8_version_83 : decode cX8_version 83 = .ok (.sipush 160, 3) := by decide +kernel
theorem dX8_version_86 : decode cX8_version 86 = .ok (.aload_n 0, 1) := by decide +kernel
theorem dX8_version_87 : decode cX8_version 87 = .ok (.getfield 51, 3) := by decide +kernel
theorem dX8_version_90 : decode cX8_version 90 = .ok (.imul, 1) := by decide +kernel
theorem dX8_version_91 : decode cX8_version 91 = .ok (.sipush 160, 3) := by decide +kernel
theorem dX8_version_94 : decode cX8_version 94 = .ok (.isub, 1) := by decide +kernel
theorem dX8_version_95 : decode cX8_version 95 = .ok (.iload_n 1, 1) := by decide +kernel
theorem dX8_version_96 : decode cX8_version 96 = .ok (.iadd, 1) := by decide +kernel
theorem dX8_version_97 : decode cX8_version 97 = .ok (.iaload, 1) := by decide +kernel
theorem dX8_version_98 : decode cX8_version 98 = .ok (.iastore, 1) := by decide +kernel
theorem dX8_version_99 : decode cX8_version 99 = .ok (.iinc 1 1, 3) := by decide +kernel
theorem dX8_version_102 : decode cX8_version 102 = .ok (.goto (-44), 3) := by decide +kernel
theorem dX8_version_105 : decode cX8_version 105 = .ok (.aload_n 0, 1) := by decide +kernel
theorem dX8_version_106 : decode cX8_version 106 = .ok (.dup, 1) := by decide +kernel
theorem dX8_version_107 : decode cX8_version 107 = .ok (.getfield 51, 3) := by decide +kernel
theorem dX8_version_110 : decode cX8_version 110 = .ok (.iconst 1, 1) := by decide +kernel
theorem dX8_version_111 : decode cX8_version 111 = .ok (.iadd, 1) := by decide +kernel
theorem dX8_version_112 : decode cX8_version 112 = .ok (.putfield 51, 3) := by decide +kernel
theorem dX8_version_115 : decode cX8_version 115 = .ok (.aload_n 0, 1) := by decide +kernel
theorem dX8_version_116 : decode cX8_version 116 = .ok (.getfield 51, 3) := by decide +kernel
theorem dX8_version_119 : decode cX8_version 119 = .ok (.iconst 1, 1) := by decide +kernel
theorem dX8_version_120 : decode cX8_version 120 = .ok (.isub, 1) := by decide +kernel
theorem dX8_version_121 : decode cX8_version 121 = .ok (.ireturn, 1) := by decide +kernel
theorem dX8_size_0 : decode cX8_size 0 = .ok (.aload_n 0, 1) := by decide +kernel
theorem dX8_size_1 : decode cX8_size 1 = .ok (.getfield 13, 3) := by decide +kernel
theorem dX8_size_4 : decode cX8_size 4 = .ok (.bipush 20, 2) := by decide +kernel
theorem dX8_size_6 : decode cX8_size 6 = .ok (.iload_n 1, 1) := by decide +kernel
theorem dX8_size_7 : decode cX8_size 7 = .ok (.imul, 1) := by decide +kernel
theorem dX8_size_8 : decode cX8_size 8 = .ok (.iload_n 2, 1) := by decide +kernel
theorem dX8_size_9 : decode cX8_size 9 = .ok (.iadd, 1) := by decide +kernel
theorem dX8_size_10 : decode cX8_size 10 = .ok (.iaload, 1) := by decide +kernel
theorem dX8_size_11 : decode cX8_size 11 = .ok (.ireturn, 1) := by decide +kernel
theorem dX8_signAt_0 : decode cX8_signAt 0 = .ok (.aload_n 0, 1) := by decide +kernel
theorem dX8_signAt_1 : decode cX8_signAt 1 = .ok (.getfield 16, 3) := by decide +kernel
theorem dX8_signAt_4 : decode cX8_signAt 4 = .ok (.sipush 160, 3) := by decide +kernel
theorem dX8_signAt_7 : decode cX8_signAt 7 = .ok (.iload_n 1, 1) := by decide +kernel
theorem dX8_signAt_8 : decode cX8_signAt 8 = .ok (.imul, 1) := by decide +kernel
theorem dX8_signAt_9 : decode cX8_signAt 9 = .ok (.bipush 8, 2) := by decide +kernel
theorem dX8_signAt_11 : decode cX8_signAt 11 = .ok (.iload_n 2, 1) := by decide +kernel
theorem dX8_signAt_12 : decode cX8_signAt 12 = .ok (.imul, 1) := by decide +kernel
theorem dX8_signAt_13 : decode cX8_signAt 13 = .ok (.iadd, 1) := by decide +kernel
theorem dX8_signAt_14 : decode cX8_signAt 14 = .ok (.iload_n 3, 1) := by decide +kernel
theorem dX8_signAt_15 : decode cX8_signAt 15 = .ok (.iadd, 1) := by decide +kernel
theorem dX8_signAt_16 : decode cX8_signAt 16 = .ok (.iaload, 1) := by decide +kernel
theorem dX8_signAt_17 : decode cX8_signAt 17 = .ok (.ireturn, 1) := by decide +kernel
set_option maxRecDepth 20000 in
theorem ggX8_sign_X8_isVersion : GoodIn wsX8_sign wsX8_isVersion := goodIn_r _ [5, 6, 7, 8, 4, 9, 25, 26, 27, 28, 29, 30, 31, 32, 33, 34, 35, 36, 37, 38, 39, 40, 41, 42, 43] (by decide +kernel) (by decide +kernel)
set_option maxRecDepth 20000 in
theorem gX8_sign_X8_isVersion : GoodIn wsX8_sign (wsV RX8 72 RX8 yX8_isVersion wsX8_isVersion) := goodIn_app (goodIn_of _ (by decide +kernel)) ggX8_sign_X8_isVersion
set_option maxRecDepth 20000 in
theorem ggX8_sign_X8_isLine : GoodIn wsX8_sign wsX8_isLine := goodIn_r _ [13, 14, 7, 8, 4, 9, 25, 26, 27, 28, 29, 30, 31, 32, 33, 34, 35, 36, 37, 38, 39, 40, 41, 42, 43] (by decide +kernel) (by decide +kernel)
set_option maxRecDepth 20000 in
theorem gX8_sign_X8_isLine : GoodIn wsX8_sign (wsV RX8 68 RX8 yX8_isLine wsX8_isLine) := goodIn_app (goodIn_of _ (by decide +kernel)) ggX8_sign_X8_isLine
set_option maxRecDepth 20000 in
theorem ggX8_sign_X8_size : GoodIn wsX8_sign wsX8_size := goodIn_r _ [18, 19, 25, 26, 27, 28, 29, 30, 31, 32, 33, 34, 35, 36, 37, 38, 39, 40, 41, 42, 43] (by decide +kernel) (by decide +kernel)
set_option maxRecDepth 20000 in
theorem gX8_sign_X8_size : GoodIn wsX8_sign (wsV RX8 75 RX8 yX8_size wsX8_size) := goodIn_app (goodIn_of _ (by decide +kernel)) ggX8_sign_X8_size
set_option maxRecDepth 20000 in
theorem ggX8_sign_X8_in : GoodIn wsX8_sign wsX8_in := goodIn_r _ [9] (by decide +kernel) (by decide +kernel)
set_option maxRecDepth 20000 in
theorem gX8_sign_X8_in : GoodIn wsX8_sign (va_wsS RX8 54 yX8_in wsX8_in) := goodIn_app (goodIn_of _ (by decide +kernel)) ggX8_sign_X8_in
set_option maxRecDepth 20000 in
theorem ggX8_sign_X8_signAt : GoodIn wsX8_sign wsX8_signAt := goodIn_r _ [23, 24, 25, 26, 27, 28, 29, 30, 31, 32, 33, 34, 35, 36, 37, 38, 39, 40, 41, 42, 43] (by decide +kernel) (by decide +kernel)
set_option maxRecDepth 20000 in
theorem gX8_sign_X8_signAt : GoodIn wsX8_sign (wsV RX8 79 RX8 yX8_signAt wsX8_signAt) := goodIn_app (goodIn_of _ (by decide +kernel)) ggX8_sign_X8_signAt
theorem dX8_sign_0 : decode cX8_sign 0 = .ok (.aload_n 0, 1) := by decide +kernel
theorem dX8_sign_1 : decode cX8_sign 1 = .ok (.iload_n 1, 1) := by decide +kernel
theorem dX8_sign_2 : decode cX8_sign 2 = .ok (.invokevirtual 72, 3) := by decide +kernel
theorem dX8_sign_5 : decode cX8_sign 5 = .ok (.ifCond .eq 11, 3) := by decide +kernel
theorem dX8_sign_8 : decode cX8_sign 8 = .ok (.aload_n 0, 1) := by decide +kernel
theorem dX8_sign_9 : decode cX8_sign 9 = .ok (.iload_n 2, 1) := by decide +kernel
theorem dX8_sign_10 : decode cX8_sign 10 = .ok (.invokevirtual 68, 3) := by decide +kernel
theorem dX8_sign_13 : decode cX8_sign 13 = .ok (.ifCond .ne 5, 3) := by decide +kernel
theorem dX8_sign_16 : decode cX8_sign 16 = .ok (.iconst (-1), 1) := by decide +kernel
theorem dX8_sign_17 : decode cX8_sign 17 = .ok (.ireturn, 1) := by decide +kernel
theorem dX8_sign_18 : decode cX8_sign 18 = .ok (.iload_n 3, 1) := by decide +kernel
theorem dX8_sign_19 : decode cX8_sign 19 = .ok (.iconst (-1), 1) := by decide +kernel
theorem dX8_sign_20 : decode cX8_sign 20 = .ok (.if_icmp .ne 12, 3) := by decide +kernel
theorem dX8_sign_23 : decode cX8_sign 23 = .ok (.aload_n 0, 1) := by decide +kernel
theorem dX8_sign_24 : decode cX8_sign 24 = .ok (.iload_n 1, 1) := by decide +kernel
theorem dX8_sign_25 : decode cX8_sign 25 = .ok (.iload_n 2, 1) := by decide +kernel
theorem dX8_sign_26 : decode cX8_sign 26 = .ok (.invokevirtual 75, 3) := by decide +kernel
theorem dX8_sign_29 : decode cX8_sign 29 = .ok (.goto 31, 3) := by decide +kernel
theorem dX8_sign_32 : decode cX8_sign 32 = .ok (.iload_n 3, 1) := by decide +kernel
theorem dX8_sign_33 : decode cX8_sign 33 = .ok (.iconst 0, 1) := by decide +kernel
theorem dX8_sign_34 : decode cX8_sign 34 = .ok (.aload_n 0, 1) := by decide +kernel
theorem dX8_sign_35 : decode cX8_sign 35 = .ok (.iload_n 1, 1) := by decide +kernel
theorem dX8_sign_36 : decode cX8_sign 36 = .ok (.iload_n 2, 1) := by decide +kernel
theorem dX8_sign_37 : decode cX8_sign 37 = .ok (.invokevirtual 75, 3) := by decide +kernel
theorem dX8_sign_40 : decode cX8_sign 40 = .ok (.iconst 1, 1) := by decide +kernel
theorem dX8_sign_41 : decode cX8_sign 41 = .ok (.isub, 1) := by decide +kernel
theorem dX8_sign_42 : decode cX8_sign 42 = .ok (.invokestatic 54, 3) := by decide +kernel
theorem dX8_sign_45 : decode cX8_sign 45 = .ok (.ifCond .eq 13, 3) := by decide +kernel
theorem dX8_sign_48 : decode cX8_sign 48 = .ok (.aload_n 0, 1) := by decide +kernel
theorem dX8_sign_49 : decode cX8_sign 49 = .ok (.iload_n 1, 1) := by decide +kernel
theorem dX8_sign_50 : decode cX8_sign 50 = .ok (.iload_n 2, 1) := by decide +kernel
theorem dX8_sign_51 : decode cX8_sign 51 = .ok (.iload_n 3, 1) := by decide +kernel
theorem dX8_sign_52 : decode cX8_sign 52 = .ok (.invokevirtual 79, 3) := by decide +kernel
theorem dX8_sign_55 : decode cX8_sign 55 = .ok (.goto 5, 3) := by decide +kernel
theorem dX8_sign_58 : decode cX8_sign 58 = .ok (.bipush (-6), 2) := by decide +kernel
theorem dX8_sign_60 : decode cX8_sign 60 = .ok (.ireturn, 1) := by decide +kernel
theorem dX8_goBeside_0 : decode cX8_goBeside 0 = .ok (.aload_n 0, 1) := by decide +kernel
theorem dX8_goBeside_1 : decode cX8_goBeside 1 = .ok (.getfield 19, 3) := by decide +kernel
theorem dX8_goBeside_4 : decode cX8_goBeside 4 = .ok (.iload_n 1, 1) := by decide +kernel
theorem dX8_goBeside_5 : decode cX8_goBeside 5 = .ok (.bipush 97, 2) := by decide +kernel
theorem dX8_goBeside_7 : decode cX8_goBeside 7 = .ok (.isub, 1) := by decide +kernel
theorem dX8_goBeside_8 : decode cX8_goBeside 8 = .ok (.iaload, 1) := by decide +kernel
theorem dX8_goBeside_9 : decode cX8_goBeside 9 = .ok (.istore_n 3, 1) := by decide +kernel
theorem dX8_goBeside_10 : decode cX8_goBeside 10 = .ok (.aload_n 0, 1) := by decide +kernel
theorem dX8_goBeside_11 : decode cX8_goBeside 11 = .ok (.getfield 22, 3) := by decide +kernel
theorem dX8_goBeside_14 : decode cX8_goBeside 14 = .ok (.iload_n 2, 1) := by decide +kernel
theorem dX8_goBeside_15 : decode cX8_goBeside 15 = .ok (.bipush 97, 2) := by decide +kernel
theorem dX8_goBeside_17 : decode cX8_goBeside 17 = .ok (.isub, 1) := by decide +kernel
theorem dX8_goBeside_18 : decode cX8_goBeside 18 = .ok (.iaload, 1) := by decide +kernel
theorem dX8_goBeside_19 : decode cX8_goBeside 19 = .ok (.istore 4, 2) := by decide +kernel
theorem dX8_goBeside_21 : decode cX8_goBeside 21 = .ok (.aload_n 0, 1) := by decide +kernel
theorem dX8_goBeside_22 : decode cX8_goBeside 22 = .ok (.getfield 19, 3) := by decide +kernel
theorem dX8_goBeside_25 : decode cX8_goBeside 25 = .ok (.iload_n 1, 1) := by decide +kernel
theorem dX8_goBeside_26 : decode cX8_goBeside 26 = .ok (.bipush 97, 2) := by decide +kernel
theorem dX8_goBeside_28 : decode cX8_goBeside 28 = .ok (.isub, 1) := by decide +kernel
theorem dX8_goBeside_29 : decode cX8_goBeside 29 = .ok (.iload_n 2, 1) := by decide +kernel
theorem dX8_goBeside_30 : decode cX8_goBeside 30 = .ok (.iastore, 1) := by decide +kernel
theorem dX8_goBeside_31 : decode cX8_goBeside 31 = .ok (.aload_n 0, 1) := by decide +kernel
theorem dX8_goBeside_32 : decode cX8_goBeside 32 = .ok (.getfield 22, 3) := by decide +kernel
theorem dX8_goBeside_35 : decode cX8_goBeside 35 = .ok (.iload_n 2, 1) := by decide +kernel
theorem dX8_goBeside_36 : decode cX8_goBeside 36 = .ok (.bipush 97, 2) := by decide +kernel
theorem dX8_goBeside_38 : decode cX8_goBeside 38 = .ok (.isub, 1) := by decide +kernel
theorem dX8_goBeside_39 : decode cX8_goBeside 39 = .ok (.iload_n 1, 1) := by decide +kernel
theorem dX8_goBeside_40 : decode cX8_goBeside 40 = .ok (.iastore, 1) := by decide +kernel
theorem dX8_goBeside_41 : decode cX8_goBeside 41 = .ok (.iload_n 3, 1) := by decide +kernel
theorem dX8_goBeside_42 : decode cX8_goBeside 42 = .ok (.ifCond .eq 8, 3) := by decide +kernel
theorem dX8_goBeside_45 : decode cX8_goBeside 45 = .ok (.iload_n 3, 1) := by decide +kernel
theorem dX8_goBeside_46 : decode cX8_goBeside 46 = .ok (.iload_n 2, 1) := by decide +kernel
theorem dX8_goBeside_47 : decode cX8_goBeside 47 = .ok (.if_icmp .ne 18, 3) := by decide +kernel
theorem dX8_goBeside_50 : decode cX8_goBeside 50 = .ok (.iload 4, 2) := by decide +kernel
theorem dX8_goBeside_52 : decode cX8_goBeside 52 = .ok (.ifCond .eq 9, 3) := by decide +kernel
theorem dX8_goBeside_55 : decode cX8_goBeside 55 = .ok (.iload 4, 2) := by decide +kernel
theorem dX8_goBeside_57 : decode cX8_goBeside 57 = .ok (.iload_n 1, 1) := by decide +kernel
theorem dX8_goBeside_58 : decode cX8_goBeside 58 = .ok (.if_icmp .ne 7, 3) := by decide +kernel
theorem dX8_goBeside_61 : decode cX8_goBeside 61 = .ok (.iconst 1, 1) := by decide +kernel
theorem dX8_goBeside_62 : decode cX8_goBeside 62 = .ok (.goto 4, 3) := by decide +kernel
theorem dX8_goBeside_65 : decode cX8_goBeside 65 = .ok (.iconst 0, 1) := by decide +kernel
theorem dX8_goBeside_66 : decode cX8_goBeside 66 = .ok (.ireturn, 1) := by decide +kernel
set_option maxRecDepth 20000 in
theorem ggX8_areAlike_X8_isName : GoodIn wsX8_areAlike wsX8_isName := goodIn_r _ [4, 5, 6, 3, 7] (by decide +kernel) (by decide +kernel)
set_option maxRecDepth 20000 in
theorem gX8_areAlike_X8_isName : GoodIn wsX8_areAlike (va_wsS RX8 83 yX8_isName wsX8_isName) := goodIn_app (goodIn_of _ (by decide +kernel)) ggX8_areAlike_X8_isName
set_option maxRecDepth 20000 in
theorem ggX8_areAlike_X8_goBeside : GoodIn wsX8_areAlike wsX8_goBeside := goodIn_r _ [11, 12, 13, 17, 18, 19, 20, 21, 22, 23, 24, 25, 26, 27, 28, 29, 30, 31, 32, 33, 34, 35] (by decide +kernel) (by decide +kernel)
set_option maxRecDepth 20000 in
theorem gX8_areAlike_X8_goBeside : GoodIn wsX8_areAlike (wsV RX8 86 RX8 yX8_goBeside wsX8_goBeside) := goodIn_app (goodIn_of _ (by decide +kernel)) ggX8_areAlike_X8_goBeside
set_option maxRecDepth 20000 in
theorem ggX8_areAlike_X8_isNumber : GoodIn wsX8_areAlike wsX8_isNumber := goodIn_r _ [16, 5, 6, 3, 7] (by decide +kernel) (by decide +kernel)
set_option maxRecDepth 20000 in
theorem gX8_areAlike_X8_isNumber : GoodIn wsX8_areAlike (va_wsS RX8 90 yX8_isNumber wsX8_isNumber) := goodIn_app (goodIn_of _ (by decide +kernel)) ggX8_areAlike_X8_isNumber
theorem dX8_areAlike_0 : decode cX8_areAlike 0 = .ok (.iload_n 2, 1) := by decide +kernel
theorem dX8_areAlike_1 : decode cX8_areAlike 1 = .ok (.iload_n 3, 1) := by decide +kernel
theorem dX8_areAlike_2 : decode cX8_areAlike 2 = .ok (.if_icmp .ne 16, 3) := by decide +kernel
theorem dX8_areAlike_5 : decode cX8_areAlike 5 = .ok (.iload_n 1, 1) := by decide +kernel
theorem dX8_areAlike_6 : decode cX8_areAlike 6 = .ok (.ifCond .eq 10, 3) := by decide +kernel
theorem dX8_areAlike_9 : decode cX8_areAlike 9 = .ok (.iload_n 2, 1) := by decide +kernel
theorem dX8_areAlike_10 : decode cX8_areAlike 10 = .ok (.invokestatic 83, 3) := by decide +kernel
theorem dX8_areAlike_13 : decode cX8_areAlike 13 = .ok (.ifCond .ne 5, 3) := by decide +kernel
theorem dX8_areAlike_16 : decode cX8_areAlike 16 = .ok (.iconst 1, 1) := by decide +kernel
theorem dX8_areAlike_17 : decode cX8_areAlike 17 = .ok (.ireturn, 1) := by decide +kernel
theorem dX8_areAlike_18 : decode cX8_areAlike 18 = .ok (.iload_n 1, 1) := by decide +kernel
theorem dX8_areAlike_19 : decode cX8_areAlike 19 = .ok (.ifCond .le 24, 3) := by decide +kernel
theorem dX8_areAlike_22 : decode cX8_areAlike 22 = .ok (.iload_n 2, 1) := by decide +kernel
theorem dX8_areAlike_23 : decode cX8_areAlike 23 = .ok (.invokestatic 83, 3) := by decide +kernel
theorem dX8_areAlike_26 : decode cX8_areAlike 26 = .ok (.ifCond .eq 17, 3) := by decide +kernel
theorem dX8_areAlike_29 : decode cX8_areAlike 29 = .ok (.iload_n 3, 1) := by decide +kernel
theorem dX8_areAlike_30 : decode cX8_areAlike 30 = .ok (.invokestatic 83, 3) := by decide +kernel
theorem dX8_areAlike_33 : decode cX8_areAlike 33 = .ok (.ifCond .eq 10, 3) := by decide +kernel
theorem dX8_areAlike_36 : decode cX8_areAlike 36 = .ok (.aload_n 0, 1) := by decide +kernel
theorem dX8_areAlike_37 : decode cX8_areAlike 37 = .ok (.iload_n 2, 1) := by decide +kernel
theorem dX8_areAlike_38 : decode cX8_areAlike 38 = .ok (.iload_n 3, 1) := by decide +kernel
theorem dX8_areAlike_39 : decode cX8_areAlike 39 = .ok (.invokevirtual 86, 3) := by decide +kernel
theorem dX8_areAlike_42 : decode cX8_areAlike 42 = .ok (.ireturn, 1) := by decide +kernel
theorem dX8_areAlike_43 : decode cX8_areAlike 43 = .ok (.iload_n 1, 1) := by decide +kernel
theorem dX8_areAlike_44 : decode cX8_areAlike 44 = .ok (.iconst 2, 1) := by decide +kernel
theorem dX8_areAlike_45 : decode cX8_areAlike 45 = .ok (.if_icmp .ne 21, 3) := by decide +kernel
theorem dX8_areAlike_48 : decode cX8_areAlike 48 = .ok (.iload_n 2, 1) := by decide +kernel
theorem dX8_areAlike_49 : decode cX8_areAlike 49 = .ok (.invokestatic 90, 3) := by decide +kernel
theorem dX8_areAlike_52 : decode cX8_areAlike 52 = .ok (.ifCond .eq 14, 3) := by decide +kernel
theorem dX8_areAlike_55 : decode cX8_areAlike 55 = .ok (.iload_n 3, 1) := by decide +kernel
theorem dX8_areAlike_56 : decode cX8_areAlike 56 = .ok (.invokestatic 90, 3) := by decide +kernel
theorem dX8_areAlike_59 : decode cX8_areAlike 59 = .ok (.ifCond .eq 7, 3) := by decide +kernel
theorem dX8_areAlike_62 : decode cX8_areAlike 62 = .ok (.iconst 1, 1) := by decide +kernel
theorem dX8_areAlike_63 : decode cX8_areAlike 63 = .ok (.goto 4, 3) := by decide +kernel
theorem dX8_areAlike_66 : decode cX8_areAlike 66 = .ok (.iconst 0, 1) := by decide +kernel
theorem dX8_areAlike_67 : decode cX8_areAlike 67 = .ok (.ireturn, 1) := by decide +kernel
theorem dX8_isThere_0 : decode cX8_isThere 0 = .ok (.iload_n 1, 1) := by decide +kernel
theorem dX8_isThere_1 : decode cX8_isThere 1 = .ok (.iload_n 2, 1) := by decide +kernel
theorem dX8_isThere_2 : decode cX8_isThere 2 = .ok (.iadd, 1) := by decide +kernel
theorem dX8_isThere_3 : decode cX8_isThere 3 = .ok (.aload_n 0, 1) := by decide +kernel
theorem dX8_isThere_4 : decode cX8_isThere 4 = .ok (.getfield 58, 3) := by decide +kernel
theorem dX8_isThere_7 : decode cX8_isThere 7 = .ok (.if_icmp .gt 7, 3) := by decide +kernel
theorem dX8_isThere_10 : decode cX8_isThere 10 = .ok (.iconst 1, 1) := by decide +kernel
theorem dX8_isThere_11 : decode cX8_isThere 11 = .ok (.goto 4, 3) := by decide +kernel
theorem dX8_isThere_14 : decode cX8_isThere 14 = .ok (.iconst 0, 1) := by decide +kernel
theorem dX8_isThere_15 : decode cX8_isThere 15 = .ok (.ireturn, 1) := by decide +kernel
set_option maxRecDepth 20000 in
theorem ggX8_rowsAlike_X8_isThere : GoodIn wsX8_rowsAlike wsX8_isThere := goodIn_r _ [10, 11, 39, 40, 41, 42, 43, 44, 45, 46, 47, 48, 49, 50, 51, 52, 53, 54, 55, 56, 57] (by decide +kernel) (by decide +kernel)
set_option maxRecDepth 20000 in
theorem gX8_rowsAlike_X8_isThere : GoodIn wsX8_rowsAlike (wsV RX8 93 RX8 yX8_isThere wsX8_isThere) := goodIn_app (goodIn_of _ (by decide +kernel)) ggX8_rowsAlike_X8_isThere
set_option maxRecDepth 20000 in
theorem ggX8_rowsAlike_X8_size : GoodIn wsX8_rowsAlike wsX8_size := goodIn_r _ [15, 16, 39, 40, 41, 42, 43, 44, 45, 46, 47, 48, 49, 50, 51, 52, 53, 54, 55, 56, 57] (by decide +kernel) (by decide +kernel)
set_option maxRecDepth 20000 in
theorem gX8_rowsAlike_X8_size : GoodIn wsX8_rowsAlike (wsV RX8 75 RX8 yX8_size wsX8_size) := goodIn_app (goodIn_of _ (by decide +kernel)) ggX8_rowsAlike_X8_size
set_option maxRecDepth 20000 in
theorem ggX8_rowsAlike_X8_signAt : GoodIn wsX8_rowsAlike wsX8_signAt := goodIn_r _ [20, 21, 39, 40, 41, 42, 43, 44, 45, 46, 47, 48, 49, 50, 51, 52, 53, 54, 55, 56, 57] (by decide +kernel) (by decide +kernel)
set_option maxRecDepth 20000 in
theorem gX8_rowsAlike_X8_signAt : GoodIn wsX8_rowsAlike (wsV RX8 79 RX8 yX8_signAt wsX8_signAt) := goodIn_app (goodIn_of _ (by decide +kernel)) ggX8_rowsAlike_X8_signAt
set_option maxRecDepth 20000 in
theorem ggX8_rowsAlike_X8_areAlike : GoodIn wsX8_rowsAlike wsX8_areAlike := goodIn_r _ [25, 26, 27, 9, 28, 29, 30, 31, 32, 33, 34, 35, 1, 2, 36, 37, 38, 39, 40, 41, 42, 43, 44, 45, 46, 47, 48, 49, 50, 51, 52, 53, 54, 55, 56, 57] (by decide +kernel) (by decide +kernel)
set_option maxRecDepth 20000 in
theorem gX8_rowsAlike_X8_areAlike : GoodIn wsX8_rowsAlike (wsV RX8 102 RX8 yX8_areAlike wsX8_areAlike) := goodIn_app (goodIn_of _ (by decide +kernel)) ggX8_rowsAlike_X8_areAlike
theorem dX8_rowsAlike_0 : decode cX8_rowsAlike 0 = .ok (.aload_n 0, 1) := by decide +kernel
theorem dX8_rowsAlike_1 : decode cX8_rowsAlike 1 = .ok (.iload_n 3, 1) := by decide +kernel
theorem dX8_rowsAlike_2 : decode cX8_rowsAlike 2 = .ok (.iload 5, 2) := by decide +kernel
theorem dX8_rowsAlike_4 : decode cX8_rowsAlike 4 = .ok (.invokevirtual 93, 3) := by decide +kernel
theorem dX8_rowsAlike_7 : decode cX8_rowsAlike 7 = .ok (.ifCond .eq 14, 3) := by decide +kernel
theorem dX8_rowsAlike_10 : decode cX8_rowsAlike 10 = .ok (.aload_n 0, 1) := by decide +kernel
theorem dX8_rowsAlike_11 : decode cX8_rowsAlike 11 = .ok (.iload 4, 2) := by decide +kernel
theorem dX8_rowsAlike_13 : decode cX8_rowsAlike 13 = .ok (.iload 5, 2) := by decide +kernel
theorem dX8_rowsAlike_15 : decode cX8_rowsAlike 15 = .ok (.invokevirtual 93, 3) := by decide +kernel
theorem dX8_rowsAlike_18 : decode cX8_rowsAlike 18 = .ok (.ifCond .ne 5, 3) := by decide +kernel
theorem dX8_rowsAlike_21 : decode cX8_rowsAlike 21 = .ok (.iconst 0, 1) := by decide +kernel
theorem dX8_rowsAlike_22 : decode cX8_rowsAlike 22 = .ok (.ireturn, 1) := by decide +kernel
theorem dX8_rowsAlike_23 : decode cX8_rowsAlike 23 = .ok (.iconst 0, 1) := by decide +kernel
theorem dX8_rowsAlike_24 : decode cX8_rowsAlike 24 = .ok (.istore 6, 2) := by decide +kernel
theorem dX8_rowsAlike_26 : decode cX8_rowsAlike 26 = .ok (.iload 6, 2) := by decide +kernel
theorem dX8_rowsAlike_28 : decode cX8_rowsAlike 28 = .ok (.bipush 26, 2) := by decide +kernel
theorem dX8_rowsAlike_30 : decode cX8_rowsAlike 30 = .ok (.if_icmp .ge 25, 3) := by decide +kernel
theorem dX8_rowsAlike_33 : decode cX8_rowsAlike 33 = .ok (.aload_n 0, 1) := by decide +kernel
theorem dX8_rowsAlike_34 : decode cX8_rowsAlike 34 = .ok (.getfield 19, 3) := by decide +kernel
theorem dX8_rowsAlike_37 : decode cX8_rowsAlike 37 = .ok (.iload 6, 2) := by decide +kernel
theorem dX8_rowsAlike_39 : decode cX8_rowsAlike 39 = .ok (.iconst 0, 1) := by decide +kernel
theorem dX8_rowsAlike_40 : decode cX8_rowsAlike 40 = .ok (.iastore, 1) := by decide +kernel
theorem dX8_rowsAlike_41 : decode cX8_rowsAlike 41 = .ok (.aload_n 0, 1) := by decide +kernel
theorem dX8_rowsAlike_42 : decode cX8_rowsAlike 42 = .ok (.getfield 22, 3) := by decide +kernel
theorem dX8_rowsAlike_45 : decode cX8_rowsAlike 45 = .ok (.iload 6, 2) := by decide +kernel
theorem dX8_rowsAlike_47 : decode cX8_rowsAlike 47 = .ok (.iconst 0, 1) := by decide +kernel
theorem dX8_rowsAlike_48 : decode cX8_rowsAlike 48 = .ok (.iastore, 1) := by decide +kernel
theorem dX8_rowsAlike_49 : decode cX8_rowsAlike 49 = .ok (.iinc 6 1, 3) := by decide +kernel
theorem dX8_rowsAlike_52 : decode cX8_rowsAlike 52 = .ok (.goto (-26), 3) := by decide +kernel
theorem dX8_rowsAlike_55 : decode cX8_rowsAlike 55 = .ok (.iconst 0, 1) := by decide +kernel
theorem dX8_rowsAlike_56 : decode cX8_rowsAlike 56 = .ok (.istore 6, 2) := by decide +kernel
theorem dX8_rowsAlike_58 : decode cX8_rowsAlike 58 = .ok (.iload 6, 2) := by decide +kernel
theorem dX8_rowsAlike_60 : decode cX8_rowsAlike 60 = .ok (.iload 5, 2) := by decide +kernel
theorem dX8_rowsAlike_62 : decode cX8_rowsAlike 62 = .ok (.if_icmp .ge 118, 3) := by decide +kernel
theorem dX8_rowsAlike_65 : decode cX8_rowsAlike 65 = .ok (.aload_n 0, 1) := by decide +kernel
theorem dX8_rowsAlike_66 : decode cX8_rowsAlike 66 = .ok (.iload_n 1, 1) := by decide +kernel
theorem dX8_rowsAlike_67 : decode cX8_rowsAlike 67 = .ok (.iload_n 3, 1) := by decide +kernel
theorem dX8_rowsAlike_68 : decode cX8_rowsAlike 68 = .ok (.iload 6, 2) := by decide +kernel
theorem dX8_rowsAlike_70 : decode cX8_rowsAlike 70 = .ok (.iadd, 1) := by decide +kernel
theorem dX8_rowsAlike_71 : decode cX8_rowsAlike 71 = .ok (.invokevirtual 75, 3) := by decide +kernel
theorem dX8_rowsAlike_74 : decode cX8_rowsAlike 74 = .ok (.aload_n 0, 1) := by decide +kernel
theorem dX8_rowsAlike_75 : decode cX8_rowsAlike 75 = .ok (.iload_n 1, 1) := by decide +kernel
theorem dX8_rowsAlike_76 : decode cX8_rowsAlike 76 = .ok (.iload 4, 2) := by decide +kernel
theorem dX8_rowsAlike_78 : decode cX8_rowsAlike 78 = .ok (.iload 6, 2) := by decide +kernel
theorem dX8_rowsAlike_80 : decode cX8_rowsAlike 80 = .ok (.iadd, 1) := by decide +kernel
theorem dX8_rowsAlike_81 : decode cX8_rowsAlike 81 = .ok (.invokevirtual 75, 3) := by decide +kernel
theorem dX8_rowsAlike_84 : decode cX8_rowsAlike 84 = .ok (.if_icmp .eq 5, 3) := by decide +kernel
theorem dX8_rowsAlike_87 : decode cX8_rowsAlike 87 = .ok (.iconst 0, 1) := by decide +kernel
theorem dX8_rowsAlike_88 : decode cX8_rowsAlike 88 = .ok (.ireturn, 1) := by decide +kernel
theorem dX8_rowsAlike_89 : decode cX8_rowsAlike 89 = .ok (.iconst 0, 1) := by decide +kernel
theorem dX8_rowsAlike_90 : decode cX8_rowsAlike 90 = .ok (.istore 7, 2) := by decide +kernel
theorem dX8_rowsAlike_92 : decode cX8_rowsAlike 92 = .ok (.iload 7, 2) := by decide +kernel
theorem dX8_rowsAlike_94 : decode cX8_rowsAlike 94 = .ok (.aload_n 0, 1) := by decide +kernel
theorem dX8_rowsAlike_95 : decode cX8_rowsAlike 95 = .ok (.iload_n 1, 1) := by decide +kernel
theorem dX8_rowsAlike_96 : decode cX8_rowsAlike 96 = .ok (.iload_n 3, 1) := by decide +kernel
theorem dX8_rowsAlike_97 : decode cX8_rowsAlike 97 = .ok (.iload 6, 2) := by decide +kernel
theorem dX8_rowsAlike_99 : decode cX8_rowsAlike 99 = .ok (.iadd, 1) := by decide +kernel
theorem dX8_rowsAlike_100 : decode cX8_rowsAlike 100 = .ok (.invokevirtual 75, 3) := by decide +kernel
theorem dX8_rowsAlike_103 : decode cX8_rowsAlike 103 = .ok (.if_icmp .ge 71, 3) := by decide +kernel
theorem dX8_rowsAlike_106 : decode cX8_rowsAlike 106 = .ok (.iload 6, 2) := by decide +kernel
theorem dX8_rowsAlike_108 : decode cX8_rowsAlike 108 = .ok (.aload_n 0, 1) := by decide +kernel
theorem dX8_rowsAlike_109 : decode cX8_rowsAlike 109 = .ok (.getfield 25, 3) := by decide +kernel
theorem dX8_rowsAlike_112 : decode cX8_rowsAlike 112 = .ok (.if_icmp .ne 19, 3) := by decide +kernel
theorem dX8_rowsAlike_115 : decode cX8_rowsAlike 115 = .ok (.iload 7, 2) := by decide +kernel
theorem dX8_rowsAlike_117 : decode cX8_rowsAlike 117 = .ok (.aload_n 0, 1) := by decide +kernel
theorem dX8_rowsAlike_118 : decode cX8_rowsAlike 118 = .ok (.getfield 96, 3) := by decide +kernel
theorem dX8_rowsAlike_121 : decode cX8_rowsAlike 121 = .ok (.if_icmp .ne 10, 3) := by decide +kernel
theorem dX8_rowsAlike_124 : decode cX8_rowsAlike 124 = .ok (.aload_n 0, 1) := by decide +kernel
theorem dX8_rowsAlike_125 : decode cX8_rowsAlike 125 = .ok (.getfield 99, 3) := by decide +kernel
theorem dX8_rowsAlike_128 : decode cX8_rowsAlike 128 = .ok (.goto 15, 3) := by decide +kernel
theorem dX8_rowsAlike_131 : decode cX8_rowsAlike 131 = .ok (.aload_n 0, 1) := by decide +kernel
theorem dX8_rowsAlike_132 : decode cX8_rowsAlike 132 = .ok (.iload_n 1, 1) := by decide +kernel
theorem dX8_rowsAlike_133 : decode cX8_rowsAlike 133 = .ok (.iload 4, 2) := by decide +kernel
theorem dX8_rowsAlike_135 : decode cX8_rowsAlike 135 = .ok (.iload 6, 2) := by decide +kernel
theorem dX8_rowsAlike_137 : decode cX8_rowsAlike 137 = .ok (.iadd, 1) := by decide +kernel
theorem dX8_rowsAlike_138 : decode cX8_rowsAlike 138 = .ok (.iload 7, 2) := by decide +kernel
theorem dX8_rowsAlike_140 : decode cX8_rowsAlike 140 = .ok (.invokevirtual 79, 3) := by decide +kernel
theorem dX8_rowsAlike_143 : decode cX8_rowsAlike 143 = .ok (.istore 8, 2) := by decide +kernel
theorem dX8_rowsAlike_145 : decode cX8_rowsAlike 145 = .ok (.aload_n 0, 1) := by decide +kernel
theorem dX8_rowsAlike_146 : decode cX8_rowsAlike 146 = .ok (.iload_n 2, 1) := by decide +kernel
theorem dX8_rowsAlike_147 : decode cX8_rowsAlike 147 = .ok (.aload_n 0, 1) := by decide +kernel
theorem dX8_rowsAlike_148 : decode cX8_rowsAlike 148 = .ok (.iload_n 1, 1) := by decide +kernel
theorem dX8_rowsAlike_149 : decode cX8_rowsAlike 149 = .ok (.iload_n 3, 1) := by decide +kernel
theorem dX8_rowsAlike_150 : decode cX8_rowsAlike 150 = .ok (.iload 6, 2) := by decide +kernel
theorem dX8_rowsAlike_152 : decode cX8_rowsAlike 152 = .ok (.iadd, 1) := by decide +kernel
theorem dX8_rowsAlike_153 : decode cX8_rowsAlike 153 = .ok (.iload 7, 2) := by decide +kernel
theorem dX8_rowsAlike_155 : decode cX8_rowsAlike 155 = .ok (.invokevirtual 79, 3) := by decide +kernel
theorem dX8_rowsAlike_158 : decode cX8_rowsAlike 158 = .ok (.iload 8, 2) := by decide +kernel
theorem dX8_rowsAlike_160 : decode cX8_rowsAlike 160 = .ok (.invokevirtual 102, 3) := by decide +kernel
theorem dX8_rowsAlike_163 : decode cX8_rowsAlike 163 = .ok (.ifCond .ne 5, 3) := by decide +kernel
theorem dX8_rowsAlike_166 : decode cX8_rowsAlike 166 = .ok (.iconst 0, 1) := by decide +kernel
theorem dX8_rowsAlike_167 : decode cX8_rowsAlike 167 = .ok (.ireturn, 1) := by decide +kernel
theorem dX8_rowsAlike_168 : decode cX8_rowsAlike 168 = .ok (.iinc 7 1, 3) := by decide +kernel
theorem dX8_rowsAlike_171 : decode cX8_rowsAlike 171 = .ok (.goto (-79), 3) := by decide +kernel
theorem dX8_rowsAlike_174 : decode cX8_rowsAlike 174 = .ok (.iinc 6 1, 3) := by decide +kernel
theorem dX8_rowsAlike_177 : decode cX8_rowsAlike 177 = .ok (.goto (-119), 3) := by decide +kernel
theorem dX8_rowsAlike_180 : decode cX8_rowsAlike 180 = .ok (.iconst 1, 1) := by decide +kernel
theorem dX8_rowsAlike_181 : decode cX8_rowsAlike 181 = .ok (.ireturn, 1) := by decide +kernel
set_option maxRecDepth 20000 in
theorem ggX8_areRows_X8_isWay : GoodIn wsX8_areRows wsX8_isWay := goodIn_r _ [4, 5, 6, 3, 7] (by decide +kernel) (by decide +kernel)
set_option maxRecDepth 20000 in
theorem gX8_areRows_X8_isWay : GoodIn wsX8_areRows (va_wsS RX8 105 yX8_isWay wsX8_isWay) := goodIn_app (goodIn_of _ (by decide +kernel)) ggX8_areRows_X8_isWay
set_option maxRecDepth 20000 in
theorem ggX8_areRows_X8_isStart : GoodIn wsX8_areRows wsX8_isStart := goodIn_r _ [10, 5, 6, 3, 7] (by decide +kernel) (by decide +kernel)
set_option maxRecDepth 20000 in
theorem gX8_areRows_X8_isStart : GoodIn wsX8_areRows (va_wsS RX8 108 yX8_isStart wsX8_isStart) := goodIn_app (goodIn_of _ (by decide +kernel)) ggX8_areRows_X8_isStart
set_option maxRecDepth 20000 in
theorem ggX8_areRows_X8_isLength : GoodIn wsX8_areRows wsX8_isLength := goodIn_r _ [13, 5, 6, 3, 7] (by decide +kernel) (by decide +kernel)
set_option maxRecDepth 20000 in
theorem gX8_areRows_X8_isLength : GoodIn wsX8_areRows (va_wsS RX8 111 yX8_isLength wsX8_isLength) := goodIn_app (goodIn_of _ (by decide +kernel)) ggX8_areRows_X8_isLength
theorem dX8_areRows_0 : decode cX8_areRows 0 = .ok (.iload_n 0, 1) := by decide +kernel
theorem dX8_areRows_1 : decode cX8_areRows 1 = .ok (.invokestatic 105, 3) := by decide +kernel
theorem dX8_areRows_4 : decode cX8_areRows 4 = .ok (.ifCond .eq 28, 3) := by decide +kernel
theorem dX8_areRows_7 : decode cX8_areRows 7 = .ok (.iload_n 1, 1) := by decide +kernel
theorem dX8_areRows_8 : decode cX8_areRows 8 = .ok (.invokestatic 108, 3) := by decide +kernel
theorem dX8_areRows_11 : decode cX8_areRows 11 = .ok (.ifCond .eq 21, 3) := by decide +kernel
theorem dX8_areRows_14 : decode cX8_areRows 14 = .ok (.iload_n 2, 1) := by decide +kernel
theorem dX8_areRows_15 : decode cX8_areRows 15 = .ok (.invokestatic 108, 3) := by decide +kernel
theorem dX8_areRows_18 : decode cX8_areRows 18 = .ok (.ifCond .eq 14, 3) := by decide +kernel
theorem dX8_areRows_21 : decode cX8_areRows 21 = .ok (.iload_n 3, 1) := by decide +kernel
theorem dX8_areRows_22 : decode cX8_areRows 22 = .ok (.invokestatic 111, 3) := by decide +kernel
theorem dX8_areRows_25 : decode cX8_areRows 25 = .ok (.ifCond .eq 7, 3) := by decide +kernel
theorem dX8_areRows_28 : decode cX8_areRows 28 = .ok (.iconst 1, 1) := by decide +kernel
theorem dX8_areRows_29 : decode cX8_areRows 29 = .ok (.goto 4, 3) := by decide +kernel
theorem dX8_areRows_32 : decode cX8_areRows 32 = .ok (.iconst 0, 1) := by decide +kernel
theorem dX8_areRows_33 : decode cX8_areRows 33 = .ok (.ireturn, 1) := by decide +kernel
set_option maxRecDepth 20000 in
theorem ggX8_alike_X8_isVersion : GoodIn wsX8_alike wsX8_isVersion := goodIn_r _ [5, 6, 7, 8, 4, 9, 60, 61, 62, 63, 64, 65, 66, 67, 68, 69, 70, 71, 72, 73, 74, 75, 76, 77, 78] (by decide +kernel) (by decide +kernel)
set_option maxRecDepth 20000 in
theorem gX8_alike_X8_isVersion : GoodIn wsX8_alike (wsV RX8 72 RX8 yX8_isVersion wsX8_isVersion) := goodIn_app (goodIn_of _ (by decide +kernel)) ggX8_alike_X8_isVersion
set_option maxRecDepth 20000 in
theorem ggX8_alike_X8_areRows : GoodIn wsX8_alike wsX8_areRows := goodIn_r _ [12, 13, 14, 4, 15, 7, 8, 9, 16, 17, 18, 19, 20, 21] (by decide +kernel) (by decide +kernel)
set_option maxRecDepth 20000 in
theorem gX8_alike_X8_areRows : GoodIn wsX8_alike (va_wsS RX8 114 yX8_areRows wsX8_areRows) := goodIn_app (goodIn_of _ (by decide +kernel)) ggX8_alike_X8_areRows
set_option maxRecDepth 20000 in
theorem ggX8_alike_X8_rowsAlike : GoodIn wsX8_alike wsX8_rowsAlike := goodIn_r _ [25, 26, 27, 28, 29, 30, 31, 32, 33, 4, 34, 35, 36, 37, 38, 39, 40, 41, 42, 43, 44, 45, 46, 47, 48, 49, 50, 51, 52, 7, 8, 9, 53, 54, 55, 56, 57, 58, 59, 60, 61, 62, 63, 64, 65, 66, 67, 68, 69, 70, 71, 72, 73, 74, 75, 76, 77, 78] (by decide +kernel) (by decide +kernel)
set_option maxRecDepth 20000 in
theorem gX8_alike_X8_rowsAlike : GoodIn wsX8_alike (wsV RX8 118 RX8 yX8_rowsAlike wsX8_rowsAlike) := goodIn_app (goodIn_of _ (by decide +kernel)) ggX8_alike_X8_rowsAlike
theorem dX8_alike_0 : decode cX8_alike 0 = .ok (.aload_n 0, 1) := by decide +kernel
theorem dX8_alike_1 : decode cX8_alike 1 = .ok (.iload_n 1, 1) := by decide +kernel
theorem dX8_alike_2 : decode cX8_alike 2 = .ok (.invokevirtual 72, 3) := by decide +kernel
theorem dX8_alike_5 : decode cX8_alike 5 = .ok (.ifCond .ne 5, 3) := by decide +kernel
theorem dX8_alike_8 : decode cX8_alike 8 = .ok (.iconst (-1), 1) := by decide +kernel
theorem dX8_alike_9 : decode cX8_alike 9 = .ok (.ireturn, 1) := by decide +kernel
theorem dX8_alike_10 : decode cX8_alike 10 = .ok (.iload_n 2, 1) := by decide +kernel
theorem dX8_alike_11 : decode cX8_alike 11 = .ok (.iload_n 3, 1) := by decide +kernel
theorem dX8_alike_12 : decode cX8_alike 12 = .ok (.iload 4, 2) := by decide +kernel
theorem dX8_alike_14 : decode cX8_alike 14 = .ok (.iload 5, 2) := by decide +kernel
theorem dX8_alike_16 : decode cX8_alike 16 = .ok (.invokestatic 114, 3) := by decide +kernel
theorem dX8_alike_19 : decode cX8_alike 19 = .ok (.ifCond .ne 8, 3) := by decide +kernel
theorem dX8_alike_22 : decode cX8_alike 22 = .ok (.bipush (-2), 2) := by decide +kernel
