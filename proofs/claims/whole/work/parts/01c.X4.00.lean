theorem dX4_init_0 : decode cX4_init 0 = .ok (.aload_n 0, 1) := by decide +kernel
theorem dX4_init_1 : decode cX4_init 1 = .ok (.invokespecial 3, 3) := by decide +kernel
theorem dX4_init_4 : decode cX4_init 4 = .ok (.aload_n 0, 1) := by decide +kernel
theorem dX4_init_5 : decode cX4_init 5 = .ok (.sipush 200, 3) := by decide +kernel
theorem dX4_init_8 : decode cX4_init 8 = .ok (.newarray .int, 2) := by decide +kernel
theorem dX4_init_10 : decode cX4_init 10 = .ok (.putfield 9, 3) := by decide +kernel
theorem dX4_init_13 : decode cX4_init 13 = .ok (.aload_n 0, 1) := by decide +kernel
theorem dX4_init_14 : decode cX4_init 14 = .ok (.sipush 200, 3) := by decide +kernel
theorem dX4_init_17 : decode cX4_init 17 = .ok (.newarray .int, 2) := by decide +kernel
theorem dX4_init_19 : decode cX4_init 19 = .ok (.putfield 15, 3) := by decide +kernel
theorem dX4_init_22 : decode cX4_init 22 = .ok (.aload_n 0, 1) := by decide +kernel
theorem dX4_init_23 : decode cX4_init 23 = .ok (.iconst 0, 1) := by decide +kernel
theorem dX4_init_24 : decode cX4_init 24 = .ok (.putfield 18, 3) := by decide +kernel
theorem dX4_init_27 : decode cX4_init 27 = .ok (.aload_n 0, 1) := by decide +kernel
theorem dX4_init_28 : decode cX4_init 28 = .ok (.iconst 0, 1) := by decide +kernel
theorem dX4_init_29 : decode cX4_init 29 = .ok (.putfield 22, 3) := by decide +kernel
theorem dX4_init_32 : decode cX4_init 32 = .ok (.aload_n 0, 1) := by decide +kernel
theorem dX4_init_33 : decode cX4_init 33 = .ok (.iconst 0, 1) := by decide +kernel
theorem dX4_init_34 : decode cX4_init 34 = .ok (.putfield 25, 3) := by decide +kernel
theorem dX4_init_37 : decode cX4_init 37 = .ok (.aload_n 0, 1) := by decide +kernel
theorem dX4_init_38 : decode cX4_init 38 = .ok (.iconst 0, 1) := by decide +kernel
theorem dX4_init_39 : decode cX4_init 39 = .ok (.putfield 28, 3) := by decide +kernel
theorem dX4_init_42 : decode cX4_init 42 = .ok (.aload_n 0, 1) := by decide +kernel
theorem dX4_init_43 : decode cX4_init 43 = .ok (.aload_n 1, 1) := by decide +kernel
theorem dX4_init_44 : decode cX4_init 44 = .ok (.putfield 31, 3) := by decide +kernel
theorem dX4_init_47 : decode cX4_init 47 = .ok (.aload_n 0, 1) := by decide +kernel
theorem dX4_init_48 : decode cX4_init 48 = .ok (.aload_n 2, 1) := by decide +kernel
theorem dX4_init_49 : decode cX4_init 49 = .ok (.putfield 35, 3) := by decide +kernel
theorem dX4_init_52 : decode cX4_init 52 = .ok (.aload_n 0, 1) := by decide +kernel
theorem dX4_init_53 : decode cX4_init 53 = .ok (.aload_n 3, 1) := by decide +kernel
theorem dX4_init_54 : decode cX4_init 54 = .ok (.putfield 39, 3) := by decide +kernel
theorem dX4_init_57 : decode cX4_init 57 = .ok (.return_, 1) := by decide +kernel
set_option maxRecDepth 20000 in
theorem ggX4_lookAtAll_X0_lines : GoodIn wsX4_lookAtAll wsX0_lines := goodIn_r _ [10, 11, 110, 111, 112, 113] (by decide +kernel) (by decide +kernel)
set_option maxRecDepth 20000 in
theorem gX4_lookAtAll_X0_lines : GoodIn wsX4_lookAtAll (wsV RX4 43 RX0 yX0_lines wsX0_lines) := goodIn_app (goodIn_of _ (by decide +kernel)) ggX4_lookAtAll_X0_lines
set_option maxRecDepth 20000 in
theorem ggX4_lookAtAll_X2_isLeastOfGroup : GoodIn wsX4_lookAtAll wsX2_isLeastOfGroup := goodIn_r _ [16, 17, 18, 19, 15, 20, 21, 22, 7, 8, 9, 10, 11, 23, 24, 25, 26, 27, 28, 29, 30, 31, 32, 33, 34, 35, 36, 37, 38, 39, 40, 41, 114, 115, 116, 117, 118, 119, 110, 111, 112, 113] (by decide +kernel) (by decide +kernel)
set_option maxRecDepth 20000 in
theorem gX4_lookAtAll_X2_isLeastOfGroup : GoodIn wsX4_lookAtAll (wsV RX4 48 RX2 yX2_isLeastOfGroup wsX2_isLeastOfGroup) := goodIn_app (goodIn_of _ (by decide +kernel)) ggX4_lookAtAll_X2_isLeastOfGroup
set_option maxRecDepth 20000 in
theorem ggX4_lookAtAll_X5_pullOut : GoodIn wsX4_lookAtAll wsX5_pullOut := goodIn_r _ [46, 47, 48, 49, 50, 51, 52, 18, 19, 15, 20, 21, 22, 7, 8, 9, 10, 11, 23, 24, 25, 26, 27, 28, 29, 30, 31, 53, 54, 55, 45, 56, 57, 58, 59, 60, 61, 62, 63, 64, 65, 66, 67, 68, 69, 70, 71, 72, 73, 74, 75, 76, 77, 78, 79, 80, 81, 82, 83, 84, 85, 86, 87, 88, 89, 90, 91, 120, 121, 122, 123, 124, 125, 126, 127, 128, 114, 115, 116, 117, 118, 119, 110, 111, 112, 113] (by decide +kernel) (by decide +kernel)
set_option maxRecDepth 20000 in
theorem gX4_lookAtAll_X5_pullOut : GoodIn wsX4_lookAtAll (wsV RX4 54 RX5 yX5_pullOut wsX5_pullOut) := goodIn_app (goodIn_of _ (by decide +kernel)) ggX4_lookAtAll_X5_pullOut
set_option maxRecDepth 20000 in
theorem ggX4_lookAtAll_X4_note : GoodIn wsX4_lookAtAll wsX4_note := goodIn_r _ [96, 5, 1, 97, 98, 2, 99, 100, 101, 102, 103, 104, 105, 106, 107, 108, 109, 120, 121, 122, 123, 124, 125, 126, 127, 128] (by decide +kernel) (by decide +kernel)
set_option maxRecDepth 20000 in
theorem gX4_lookAtAll_X4_note : GoodIn wsX4_lookAtAll (wsV RX4 60 RX4 yX4_note wsX4_note) := goodIn_app (goodIn_of _ (by decide +kernel)) ggX4_lookAtAll_X4_note
theorem dX4_lookAtAll_0 : decode cX4_lookAtAll 0 = .ok (.aload_n 0, 1) := by decide +kernel
theorem dX4_lookAtAll_1 : decode cX4_lookAtAll 1 = .ok (.iconst 0, 1) := by decide +kernel
theorem dX4_lookAtAll_2 : decode cX4_lookAtAll 2 = .ok (.putfield 18, 3) := by decide +kernel
theorem dX4_lookAtAll_5 : decode cX4_lookAtAll 5 = .ok (.aload_n 0, 1) := by decide +kernel
theorem dX4_lookAtAll_6 : decode cX4_lookAtAll 6 = .ok (.iconst 0, 1) := by decide +kernel
theorem dX4_lookAtAll_7 : decode cX4_lookAtAll 7 = .ok (.putfield 22, 3) := by decide +kernel
theorem dX4_lookAtAll_10 : decode cX4_lookAtAll 10 = .ok (.iconst 1, 1) := by decide +kernel
theorem dX4_lookAtAll_11 : decode cX4_lookAtAll 11 = .ok (.istore_n 2, 1) := by decide +kernel
theorem dX4_lookAtAll_12 : decode cX4_lookAtAll 12 = .ok (.iload_n 2, 1) := by decide +kernel
theorem dX4_lookAtAll_13 : decode cX4_lookAtAll 13 = .ok (.aload_n 0, 1) := by decide +kernel
theorem dX4_lookAtAll_14 : decode cX4_lookAtAll 14 = .ok (.getfield 31, 3) := by decide +kernel
theorem dX4_lookAtAll_17 : decode cX4_lookAtAll 17 = .ok (.invokevirtual 43, 3) := by decide +kernel
theorem dX4_lookAtAll_20 : decode cX4_lookAtAll 20 = .ok (.if_icmp .gt 58, 3) := by decide +kernel
theorem dX4_lookAtAll_23 : decode cX4_lookAtAll 23 = .ok (.iconst 0, 1) := by decide +kernel
theorem dX4_lookAtAll_24 : decode cX4_lookAtAll 24 = .ok (.istore_n 3, 1) := by decide +kernel
theorem dX4_lookAtAll_25 : decode cX4_lookAtAll 25 = .ok (.iload_n 3, 1) := by decide +kernel
theorem dX4_lookAtAll_26 : decode cX4_lookAtAll 26 = .ok (.iload_n 2, 1) := by decide +kernel
theorem dX4_lookAtAll_27 : decode cX4_lookAtAll 27 = .ok (.iadd, 1) := by decide +kernel
theorem dX4_lookAtAll_28 : decode cX4_lookAtAll 28 = .ok (.aload_n 0, 1) := by decide +kernel
theorem dX4_lookAtAll_29 : decode cX4_lookAtAll 29 = .ok (.getfield 31, 3) := by decide +kernel
theorem dX4_lookAtAll_32 : decode cX4_lookAtAll 32 = .ok (.invokevirtual 43, 3) := by decide +kernel
theorem dX4_lookAtAll_35 : decode cX4_lookAtAll 35 = .ok (.if_icmp .gt 37, 3) := by decide +kernel
theorem dX4_lookAtAll_38 : decode cX4_lookAtAll 38 = .ok (.aload_n 0, 1) := by decide +kernel
theorem dX4_lookAtAll_39 : decode cX4_lookAtAll 39 = .ok (.getfield 35, 3) := by decide +kernel
theorem dX4_lookAtAll_42 : decode cX4_lookAtAll 42 = .ok (.iload_n 3, 1) := by decide +kernel
theorem dX4_lookAtAll_43 : decode cX4_lookAtAll 43 = .ok (.iload_n 2, 1) := by decide +kernel
theorem dX4_lookAtAll_44 : decode cX4_lookAtAll 44 = .ok (.invokevirtual 48, 3) := by decide +kernel
theorem dX4_lookAtAll_47 : decode cX4_lookAtAll 47 = .ok (.ifCond .eq 19, 3) := by decide +kernel
theorem dX4_lookAtAll_50 : decode cX4_lookAtAll 50 = .ok (.aload_n 0, 1) := by decide +kernel
theorem dX4_lookAtAll_51 : decode cX4_lookAtAll 51 = .ok (.getfield 39, 3) := by decide +kernel
theorem dX4_lookAtAll_54 : decode cX4_lookAtAll 54 = .ok (.iload_n 1, 1) := by decide +kernel
theorem dX4_lookAtAll_55 : decode cX4_lookAtAll 55 = .ok (.iload_n 3, 1) := by decide +kernel
theorem dX4_lookAtAll_56 : decode cX4_lookAtAll 56 = .ok (.iload_n 2, 1) := by decide +kernel
theorem dX4_lookAtAll_57 : decode cX4_lookAtAll 57 = .ok (.invokevirtual 54, 3) := by decide +kernel
theorem dX4_lookAtAll_60 : decode cX4_lookAtAll 60 = .ok (.aload_n 0, 1) := by decide +kernel
theorem dX4_lookAtAll_61 : decode cX4_lookAtAll 61 = .ok (.iload_n 3, 1) := by decide +kernel
theorem dX4_lookAtAll_62 : decode cX4_lookAtAll 62 = .ok (.iload_n 2, 1) := by decide +kernel
theorem dX4_lookAtAll_63 : decode cX4_lookAtAll 63 = .ok (.invokevirtual 60, 3) := by decide +kernel
theorem dX4_lookAtAll_66 : decode cX4_lookAtAll 66 = .ok (.iinc 3 1, 3) := by decide +kernel
theorem dX4_lookAtAll_69 : decode cX4_lookAtAll 69 = .ok (.goto (-44), 3) := by decide +kernel
theorem dX4_lookAtAll_72 : decode cX4_lookAtAll 72 = .ok (.iinc 2 1, 3) := by decide +kernel
theorem dX4_lookAtAll_75 : decode cX4_lookAtAll 75 = .ok (.goto (-63), 3) := by decide +kernel
theorem dX4_lookAtAll_78 : decode cX4_lookAtAll 78 = .ok (.return_, 1) := by decide +kernel
theorem dX4_note_0 : decode cX4_note 0 = .ok (.aload_n 0, 1) := by decide +kernel
theorem dX4_note_1 : decode cX4_note 1 = .ok (.getfield 39, 3) := by decide +kernel
theorem dX4_note_4 : decode cX4_note 4 = .ok (.getfield 64, 3) := by decide +kernel
theorem dX4_note_7 : decode cX4_note 7 = .ok (.ifCond .le 15, 3) := by decide +kernel
theorem dX4_note_10 : decode cX4_note 10 = .ok (.aload_n 0, 1) := by decide +kernel
theorem dX4_note_11 : decode cX4_note 11 = .ok (.getfield 18, 3) := by decide +kernel
theorem dX4_note_14 : decode cX4_note 14 = .ok (.aload_n 0, 1) := by decide +kernel
theorem dX4_note_15 : decode cX4_note 15 = .ok (.getfield 9, 3) := by decide +kernel
theorem dX4_note_18 : decode cX4_note 18 = .ok (.arraylength, 1) := by decide +kernel
theorem dX4_note_19 : decode cX4_note 19 = .ok (.if_icmp .lt 4, 3) := by decide +kernel
theorem dX4_note_22 : decode cX4_note 22 = .ok (.return_, 1) := by decide +kernel
theorem dX4_note_23 : decode cX4_note 23 = .ok (.aload_n 0, 1) := by decide +kernel
theorem dX4_note_24 : decode cX4_note 24 = .ok (.getfield 9, 3) := by decide +kernel
theorem dX4_note_27 : decode cX4_note 27 = .ok (.aload_n 0, 1) := by decide +kernel
theorem dX4_note_28 : decode cX4_note 28 = .ok (.getfield 18, 3) := by decide +kernel
theorem dX4_note_31 : decode cX4_note 31 = .ok (.aload_n 0, 1) := by decide +kernel
theorem dX4_note_32 : decode cX4_note 32 = .ok (.getfield 39, 3) := by decide +kernel
theorem dX4_note_35 : decode cX4_note 35 = .ok (.getfield 64, 3) := by decide +kernel
theorem dX4_note_38 : decode cX4_note 38 = .ok (.iastore, 1) := by decide +kernel
theorem dX4_note_39 : decode cX4_note 39 = .ok (.aload_n 0, 1) := by decide +kernel
theorem dX4_note_40 : decode cX4_note 40 = .ok (.getfield 15, 3) := by decide +kernel
theorem dX4_note_43 : decode cX4_note 43 = .ok (.aload_n 0, 1) := by decide +kernel
theorem dX4_note_44 : decode cX4_note 44 = .ok (.getfield 18, 3) := by decide +kernel
theorem dX4_note_47 : decode cX4_note 47 = .ok (.aload_n 0, 1) := by decide +kernel
theorem dX4_note_48 : decode cX4_note 48 = .ok (.getfield 39, 3) := by decide +kernel
theorem dX4_note_51 : decode cX4_note 51 = .ok (.getfield 67, 3) := by decide +kernel
theorem dX4_note_54 : decode cX4_note 54 = .ok (.iastore, 1) := by decide +kernel
theorem dX4_note_55 : decode cX4_note 55 = .ok (.aload_n 0, 1) := by decide +kernel
theorem dX4_note_56 : decode cX4_note 56 = .ok (.dup, 1) := by decide +kernel
theorem dX4_note_57 : decode cX4_note 57 = .ok (.getfield 18, 3) := by decide +kernel
theorem dX4_note_60 : decode cX4_note 60 = .ok (.iconst 1, 1) := by decide +kernel
theorem dX4_note_61 : decode cX4_note 61 = .ok (.iadd, 1) := by decide +kernel
theorem dX4_note_62 : decode cX4_note 62 = .ok (.putfield 18, 3) := by decide +kernel
theorem dX4_note_65 : decode cX4_note 65 = .ok (.aload_n 0, 1) := by decide +kernel
theorem dX4_note_66 : decode cX4_note 66 = .ok (.getfield 39, 3) := by decide +kernel
theorem dX4_note_69 : decode cX4_note 69 = .ok (.getfield 64, 3) := by decide +kernel
theorem dX4_note_72 : decode cX4_note 72 = .ok (.aload_n 0, 1) := by decide +kernel
theorem dX4_note_73 : decode cX4_note 73 = .ok (.getfield 22, 3) := by decide +kernel
theorem dX4_note_76 : decode cX4_note 76 = .ok (.if_icmp .le 24, 3) := by decide +kernel
theorem dX4_note_79 : decode cX4_note 79 = .ok (.aload_n 0, 1) := by decide +kernel
theorem dX4_note_80 : decode cX4_note 80 = .ok (.aload_n 0, 1) := by decide +kernel
theorem dX4_note_81 : decode cX4_note 81 = .ok (.getfield 39, 3) := by decide +kernel
theorem dX4_note_84 : decode cX4_note 84 = .ok (.getfield 64, 3) := by decide +kernel
theorem dX4_note_87 : decode cX4_note 87 = .ok (.putfield 22, 3) := by decide +kernel
theorem dX4_note_90 : decode cX4_note 90 = .ok (.aload_n 0, 1) := by decide +kernel
theorem dX4_note_91 : decode cX4_note 91 = .ok (.iload_n 1, 1) := by decide +kernel
theorem dX4_note_92 : decode cX4_note 92 = .ok (.putfield 25, 3) := by decide +kernel
theorem dX4_note_95 : decode cX4_note 95 = .ok (.aload_n 0, 1) := by decide +kernel
theorem dX4_note_96 : decode cX4_note 96 = .ok (.iload_n 2, 1) := by decide +kernel
theorem dX4_note_97 : decode cX4_note 97 = .ok (.putfield 28, 3) := by decide +kernel
theorem dX4_note_100 : decode cX4_note 100 = .ok (.return_, 1) := by decide +kernel
theorem dX4_bestSumOfTwo_0 : decode cX4_bestSumOfTwo 0 = .ok (.aload_n 0, 1) := by decide +kernel
theorem dX4_bestSumOfTwo_1 : decode cX4_bestSumOfTwo 1 = .ok (.getfield 22, 3) := by decide +kernel
theorem dX4_bestSumOfTwo_4 : decode cX4_bestSumOfTwo 4 = .ok (.istore_n 1, 1) := by decide +kernel
theorem dX4_bestSumOfTwo_5 : decode cX4_bestSumOfTwo 5 = .ok (.iconst 0, 1) := by decide +kernel
theorem dX4_bestSumOfTwo_6 : decode cX4_bestSumOfTwo 6 = .ok (.istore_n 2, 1) := by decide +kernel
theorem dX4_bestSumOfTwo_7 : decode cX4_bestSumOfTwo 7 = .ok (.iload_n 2, 1) := by decide +kernel
theorem dX4_bestSumOfTwo_8 : decode cX4_bestSumOfTwo 8 = .ok (.aload_n 0, 1) := by decide +kernel
theorem dX4_bestSumOfTwo_9 : decode cX4_bestSumOfTwo 9 = .ok (.getfield 18, 3) := by decide +kernel
theorem dX4_bestSumOfTwo_12 : decode cX4_bestSumOfTwo 12 = .ok (.if_icmp .ge 61, 3) := by decide +kernel
theorem dX4_bestSumOfTwo_15 : decode cX4_bestSumOfTwo 15 = .ok (.iload_n 2, 1) := by decide +kernel
theorem dX4_bestSumOfTwo_16 : decode cX4_bestSumOfTwo 16 = .ok (.iconst 1, 1) := by decide +kernel
theorem dX4_bestSumOfTwo_17 : decode cX4_bestSumOfTwo 17 = .ok (.iadd, 1) := by decide +kernel
theorem dX4_bestSumOfTwo_18 : decode cX4_bestSumOfTwo 18 = .ok (.istore_n 3, 1) := by decide +kernel
theorem dX4_bestSumOfTwo_19 : decode cX4_bestSumOfTwo 19 = .ok (.iload_n 3, 1) := by decide +kernel
theorem dX4_bestSumOfTwo_20 : decode cX4_bestSumOfTwo 20 = .ok (.aload_n 0, 1) := by decide +kernel
theorem dX4_bestSumOfTwo_21 : decode cX4_bestSumOfTwo 21 = .ok (.getfield 18, 3) := by decide +kernel
theorem dX4_bestSumOfTwo_24 : decode cX4_bestSumOfTwo 24 = .ok (.if_icmp .ge 43, 3) := by decide +kernel
theorem dX4_bestSumOfTwo_27 : decode cX4_bestSumOfTwo 27 = .ok (.aload_n 0, 1) := by decide +kernel
theorem dX4_bestSumOfTwo_28 : decode cX4_bestSumOfTwo 28 = .ok (.getfield 15, 3) := by decide +kernel
theorem dX4_bestSumOfTwo_31 : decode cX4_bestSumOfTwo 31 = .ok (.iload_n 2, 1) := by decide +kernel
theorem dX4_bestSumOfTwo_32 : decode cX4_bestSumOfTwo 32 = .ok (.iaload, 1) := by decide +kernel
theorem dX4_bestSumOfTwo_33 : decode cX4_bestSumOfTwo 33 = .ok (.aload_n 0, 1) := by decide +kernel
theorem dX4_bestSumOfTwo_34 : decode cX4_bestSumOfTwo 34 = .ok (.getfield 15, 3) := by decide +kernel
theorem dX4_bestSumOfTwo_37 : decode cX4_bestSumOfTwo 37 = .ok (.iload_n 3, 1) := by decide +kernel
theorem dX4_bestSumOfTwo_38 : decode cX4_bestSumOfTwo 38 = .ok (.iaload, 1) := by decide +kernel
theorem dX4_bestSumOfTwo_39 : decode cX4_bestSumOfTwo 39 = .ok (.iand, 1) := by decide +kernel
theorem dX4_bestSumOfTwo_40 : decode cX4_bestSumOfTwo 40 = .ok (.ifCond .ne 21, 3) := by decide +kernel
theorem dX4_bestSumOfTwo_43 : decode cX4_bestSumOfTwo 43 = .ok (.iload_n 1, 1) := by decide +kernel
theorem dX4_bestSumOfTwo_44 : decode cX4_bestSumOfTwo 44 = .ok (.aload_n 0, 1) := by decide +kernel
theorem dX4_bestSumOfTwo_45 : decode cX4_bestSumOfTwo 45 = .ok (.getfield 9, 3) := by decide +kernel
theorem dX4_bestSumOfTwo_48 : decode cX4_bestSumOfTwo 48 = .ok (.iload_n 2, 1) := by decide +kernel
theorem dX4_bestSumOfTwo_49 : decode cX4_bestSumOfTwo 49 = .ok (.iaload, 1) := by decide +kernel
theorem dX4_bestSumOfTwo_50 : decode cX4_bestSumOfTwo 50 = .ok (.aload_n 0, 1) := by decide +kernel
theorem dX4_bestSumOfTwo_51 : decode cX4_bestSumOfTwo 51 = .ok (.getfield 9, 3) := by decide +kernel
theorem dX4_bestSumOfTwo_54 : decode cX4_bestSumOfTwo 54 = .ok (.iload_n 3, 1) := by decide +kernel
theorem dX4_bestSumOfTwo_55 : decode cX4_bestSumOfTwo 55 = .ok (.iaload, 1) := by decide +kernel
theorem dX4_bestSumOfTwo_56 : decode cX4_bestSumOfTwo 56 = .ok (.iadd, 1) := by decide +kernel
theorem dX4_bestSumOfTwo_57 : decode cX4_bestSumOfTwo 57 = .ok (.invokestatic 70, 3) := by decide +kernel
theorem dX4_bestSumOfTwo_60 : decode cX4_bestSumOfTwo 60 = .ok (.istore_n 1, 1) := by decide +kernel
theorem dX4_bestSumOfTwo_61 : decode cX4_bestSumOfTwo 61 = .ok (.iinc 3 1, 3) := by decide +kernel
theorem dX4_bestSumOfTwo_64 : decode cX4_bestSumOfTwo 64 = .ok (.goto (-45), 3) := by decide +kernel
theorem dX4_bestSumOfTwo_67 : decode cX4_bestSumOfTwo 67 = .ok (.iinc 2 1, 3) := by decide +kernel
theorem dX4_bestSumOfTwo_70 : decode cX4_bestSumOfTwo 70 = .ok (.goto (-63), 3) := by decide +kernel
theorem dX4_bestSumOfTwo_73 : decode cX4_bestSumOfTwo 73 = .ok (.iload_n 1, 1) := by decide +kernel
theorem dX4_bestSumOfTwo_74 : decode cX4_bestSumOfTwo 74 = .ok (.ireturn, 1) := by decide +kernel
