set_option maxRecDepth 20000 in
theorem ggX7_init_X0_init : GoodIn wsX7_init wsX0_init := goodIn_r _ [33, 34, 2, 3, 10, 35, 36, 37, 38, 98, 99, 100, 101] (by decide +kernel) (by decide +kernel)
set_option maxRecDepth 20000 in
theorem gX7_init_X0_init_n9 : GoodIn wsX7_init (wsX0_init) := ggX7_init_X0_init
set_option maxRecDepth 20000 in
theorem ggX7_init_X2_init : GoodIn wsX7_init wsX2_init := goodIn_r _ [41, 42, 2, 3, 43, 44, 45, 46, 10, 47, 48, 49, 50, 51, 52, 53, 54, 55, 56, 57, 144, 145, 146, 114, 115, 116, 117, 118, 119] (by decide +kernel) (by decide +kernel)
set_option maxRecDepth 20000 in
theorem gX7_init_X2_init : GoodIn wsX7_init (wsX2_init) := ggX7_init_X2_init
set_option maxRecDepth 20000 in
theorem ggX7_init_X5_init : GoodIn wsX7_init wsX5_init := goodIn_r _ [60, 61, 2, 3, 10, 62, 63, 64, 65, 66, 67, 68, 69, 70, 120, 121, 122, 123, 124, 125, 126, 127, 128] (by decide +kernel) (by decide +kernel)
set_option maxRecDepth 20000 in
theorem gX7_init_X5_init : GoodIn wsX7_init (wsX5_init) := ggX7_init_X5_init
set_option maxRecDepth 20000 in
theorem ggX7_init_X4_init : GoodIn wsX7_init wsX4_init := goodIn_r _ [73, 74, 2, 3, 10, 75, 76, 77, 78, 79, 80, 81, 82, 83, 129, 130, 131, 132, 133, 134, 135, 136, 137] (by decide +kernel) (by decide +kernel)
set_option maxRecDepth 20000 in
theorem gX7_init_X4_init : GoodIn wsX7_init (wsX4_init) := ggX7_init_X4_init
set_option maxRecDepth 20000 in
theorem ggX7_init_X6_init : GoodIn wsX7_init wsX6_init := goodIn_r _ [86, 87, 2, 3, 88, 89, 90, 91, 138, 139, 140, 141] (by decide +kernel) (by decide +kernel)
set_option maxRecDepth 20000 in
theorem gX7_init_X6_init : GoodIn wsX7_init (wsX6_init) := ggX7_init_X6_init
set_option maxRecDepth 20000 in
theorem ggX7_init_X1_init : GoodIn wsX7_init wsX1_init := goodIn_r _ [94, 95, 2, 3, 10, 96, 97, 142, 143] (by decide +kernel) (by decide +kernel)
set_option maxRecDepth 20000 in
theorem gX7_init_X1_init : GoodIn wsX7_init (wsX1_init) := ggX7_init_X1_init
theorem dX7_init_0 : decode cX7_init 0 = .ok (.aload_n 0, 1) := by decide +kernel
theorem dX7_init_1 : decode cX7_init 1 = .ok (.invokespecial 1, 3) := by decide +kernel
theorem dX7_init_4 : decode cX7_init 4 = .ok (.aload_n 0, 1) := by decide +kernel
theorem dX7_init_5 : decode cX7_init 5 = .ok (.new 7, 3) := by decide +kernel
theorem dX7_init_8 : decode cX7_init 8 = .ok (.dup, 1) := by decide +kernel
theorem dX7_init_9 : decode cX7_init 9 = .ok (.invokespecial 9, 3) := by decide +kernel
theorem dX7_init_12 : decode cX7_init 12 = .ok (.putfield 10, 3) := by decide +kernel
theorem dX7_init_15 : decode cX7_init 15 = .ok (.aload_n 0, 1) := by decide +kernel
theorem dX7_init_16 : decode cX7_init 16 = .ok (.new 7, 3) := by decide +kernel
theorem dX7_init_19 : decode cX7_init 19 = .ok (.dup, 1) := by decide +kernel
theorem dX7_init_20 : decode cX7_init 20 = .ok (.invokespecial 9, 3) := by decide +kernel
theorem dX7_init_23 : decode cX7_init 23 = .ok (.putfield 16, 3) := by decide +kernel
theorem dX7_init_26 : decode cX7_init 26 = .ok (.aload_n 0, 1) := by decide +kernel
theorem dX7_init_27 : decode cX7_init 27 = .ok (.new 7, 3) := by decide +kernel
theorem dX7_init_30 : decode cX7_init 30 = .ok (.dup, 1) := by decide +kernel
theorem dX7_init_31 : decode cX7_init 31 = .ok (.invokespecial 9, 3) := by decide +kernel
theorem dX7_init_34 : decode cX7_init 34 = .ok (.putfield 19, 3) := by decide +kernel
theorem dX7_init_37 : decode cX7_init 37 = .ok (.aload_n 0, 1) := by decide +kernel
theorem dX7_init_38 : decode cX7_init 38 = .ok (.bipush 8, 2) := by decide +kernel
theorem dX7_init_40 : decode cX7_init 40 = .ok (.newarray .int, 2) := by decide +kernel
theorem dX7_init_42 : decode cX7_init 42 = .ok (.putfield 22, 3) := by decide +kernel
theorem dX7_init_45 : decode cX7_init 45 = .ok (.aload_n 0, 1) := by decide +kernel
theorem dX7_init_46 : decode cX7_init 46 = .ok (.new 26, 3) := by decide +kernel
theorem dX7_init_49 : decode cX7_init 49 = .ok (.dup, 1) := by decide +kernel
theorem dX7_init_50 : decode cX7_init 50 = .ok (.aload_n 0, 1) := by decide +kernel
theorem dX7_init_51 : decode cX7_init 51 = .ok (.getfield 10, 3) := by decide +kernel
theorem dX7_init_54 : decode cX7_init 54 = .ok (.invokespecial 28, 3) := by decide +kernel
theorem dX7_init_57 : decode cX7_init 57 = .ok (.putfield 31, 3) := by decide +kernel
theorem dX7_init_60 : decode cX7_init 60 = .ok (.aload_n 0, 1) := by decide +kernel
theorem dX7_init_61 : decode cX7_init 61 = .ok (.new 35, 3) := by decide +kernel
theorem dX7_init_64 : decode cX7_init 64 = .ok (.dup, 1) := by decide +kernel
theorem dX7_init_65 : decode cX7_init 65 = .ok (.aload_n 0, 1) := by decide +kernel
theorem dX7_init_66 : decode cX7_init 66 = .ok (.getfield 10, 3) := by decide +kernel
theorem dX7_init_69 : decode cX7_init 69 = .ok (.aload_n 0, 1) := by decide +kernel
theorem dX7_init_70 : decode cX7_init 70 = .ok (.getfield 31, 3) := by decide +kernel
theorem dX7_init_73 : decode cX7_init 73 = .ok (.invokespecial 37, 3) := by decide +kernel
theorem dX7_init_76 : decode cX7_init 76 = .ok (.putfield 40, 3) := by decide +kernel
theorem dX7_init_79 : decode cX7_init 79 = .ok (.aload_n 0, 1) := by decide +kernel
theorem dX7_init_80 : decode cX7_init 80 = .ok (.new 44, 3) := by decide +kernel
theorem dX7_init_83 : decode cX7_init 83 = .ok (.dup, 1) := by decide +kernel
theorem dX7_init_84 : decode cX7_init 84 = .ok (.aload_n 0, 1) := by decide +kernel
theorem dX7_init_85 : decode cX7_init 85 = .ok (.getfield 10, 3) := by decide +kernel
theorem dX7_init_88 : decode cX7_init 88 = .ok (.aload_n 0, 1) := by decide +kernel
theorem dX7_init_89 : decode cX7_init 89 = .ok (.getfield 31, 3) := by decide +kernel
theorem dX7_init_92 : decode cX7_init 92 = .ok (.aload_n 0, 1) := by decide +kernel
theorem dX7_init_93 : decode cX7_init 93 = .ok (.getfield 40, 3) := by decide +kernel
theorem dX7_init_96 : decode cX7_init 96 = .ok (.invokespecial 46, 3) := by decide +kernel
theorem dX7_init_99 : decode cX7_init 99 = .ok (.putfield 49, 3) := by decide +kernel
theorem dX7_init_102 : decode cX7_init 102 = .ok (.aload_n 0, 1) := by decide +kernel
theorem dX7_init_103 : decode cX7_init 103 = .ok (.new 53, 3) := by decide +kernel
theorem dX7_init_106 : decode cX7_init 106 = .ok (.dup, 1) := by decide +kernel
theorem dX7_init_107 : decode cX7_init 107 = .ok (.aload_n 0, 1) := by decide +kernel
theorem dX7_init_108 : decode cX7_init 108 = .ok (.getfield 10, 3) := by decide +kernel
theorem dX7_init_111 : decode cX7_init 111 = .ok (.aload_n 0, 1) := by decide +kernel
theorem dX7_init_112 : decode cX7_init 112 = .ok (.getfield 31, 3) := by decide +kernel
theorem dX7_init_115 : decode cX7_init 115 = .ok (.invokespecial 55, 3) := by decide +kernel
theorem dX7_init_118 : decode cX7_init 118 = .ok (.putfield 56, 3) := by decide +kernel
theorem dX7_init_121 : decode cX7_init 121 = .ok (.aload_n 0, 1) := by decide +kernel
theorem dX7_init_122 : decode cX7_init 122 = .ok (.new 60, 3) := by decide +kernel
theorem dX7_init_125 : decode cX7_init 125 = .ok (.dup, 1) := by decide +kernel
theorem dX7_init_126 : decode cX7_init 126 = .ok (.aload_n 0, 1) := by decide +kernel
theorem dX7_init_127 : decode cX7_init 127 = .ok (.getfield 10, 3) := by decide +kernel
theorem dX7_init_130 : decode cX7_init 130 = .ok (.invokespecial 62, 3) := by decide +kernel
theorem dX7_init_133 : decode cX7_init 133 = .ok (.putfield 63, 3) := by decide +kernel
theorem dX7_init_136 : decode cX7_init 136 = .ok (.return_, 1) := by decide +kernel
theorem dX7_say_0 : decode cX7_say 0 = .ok (.iload_n 1, 1) := by decide +kernel
theorem dX7_say_1 : decode cX7_say 1 = .ok (.bipush 33, 2) := by decide +kernel
theorem dX7_say_3 : decode cX7_say 3 = .ok (.if_icmp .lt 9, 3) := by decide +kernel
theorem dX7_say_6 : decode cX7_say 6 = .ok (.iload_n 1, 1) := by decide +kernel
theorem dX7_say_7 : decode cX7_say 7 = .ok (.bipush 126, 2) := by decide +kernel
theorem dX7_say_9 : decode cX7_say 9 = .ok (.if_icmp .le 6, 3) := by decide +kernel
theorem dX7_say_12 : decode cX7_say 12 = .ok (.bipush (-2), 2) := by decide +kernel
theorem dX7_say_14 : decode cX7_say 14 = .ok (.ireturn, 1) := by decide +kernel
theorem dX7_say_15 : decode cX7_say 15 = .ok (.aload_n 0, 1) := by decide +kernel
theorem dX7_say_16 : decode cX7_say 16 = .ok (.getfield 67, 3) := by decide +kernel
theorem dX7_say_19 : decode cX7_say 19 = .ok (.ifCond .lt 12, 3) := by decide +kernel
theorem dX7_say_22 : decode cX7_say 22 = .ok (.aload_n 0, 1) := by decide +kernel
theorem dX7_say_23 : decode cX7_say 23 = .ok (.getfield 67, 3) := by decide +kernel
theorem dX7_say_26 : decode cX7_say 26 = .ok (.bipush 8, 2) := by decide +kernel
theorem dX7_say_28 : decode cX7_say 28 = .ok (.if_icmp .lt 6, 3) := by decide +kernel
theorem dX7_say_31 : decode cX7_say 31 = .ok (.bipush (-4), 2) := by decide +kernel
theorem dX7_say_33 : decode cX7_say 33 = .ok (.ireturn, 1) := by decide +kernel
theorem dX7_say_34 : decode cX7_say 34 = .ok (.aload_n 0, 1) := by decide +kernel
theorem dX7_say_35 : decode cX7_say 35 = .ok (.getfield 22, 3) := by decide +kernel
theorem dX7_say_38 : decode cX7_say 38 = .ok (.aload_n 0, 1) := by decide +kernel
theorem dX7_say_39 : decode cX7_say 39 = .ok (.getfield 67, 3) := by decide +kernel
theorem dX7_say_42 : decode cX7_say 42 = .ok (.iload_n 1, 1) := by decide +kernel
theorem dX7_say_43 : decode cX7_say 43 = .ok (.iastore, 1) := by decide +kernel
theorem dX7_say_44 : decode cX7_say 44 = .ok (.aload_n 0, 1) := by decide +kernel
theorem dX7_say_45 : decode cX7_say 45 = .ok (.dup, 1) := by decide +kernel
theorem dX7_say_46 : decode cX7_say 46 = .ok (.getfield 67, 3) := by decide +kernel
theorem dX7_say_49 : decode cX7_say 49 = .ok (.iconst 1, 1) := by decide +kernel
theorem dX7_say_50 : decode cX7_say 50 = .ok (.iadd, 1) := by decide +kernel
theorem dX7_say_51 : decode cX7_say 51 = .ok (.putfield 67, 3) := by decide +kernel
theorem dX7_say_54 : decode cX7_say 54 = .ok (.aload_n 0, 1) := by decide +kernel
theorem dX7_say_55 : decode cX7_say 55 = .ok (.getfield 67, 3) := by decide +kernel
theorem dX7_say_58 : decode cX7_say 58 = .ok (.ireturn, 1) := by decide +kernel
theorem dX7_wipe_0 : decode cX7_wipe 0 = .ok (.aload_n 0, 1) := by decide +kernel
theorem dX7_wipe_1 : decode cX7_wipe 1 = .ok (.getfield 67, 3) := by decide +kernel
theorem dX7_wipe_4 : decode cX7_wipe 4 = .ok (.istore_n 1, 1) := by decide +kernel
theorem dX7_wipe_5 : decode cX7_wipe 5 = .ok (.aload_n 0, 1) := by decide +kernel
theorem dX7_wipe_6 : decode cX7_wipe 6 = .ok (.iconst 0, 1) := by decide +kernel
theorem dX7_wipe_7 : decode cX7_wipe 7 = .ok (.putfield 67, 3) := by decide +kernel
theorem dX7_wipe_10 : decode cX7_wipe 10 = .ok (.iload_n 1, 1) := by decide +kernel
theorem dX7_wipe_11 : decode cX7_wipe 11 = .ok (.ireturn, 1) := by decide +kernel
set_option maxRecDepth 20000 in
theorem ggX7_line_X0_lines : GoodIn wsX7_line wsX0_lines := goodIn_r _ [8, 9, 45, 46, 47, 48] (by decide +kernel) (by decide +kernel)
set_option maxRecDepth 20000 in
theorem gX7_line_X0_lines : GoodIn wsX7_line (wsV RX7 71 RX0 yX0_lines wsX0_lines) := goodIn_app (goodIn_of _ (by decide +kernel)) ggX7_line_X0_lines
set_option maxRecDepth 20000 in
theorem ggX7_line_X0_addLine : GoodIn wsX7_line wsX0_addLine := goodIn_r _ [13, 9, 14, 15, 16, 17, 7, 18, 19, 20, 21, 22, 23, 24, 25, 26, 27, 28, 29, 30, 31, 32, 45, 46, 47, 48] (by decide +kernel) (by decide +kernel)
set_option maxRecDepth 20000 in
theorem gX7_line_X0_addLine : GoodIn wsX7_line (wsV RX7 75 RX0 yX0_addLine wsX0_addLine) := goodIn_app (goodIn_of _ (by decide +kernel)) ggX7_line_X0_addLine
theorem dX7_line_0 : decode cX7_line 0 = .ok (.aload_n 0, 1) := by decide +kernel
theorem dX7_line_1 : decode cX7_line 1 = .ok (.getfield 10, 3) := by decide +kernel
theorem dX7_line_4 : decode cX7_line 4 = .ok (.invokevirtual 71, 3) := by decide +kernel
theorem dX7_line_7 : decode cX7_line 7 = .ok (.bipush 20, 2) := by decide +kernel
theorem dX7_line_9 : decode cX7_line 9 = .ok (.if_icmp .lt 6, 3) := by decide +kernel
theorem dX7_line_12 : decode cX7_line 12 = .ok (.bipush (-4), 2) := by decide +kernel
theorem dX7_line_14 : decode cX7_line 14 = .ok (.ireturn, 1) := by decide +kernel
theorem dX7_line_15 : decode cX7_line 15 = .ok (.aload_n 0, 1) := by decide +kernel
theorem dX7_line_16 : decode cX7_line 16 = .ok (.getfield 67, 3) := by decide +kernel
theorem dX7_line_19 : decode cX7_line 19 = .ok (.ifCond .ne 6, 3) := by decide +kernel
theorem dX7_line_22 : decode cX7_line 22 = .ok (.bipush (-5), 2) := by decide +kernel
theorem dX7_line_24 : decode cX7_line 24 = .ok (.ireturn, 1) := by decide +kernel
theorem dX7_line_25 : decode cX7_line 25 = .ok (.aload_n 0, 1) := by decide +kernel
theorem dX7_line_26 : decode cX7_line 26 = .ok (.getfield 10, 3) := by decide +kernel
theorem dX7_line_29 : decode cX7_line 29 = .ok (.invokevirtual 71, 3) := by decide +kernel
theorem dX7_line_32 : decode cX7_line 32 = .ok (.istore_n 1, 1) := by decide +kernel
theorem dX7_line_33 : decode cX7_line 33 = .ok (.aload_n 0, 1) := by decide +kernel
theorem dX7_line_34 : decode cX7_line 34 = .ok (.getfield 10, 3) := by decide +kernel
theorem dX7_line_37 : decode cX7_line 37 = .ok (.aload_n 0, 1) := by decide +kernel
theorem dX7_line_38 : decode cX7_line 38 = .ok (.getfield 22, 3) := by decide +kernel
theorem dX7_line_41 : decode cX7_line 41 = .ok (.aload_n 0, 1) := by decide +kernel
theorem dX7_line_42 : decode cX7_line 42 = .ok (.getfield 67, 3) := by decide +kernel
theorem dX7_line_45 : decode cX7_line 45 = .ok (.invokevirtual 75, 3) := by decide +kernel
theorem dX7_line_48 : decode cX7_line 48 = .ok (.aload_n 0, 1) := by decide +kernel
theorem dX7_line_49 : decode cX7_line 49 = .ok (.iconst 0, 1) := by decide +kernel
theorem dX7_line_50 : decode cX7_line 50 = .ok (.putfield 67, 3) := by decide +kernel
theorem dX7_line_53 : decode cX7_line 53 = .ok (.iload_n 1, 1) := by decide +kernel
theorem dX7_line_54 : decode cX7_line 54 = .ok (.ireturn, 1) := by decide +kernel
set_option maxRecDepth 20000 in
theorem ggX7_change_X0_hasLine : GoodIn wsX7_change wsX0_hasLine := goodIn_r _ [8, 9, 42, 43, 44, 45] (by decide +kernel) (by decide +kernel)
set_option maxRecDepth 20000 in
theorem gX7_change_X0_hasLine : GoodIn wsX7_change (wsV RX7 79 RX0 yX0_hasLine wsX0_hasLine) := goodIn_app (goodIn_of _ (by decide +kernel)) ggX7_change_X0_hasLine
set_option maxRecDepth 20000 in
theorem ggX7_change_X0_versions : GoodIn wsX7_change wsX0_versions := goodIn_r _ [13, 14, 42, 43, 44, 45] (by decide +kernel) (by decide +kernel)
set_option maxRecDepth 20000 in
theorem gX7_change_X0_versions : GoodIn wsX7_change (wsV RX7 83 RX0 yX0_versions wsX0_versions) := goodIn_app (goodIn_of _ (by decide +kernel)) ggX7_change_X0_versions
set_option maxRecDepth 20000 in
theorem ggX7_change_X0_write : GoodIn wsX7_change wsX0_write := goodIn_r _ [18, 19, 20, 21, 22, 23, 24, 25, 26, 27, 7, 28, 14, 29, 5, 6, 8, 9, 42, 43, 44, 45] (by decide +kernel) (by decide +kernel)
set_option maxRecDepth 20000 in
theorem gX7_change_X0_write : GoodIn wsX7_change (wsV RX7 86 RX0 yX0_write wsX0_write) := goodIn_app (goodIn_of _ (by decide +kernel)) ggX7_change_X0_write
theorem dX7_change_0 : decode cX7_change 0 = .ok (.aload_n 0, 1) := by decide +kernel
theorem dX7_change_1 : decode cX7_change 1 = .ok (.getfield 10, 3) := by decide +kernel
theorem dX7_change_4 : decode cX7_change 4 = .ok (.iload_n 1, 1) := by decide +kernel
theorem dX7_change_5 : decode cX7_change 5 = .ok (.invokevirtual 79, 3) := by decide +kernel
theorem dX7_change_8 : decode cX7_change 8 = .ok (.ifCond .ne 5, 3) := by decide +kernel
theorem dX7_change_11 : decode cX7_change 11 = .ok (.iconst (-1), 1) := by decide +kernel
theorem dX7_change_12 : decode cX7_change 12 = .ok (.ireturn, 1) := by decide +kernel
theorem dX7_change_13 : decode cX7_change 13 = .ok (.aload_n 0, 1) := by decide +kernel
theorem dX7_change_14 : decode cX7_change 14 = .ok (.getfield 67, 3) := by decide +kernel
theorem dX7_change_17 : decode cX7_change 17 = .ok (.ifCond .ne 6, 3) := by decide +kernel
theorem dX7_change_20 : decode cX7_change 20 = .ok (.bipush (-5), 2) := by decide +kernel
theorem dX7_change_22 : decode cX7_change 22 = .ok (.ireturn, 1) := by decide +kernel
theorem dX7_change_23 : decode cX7_change 23 = .ok (.aload_n 0, 1) := by decide +kernel
theorem dX7_change_24 : decode cX7_change 24 = .ok (.getfield 10, 3) := by decide +kernel
theorem dX7_change_27 : decode cX7_change 27 = .ok (.aload_n 0, 1) := by decide +kernel
theorem dX7_change_28 : decode cX7_change 28 = .ok (.getfield 10, 3) := by decide +kernel
theorem dX7_change_31 : decode cX7_change 31 = .ok (.invokevirtual 83, 3) := by decide +kernel
theorem dX7_change_34 : decode cX7_change 34 = .ok (.iconst 1, 1) := by decide +kernel
theorem dX7_change_35 : decode cX7_change 35 = .ok (.isub, 1) := by decide +kernel
theorem dX7_change_36 : decode cX7_change 36 = .ok (.iload_n 1, 1) := by decide +kernel
theorem dX7_change_37 : decode cX7_change 37 = .ok (.aload_n 0, 1) := by decide +kernel
theorem dX7_change_38 : decode cX7_change 38 = .ok (.getfield 22, 3) := by decide +kernel
theorem dX7_change_41 : decode cX7_change 41 = .ok (.aload_n 0, 1) := by decide +kernel
theorem dX7_change_42 : decode cX7_change 42 = .ok (.getfield 67, 3) := by decide +kernel
theorem dX7_change_45 : decode cX7_change 45 = .ok (.invokevirtual 86, 3) := by decide +kernel
theorem dX7_change_48 : decode cX7_change 48 = .ok (.aload_n 0, 1) := by decide +kernel
theorem dX7_change_49 : decode cX7_change 49 = .ok (.iconst 0, 1) := by decide +kernel
theorem dX7_change_50 : decode cX7_change 50 = .ok (.putfield 67, 3) := by decide +kernel
theorem dX7_change_53 : decode cX7_change 53 = .ok (.iconst 1, 1) := by decide +kernel
theorem dX7_change_54 : decode cX7_change 54 = .ok (.ireturn, 1) := by decide +kernel
set_option maxRecDepth 20000 in
theorem ggX7_version_X0_versions : GoodIn wsX7_version wsX0_versions := goodIn_r _ [6, 7, 30, 31, 32, 33] (by decide +kernel) (by decide +kernel)
set_option maxRecDepth 20000 in
theorem gX7_version_X0_versions : GoodIn wsX7_version (wsV RX7 83 RX0 yX0_versions wsX0_versions) := goodIn_app (goodIn_of _ (by decide +kernel)) ggX7_version_X0_versions
set_option maxRecDepth 20000 in
theorem ggX7_version_X0_addVersion : GoodIn wsX7_version wsX0_addVersion := goodIn_r _ [11, 7, 12, 13, 14, 15, 16, 17, 30, 31, 32, 33] (by decide +kernel) (by decide +kernel)
set_option maxRecDepth 20000 in
theorem gX7_version_X0_addVersion : GoodIn wsX7_version (wsV RX7 90 RX0 yX0_addVersion wsX0_addVersion) := goodIn_app (goodIn_of _ (by decide +kernel)) ggX7_version_X0_addVersion
theorem dX7_version_0 : decode cX7_version 0 = .ok (.aload_n 0, 1) := by decide +kernel
theorem dX7_version_1 : decode cX7_version 1 = .ok (.getfield 10, 3) := by decide +kernel
theorem dX7_version_4 : decode cX7_version 4 = .ok (.invokevirtual 83, 3) := by decide +kernel
theorem dX7_version_7 : decode cX7_version 7 = .ok (.iconst 4, 1) := by decide +kernel
theorem dX7_version_8 : decode cX7_version 8 = .ok (.if_icmp .lt 6, 3) := by decide +kernel
theorem dX7_version_11 : decode cX7_version 11 = .ok (.bipush (-4), 2) := by decide +kernel
theorem dX7_version_13 : decode cX7_version 13 = .ok (.ireturn, 1) := by decide +kernel
theorem dX7_version_14 : decode cX7_version 14 = .ok (.aload_n 0, 1) := by decide +kernel
theorem dX7_version_15 : decode cX7_version 15 = .ok (.getfield 10, 3) := by decide +kernel
theorem dX7_version_18 : decode cX7_version 18 = .ok (.invokevirtual 90, 3) := by decide +kernel
theorem dX7_version_21 : decode cX7_version 21 = .ok (.aload_n 0, 1) := by decide +kernel
theorem dX7_version_22 : decode cX7_version 22 = .ok (.getfield 10, 3) := by decide +kernel
theorem dX7_version_25 : decode cX7_version 25 = .ok (.invokevirtual 83, 3) := by decide +kernel
theorem dX7_version_28 : decode cX7_version 28 = .ok (.iconst 1, 1) := by decide +kernel
theorem dX7_version_29 : decode cX7_version 29 = .ok (.isub, 1) := by decide +kernel
theorem dX7_version_30 : decode cX7_version 30 = .ok (.ireturn, 1) := by decide +kernel
set_option maxRecDepth 20000 in
theorem ggX7_sign_X0_hasVersion : GoodIn wsX7_sign wsX0_hasVersion := goodIn_r _ [6, 7, 35, 36, 37, 38] (by decide +kernel) (by decide +kernel)
set_option maxRecDepth 20000 in
theorem gX7_sign_X0_hasVersion : GoodIn wsX7_sign (wsV RX7 93 RX0 yX0_hasVersion wsX0_hasVersion) := goodIn_app (goodIn_of _ (by decide +kernel)) ggX7_sign_X0_hasVersion
set_option maxRecDepth 20000 in
theorem ggX7_sign_X0_hasLine : GoodIn wsX7_sign wsX0_hasLine := goodIn_r _ [11, 12, 35, 36, 37, 38] (by decide +kernel) (by decide +kernel)
set_option maxRecDepth 20000 in
theorem gX7_sign_X0_hasLine : GoodIn wsX7_sign (wsV RX7 79 RX0 yX0_hasLine wsX0_hasLine) := goodIn_app (goodIn_of _ (by decide +kernel)) ggX7_sign_X0_hasLine
set_option maxRecDepth 20000 in
theorem ggX7_sign_X0_sizeOf : GoodIn wsX7_sign wsX0_sizeOf := goodIn_r _ [16, 7, 12, 17, 35, 36, 37, 38] (by decide +kernel) (by decide +kernel)
set_option maxRecDepth 20000 in
theorem gX7_sign_X0_sizeOf : GoodIn wsX7_sign (wsV RX7 96 RX0 yX0_sizeOf wsX0_sizeOf) := goodIn_app (goodIn_of _ (by decide +kernel)) ggX7_sign_X0_sizeOf
set_option maxRecDepth 20000 in
theorem ggX7_sign_X0_signAt : GoodIn wsX7_sign wsX0_signAt := goodIn_r _ [21, 7, 12, 17, 22, 35, 36, 37, 38] (by decide +kernel) (by decide +kernel)
set_option maxRecDepth 20000 in
theorem gX7_sign_X0_signAt : GoodIn wsX7_sign (wsV RX7 100 RX0 yX0_signAt wsX0_signAt) := goodIn_app (goodIn_of _ (by decide +kernel)) ggX7_sign_X0_signAt
theorem dX7_sign_0 : decode cX7_sign 0 = .ok (.aload_n 0, 1) := by decide +kernel
theorem dX7_sign_1 : decode cX7_sign 1 = .ok (.getfield 10, 3) := by decide +kernel
theorem dX7_sign_4 : decode cX7_sign 4 = .ok (.iload_n 1, 1) := by decide +kernel
theorem dX7_sign_5 : decode cX7_sign 5 = .ok (.invokevirtual 93, 3) := by decide +kernel
theorem dX7_sign_8 : decode cX7_sign 8 = .ok (.ifCond .eq 14, 3) := by decide +kernel
theorem dX7_sign_11 : decode cX7_sign 11 = .ok (.aload_n 0, 1) := by decide +kernel
theorem dX7_sign_12 : decode cX7_sign 12 = .ok (.getfield 10, 3) := by decide +kernel
theorem dX7_sign_15 : decode cX7_sign 15 = .ok (.iload_n 2, 1) := by decide +kernel
theorem dX7_sign_16 : decode cX7_sign 16 = .ok (.invokevirtual 79, 3) := by decide +kernel
theorem dX7_sign_19 : decode cX7_sign 19 = .ok (.ifCond .ne 5, 3) := by decide +kernel
theorem dX7_sign_22 : decode cX7_sign 22 = .ok (.iconst (-1), 1) := by decide +kernel
theorem dX7_sign_23 : decode cX7_sign 23 = .ok (.ireturn, 1) := by decide +kernel
theorem dX7_sign_24 : decode cX7_sign 24 = .ok (.iload_n 3, 1) := by decide +kernel
theorem dX7_sign_25 : decode cX7_sign 25 = .ok (.iconst (-1), 1) := by decide +kernel
theorem dX7_sign_26 : decode cX7_sign 26 = .ok (.if_icmp .ne 13, 3) := by decide +kernel
theorem dX7_sign_29 : decode cX7_sign 29 = .ok (.aload_n 0, 1) := by decide +kernel
theorem dX7_sign_30 : decode cX7_sign 30 = .ok (.getfield 10, 3) := by decide +kernel
theorem dX7_sign_33 : decode cX7_sign 33 = .ok (.iload_n 1, 1) := by decide +kernel
theorem dX7_sign_34 : decode cX7_sign 34 = .ok (.iload_n 2, 1) := by decide +kernel
theorem dX7_sign_35 : decode cX7_sign 35 = .ok (.invokevirtual 96, 3) := by decide +kernel
theorem dX7_sign_38 : decode cX7_sign 38 = .ok (.ireturn, 1) := by decide +kernel
theorem dX7_sign_39 : decode cX7_sign 39 = .ok (.aload_n 0, 1) := by decide +kernel
theorem dX7_sign_40 : decode cX7_sign 40 = .ok (.getfield 10, 3) := by decide +kernel
theorem dX7_sign_43 : decode cX7_sign 43 = .ok (.iload_n 1, 1) := by decide +kernel
theorem dX7_sign_44 : decode cX7_sign 44 = .ok (.iload_n 2, 1) := by decide +kernel
theorem dX7_sign_45 : decode cX7_sign 45 = .ok (.iload_n 3, 1) := by decide +kernel
theorem dX7_sign_46 : decode cX7_sign 46 = .ok (.invokevirtual 100, 3) := by decide +kernel
theorem dX7_sign_49 : decode cX7_sign 49 = .ok (.istore 4, 2) := by decide +kernel
theorem dX7_sign_51 : decode cX7_sign 51 = .ok (.iload 4, 2) := by decide +kernel
theorem dX7_sign_53 : decode cX7_sign 53 = .ok (.ifCond .ne 8, 3) := by decide +kernel
theorem dX7_sign_56 : decode cX7_sign 56 = .ok (.bipush (-6), 2) := by decide +kernel
theorem dX7_sign_58 : decode cX7_sign 58 = .ok (.goto 5, 3) := by decide +kernel
theorem dX7_sign_61 : decode cX7_sign 61 = .ok (.iload 4, 2) := by decide +kernel
theorem dX7_sign_63 : decode cX7_sign 63 = .ok (.ireturn, 1) := by decide +kernel
set_option maxRecDepth 20000 in
theorem ggX7_alike_X7_isWay : GoodIn wsX7_alike wsX7_isWay := goodIn_r _ [5, 6, 7, 4, 8] (by decide +kernel) (by decide +kernel)
set_option maxRecDepth 20000 in
theorem gX7_alike_X7_isWay : GoodIn wsX7_alike (va_wsS RX7 104 yX7_isWay wsX7_isWay) := goodIn_app (goodIn_of _ (by decide +kernel)) ggX7_alike_X7_isWay
set_option maxRecDepth 20000 in
theorem ggX7_alike_X7_areRows : GoodIn wsX7_alike wsX7_areRows := goodIn_r _ [11, 12, 13, 4, 14, 6, 7, 8, 15, 16, 17] (by decide +kernel) (by decide +kernel)
set_option maxRecDepth 20000 in
theorem gX7_alike_X7_areRows : GoodIn wsX7_alike (va_wsS RX7 107 yX7_areRows wsX7_areRows) := goodIn_app (goodIn_of _ (by decide +kernel)) ggX7_alike_X7_areRows
set_option maxRecDepth 20000 in
theorem ggX7_alike_X7_refusalIn : GoodIn wsX7_alike wsX7_refusalIn := goodIn_r _ [21, 22, 23, 24, 25, 26, 27, 28, 87, 88, 89, 90, 91, 92, 93, 94, 95, 96, 97, 98, 99, 100, 101, 102] (by decide +kernel) (by decide +kernel)
set_option maxRecDepth 20000 in
theorem gX7_alike_X7_refusalIn : GoodIn wsX7_alike (wsV RX7 111 RX7 yX7_refusalIn wsX7_refusalIn) := goodIn_app (goodIn_of _ (by decide +kernel)) ggX7_alike_X7_refusalIn
set_option maxRecDepth 20000 in
theorem ggX7_alike_X2_rowsAlike : GoodIn wsX7_alike wsX2_rowsAlike := goodIn_r _ [33, 34, 35, 36, 32, 37, 38, 39, 40, 41, 42, 43, 44, 45, 26, 46, 47, 48, 49, 50, 51, 52, 53, 54, 55, 56, 57, 58, 59, 60, 61, 62, 63, 64, 65, 66, 67, 28, 68, 69, 70, 71, 72, 73, 74, 75, 76, 77, 78, 4, 79, 80, 81, 82, 83, 84, 85, 86, 103, 104, 105, 106, 107, 108, 99, 100, 101, 102, 109, 110, 111] (by decide +kernel) (by decide +kernel)
set_option maxRecDepth 20000 in
theorem gX7_alike_X2_rowsAlike : GoodIn wsX7_alike (wsV RX7 115 RX2 yX2_rowsAlike wsX2_rowsAlike) := goodIn_app (goodIn_of _ (by decide +kernel)) ggX7_alike_X2_rowsAlike
theorem dX7_alike_0 : decode cX7_alike 0 = .ok (.aload_n 0, 1) := by decide +kernel
theorem dX7_alike_1 : decode cX7_alike 1 = .ok (.iload_n 1, 1) := by decide +kernel
theorem dX7_alike_2 : decode cX7_alike 2 = .ok (.iload_n 2, 1) := by decide +kernel
theorem dX7_alike_3 : decode cX7_alike 3 = .ok (.invokestatic 104, 3) := by decide +kernel
theorem dX7_alike_6 : decode cX7_alike 6 = .ok (.ifCond .eq 18, 3) := by decide +kernel
theorem dX7_alike_9 : decode cX7_alike 9 = .ok (.iload_n 3, 1) := by decide +kernel
theorem dX7_alike_10 : decode cX7_alike 10 = .ok (.iload 4, 2) := by decide +kernel
theorem dX7_alike_12 : decode cX7_alike 12 = .ok (.iload 5, 2) := by decide +kernel
theorem dX7_alike_14 : decode cX7_alike 14 = .ok (.invokestatic 107, 3) := by decide +kernel
theorem dX7_alike_17 : decode cX7_alike 17 = .ok (.ifCond .eq 7, 3) := by decide +kernel
theorem dX7_alike_20 : decode cX7_alike 20 = .ok (.iconst 1, 1) := by decide +kernel
theorem dX7_alike_21 : decode cX7_alike 21 = .ok (.goto 4, 3) := by decide +kernel
theorem dX7_alike_24 : decode cX7_alike 24 = .ok (.iconst 0, 1) := by decide +kernel
theorem dX7_alike_25 : decode cX7_alike 25 = .ok (.invokevirtual 111, 3) := by decide +kernel
theorem dX7_alike_28 : decode cX7_alike 28 = .ok (.istore 6, 2) := by decide +kernel
theorem dX7_alike_30 : decode cX7_alike 30 = .ok (.iload 6, 2) := by decide +kernel
theorem dX7_alike_32 : decode cX7_alike 32 = .ok (.ifCond .eq 6, 3) := by decide +kernel
theorem dX7_alike_35 : decode cX7_alike 35 = .ok (.iload 6, 2) := by decide +kernel
theorem dX7_alike_37 : decode cX7_alike 37 = .ok (.ireturn, 1) := by decide +kernel
theorem dX7_alike_38 : decode cX7_alike 38 = .ok (.aload_n 0, 1) := by decide +kernel
theorem dX7_alike_39 : decode cX7_alike 39 = .ok (.getfield 31, 3) := by decide +kernel
theorem dX7_alike_42 : decode cX7_alike 42 = .ok (.iload_n 1, 1) := by decide +kernel
theorem dX7_alike_43 : decode cX7_alike 43 = .ok (.iload_n 2, 1) := by decide +kernel
theorem dX7_alike_44 : decode cX7_alike 44 = .ok (.iload_n 3, 1) := by decide +kernel
theorem dX7_alike_45 : decode cX7_alike 45 = .ok (.iload 4, 2) := by decide +kernel
theorem dX7_alike_47 : decode cX7_alike 47 = .ok (.iload 5, 2) := by decide +kernel
theorem dX7_alike_49 : decode cX7_alike 49 = .ok (.invokevirtual 115, 3) := by decide +kernel
theorem dX7_alike_52 : decode cX7_alike 52 = .ok (.ifCond .eq 7, 3) := by decide +kernel
theorem dX7_alike_55 : decode cX7_alike 55 = .ok (.iconst 1, 1) := by decide +kernel
theorem dX7_alike_56 : decode cX7_alike 56 = .ok (.goto 4, 3) := by decide +kernel
theorem dX7_alike_59 : decode cX7_alike 59 = .ok (.iconst 0, 1) := by decide +kernel
theorem dX7_alike_60 : decode cX7_alike 60 = .ok (.ireturn, 1) := by decide +kernel
set_option maxRecDepth 20000 in
theorem ggX7_longest_X7_isWay : GoodIn wsX7_longest wsX7_isWay := goodIn_r _ [5, 6, 7, 4, 8] (by decide +kernel) (by decide +kernel)
set_option maxRecDepth 20000 in
theorem gX7_longest_X7_isWay : GoodIn wsX7_longest (va_wsS RX7 104 yX7_isWay wsX7_isWay) := goodIn_app (goodIn_of _ (by decide +kernel)) ggX7_longest_X7_isWay
set_option maxRecDepth 20000 in
theorem ggX7_longest_X7_isUpTo : GoodIn wsX7_longest wsX7_isUpTo := goodIn_r _ [8] (by decide +kernel) (by decide +kernel)
set_option maxRecDepth 20000 in
theorem gX7_longest_X7_isUpTo : GoodIn wsX7_longest (va_wsS RX7 119 yX7_isUpTo wsX7_isUpTo) := goodIn_app (goodIn_of _ (by decide +kernel)) ggX7_longest_X7_isUpTo
set_option maxRecDepth 20000 in
theorem ggX7_longest_X7_refusalIn : GoodIn wsX7_longest wsX7_refusalIn := goodIn_r _ [12, 13, 14, 15, 16, 17, 18, 19, 94, 95, 96, 97, 98, 99, 100, 101, 102, 103, 104, 105, 112, 113, 114, 115] (by decide +kernel) (by decide +kernel)
set_option maxRecDepth 20000 in
theorem gX7_longest_X7_refusalIn : GoodIn wsX7_longest (wsV RX7 111 RX7 yX7_refusalIn wsX7_refusalIn) := goodIn_app (goodIn_of _ (by decide +kernel)) ggX7_longest_X7_refusalIn
set_option maxRecDepth 20000 in
theorem ggX7_longest_X2_compareAll : GoodIn wsX7_longest wsX2_compareAll := goodIn_r _ [24, 25, 26, 27, 28, 17, 29, 30, 31, 32, 33, 23, 34, 35, 36, 37, 38, 39, 40, 41, 42, 43, 44, 45, 46, 47, 48, 49, 50, 51, 52, 53, 54, 55, 56, 57, 58, 59, 19, 60, 61, 62, 63, 64, 65, 66, 67, 68, 69, 70, 4, 71, 72, 73, 74, 75, 76, 77, 78, 106, 107, 108, 109, 110, 111, 112, 113, 114, 115, 116, 117, 118] (by decide +kernel) (by decide +kernel)
set_option maxRecDepth 20000 in
theorem gX7_longest_X2_compareAll : GoodIn wsX7_longest (wsV RX7 123 RX2 yX2_compareAll wsX2_compareAll) := goodIn_app (goodIn_of _ (by decide +kernel)) ggX7_longest_X2_compareAll
set_option maxRecDepth 20000 in
theorem ggX7_longest_X2_seekLongest : GoodIn wsX7_longest wsX2_seekLongest := goodIn_r _ [82, 83, 25, 84, 85, 86, 87, 88, 89, 26, 27, 28, 17, 29, 30, 90, 91, 92, 23, 93, 35, 36, 37, 38, 39, 106, 107, 108, 109, 110, 111, 112, 113, 114, 115] (by decide +kernel) (by decide +kernel)
set_option maxRecDepth 20000 in
theorem gX7_longest_X2_seekLongest : GoodIn wsX7_longest (wsV RX7 127 RX2 yX2_seekLongest wsX2_seekLongest) := goodIn_app (goodIn_of _ (by decide +kernel)) ggX7_longest_X2_seekLongest
theorem dX7_longest_0 : decode cX7_longest 0 = .ok (.aload_n 0, 1) := by decide +kernel
theorem dX7_longest_1 : decode cX7_longest 1 = .ok (.iload_n 1, 1) := by decide +kernel
theorem dX7_longest_2 : decode cX7_longest 2 = .ok (.iload_n 2, 1) := by decide +kernel
theorem dX7_longest_3 : decode cX7_longest 3 = .ok (.invokestatic 104, 3) := by decide +kernel
theorem dX7_longest_6 : decode cX7_longest 6 = .ok (.ifCond .eq 15, 3) := by decide +kernel
theorem dX7_longest_9 : decode cX7_longest 9 = .ok (.iload_n 3, 1) := by decide +kernel
theorem dX7_longest_10 : decode cX7_longest 10 = .ok (.iconst 2, 1) := by decide +kernel
theorem dX7_longest_11 : decode cX7_longest 11 = .ok (.invokestatic 119, 3) := by decide +kernel
theorem dX7_longest_14 : decode cX7_longest 14 = .ok (.ifCond .eq 7, 3) := by decide +kernel
theorem dX7_longest_17 : decode cX7_longest 17 = .ok (.iconst 1, 1) := by decide +kernel
theorem dX7_longest_18 : decode cX7_longest 18 = .ok (.goto 4, 3) := by decide +kernel
theorem dX7_longest_21 : decode cX7_longest 21 = .ok (.iconst 0, 1) := by decide +kernel
theorem dX7_longest_22 : decode cX7_longest 22 = .ok (.invokevirtual 111, 3) := by decide +kernel
theorem dX7_longest_25 : decode cX7_longest 25 = .ok (.istore 4, 2) := by decide +kernel
theorem dX7_longest_27 : decode cX7_longest 27 = .ok (.iload 4, 2) := by decide +kernel
theorem dX7_longest_29 : decode cX7_longest 29 = .ok (.ifCond .eq 6, 3) := by decide +kernel
theorem dX7_longest_32 : decode cX7_longest 32 = .ok (.iload 4, 2) := by decide +kernel
theorem dX7_longest_34 : decode cX7_longest 34 = .ok (.ireturn, 1) := by decide +kernel
theorem dX7_longest_35 : decode cX7_longest 35 = .ok (.aload_n 0, 1) := by decide +kernel
theorem dX7_longest_36 : decode cX7_longest 36 = .ok (.getfield 31, 3) := by decide +kernel
theorem dX7_longest_39 : decode cX7_longest 39 = .ok (.iload_n 1, 1) := by decide +kernel
theorem dX7_longest_40 : decode cX7_longest 40 = .ok (.iload_n 2, 1) := by decide +kernel
theorem dX7_longest_41 : decode cX7_longest 41 = .ok (.invokevirtual 123, 3) := by decide +kernel
theorem dX7_longest_44 : decode cX7_longest 44 = .ok (.aload_n 0, 1) := by decide +kernel
theorem dX7_longest_45 : decode cX7_longest 45 = .ok (.getfield 31, 3) := by decide +kernel
theorem dX7_longest_48 : decode cX7_longest 48 = .ok (.invokevirtual 127, 3) := by decide +kernel
theorem dX7_longest_51 : decode cX7_longest 51 = .ok (.aload_n 0, 1) := by decide +kernel
theorem dX7_longest_52 : decode cX7_longest 52 = .ok (.getfield 31, 3) := by decide +kernel
theorem dX7_longest_55 : decode cX7_longest 55 = .ok (.getfield 130, 3) := by decide +kernel
theorem dX7_longest_58 : decode cX7_longest 58 = .ok (.ifCond .ne 6, 3) := by decide +kernel
theorem dX7_longest_61 : decode cX7_longest 61 = .ok (.bipush (-6), 2) := by decide +kernel
theorem dX7_longest_63 : decode cX7_longest 63 = .ok (.ireturn, 1) := by decide +kernel
theorem dX7_longest_64 : decode cX7_longest 64 = .ok (.iload_n 3, 1) := by decide +kernel
theorem dX7_longest_65 : decode cX7_longest 65 = .ok (.ifCond .ne 11, 3) := by decide +kernel
theorem dX7_longest_68 : decode cX7_longest 68 = .ok (.aload_n 0, 1) := by decide +kernel
theorem dX7_longest_69 : decode cX7_longest 69 = .ok (.getfield 31, 3) := by decide +kernel
theorem dX7_longest_72 : decode cX7_longest 72 = .ok (.getfield 130, 3) := by decide +kernel
theorem dX7_longest_75 : decode cX7_longest 75 = .ok (.ireturn, 1) := by decide +kernel
theorem dX7_longest_76 : decode cX7_longest 76 = .ok (.iload_n 3, 1) := by decide +kernel
theorem dX7_longest_77 : decode cX7_longest 77 = .ok (.iconst 1, 1) := by decide +kernel
theorem dX7_longest_78 : decode cX7_longest 78 = .ok (.if_icmp .ne 13, 3) := by decide +kernel
theorem dX7_longest_81 : decode cX7_longest 81 = .ok (.aload_n 0, 1) := by decide +kernel
theorem dX7_longest_82 : decode cX7_longest 82 = .ok (.getfield 31, 3) := by decide +kernel
theorem dX7_longest_85 : decode cX7_longest 85 = .ok (.getfield 133, 3) := by decide +kernel
theorem dX7_longest_88 : decode cX7_longest 88 = .ok (.goto 10, 3) := by decide +kernel
theorem dX7_longest_91 : decode cX7_longest 91 = .ok (.aload_n 0, 1) := by decide +kernel
theorem dX7_longest_92 : decode cX7_longest 92 = .ok (.getfield 31, 3) := by decide +kernel
theorem dX7_longest_95 : decode cX7_longest 95 = .ok (.getfield 136, 3) := by decide +kernel
theorem dX7_longest_98 : decode cX7_longest 98 = .ok (.ireturn, 1) := by decide +kernel
set_option maxRecDepth 20000 in
theorem ggX7_like_X7_isWay : GoodIn wsX7_like wsX7_isWay := goodIn_r _ [5, 6, 7, 4, 8] (by decide +kernel) (by decide +kernel)
set_option maxRecDepth 20000 in
theorem gX7_like_X7_isWay : GoodIn wsX7_like (va_wsS RX7 104 yX7_isWay wsX7_isWay) := goodIn_app (goodIn_of _ (by decide +kernel)) ggX7_like_X7_isWay
set_option maxRecDepth 20000 in
theorem ggX7_like_X7_isStart : GoodIn wsX7_like wsX7_isStart := goodIn_r _ [11, 6, 7, 4, 8] (by decide +kernel) (by decide +kernel)
set_option maxRecDepth 20000 in
theorem gX7_like_X7_isStart : GoodIn wsX7_like (va_wsS RX7 139 yX7_isStart wsX7_isStart) := goodIn_app (goodIn_of _ (by decide +kernel)) ggX7_like_X7_isStart
set_option maxRecDepth 20000 in
theorem ggX7_like_X7_isLength : GoodIn wsX7_like wsX7_isLength := goodIn_r _ [14] (by decide +kernel) (by decide +kernel)
set_option maxRecDepth 20000 in
theorem gX7_like_X7_isLength : GoodIn wsX7_like (va_wsS RX7 142 yX7_isLength wsX7_isLength) := goodIn_app (goodIn_of _ (by decide +kernel)) ggX7_like_X7_isLength
set_option maxRecDepth 20000 in
theorem ggX7_like_X7_refusalIn : GoodIn wsX7_like wsX7_refusalIn := goodIn_r _ [18, 19, 20, 21, 22, 23, 24, 25, 93, 94, 95, 96, 97, 98, 99, 100, 101, 102, 103, 104, 105, 106, 107, 108] (by decide +kernel) (by decide +kernel)
set_option maxRecDepth 20000 in
theorem gX7_like_X7_refusalIn : GoodIn wsX7_like (wsV RX7 111 RX7 yX7_refusalIn wsX7_refusalIn) := goodIn_app (goodIn_of _ (by decide +kernel)) ggX7_like_X7_refusalIn
set_option maxRecDepth 20000 in
theorem ggX7_like_X2_compareAll : GoodIn wsX7_like wsX2_compareAll := goodIn_r _ [30, 31, 32, 33, 34, 23, 35, 36, 37, 38, 39, 29, 40, 41, 42, 43, 44, 45, 46, 47, 48, 49, 50, 51, 52, 53, 54, 55, 56, 57, 58, 59, 60, 61, 62, 63, 64, 65, 25, 66, 67, 68, 69, 70, 71, 72, 73, 74, 75, 76, 4, 77, 78, 79, 80, 81, 82, 83, 84, 109, 110, 111, 112, 113, 114, 105, 106, 107, 108, 115, 116, 117] (by decide +kernel) (by decide +kernel)
set_option maxRecDepth 20000 in
theorem gX7_like_X2_compareAll : GoodIn wsX7_like (wsV RX7 123 RX2 yX2_compareAll wsX2_compareAll) := goodIn_app (goodIn_of _ (by decide +kernel)) ggX7_like_X2_compareAll
set_option maxRecDepth 20000 in
theorem ggX7_like_X2_startsLike : GoodIn wsX7_like wsX2_startsLike := goodIn_r _ [88, 31, 32, 33, 34, 23, 35, 36, 89, 90, 91, 29, 92, 41, 42, 43, 44, 45, 109, 110, 111, 112, 113, 114, 105, 106, 107, 108] (by decide +kernel) (by decide +kernel)
set_option maxRecDepth 20000 in
theorem gX7_like_X2_startsLike : GoodIn wsX7_like (wsV RX7 145 RX2 yX2_startsLike wsX2_startsLike) := goodIn_app (goodIn_of _ (by decide +kernel)) ggX7_like_X2_startsLike
theorem dX7_like_0 : decode cX7_like 0 = .ok (.aload_n 0, 1) := by decide +kernel
theorem dX7_like_1 : decode cX7_like 1 = .ok (.iload_n 1, 1) := by decide +kernel
theorem dX7_like_2 : decode cX7_like 2 = .ok (.iload_n 2, 1) := by decide +kernel
theorem dX7_like_3 : decode cX7_like 3 = .ok (.invokestatic 104, 3) := by decide +kernel
theorem dX7_like_6 : decode cX7_like 6 = .ok (.ifCond .eq 22, 3) := by decide +kernel
theorem dX7_like_9 : decode cX7_like 9 = .ok (.iload_n 3, 1) := by decide +kernel
theorem dX7_like_10 : decode cX7_like 10 = .ok (.invokestatic 139, 3) := by decide +kernel
theorem dX7_like_13 : decode cX7_like 13 = .ok (.ifCond .eq 15, 3) := by decide +kernel
theorem dX7_like_16 : decode cX7_like 16 = .ok (.iload 4, 2) := by decide +kernel
theorem dX7_like_18 : decode cX7_like 18 = .ok (.invokestatic 142, 3) := by decide +kernel
theorem dX7_like_21 : decode cX7_like 21 = .ok (.ifCond .eq 7, 3) := by decide +kernel
theorem dX7_like_24 : decode cX7_like 24 = .ok (.iconst 1, 1) := by decide +kernel
theorem dX7_like_25 : decode cX7_like 25 = .ok (.goto 4, 3) := by decide +kernel
theorem dX7_like_28 : decode cX7_like 28 = .ok (.iconst 0, 1) := by decide +kernel
theorem dX7_like_29 : decode cX7_like 29 = .ok (.invokevirtual 111, 3) := by decide +kernel
theorem dX7_like_32 : decode cX7_like 32 = .ok (.istore 5, 2) := by decide +kernel
theorem dX7_like_34 : decode cX7_like 34 = .ok (.iload 5, 2) := by decide +kernel
theorem dX7_like_36 : decode cX7_like 36 = .ok (.ifCond .eq 6, 3) := by decide +kernel
theorem dX7_like_39 : decode cX7_like 39 = .ok (.iload 5, 2) := by decide +kernel
theorem dX7_like_41 : decode cX7_like 41 = .ok (.ireturn, 1) := by decide +kernel
theorem dX7_like_42 : decode cX7_like 42 = .ok (.aload_n 0, 1) := by decide +kernel
theorem dX7_like_43 : decode cX7_like 43 = .ok (.getfield 31, 3) := by decide +kernel
theorem dX7_like_46 : decode cX7_like 46 = .ok (.iload_n 1, 1) := by decide +kernel
theorem dX7_like_47 : decode cX7_like 47 = .ok (.iload_n 2, 1) := by decide +kernel
theorem dX7_like_48 : decode cX7_like 48 = .ok (.invokevirtual 123, 3) := by decide +kernel
theorem dX7_like_51 : decode cX7_like 51 = .ok (.aload_n 0, 1) := by decide +kernel
theorem dX7_like_52 : decode cX7_like 52 = .ok (.getfield 31, 3) := by decide +kernel
theorem dX7_like_55 : decode cX7_like 55 = .ok (.iload_n 3, 1) := by decide +kernel
theorem dX7_like_56 : decode cX7_like 56 = .ok (.iload 4, 2) := by decide +kernel
theorem dX7_like_58 : decode cX7_like 58 = .ok (.invokevirtual 145, 3) := by decide +kernel
theorem dX7_like_61 : decode cX7_like 61 = .ok (.ireturn, 1) := by decide +kernel
set_option maxRecDepth 20000 in
theorem ggX7_groups_X7_isWay : GoodIn wsX7_groups wsX7_isWay := goodIn_r _ [6, 7, 8, 5, 9] (by decide +kernel) (by decide +kernel)
set_option maxRecDepth 20000 in
theorem gX7_groups_X7_isWay : GoodIn wsX7_groups (va_wsS RX7 104 yX7_isWay wsX7_isWay) := goodIn_app (goodIn_of _ (by decide +kernel)) ggX7_groups_X7_isWay
set_option maxRecDepth 20000 in
theorem ggX7_groups_X7_isLength : GoodIn wsX7_groups wsX7_isLength := goodIn_r _ [12] (by decide +kernel) (by decide +kernel)
set_option maxRecDepth 20000 in
theorem gX7_groups_X7_isLength : GoodIn wsX7_groups (va_wsS RX7 142 yX7_isLength wsX7_isLength) := goodIn_app (goodIn_of _ (by decide +kernel)) ggX7_groups_X7_isLength
set_option maxRecDepth 20000 in
theorem ggX7_groups_X7_refusalIn : GoodIn wsX7_groups wsX7_refusalIn := goodIn_r _ [16, 2, 17, 18, 19, 20, 21, 22, 105, 106, 107, 108, 109, 110, 111, 112, 113, 114, 115, 116, 117, 118, 119, 120] (by decide +kernel) (by decide +kernel)
set_option maxRecDepth 20000 in
theorem gX7_groups_X7_refusalIn : GoodIn wsX7_groups (wsV RX7 111 RX7 yX7_refusalIn wsX7_refusalIn) := goodIn_app (goodIn_of _ (by decide +kernel)) ggX7_groups_X7_refusalIn
set_option maxRecDepth 20000 in
theorem ggX7_groups_X2_compareAll : GoodIn wsX7_groups wsX2_compareAll := goodIn_r _ [27, 28, 29, 30, 31, 20, 32, 33, 34, 35, 36, 26, 37, 38, 39, 40, 41, 42, 43, 44, 45, 46, 47, 48, 49, 50, 51, 52, 53, 54, 55, 56, 57, 58, 59, 60, 61, 62, 22, 63, 64, 65, 66, 67, 68, 69, 70, 71, 72, 73, 5, 74, 75, 76, 77, 78, 79, 80, 81, 121, 122, 123, 124, 125, 126, 117, 118, 119, 120, 127, 128, 129] (by decide +kernel) (by decide +kernel)
set_option maxRecDepth 20000 in
theorem gX7_groups_X2_compareAll : GoodIn wsX7_groups (wsV RX7 123 RX2 yX2_compareAll wsX2_compareAll) := goodIn_app (goodIn_of _ (by decide +kernel)) ggX7_groups_X2_compareAll
set_option maxRecDepth 20000 in
theorem ggX7_groups_X0_lines : GoodIn wsX7_groups wsX0_lines := goodIn_r _ [32, 33, 117, 118, 119, 120] (by decide +kernel) (by decide +kernel)
set_option maxRecDepth 20000 in
theorem gX7_groups_X0_lines : GoodIn wsX7_groups (wsV RX7 71 RX0 yX0_lines wsX0_lines) := goodIn_app (goodIn_of _ (by decide +kernel)) ggX7_groups_X0_lines
set_option maxRecDepth 20000 in
theorem ggX7_groups_X2_isLeastOfGroup : GoodIn wsX7_groups wsX2_isLeastOfGroup := goodIn_r _ [86, 87, 88, 89, 26, 90, 28, 29, 30, 31, 20, 32, 33, 91, 92, 93, 94, 38, 39, 40, 41, 42, 95, 96, 97, 98, 99, 100, 101, 102, 103, 104, 121, 122, 123, 124, 125, 126, 117, 118, 119, 120] (by decide +kernel) (by decide +kernel)
set_option maxRecDepth 20000 in
theorem gX7_groups_X2_isLeastOfGroup : GoodIn wsX7_groups (wsV RX7 148 RX2 yX2_isLeastOfGroup wsX2_isLeastOfGroup) := goodIn_app (goodIn_of _ (by decide +kernel)) ggX7_groups_X2_isLeastOfGroup
theorem dX7_groups_0 : decode cX7_groups 0 = .ok (.aload_n 0, 1) := by decide +kernel
theorem dX7_groups_1 : decode cX7_groups 1 = .ok (.iload_n 1, 1) := by decide +kernel
theorem dX7_groups_2 : decode cX7_groups 2 = .ok (.iload_n 2, 1) := by decide +kernel
theorem dX7_groups_3 : decode cX7_groups 3 = .ok (.invokestatic 104, 3) := by decide +kernel
theorem dX7_groups_6 : decode cX7_groups 6 = .ok (.ifCond .eq 14, 3) := by decide +kernel
theorem dX7_groups_9 : decode cX7_groups 9 = .ok (.iload_n 3, 1) := by decide +kernel
theorem dX7_groups_10 : decode cX7_groups 10 = .ok (.invokestatic 142, 3) := by decide +kernel
theorem dX7_groups_13 : decode cX7_groups 13 = .ok (.ifCond .eq 7, 3) := by decide +kernel
theorem dX7_groups_16 : decode cX7_groups 16 = .ok (.iconst 1, 1) := by decide +kernel
theorem dX7_groups_17 : decode cX7_groups 17 = .ok (.goto 4, 3) := by decide +kernel
theorem dX7_groups_20 : decode cX7_groups 20 = .ok (.iconst 0, 1) := by decide +kernel
theorem dX7_groups_21 : decode cX7_groups 21 = .ok (.invokevirtual 111, 3) := by decide +kernel
theorem dX7_groups_24 : decode cX7_groups 24 = .ok (.istore 5, 2) := by decide +kernel
theorem dX7_groups_26 : decode cX7_groups 26 = .ok (.iload 5, 2) := by decide +kernel
theorem dX7_groups_28 : decode cX7_groups 28 = .ok (.ifCond .eq 6, 3) := by decide +kernel
theorem dX7_groups_31 : decode cX7_groups 31 = .ok (.iload 5, 2) := by decide +kernel
theorem dX7_groups_33 : decode cX7_groups 33 = .ok (.ireturn, 1) := by decide +kernel
theorem dX7_groups_34 : decode cX7_groups 34 = .ok (.aload_n 0, 1) := by decide +kernel
theorem dX7_groups_35 : decode cX7_groups 35 = .ok (.getfield 31, 3) := by decide +kernel
theorem dX7_groups_38 : decode cX7_groups 38 = .ok (.iload_n 1, 1) := by decide +kernel
theorem dX7_groups_39 : decode cX7_groups 39 = .ok (.iload_n 2, 1) := by decide +kernel
theorem dX7_groups_40 : decode cX7_groups 40 = .ok (.invokevirtual 123, 3) := by decide +kernel
theorem dX7_groups_43 : decode cX7_groups 43 = .ok (.iconst 0, 1) := by decide +kernel
theorem dX7_groups_44 : decode cX7_groups 44 = .ok (.istore 6, 2) := by decide +kernel
theorem dX7_groups_46 : decode cX7_groups 46 = .ok (.iconst 0, 1) := by decide +kernel
theorem dX7_groups_47 : decode cX7_groups 47 = .ok (.istore 7, 2) := by decide +kernel
theorem dX7_groups_49 : decode cX7_groups 49 = .ok (.iload 7, 2) := by decide +kernel
theorem dX7_groups_51 : decode cX7_groups 51 = .ok (.aload_n 0, 1) := by decide +kernel
theorem dX7_groups_52 : decode cX7_groups 52 = .ok (.getfield 10, 3) := by decide +kernel
theorem dX7_groups_55 : decode cX7_groups 55 = .ok (.invokevirtual 71, 3) := by decide +kernel
theorem dX7_groups_58 : decode cX7_groups 58 = .ok (.if_icmp .ge 35, 3) := by decide +kernel
theorem dX7_groups_61 : decode cX7_groups 61 = .ok (.aload_n 0, 1) := by decide +kernel
theorem dX7_groups_62 : decode cX7_groups 62 = .ok (.getfield 31, 3) := by decide +kernel
theorem dX7_groups_65 : decode cX7_groups 65 = .ok (.iload 7, 2) := by decide +kernel
theorem dX7_groups_67 : decode cX7_groups 67 = .ok (.iload_n 3, 1) := by decide +kernel
theorem dX7_groups_68 : decode cX7_groups 68 = .ok (.invokevirtual 148, 3) := by decide +kernel
theorem dX7_groups_71 : decode cX7_groups 71 = .ok (.ifCond .eq 16, 3) := by decide +kernel
theorem dX7_groups_74 : decode cX7_groups 74 = .ok (.iload 6, 2) := by decide +kernel
theorem dX7_groups_76 : decode cX7_groups 76 = .ok (.iload 4, 2) := by decide +kernel
theorem dX7_groups_78 : decode cX7_groups 78 = .ok (.if_icmp .ne 6, 3) := by decide +kernel
theorem dX7_groups_81 : decode cX7_groups 81 = .ok (.iload 7, 2) := by decide +kernel
theorem dX7_groups_83 : decode cX7_groups 83 = .ok (.ireturn, 1) := by decide +kernel
theorem dX7_groups_84 : decode cX7_groups 84 = .ok (.iinc 6 1, 3) := by decide +kernel
theorem dX7_groups_87 : decode cX7_groups 87 = .ok (.iinc 7 1, 3) := by decide +kernel
theorem dX7_groups_90 : decode cX7_groups 90 = .ok (.goto (-41), 3) := by decide +kernel
theorem dX7_groups_93 : decode cX7_groups 93 = .ok (.iload 4, 2) := by decide +kernel
theorem dX7_groups_95 : decode cX7_groups 95 = .ok (.iconst (-1), 1) := by decide +kernel
theorem dX7_groups_96 : decode cX7_groups 96 = .ok (.if_icmp .ne 8, 3) := by decide +kernel
theorem dX7_groups_99 : decode cX7_groups 99 = .ok (.iload 6, 2) := by decide +kernel
theorem dX7_groups_101 : decode cX7_groups 101 = .ok (.goto 5, 3) := by decide +kernel
theorem dX7_groups_104 : decode cX7_groups 104 = .ok (.bipush (-6), 2) := by decide +kernel
theorem dX7_groups_106 : decode cX7_groups 106 = .ok (.ireturn, 1) := by decide +kernel
set_option maxRecDepth 20000 in
theorem ggX7_whole_X7_isWay : GoodIn wsX7_whole wsX7_isWay := goodIn_r _ [5, 6, 7, 4, 8] (by decide +kernel) (by decide +kernel)
set_option maxRecDepth 20000 in
theorem gX7_whole_X7_isWay : GoodIn wsX7_whole (va_wsS RX7 104 yX7_isWay wsX7_isWay) := goodIn_app (goodIn_of _ (by decide +kernel)) ggX7_whole_X7_isWay
set_option maxRecDepth 20000 in
theorem ggX7_whole_X7_isStart : GoodIn wsX7_whole wsX7_isStart := goodIn_r _ [11, 6, 7, 4, 8] (by decide +kernel) (by decide +kernel)
set_option maxRecDepth 20000 in
theorem gX7_whole_X7_isStart : GoodIn wsX7_whole (va_wsS RX7 139 yX7_isStart wsX7_isStart) := goodIn_app (goodIn_of _ (by decide +kernel)) ggX7_whole_X7_isStart
set_option maxRecDepth 20000 in
theorem ggX7_whole_X7_isLength : GoodIn wsX7_whole wsX7_isLength := goodIn_r _ [14] (by decide +kernel) (by decide +kernel)
set_option maxRecDepth 20000 in
theorem gX7_whole_X7_isLength : GoodIn wsX7_whole (va_wsS RX7 142 yX7_isLength wsX7_isLength) := goodIn_app (goodIn_of _ (by decide +kernel)) ggX7_whole_X7_isLength
set_option maxRecDepth 20000 in
theorem ggX7_whole_X7_refusalIn : GoodIn wsX7_whole wsX7_refusalIn := goodIn_r _ [18, 19, 20, 21, 22, 23, 24, 25, 108, 109, 110, 111, 112, 113, 114, 115, 116, 117, 118, 119, 120, 121, 122, 123] (by decide +kernel) (by decide +kernel)
set_option maxRecDepth 20000 in
theorem gX7_whole_X7_refusalIn : GoodIn wsX7_whole (wsV RX7 111 RX7 yX7_refusalIn wsX7_refusalIn) := goodIn_app (goodIn_of _ (by decide +kernel)) ggX7_whole_X7_refusalIn
set_option maxRecDepth 20000 in
theorem ggX7_whole_X2_compareAll : GoodIn wsX7_whole wsX2_compareAll := goodIn_r _ [30, 31, 32, 33, 34, 23, 35, 36, 37, 38, 39, 29, 40, 41, 42, 43, 44, 45, 46, 47, 48, 49, 50, 51, 52, 53, 54, 55, 56, 57, 58, 59, 60, 61, 62, 63, 64, 65, 25, 66, 67, 68, 69, 70, 71, 72, 73, 74, 75, 76, 4, 77, 78, 79, 80, 81, 82, 83, 84, 124, 125, 126, 127, 128, 129, 120, 121, 122, 123, 130, 131, 132] (by decide +kernel) (by decide +kernel)
set_option maxRecDepth 20000 in
theorem gX7_whole_X2_compareAll : GoodIn wsX7_whole (wsV RX7 123 RX2 yX2_compareAll wsX2_compareAll) := goodIn_app (goodIn_of _ (by decide +kernel)) ggX7_whole_X2_compareAll
set_option maxRecDepth 20000 in
theorem ggX7_whole_X2_startsLike : GoodIn wsX7_whole wsX2_startsLike := goodIn_r _ [88, 31, 32, 33, 34, 23, 35, 36, 89, 90, 91, 29, 92, 41, 42, 43, 44, 45, 124, 125, 126, 127, 128, 129, 120, 121, 122, 123] (by decide +kernel) (by decide +kernel)
set_option maxRecDepth 20000 in
theorem gX7_whole_X2_startsLike : GoodIn wsX7_whole (wsV RX7 145 RX2 yX2_startsLike wsX2_startsLike) := goodIn_app (goodIn_of _ (by decide +kernel)) ggX7_whole_X2_startsLike
set_option maxRecDepth 20000 in
theorem ggX7_whole_J6_bitCount_0f7a4 : GoodIn wsX7_whole wsJ6_bitCount_0f7a4 := goodIn_r _ [96, 97, 98, 99] (by decide +kernel) (by decide +kernel)
set_option maxRecDepth 20000 in
theorem gX7_whole_J6_bitCount_0f7a4 : GoodIn wsX7_whole (va_wsS RX7 151 yJ6_bitCount_0f7a4 wsJ6_bitCount_0f7a4) := goodIn_app (goodIn_of _ (by decide +kernel)) ggX7_whole_J6_bitCount_0f7a4
set_option maxRecDepth 20000 in
theorem ggX7_whole_X2_isWithinLonger : GoodIn wsX7_whole wsX2_isWithinLonger := goodIn_r _ [103, 104, 105, 29, 106, 107, 86, 87, 88, 31, 32, 33, 34, 23, 35, 36, 89, 90, 91, 92, 41, 42, 43, 44, 45, 124, 125, 126, 127, 128, 129, 120, 121, 122, 123] (by decide +kernel) (by decide +kernel)
set_option maxRecDepth 20000 in
theorem gX7_whole_X2_isWithinLonger : GoodIn wsX7_whole (wsV RX7 157 RX2 yX2_isWithinLonger wsX2_isWithinLonger) := goodIn_app (goodIn_of _ (by decide +kernel)) ggX7_whole_X2_isWithinLonger
theorem dX7_whole_0 : decode cX7_whole 0 = .ok (.aload_n 0, 1) := by decide +kernel
theorem dX7_whole_1 : decode cX7_whole 1 = .ok (.iload_n 1, 1) := by decide +kernel
theorem dX7_whole_2 : decode cX7_whole 2 = .ok (.iload_n 2, 1) := by decide +kernel
theorem dX7_whole_3 : decode cX7_whole 3 = .ok (.invokestatic 104, 3) := by decide +kernel
theorem dX7_whole_6 : decode cX7_whole 6 = .ok (.ifCond .eq 22, 3) := by decide +kernel
theorem dX7_whole_9 : decode cX7_whole 9 = .ok (.iload_n 3, 1) := by decide +kernel
theorem dX7_whole_10 : decode cX7_whole 10 = .ok (.invokestatic 139, 3) := by decide +kernel
theorem dX7_whole_13 : decode cX7_whole 13 = .ok (.ifCond .eq 15, 3) := by decide +kernel
theorem dX7_whole_16 : decode cX7_whole 16 = .ok (.iload 4, 2) := by decide +kernel
theorem dX7_whole_18 : decode cX7_whole 18 = .ok (.invokestatic 142, 3) := by decide +kernel
theorem dX7_whole_21 : decode cX7_whole 21 = .ok (.ifCond .eq 7, 3) := by decide +kernel
theorem dX7_whole_24 : decode cX7_whole 24 = .ok (.iconst 1, 1) := by decide +kernel
theorem dX7_whole_25 : decode cX7_whole 25 = .ok (.goto 4, 3) := by decide +kernel
theorem dX7_whole_28 : decode cX7_whole 28 = .ok (.iconst 0, 1) := by decide +kernel
theorem dX7_whole_29 : decode cX7_whole 29 = .ok (.invokevirtual 111, 3) := by decide +kernel
theorem dX7_whole_32 : decode cX7_whole 32 = .ok (.istore 5, 2) := by decide +kernel
theorem dX7_whole_34 : decode cX7_whole 34 = .ok (.iload 5, 2) := by decide +kernel
theorem dX7_whole_36 : decode cX7_whole 36 = .ok (.ifCond .eq 6, 3) := by decide +kernel
theorem dX7_whole_39 : decode cX7_whole 39 = .ok (.iload 5, 2) := by decide +kernel
theorem dX7_whole_41 : decode cX7_whole 41 = .ok (.ireturn, 1) := by decide +kernel
theorem dX7_whole_42 : decode cX7_whole 42 = .ok (.aload_n 0, 1) := by decide +kernel
theorem dX7_whole_43 : decode cX7_whole 43 = .ok (.getfield 31, 3) := by decide +kernel
theorem dX7_whole_46 : decode cX7_whole 46 = .ok (.iload_n 1, 1) := by decide +kernel
theorem dX7_whole_47 : decode cX7_whole 47 = .ok (.iload_n 2, 1) := by decide +kernel
theorem dX7_whole_48 : decode cX7_whole 48 = .ok (.invokevirtual 123, 3) := by decide +kernel
theorem dX7_whole_51 : decode cX7_whole 51 = .ok (.aload_n 0, 1) := by decide +kernel
theorem dX7_whole_52 : decode cX7_whole 52 = .ok (.getfield 31, 3) := by decide +kernel
theorem dX7_whole_55 : decode cX7_whole 55 = .ok (.iload_n 3, 1) := by decide +kernel
theorem dX7_whole_56 : decode cX7_whole 56 = .ok (.iload 4, 2) := by decide +kernel
theorem dX7_whole_58 : decode cX7_whole 58 = .ok (.invokevirtual 145, 3) := by decide +kernel
theorem dX7_whole_61 : decode cX7_whole 61 = .ok (.istore 6, 2) := by decide +kernel
theorem dX7_whole_63 : decode cX7_whole 63 = .ok (.iload 6, 2) := by decide +kernel
theorem dX7_whole_65 : decode cX7_whole 65 = .ok (.invokestatic 151, 3) := by decide +kernel
theorem dX7_whole_68 : decode cX7_whole 68 = .ok (.iconst 2, 1) := by decide +kernel
theorem dX7_whole_69 : decode cX7_whole 69 = .ok (.if_icmp .ge 6, 3) := by decide +kernel
theorem dX7_whole_72 : decode cX7_whole 72 = .ok (.bipush (-5), 2) := by decide +kernel
theorem dX7_whole_74 : decode cX7_whole 74 = .ok (.ireturn, 1) := by decide +kernel
theorem dX7_whole_75 : decode cX7_whole 75 = .ok (.aload_n 0, 1) := by decide +kernel
theorem dX7_whole_76 : decode cX7_whole 76 = .ok (.getfield 31, 3) := by decide +kernel
theorem dX7_whole_79 : decode cX7_whole 79 = .ok (.iload 6, 2) := by decide +kernel
theorem dX7_whole_81 : decode cX7_whole 81 = .ok (.iload 4, 2) := by decide +kernel
theorem dX7_whole_83 : decode cX7_whole 83 = .ok (.invokevirtual 157, 3) := by decide +kernel
theorem dX7_whole_86 : decode cX7_whole 86 = .ok (.ifCond .eq 7, 3) := by decide +kernel
theorem dX7_whole_89 : decode cX7_whole 89 = .ok (.iconst 0, 1) := by decide +kernel
theorem dX7_whole_90 : decode cX7_whole 90 = .ok (.goto 4, 3) := by decide +kernel
theorem dX7_whole_93 : decode cX7_whole 93 = .ok (.iconst 1, 1) := by decide +kernel
theorem dX7_whole_94 : decode cX7_whole 94 = .ok (.ireturn, 1) := by decide +kernel
set_option maxRecDepth 20000 in
theorem ggX7_pulled_X7_isWay : GoodIn wsX7_pulled wsX7_isWay := goodIn_r _ [6, 7, 8, 5, 9] (by decide +kernel) (by decide +kernel)
set_option maxRecDepth 20000 in
theorem gX7_pulled_X7_isWay : GoodIn wsX7_pulled (va_wsS RX7 104 yX7_isWay wsX7_isWay) := goodIn_app (goodIn_of _ (by decide +kernel)) ggX7_pulled_X7_isWay
set_option maxRecDepth 20000 in
theorem ggX7_pulled_X7_isStart : GoodIn wsX7_pulled wsX7_isStart := goodIn_r _ [12, 7, 8, 5, 9] (by decide +kernel) (by decide +kernel)
set_option maxRecDepth 20000 in
theorem gX7_pulled_X7_isStart : GoodIn wsX7_pulled (va_wsS RX7 139 yX7_isStart wsX7_isStart) := goodIn_app (goodIn_of _ (by decide +kernel)) ggX7_pulled_X7_isStart
set_option maxRecDepth 20000 in
theorem ggX7_pulled_X7_isLength : GoodIn wsX7_pulled wsX7_isLength := goodIn_r _ [15] (by decide +kernel) (by decide +kernel)
set_option maxRecDepth 20000 in
theorem gX7_pulled_X7_isLength : GoodIn wsX7_pulled (va_wsS RX7 142 yX7_isLength wsX7_isLength) := goodIn_app (goodIn_of _ (by decide +kernel)) ggX7_pulled_X7_isLength
set_option maxRecDepth 20000 in
theorem ggX7_pulled_X7_isUpTo : GoodIn wsX7_pulled wsX7_isUpTo := goodIn_r _ [9] (by decide +kernel) (by decide +kernel)
set_option maxRecDepth 20000 in
theorem gX7_pulled_X7_isUpTo : GoodIn wsX7_pulled (va_wsS RX7 119 yX7_isUpTo wsX7_isUpTo) := goodIn_app (goodIn_of _ (by decide +kernel)) ggX7_pulled_X7_isUpTo
set_option maxRecDepth 20000 in
theorem ggX7_pulled_X7_refusalIn : GoodIn wsX7_pulled wsX7_refusalIn := goodIn_r _ [19, 20, 21, 22, 23, 24, 25, 26, 134, 135, 136, 137, 138, 139, 140, 141, 142, 143, 144, 145, 155, 156, 157, 158] (by decide +kernel) (by decide +kernel)
set_option maxRecDepth 20000 in
theorem gX7_pulled_X7_refusalIn : GoodIn wsX7_pulled (wsV RX7 111 RX7 yX7_refusalIn wsX7_refusalIn) := goodIn_app (goodIn_of _ (by decide +kernel)) ggX7_pulled_X7_refusalIn
set_option maxRecDepth 20000 in
theorem ggX7_pulled_X2_compareAll : GoodIn wsX7_pulled wsX2_compareAll := goodIn_r _ [31, 32, 33, 34, 35, 24, 36, 37, 38, 39, 40, 30, 41, 42, 43, 44, 45, 46, 47, 48, 49, 50, 51, 52, 53, 54, 55, 56, 57, 58, 59, 60, 61, 62, 63, 64, 65, 66, 26, 67, 68, 69, 70, 71, 72, 73, 74, 75, 76, 77, 5, 78, 79, 80, 81, 82, 83, 84, 85, 159, 160, 161, 162, 163, 164, 155, 156, 157, 158, 165, 166, 167] (by decide +kernel) (by decide +kernel)
set_option maxRecDepth 20000 in
theorem gX7_pulled_X2_compareAll : GoodIn wsX7_pulled (wsV RX7 123 RX2 yX2_compareAll wsX2_compareAll) := goodIn_app (goodIn_of _ (by decide +kernel)) ggX7_pulled_X2_compareAll
set_option maxRecDepth 20000 in
theorem ggX7_pulled_X5_pullOut : GoodIn wsX7_pulled wsX5_pullOut := goodIn_r _ [90, 91, 92, 93, 94, 95, 96, 97, 98, 30, 99, 32, 33, 34, 35, 24, 36, 37, 100, 101, 102, 103, 42, 43, 44, 45, 46, 104, 105, 106, 89, 107, 108, 109, 110, 111, 112, 113, 114, 115, 116, 117, 118, 119, 120, 64, 65, 66, 26, 67, 121, 122, 123, 124, 125, 69, 70, 71, 72, 126, 127, 128, 129, 130, 131, 132, 133, 146, 147, 148, 149, 150, 151, 152, 153, 154, 159, 160, 161, 162, 163, 164, 155, 156, 157, 158] (by decide +kernel) (by decide +kernel)
set_option maxRecDepth 20000 in
theorem gX7_pulled_X5_pullOut : GoodIn wsX7_pulled (wsV RX7 160 RX5 yX5_pullOut wsX5_pullOut) := goodIn_app (goodIn_of _ (by decide +kernel)) ggX7_pulled_X5_pullOut
theorem dX7_pulled_0 : decode cX7_pulled 0 = .ok (.iload_n 2, 1) := by decide +kernel
theorem dX7_pulled_1 : decode cX7_pulled 1 = .ok (.invokestatic 104, 3) := by decide +kernel
theorem dX7_pulled_4 : decode cX7_pulled 4 = .ok (.ifCond .eq 31, 3) := by decide +kernel
theorem dX7_pulled_7 : decode cX7_pulled 7 = .ok (.iload_n 3, 1) := by decide +kernel
theorem dX7_pulled_8 : decode cX7_pulled 8 = .ok (.invokestatic 139, 3) := by decide +kernel
theorem dX7_pulled_11 : decode cX7_pulled 11 = .ok (.ifCond .eq 24, 3) := by decide +kernel
theorem dX7_pulled_14 : decode cX7_pulled 14 = .ok (.iload 4, 2) := by decide +kernel
theorem dX7_pulled_16 : decode cX7_pulled 16 = .ok (.invokestatic 142, 3) := by decide +kernel
theorem dX7_pulled_19 : decode cX7_pulled 19 = .ok (.ifCond .eq 16, 3) := by decide +kernel
theorem dX7_pulled_22 : decode cX7_pulled 22 = .ok (.iload 5, 2) := by decide +kernel
theorem dX7_pulled_24 : decode cX7_pulled 24 = .ok (.iconst 2, 1) := by decide +kernel
theorem dX7_pulled_25 : decode cX7_pulled 25 = .ok (.invokestatic 119, 3) := by decide +kernel
theorem dX7_pulled_28 : decode cX7_pulled 28 = .ok (.ifCond .eq 7, 3) := by decide +kernel
theorem dX7_pulled_31 : decode cX7_pulled 31 = .ok (.iconst 1, 1) := by decide +kernel
theorem dX7_pulled_32 : decode cX7_pulled 32 = .ok (.goto 4, 3) := by decide +kernel
theorem dX7_pulled_35 : decode cX7_pulled 35 = .ok (.iconst 0, 1) := by decide +kernel
theorem dX7_pulled_36 : decode cX7_pulled 36 = .ok (.istore 6, 2) := by decide +kernel
theorem dX7_pulled_38 : decode cX7_pulled 38 = .ok (.aload_n 0, 1) := by decide +kernel
theorem dX7_pulled_39 : decode cX7_pulled 39 = .ok (.iload_n 1, 1) := by decide +kernel
theorem dX7_pulled_40 : decode cX7_pulled 40 = .ok (.iload 6, 2) := by decide +kernel
theorem dX7_pulled_42 : decode cX7_pulled 42 = .ok (.invokevirtual 111, 3) := by decide +kernel
theorem dX7_pulled_45 : decode cX7_pulled 45 = .ok (.istore 7, 2) := by decide +kernel
theorem dX7_pulled_47 : decode cX7_pulled 47 = .ok (.iload 7, 2) := by decide +kernel
theorem dX7_pulled_49 : decode cX7_pulled 49 = .ok (.ifCond .eq 10, 3) := by decide +kernel
theorem dX7_pulled_52 : decode cX7_pulled 52 = .ok (.sipush (-1000), 3) := by decide +kernel
theorem dX7_pulled_55 : decode cX7_pulled 55 = .ok (.iload 7, 2) := by decide +kernel
theorem dX7_pulled_57 : decode cX7_pulled 57 = .ok (.iadd, 1) := by decide +kernel
theorem dX7_pulled_58 : decode cX7_pulled 58 = .ok (.ireturn, 1) := by decide +kernel
theorem dX7_pulled_59 : decode cX7_pulled 59 = .ok (.aload_n 0, 1) := by decide +kernel
theorem dX7_pulled_60 : decode cX7_pulled 60 = .ok (.getfield 31, 3) := by decide +kernel
theorem dX7_pulled_63 : decode cX7_pulled 63 = .ok (.iload_n 1, 1) := by decide +kernel
theorem dX7_pulled_64 : decode cX7_pulled 64 = .ok (.iload_n 2, 1) := by decide +kernel
theorem dX7_pulled_65 : decode cX7_pulled 65 = .ok (.invokevirtual 123, 3) := by decide +kernel
theorem dX7_pulled_68 : decode cX7_pulled 68 = .ok (.aload_n 0, 1) := by decide +kernel
theorem dX7_pulled_69 : decode cX7_pulled 69 = .ok (.getfield 40, 3) := by decide +kernel
theorem dX7_pulled_72 : decode cX7_pulled 72 = .ok (.iload_n 1, 1) := by decide +kernel
theorem dX7_pulled_73 : decode cX7_pulled 73 = .ok (.iload_n 3, 1) := by decide +kernel
theorem dX7_pulled_74 : decode cX7_pulled 74 = .ok (.iload 4, 2) := by decide +kernel
theorem dX7_pulled_76 : decode cX7_pulled 76 = .ok (.invokevirtual 160, 3) := by decide +kernel
theorem dX7_pulled_79 : decode cX7_pulled 79 = .ok (.aload_n 0, 1) := by decide +kernel
theorem dX7_pulled_80 : decode cX7_pulled 80 = .ok (.getfield 40, 3) := by decide +kernel
theorem dX7_pulled_83 : decode cX7_pulled 83 = .ok (.getfield 164, 3) := by decide +kernel
theorem dX7_pulled_86 : decode cX7_pulled 86 = .ok (.iconst 2, 1) := by decide +kernel
theorem dX7_pulled_87 : decode cX7_pulled 87 = .ok (.if_icmp .ge 7, 3) := by decide +kernel
theorem dX7_pulled_90 : decode cX7_pulled 90 = .ok (.sipush (-1005), 3) := by decide +kernel
theorem dX7_pulled_93 : decode cX7_pulled 93 = .ok (.ireturn, 1) := by decide +kernel
theorem dX7_pulled_94 : decode cX7_pulled 94 = .ok (.iload 5, 2) := by decide +kernel
theorem dX7_pulled_96 : decode cX7_pulled 96 = .ok (.ifCond .ne 11, 3) := by decide +kernel
theorem dX7_pulled_99 : decode cX7_pulled 99 = .ok (.aload_n 0, 1) := by decide +kernel
theorem dX7_pulled_100 : decode cX7_pulled 100 = .ok (.getfield 40, 3) := by decide +kernel
theorem dX7_pulled_103 : decode cX7_pulled 103 = .ok (.getfield 167, 3) := by decide +kernel
theorem dX7_pulled_106 : decode cX7_pulled 106 = .ok (.ireturn, 1) := by decide +kernel
theorem dX7_pulled_107 : decode cX7_pulled 107 = .ok (.iload 5, 2) := by decide +kernel
theorem dX7_pulled_109 : decode cX7_pulled 109 = .ok (.iconst 1, 1) := by decide +kernel
theorem dX7_pulled_110 : decode cX7_pulled 110 = .ok (.if_icmp .ne 13, 3) := by decide +kernel
theorem dX7_pulled_113 : decode cX7_pulled 113 = .ok (.aload_n 0, 1) := by decide +kernel
theorem dX7_pulled_114 : decode cX7_pulled 114 = .ok (.getfield 40, 3) := by decide +kernel
theorem dX7_pulled_117 : decode cX7_pulled 117 = .ok (.getfield 170, 3) := by decide +kernel
theorem dX7_pulled_120 : decode cX7_pulled 120 = .ok (.goto 10, 3) := by decide +kernel
theorem dX7_pulled_123 : decode cX7_pulled 123 = .ok (.aload_n 0, 1) := by decide +kernel
theorem dX7_pulled_124 : decode cX7_pulled 124 = .ok (.getfield 40, 3) := by decide +kernel
theorem dX7_pulled_127 : decode cX7_pulled 127 = .ok (.getfield 173, 3) := by decide +kernel
theorem dX7_pulled_130 : decode cX7_pulled 130 = .ok (.ireturn, 1) := by decide +kernel
set_option maxRecDepth 20000 in
theorem ggX7_best_X7_isWay : GoodIn wsX7_best wsX7_isWay := goodIn_r _ [6, 7, 8, 5, 9] (by decide +kernel) (by decide +kernel)
