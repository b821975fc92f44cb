set_option maxRecDepth 20000 in
theorem ggX2_init_X3_init : GoodIn wsX2_init wsX3_init := goodIn_r _ [15, 16, 2, 3, 8, 17, 18, 19, 20, 21, 22] (by decide +kernel) (by decide +kernel)
set_option maxRecDepth 20000 in
theorem gX2_init_X3_init_n11 : GoodIn wsX2_init (wsX3_init) := ggX2_init_X3_init
theorem dX2_init_0 : decode cX2_init 0 = .ok (.aload_n 0, 1) := by decide +kernel
theorem dX2_init_1 : decode cX2_init 1 = .ok (.invokespecial 3, 3) := by decide +kernel
theorem dX2_init_4 : decode cX2_init 4 = .ok (.aload_n 0, 1) := by decide +kernel
theorem dX2_init_5 : decode cX2_init 5 = .ok (.new 9, 3) := by decide +kernel
theorem dX2_init_8 : decode cX2_init 8 = .ok (.dup, 1) := by decide +kernel
theorem dX2_init_9 : decode cX2_init 9 = .ok (.invokespecial 11, 3) := by decide +kernel
theorem dX2_init_12 : decode cX2_init 12 = .ok (.putfield 12, 3) := by decide +kernel
theorem dX2_init_15 : decode cX2_init 15 = .ok (.aload_n 0, 1) := by decide +kernel
theorem dX2_init_16 : decode cX2_init 16 = .ok (.sipush 400, 3) := by decide +kernel
theorem dX2_init_19 : decode cX2_init 19 = .ok (.newarray .int, 2) := by decide +kernel
theorem dX2_init_21 : decode cX2_init 21 = .ok (.putfield 18, 3) := by decide +kernel
theorem dX2_init_24 : decode cX2_init 24 = .ok (.aload_n 0, 1) := by decide +kernel
theorem dX2_init_25 : decode cX2_init 25 = .ok (.iconst 0, 1) := by decide +kernel
theorem dX2_init_26 : decode cX2_init 26 = .ok (.putfield 22, 3) := by decide +kernel
theorem dX2_init_29 : decode cX2_init 29 = .ok (.aload_n 0, 1) := by decide +kernel
theorem dX2_init_30 : decode cX2_init 30 = .ok (.iconst 0, 1) := by decide +kernel
theorem dX2_init_31 : decode cX2_init 31 = .ok (.putfield 26, 3) := by decide +kernel
theorem dX2_init_34 : decode cX2_init 34 = .ok (.aload_n 0, 1) := by decide +kernel
theorem dX2_init_35 : decode cX2_init 35 = .ok (.iconst 0, 1) := by decide +kernel
theorem dX2_init_36 : decode cX2_init 36 = .ok (.putfield 29, 3) := by decide +kernel
theorem dX2_init_39 : decode cX2_init 39 = .ok (.aload_n 0, 1) := by decide +kernel
theorem dX2_init_40 : decode cX2_init 40 = .ok (.aload_n 1, 1) := by decide +kernel
theorem dX2_init_41 : decode cX2_init 41 = .ok (.putfield 32, 3) := by decide +kernel
theorem dX2_init_44 : decode cX2_init 44 = .ok (.return_, 1) := by decide +kernel
set_option maxRecDepth 20000 in
theorem ggX2_rowsAlike_X2_areThere : GoodIn wsX2_rowsAlike wsX2_areThere := goodIn_r _ [5, 6, 7, 8, 9, 10, 11, 12, 13, 14, 15, 16, 58, 59, 60, 61, 62, 63, 64, 65, 66, 67] (by decide +kernel) (by decide +kernel)
set_option maxRecDepth 20000 in
theorem gX2_rowsAlike_X2_areThere : GoodIn wsX2_rowsAlike (wsV RX2 36 RX2 yX2_areThere wsX2_areThere) := goodIn_app (goodIn_of _ (by decide +kernel)) ggX2_rowsAlike_X2_areThere
set_option maxRecDepth 20000 in
theorem ggX2_rowsAlike_X2_linesAlike : GoodIn wsX2_rowsAlike wsX2_linesAlike := goodIn_r _ [20, 21, 22, 23, 24, 25, 26, 27, 28, 29, 30, 31, 4, 32, 10, 33, 34, 35, 14, 36, 37, 16, 38, 39, 40, 41, 42, 43, 44, 45, 46, 47, 48, 49, 50, 51, 52, 53, 54, 55, 56, 57, 58, 59, 60, 61, 62, 63, 68, 69, 70, 64, 65, 66, 67] (by decide +kernel) (by decide +kernel)
set_option maxRecDepth 20000 in
theorem gX2_rowsAlike_X2_linesAlike : GoodIn wsX2_rowsAlike (wsV RX2 40 RX2 yX2_linesAlike wsX2_linesAlike) := goodIn_app (goodIn_of _ (by decide +kernel)) ggX2_rowsAlike_X2_linesAlike
theorem dX2_rowsAlike_0 : decode cX2_rowsAlike 0 = .ok (.aload_n 0, 1) := by decide +kernel
theorem dX2_rowsAlike_1 : decode cX2_rowsAlike 1 = .ok (.iload_n 3, 1) := by decide +kernel
theorem dX2_rowsAlike_2 : decode cX2_rowsAlike 2 = .ok (.iload 4, 2) := by decide +kernel
theorem dX2_rowsAlike_4 : decode cX2_rowsAlike 4 = .ok (.iload 5, 2) := by decide +kernel
theorem dX2_rowsAlike_6 : decode cX2_rowsAlike 6 = .ok (.invokevirtual 36, 3) := by decide +kernel
theorem dX2_rowsAlike_9 : decode cX2_rowsAlike 9 = .ok (.ifCond .eq 23, 3) := by decide +kernel
theorem dX2_rowsAlike_12 : decode cX2_rowsAlike 12 = .ok (.aload_n 0, 1) := by decide +kernel
theorem dX2_rowsAlike_13 : decode cX2_rowsAlike 13 = .ok (.iload_n 1, 1) := by decide +kernel
theorem dX2_rowsAlike_14 : decode cX2_rowsAlike 14 = .ok (.iload_n 2, 1) := by decide +kernel
theorem dX2_rowsAlike_15 : decode cX2_rowsAlike 15 = .ok (.iload_n 3, 1) := by decide +kernel
theorem dX2_rowsAlike_16 : decode cX2_rowsAlike 16 = .ok (.iload 4, 2) := by decide +kernel
theorem dX2_rowsAlike_18 : decode cX2_rowsAlike 18 = .ok (.iload 5, 2) := by decide +kernel
theorem dX2_rowsAlike_20 : decode cX2_rowsAlike 20 = .ok (.invokevirtual 40, 3) := by decide +kernel
theorem dX2_rowsAlike_23 : decode cX2_rowsAlike 23 = .ok (.iload 5, 2) := by decide +kernel
theorem dX2_rowsAlike_25 : decode cX2_rowsAlike 25 = .ok (.if_icmp .ne 7, 3) := by decide +kernel
theorem dX2_rowsAlike_28 : decode cX2_rowsAlike 28 = .ok (.iconst 1, 1) := by decide +kernel
theorem dX2_rowsAlike_29 : decode cX2_rowsAlike 29 = .ok (.goto 4, 3) := by decide +kernel
theorem dX2_rowsAlike_32 : decode cX2_rowsAlike 32 = .ok (.iconst 0, 1) := by decide +kernel
theorem dX2_rowsAlike_33 : decode cX2_rowsAlike 33 = .ok (.ireturn, 1) := by decide +kernel
set_option maxRecDepth 20000 in
theorem ggX2_areThere_X0_lines : GoodIn wsX2_areThere wsX0_lines := goodIn_r _ [10, 11, 18, 19, 20, 21] (by decide +kernel) (by decide +kernel)
set_option maxRecDepth 20000 in
theorem gX2_areThere_X0_lines : GoodIn wsX2_areThere (wsV RX2 50 RX0 yX0_lines wsX0_lines) := goodIn_app (goodIn_of _ (by decide +kernel)) ggX2_areThere_X0_lines
theorem dX2_areThere_0 : decode cX2_areThere 0 = .ok (.iload_n 1, 1) := by decide +kernel
theorem dX2_areThere_1 : decode cX2_areThere 1 = .ok (.ifCond .lt 28, 3) := by decide +kernel
theorem dX2_areThere_4 : decode cX2_areThere 4 = .ok (.iload_n 2, 1) := by decide +kernel
theorem dX2_areThere_5 : decode cX2_areThere 5 = .ok (.ifCond .lt 24, 3) := by decide +kernel
theorem dX2_areThere_8 : decode cX2_areThere 8 = .ok (.iload_n 1, 1) := by decide +kernel
theorem dX2_areThere_9 : decode cX2_areThere 9 = .ok (.iload_n 2, 1) := by decide +kernel
theorem dX2_areThere_10 : decode cX2_areThere 10 = .ok (.invokestatic 44, 3) := by decide +kernel
theorem dX2_areThere_13 : decode cX2_areThere 13 = .ok (.iload_n 3, 1) := by decide +kernel
theorem dX2_areThere_14 : decode cX2_areThere 14 = .ok (.iadd, 1) := by decide +kernel
theorem dX2_areThere_15 : decode cX2_areThere 15 = .ok (.aload_n 0, 1) := by decide +kernel
theorem dX2_areThere_16 : decode cX2_areThere 16 = .ok (.getfield 32, 3) := by decide +kernel
theorem dX2_areThere_19 : decode cX2_areThere 19 = .ok (.invokevirtual 50, 3) := by decide +kernel
theorem dX2_areThere_22 : decode cX2_areThere 22 = .ok (.if_icmp .gt 7, 3) := by decide +kernel
theorem dX2_areThere_25 : decode cX2_areThere 25 = .ok (.iconst 1, 1) := by decide +kernel
theorem dX2_areThere_26 : decode cX2_areThere 26 = .ok (.goto 4, 3) := by decide +kernel
theorem dX2_areThere_29 : decode cX2_areThere 29 = .ok (.iconst 0, 1) := by decide +kernel
theorem dX2_areThere_30 : decode cX2_areThere 30 = .ok (.ireturn, 1) := by decide +kernel
set_option maxRecDepth 20000 in
theorem ggX2_rowsAlikeBut_X3_clear : GoodIn wsX2_rowsAlikeBut wsX3_clear := goodIn_r _ [6, 7, 8, 48, 49, 50] (by decide +kernel) (by decide +kernel)
set_option maxRecDepth 20000 in
theorem gX2_rowsAlikeBut_X3_clear : GoodIn wsX2_rowsAlikeBut (wsV RX2 56 RX3 yX3_clear wsX3_clear) := goodIn_app (goodIn_of _ (by decide +kernel)) ggX2_rowsAlikeBut_X3_clear
set_option maxRecDepth 20000 in
theorem ggX2_rowsAlikeBut_X2_lineFits : GoodIn wsX2_rowsAlikeBut wsX2_lineFits := goodIn_r _ [13, 14, 15, 16, 17, 18, 19, 20, 21, 22, 23, 24, 25, 26, 27, 28, 29, 30, 12, 31, 1, 32, 33, 34, 35, 36, 37, 5, 38, 7, 39, 8, 40, 41, 42, 43, 44, 45, 46, 47, 51, 52, 53, 54, 48, 49, 50] (by decide +kernel) (by decide +kernel)
set_option maxRecDepth 20000 in
theorem gX2_rowsAlikeBut_X2_lineFits : GoodIn wsX2_rowsAlikeBut (wsV RX2 59 RX2 yX2_lineFits wsX2_lineFits) := goodIn_app (goodIn_of _ (by decide +kernel)) ggX2_rowsAlikeBut_X2_lineFits
theorem dX2_rowsAlikeBut_0 : decode cX2_rowsAlikeBut 0 = .ok (.aload_n 0, 1) := by decide +kernel
theorem dX2_rowsAlikeBut_1 : decode cX2_rowsAlikeBut 1 = .ok (.getfield 12, 3) := by decide +kernel
theorem dX2_rowsAlikeBut_4 : decode cX2_rowsAlikeBut 4 = .ok (.invokevirtual 56, 3) := by decide +kernel
theorem dX2_rowsAlikeBut_7 : decode cX2_rowsAlikeBut 7 = .ok (.iconst 0, 1) := by decide +kernel
theorem dX2_rowsAlikeBut_8 : decode cX2_rowsAlikeBut 8 = .ok (.istore 6, 2) := by decide +kernel
theorem dX2_rowsAlikeBut_10 : decode cX2_rowsAlikeBut 10 = .ok (.iload 6, 2) := by decide +kernel
theorem dX2_rowsAlikeBut_12 : decode cX2_rowsAlikeBut 12 = .ok (.iload 4, 2) := by decide +kernel
theorem dX2_rowsAlikeBut_14 : decode cX2_rowsAlikeBut 14 = .ok (.if_icmp .ge 40, 3) := by decide +kernel
theorem dX2_rowsAlikeBut_17 : decode cX2_rowsAlikeBut 17 = .ok (.iload 5, 2) := by decide +kernel
theorem dX2_rowsAlikeBut_19 : decode cX2_rowsAlikeBut 19 = .ok (.iload 6, 2) := by decide +kernel
theorem dX2_rowsAlikeBut_21 : decode cX2_rowsAlikeBut 21 = .ok (.bipush 10, 2) := by decide +kernel
theorem dX2_rowsAlikeBut_23 : decode cX2_rowsAlikeBut 23 = .ok (.imul, 1) := by decide +kernel
theorem dX2_rowsAlikeBut_24 : decode cX2_rowsAlikeBut 24 = .ok (.isub, 1) := by decide +kernel
theorem dX2_rowsAlikeBut_25 : decode cX2_rowsAlikeBut 25 = .ok (.istore 7, 2) := by decide +kernel
theorem dX2_rowsAlikeBut_27 : decode cX2_rowsAlikeBut 27 = .ok (.aload_n 0, 1) := by decide +kernel
theorem dX2_rowsAlikeBut_28 : decode cX2_rowsAlikeBut 28 = .ok (.iload_n 1, 1) := by decide +kernel
theorem dX2_rowsAlikeBut_29 : decode cX2_rowsAlikeBut 29 = .ok (.iconst 1, 1) := by decide +kernel
theorem dX2_rowsAlikeBut_30 : decode cX2_rowsAlikeBut 30 = .ok (.iload_n 2, 1) := by decide +kernel
theorem dX2_rowsAlikeBut_31 : decode cX2_rowsAlikeBut 31 = .ok (.iload 6, 2) := by decide +kernel
theorem dX2_rowsAlikeBut_33 : decode cX2_rowsAlikeBut 33 = .ok (.iadd, 1) := by decide +kernel
theorem dX2_rowsAlikeBut_34 : decode cX2_rowsAlikeBut 34 = .ok (.iload_n 3, 1) := by decide +kernel
theorem dX2_rowsAlikeBut_35 : decode cX2_rowsAlikeBut 35 = .ok (.iload 6, 2) := by decide +kernel
theorem dX2_rowsAlikeBut_37 : decode cX2_rowsAlikeBut 37 = .ok (.iadd, 1) := by decide +kernel
theorem dX2_rowsAlikeBut_38 : decode cX2_rowsAlikeBut 38 = .ok (.iload 7, 2) := by decide +kernel
theorem dX2_rowsAlikeBut_40 : decode cX2_rowsAlikeBut 40 = .ok (.invokevirtual 59, 3) := by decide +kernel
theorem dX2_rowsAlikeBut_43 : decode cX2_rowsAlikeBut 43 = .ok (.ifCond .ne 5, 3) := by decide +kernel
theorem dX2_rowsAlikeBut_46 : decode cX2_rowsAlikeBut 46 = .ok (.iconst 0, 1) := by decide +kernel
theorem dX2_rowsAlikeBut_47 : decode cX2_rowsAlikeBut 47 = .ok (.ireturn, 1) := by decide +kernel
theorem dX2_rowsAlikeBut_48 : decode cX2_rowsAlikeBut 48 = .ok (.iinc 6 1, 3) := by decide +kernel
theorem dX2_rowsAlikeBut_51 : decode cX2_rowsAlikeBut 51 = .ok (.goto (-41), 3) := by decide +kernel
theorem dX2_rowsAlikeBut_54 : decode cX2_rowsAlikeBut 54 = .ok (.iconst 1, 1) := by decide +kernel
theorem dX2_rowsAlikeBut_55 : decode cX2_rowsAlikeBut 55 = .ok (.ireturn, 1) := by decide +kernel
set_option maxRecDepth 20000 in
theorem ggX2_linesAlike_X3_clear : GoodIn wsX2_linesAlike wsX3_clear := goodIn_r _ [6, 7, 8, 48, 49, 50] (by decide +kernel) (by decide +kernel)
set_option maxRecDepth 20000 in
theorem gX2_linesAlike_X3_clear : GoodIn wsX2_linesAlike (wsV RX2 56 RX3 yX3_clear wsX3_clear) := goodIn_app (goodIn_of _ (by decide +kernel)) ggX2_linesAlike_X3_clear
set_option maxRecDepth 20000 in
theorem ggX2_linesAlike_X2_lineFits : GoodIn wsX2_linesAlike wsX2_lineFits := goodIn_r _ [13, 14, 15, 16, 17, 18, 19, 20, 21, 22, 23, 24, 25, 26, 27, 28, 29, 30, 12, 31, 1, 32, 33, 34, 35, 36, 37, 5, 38, 7, 39, 8, 40, 41, 42, 43, 44, 45, 46, 47, 51, 52, 53, 54, 48, 49, 50] (by decide +kernel) (by decide +kernel)
set_option maxRecDepth 20000 in
theorem gX2_linesAlike_X2_lineFits : GoodIn wsX2_linesAlike (wsV RX2 59 RX2 yX2_lineFits wsX2_lineFits) := goodIn_app (goodIn_of _ (by decide +kernel)) ggX2_linesAlike_X2_lineFits
theorem dX2_linesAlike_0 : decode cX2_linesAlike 0 = .ok (.aload_n 0, 1) := by decide +kernel
theorem dX2_linesAlike_1 : decode cX2_linesAlike 1 = .ok (.getfield 12, 3) := by decide +kernel
theorem dX2_linesAlike_4 : decode cX2_linesAlike 4 = .ok (.invokevirtual 56, 3) := by decide +kernel
theorem dX2_linesAlike_7 : decode cX2_linesAlike 7 = .ok (.iconst 0, 1) := by decide +kernel
theorem dX2_linesAlike_8 : decode cX2_linesAlike 8 = .ok (.istore 6, 2) := by decide +kernel
theorem dX2_linesAlike_10 : decode cX2_linesAlike 10 = .ok (.iload 6, 2) := by decide +kernel
theorem dX2_linesAlike_12 : decode cX2_linesAlike 12 = .ok (.iload 5, 2) := by decide +kernel
theorem dX2_linesAlike_14 : decode cX2_linesAlike 14 = .ok (.if_icmp .ge 31, 3) := by decide +kernel
theorem dX2_linesAlike_17 : decode cX2_linesAlike 17 = .ok (.aload_n 0, 1) := by decide +kernel
theorem dX2_linesAlike_18 : decode cX2_linesAlike 18 = .ok (.iload_n 1, 1) := by decide +kernel
theorem dX2_linesAlike_19 : decode cX2_linesAlike 19 = .ok (.iload_n 2, 1) := by decide +kernel
theorem dX2_linesAlike_20 : decode cX2_linesAlike 20 = .ok (.iload_n 3, 1) := by decide +kernel
theorem dX2_linesAlike_21 : decode cX2_linesAlike 21 = .ok (.iload 6, 2) := by decide +kernel
theorem dX2_linesAlike_23 : decode cX2_linesAlike 23 = .ok (.iadd, 1) := by decide +kernel
theorem dX2_linesAlike_24 : decode cX2_linesAlike 24 = .ok (.iload 4, 2) := by decide +kernel
theorem dX2_linesAlike_26 : decode cX2_linesAlike 26 = .ok (.iload 6, 2) := by decide +kernel
theorem dX2_linesAlike_28 : decode cX2_linesAlike 28 = .ok (.iadd, 1) := by decide +kernel
theorem dX2_linesAlike_29 : decode cX2_linesAlike 29 = .ok (.iconst (-1), 1) := by decide +kernel
theorem dX2_linesAlike_30 : decode cX2_linesAlike 30 = .ok (.invokevirtual 59, 3) := by decide +kernel
theorem dX2_linesAlike_33 : decode cX2_linesAlike 33 = .ok (.ifCond .ne 6, 3) := by decide +kernel
theorem dX2_linesAlike_36 : decode cX2_linesAlike 36 = .ok (.iload 6, 2) := by decide +kernel
theorem dX2_linesAlike_38 : decode cX2_linesAlike 38 = .ok (.ireturn, 1) := by decide +kernel
theorem dX2_linesAlike_39 : decode cX2_linesAlike 39 = .ok (.iinc 6 1, 3) := by decide +kernel
theorem dX2_linesAlike_42 : decode cX2_linesAlike 42 = .ok (.goto (-32), 3) := by decide +kernel
theorem dX2_linesAlike_45 : decode cX2_linesAlike 45 = .ok (.iload 5, 2) := by decide +kernel
theorem dX2_linesAlike_47 : decode cX2_linesAlike 47 = .ok (.ireturn, 1) := by decide +kernel
set_option maxRecDepth 20000 in
theorem ggX2_lineFits_X0_sizeOf : GoodIn wsX2_lineFits wsX0_sizeOf := goodIn_r _ [6, 7, 8, 9, 40, 41, 42, 43] (by decide +kernel) (by decide +kernel)
set_option maxRecDepth 20000 in
theorem gX2_lineFits_X0_sizeOf : GoodIn wsX2_lineFits (wsV RX2 63 RX0 yX0_sizeOf wsX0_sizeOf) := goodIn_app (goodIn_of _ (by decide +kernel)) ggX2_lineFits_X0_sizeOf
set_option maxRecDepth 20000 in
theorem ggX2_lineFits_X0_signAt : GoodIn wsX2_lineFits wsX0_signAt := goodIn_r _ [13, 7, 8, 9, 14, 40, 41, 42, 43] (by decide +kernel) (by decide +kernel)
set_option maxRecDepth 20000 in
theorem gX2_lineFits_X0_signAt : GoodIn wsX2_lineFits (wsV RX2 66 RX0 yX0_signAt wsX0_signAt) := goodIn_app (goodIn_of _ (by decide +kernel)) ggX2_lineFits_X0_signAt
set_option maxRecDepth 20000 in
theorem ggX2_lineFits_X2_signFits : GoodIn wsX2_lineFits wsX2_signFits := goodIn_r _ [19, 20, 21, 22, 23, 24, 25, 26, 27, 28, 29, 30, 31, 32, 33, 34, 35, 36, 37, 38, 39, 44, 45, 46] (by decide +kernel) (by decide +kernel)
set_option maxRecDepth 20000 in
theorem gX2_lineFits_X2_signFits : GoodIn wsX2_lineFits (wsV RX2 70 RX2 yX2_signFits wsX2_signFits) := goodIn_app (goodIn_of _ (by decide +kernel)) ggX2_lineFits_X2_signFits
theorem dX2_lineFits_0 : decode cX2_lineFits 0 = .ok (.aload_n 0, 1) := by decide +kernel
theorem dX2_lineFits_1 : decode cX2_lineFits 1 = .ok (.getfield 32, 3) := by decide +kernel
theorem dX2_lineFits_4 : decode cX2_lineFits 4 = .ok (.iload_n 1, 1) := by decide +kernel
theorem dX2_lineFits_5 : decode cX2_lineFits 5 = .ok (.iload_n 3, 1) := by decide +kernel
theorem dX2_lineFits_6 : decode cX2_lineFits 6 = .ok (.invokevirtual 63, 3) := by decide +kernel
theorem dX2_lineFits_9 : decode cX2_lineFits 9 = .ok (.istore 6, 2) := by decide +kernel
theorem dX2_lineFits_11 : decode cX2_lineFits 11 = .ok (.aload_n 0, 1) := by decide +kernel
theorem dX2_lineFits_12 : decode cX2_lineFits 12 = .ok (.getfield 32, 3) := by decide +kernel
theorem dX2_lineFits_15 : decode cX2_lineFits 15 = .ok (.iload_n 1, 1) := by decide +kernel
theorem dX2_lineFits_16 : decode cX2_lineFits 16 = .ok (.iload 4, 2) := by decide +kernel
theorem dX2_lineFits_18 : decode cX2_lineFits 18 = .ok (.invokevirtual 63, 3) := by decide +kernel
theorem dX2_lineFits_21 : decode cX2_lineFits 21 = .ok (.iload 6, 2) := by decide +kernel
theorem dX2_lineFits_23 : decode cX2_lineFits 23 = .ok (.if_icmp .eq 5, 3) := by decide +kernel
theorem dX2_lineFits_26 : decode cX2_lineFits 26 = .ok (.iconst 0, 1) := by decide +kernel
theorem dX2_lineFits_27 : decode cX2_lineFits 27 = .ok (.ireturn, 1) := by decide +kernel
theorem dX2_lineFits_28 : decode cX2_lineFits 28 = .ok (.iconst 0, 1) := by decide +kernel
theorem dX2_lineFits_29 : decode cX2_lineFits 29 = .ok (.istore 7, 2) := by decide +kernel
theorem dX2_lineFits_31 : decode cX2_lineFits 31 = .ok (.iload 7, 2) := by decide +kernel
theorem dX2_lineFits_33 : decode cX2_lineFits 33 = .ok (.iload 6, 2) := by decide +kernel
theorem dX2_lineFits_35 : decode cX2_lineFits 35 = .ok (.if_icmp .ge 57, 3) := by decide +kernel
theorem dX2_lineFits_38 : decode cX2_lineFits 38 = .ok (.aload_n 0, 1) := by decide +kernel
theorem dX2_lineFits_39 : decode cX2_lineFits 39 = .ok (.getfield 32, 3) := by decide +kernel
theorem dX2_lineFits_42 : decode cX2_lineFits 42 = .ok (.iload_n 1, 1) := by decide +kernel
theorem dX2_lineFits_43 : decode cX2_lineFits 43 = .ok (.iload_n 3, 1) := by decide +kernel
theorem dX2_lineFits_44 : decode cX2_lineFits 44 = .ok (.iload 7, 2) := by decide +kernel
theorem dX2_lineFits_46 : decode cX2_lineFits 46 = .ok (.invokevirtual 66, 3) := by decide +kernel
theorem dX2_lineFits_49 : decode cX2_lineFits 49 = .ok (.istore 8, 2) := by decide +kernel
theorem dX2_lineFits_51 : decode cX2_lineFits 51 = .ok (.aload_n 0, 1) := by decide +kernel
theorem dX2_lineFits_52 : decode cX2_lineFits 52 = .ok (.getfield 32, 3) := by decide +kernel
theorem dX2_lineFits_55 : decode cX2_lineFits 55 = .ok (.iload_n 1, 1) := by decide +kernel
theorem dX2_lineFits_56 : decode cX2_lineFits 56 = .ok (.iload 4, 2) := by decide +kernel
theorem dX2_lineFits_58 : decode cX2_lineFits 58 = .ok (.iload 7, 2) := by decide +kernel
theorem dX2_lineFits_60 : decode cX2_lineFits 60 = .ok (.invokevirtual 66, 3) := by decide +kernel
theorem dX2_lineFits_63 : decode cX2_lineFits 63 = .ok (.istore 9, 2) := by decide +kernel
theorem dX2_lineFits_65 : decode cX2_lineFits 65 = .ok (.iload 7, 2) := by decide +kernel
theorem dX2_lineFits_67 : decode cX2_lineFits 67 = .ok (.iload 5, 2) := by decide +kernel
theorem dX2_lineFits_69 : decode cX2_lineFits 69 = .ok (.if_icmp .eq 17, 3) := by decide +kernel
theorem dX2_lineFits_72 : decode cX2_lineFits 72 = .ok (.aload_n 0, 1) := by decide +kernel
theorem dX2_lineFits_73 : decode cX2_lineFits 73 = .ok (.iload_n 2, 1) := by decide +kernel
theorem dX2_lineFits_74 : decode cX2_lineFits 74 = .ok (.iload 8, 2) := by decide +kernel
theorem dX2_lineFits_76 : decode cX2_lineFits 76 = .ok (.iload 9, 2) := by decide +kernel
theorem dX2_lineFits_78 : decode cX2_lineFits 78 = .ok (.invokevirtual 70, 3) := by decide +kernel
theorem dX2_lineFits_81 : decode cX2_lineFits 81 = .ok (.ifCond .ne 5, 3) := by decide +kernel
theorem dX2_lineFits_84 : decode cX2_lineFits 84 = .ok (.iconst 0, 1) := by decide +kernel
theorem dX2_lineFits_85 : decode cX2_lineFits 85 = .ok (.ireturn, 1) := by decide +kernel
theorem dX2_lineFits_86 : decode cX2_lineFits 86 = .ok (.iinc 7 1, 3) := by decide +kernel
theorem dX2_lineFits_89 : decode cX2_lineFits 89 = .ok (.goto (-58), 3) := by decide +kernel
theorem dX2_lineFits_92 : decode cX2_lineFits 92 = .ok (.iconst 1, 1) := by decide +kernel
theorem dX2_lineFits_93 : decode cX2_lineFits 93 = .ok (.ireturn, 1) := by decide +kernel
set_option maxRecDepth 20000 in
theorem ggX2_signFits_X7_isName : GoodIn wsX2_signFits wsX7_isName := goodIn_r _ [4] (by decide +kernel) (by decide +kernel)
set_option maxRecDepth 20000 in
theorem gX2_signFits_X7_isName_n73 : GoodIn wsX2_signFits (wsX7_isName) := ggX2_signFits_X7_isName
set_option maxRecDepth 20000 in
theorem ggX2_signFits_X3_join : GoodIn wsX2_signFits wsX3_join := goodIn_r _ [9, 10, 11, 12, 2, 3, 4, 21, 22, 23] (by decide +kernel) (by decide +kernel)
set_option maxRecDepth 20000 in
theorem gX2_signFits_X3_join : GoodIn wsX2_signFits (wsV RX2 77 RX3 yX3_join wsX3_join) := goodIn_app (goodIn_of _ (by decide +kernel)) ggX2_signFits_X3_join
set_option maxRecDepth 20000 in
theorem ggX2_signFits_X7_isNumber : GoodIn wsX2_signFits wsX7_isNumber := goodIn_r _ [14] (by decide +kernel) (by decide +kernel)
set_option maxRecDepth 20000 in
theorem gX2_signFits_X7_isNumber_n81 : GoodIn wsX2_signFits (wsX7_isNumber) := ggX2_signFits_X7_isNumber
theorem dX2_signFits_0 : decode cX2_signFits 0 = .ok (.iload_n 1, 1) := by decide +kernel
theorem dX2_signFits_1 : decode cX2_signFits 1 = .ok (.ifCond .ne 14, 3) := by decide +kernel
theorem dX2_signFits_4 : decode cX2_signFits 4 = .ok (.iload_n 2, 1) := by decide +kernel
theorem dX2_signFits_5 : decode cX2_signFits 5 = .ok (.iload_n 3, 1) := by decide +kernel
theorem dX2_signFits_6 : decode cX2_signFits 6 = .ok (.if_icmp .ne 7, 3) := by decide +kernel
theorem dX2_signFits_9 : decode cX2_signFits 9 = .ok (.iconst 1, 1) := by decide +kernel
theorem dX2_signFits_10 : decode cX2_signFits 10 = .ok (.goto 4, 3) := by decide +kernel
theorem dX2_signFits_13 : decode cX2_signFits 13 = .ok (.iconst 0, 1) := by decide +kernel
theorem dX2_signFits_14 : decode cX2_signFits 14 = .ok (.ireturn, 1) := by decide +kernel
theorem dX2_signFits_15 : decode cX2_signFits 15 = .ok (.iload_n 2, 1) := by decide +kernel
theorem dX2_signFits_16 : decode cX2_signFits 16 = .ok (.invokestatic 73, 3) := by decide +kernel
theorem dX2_signFits_19 : decode cX2_signFits 19 = .ok (.ifCond .eq 13, 3) := by decide +kernel
theorem dX2_signFits_22 : decode cX2_signFits 22 = .ok (.aload_n 0, 1) := by decide +kernel
theorem dX2_signFits_23 : decode cX2_signFits 23 = .ok (.getfield 12, 3) := by decide +kernel
theorem dX2_signFits_26 : decode cX2_signFits 26 = .ok (.iload_n 2, 1) := by decide +kernel
theorem dX2_signFits_27 : decode cX2_signFits 27 = .ok (.iload_n 3, 1) := by decide +kernel
theorem dX2_signFits_28 : decode cX2_signFits 28 = .ok (.invokevirtual 77, 3) := by decide +kernel
theorem dX2_signFits_31 : decode cX2_signFits 31 = .ok (.ireturn, 1) := by decide +kernel
theorem dX2_signFits_32 : decode cX2_signFits 32 = .ok (.iload_n 1, 1) := by decide +kernel
theorem dX2_signFits_33 : decode cX2_signFits 33 = .ok (.iconst 2, 1) := by decide +kernel
theorem dX2_signFits_34 : decode cX2_signFits 34 = .ok (.if_icmp .ne 15, 3) := by decide +kernel
theorem dX2_signFits_37 : decode cX2_signFits 37 = .ok (.iload_n 2, 1) := by decide +kernel
theorem dX2_signFits_38 : decode cX2_signFits 38 = .ok (.invokestatic 81, 3) := by decide +kernel
theorem dX2_signFits_41 : decode cX2_signFits 41 = .ok (.ifCond .eq 8, 3) := by decide +kernel
theorem dX2_signFits_44 : decode cX2_signFits 44 = .ok (.iload_n 3, 1) := by decide +kernel
theorem dX2_signFits_45 : decode cX2_signFits 45 = .ok (.invokestatic 81, 3) := by decide +kernel
theorem dX2_signFits_48 : decode cX2_signFits 48 = .ok (.ireturn, 1) := by decide +kernel
theorem dX2_signFits_49 : decode cX2_signFits 49 = .ok (.iload_n 2, 1) := by decide +kernel
theorem dX2_signFits_50 : decode cX2_signFits 50 = .ok (.iload_n 3, 1) := by decide +kernel
theorem dX2_signFits_51 : decode cX2_signFits 51 = .ok (.if_icmp .ne 7, 3) := by decide +kernel
theorem dX2_signFits_54 : decode cX2_signFits 54 = .ok (.iconst 1, 1) := by decide +kernel
theorem dX2_signFits_55 : decode cX2_signFits 55 = .ok (.goto 4, 3) := by decide +kernel
theorem dX2_signFits_58 : decode cX2_signFits 58 = .ok (.iconst 0, 1) := by decide +kernel
theorem dX2_signFits_59 : decode cX2_signFits 59 = .ok (.ireturn, 1) := by decide +kernel
set_option maxRecDepth 20000 in
theorem ggX2_compareAll_X0_lines : GoodIn wsX2_compareAll wsX0_lines := goodIn_r _ [6, 7, 65, 66, 67, 68] (by decide +kernel) (by decide +kernel)
set_option maxRecDepth 20000 in
theorem gX2_compareAll_X0_lines : GoodIn wsX2_compareAll (wsV RX2 50 RX0 yX0_lines wsX0_lines) := goodIn_app (goodIn_of _ (by decide +kernel)) ggX2_compareAll_X0_lines
set_option maxRecDepth 20000 in
theorem ggX2_compareAll_X2_setReach : GoodIn wsX2_compareAll wsX2_setReach := goodIn_r _ [12, 1, 13, 14, 15, 16, 5, 17, 7, 59, 60, 61, 62, 63, 64, 65, 66, 67, 68] (by decide +kernel) (by decide +kernel)
set_option maxRecDepth 20000 in
theorem gX2_compareAll_X2_setReach : GoodIn wsX2_compareAll (wsV RX2 84 RX2 yX2_setReach wsX2_setReach) := goodIn_app (goodIn_of _ (by decide +kernel)) ggX2_compareAll_X2_setReach
set_option maxRecDepth 20000 in
theorem ggX2_compareAll_X2_linesAlike : GoodIn wsX2_compareAll wsX2_linesAlike := goodIn_r _ [21, 22, 23, 24, 25, 26, 27, 28, 29, 30, 31, 32, 11, 33, 1, 34, 35, 36, 5, 37, 38, 7, 39, 40, 41, 42, 43, 44, 45, 46, 47, 48, 49, 50, 51, 52, 53, 54, 55, 56, 57, 58, 59, 60, 61, 62, 63, 64, 69, 70, 71, 65, 66, 67, 68] (by decide +kernel) (by decide +kernel)
set_option maxRecDepth 20000 in
theorem gX2_compareAll_X2_linesAlike : GoodIn wsX2_compareAll (wsV RX2 40 RX2 yX2_linesAlike wsX2_linesAlike) := goodIn_app (goodIn_of _ (by decide +kernel)) ggX2_compareAll_X2_linesAlike
theorem dX2_compareAll_0 : decode cX2_compareAll 0 = .ok (.aload_n 0, 1) := by decide +kernel
theorem dX2_compareAll_1 : decode cX2_compareAll 1 = .ok (.getfield 32, 3) := by decide +kernel
theorem dX2_compareAll_4 : decode cX2_compareAll 4 = .ok (.invokevirtual 50, 3) := by decide +kernel
theorem dX2_compareAll_7 : decode cX2_compareAll 7 = .ok (.istore_n 3, 1) := by decide +kernel
theorem dX2_compareAll_8 : decode cX2_compareAll 8 = .ok (.iconst 0, 1) := by decide +kernel
theorem dX2_compareAll_9 : decode cX2_compareAll 9 = .ok (.istore 4, 2) := by decide +kernel
theorem dX2_compareAll_11 : decode cX2_compareAll 11 = .ok (.iload 4, 2) := by decide +kernel
theorem dX2_compareAll_13 : decode cX2_compareAll 13 = .ok (.iload_n 3, 1) := by decide +kernel
theorem dX2_compareAll_14 : decode cX2_compareAll 14 = .ok (.if_icmp .ge 75, 3) := by decide +kernel
theorem dX2_compareAll_17 : decode cX2_compareAll 17 = .ok (.aload_n 0, 1) := by decide +kernel
theorem dX2_compareAll_18 : decode cX2_compareAll 18 = .ok (.iload 4, 2) := by decide +kernel
theorem dX2_compareAll_20 : decode cX2_compareAll 20 = .ok (.iload 4, 2) := by decide +kernel
theorem dX2_compareAll_22 : decode cX2_compareAll 22 = .ok (.iload_n 3, 1) := by decide +kernel
theorem dX2_compareAll_23 : decode cX2_compareAll 23 = .ok (.iload 4, 2) := by decide +kernel
theorem dX2_compareAll_25 : decode cX2_compareAll 25 = .ok (.isub, 1) := by decide +kernel
theorem dX2_compareAll_26 : decode cX2_compareAll 26 = .ok (.invokevirtual 84, 3) := by decide +kernel
theorem dX2_compareAll_29 : decode cX2_compareAll 29 = .ok (.iload 4, 2) := by decide +kernel
theorem dX2_compareAll_31 : decode cX2_compareAll 31 = .ok (.iconst 1, 1) := by decide +kernel
theorem dX2_compareAll_32 : decode cX2_compareAll 32 = .ok (.iadd, 1) := by decide +kernel
theorem dX2_compareAll_33 : decode cX2_compareAll 33 = .ok (.istore 5, 2) := by decide +kernel
theorem dX2_compareAll_35 : decode cX2_compareAll 35 = .ok (.iload 5, 2) := by decide +kernel
theorem dX2_compareAll_37 : decode cX2_compareAll 37 = .ok (.iload_n 3, 1) := by decide +kernel
theorem dX2_compareAll_38 : decode cX2_compareAll 38 = .ok (.if_icmp .ge 45, 3) := by decide +kernel
theorem dX2_compareAll_41 : decode cX2_compareAll 41 = .ok (.aload_n 0, 1) := by decide +kernel
theorem dX2_compareAll_42 : decode cX2_compareAll 42 = .ok (.iload_n 1, 1) := by decide +kernel
theorem dX2_compareAll_43 : decode cX2_compareAll 43 = .ok (.iload_n 2, 1) := by decide +kernel
theorem dX2_compareAll_44 : decode cX2_compareAll 44 = .ok (.iload 4, 2) := by decide +kernel
theorem dX2_compareAll_46 : decode cX2_compareAll 46 = .ok (.iload 5, 2) := by decide +kernel
theorem dX2_compareAll_48 : decode cX2_compareAll 48 = .ok (.iload_n 3, 1) := by decide +kernel
theorem dX2_compareAll_49 : decode cX2_compareAll 49 = .ok (.iload 5, 2) := by decide +kernel
theorem dX2_compareAll_51 : decode cX2_compareAll 51 = .ok (.isub, 1) := by decide +kernel
theorem dX2_compareAll_52 : decode cX2_compareAll 52 = .ok (.invokevirtual 40, 3) := by decide +kernel
theorem dX2_compareAll_55 : decode cX2_compareAll 55 = .ok (.istore 6, 2) := by decide +kernel
theorem dX2_compareAll_57 : decode cX2_compareAll 57 = .ok (.aload_n 0, 1) := by decide +kernel
theorem dX2_compareAll_58 : decode cX2_compareAll 58 = .ok (.iload 4, 2) := by decide +kernel
theorem dX2_compareAll_60 : decode cX2_compareAll 60 = .ok (.iload 5, 2) := by decide +kernel
theorem dX2_compareAll_62 : decode cX2_compareAll 62 = .ok (.iload 6, 2) := by decide +kernel
theorem dX2_compareAll_64 : decode cX2_compareAll 64 = .ok (.invokevirtual 84, 3) := by decide +kernel
theorem dX2_compareAll_67 : decode cX2_compareAll 67 = .ok (.aload_n 0, 1) := by decide +kernel
theorem dX2_compareAll_68 : decode cX2_compareAll 68 = .ok (.iload 5, 2) := by decide +kernel
theorem dX2_compareAll_70 : decode cX2_compareAll 70 = .ok (.iload 4, 2) := by decide +kernel
theorem dX2_compareAll_72 : decode cX2_compareAll 72 = .ok (.iload 6, 2) := by decide +kernel
theorem dX2_compareAll_74 : decode cX2_compareAll 74 = .ok (.invokevirtual 84, 3) := by decide +kernel
theorem dX2_compareAll_77 : decode cX2_compareAll 77 = .ok (.iinc 5 1, 3) := by decide +kernel
theorem dX2_compareAll_80 : decode cX2_compareAll 80 = .ok (.goto (-45), 3) := by decide +kernel
theorem dX2_compareAll_83 : decode cX2_compareAll 83 = .ok (.iinc 4 1, 3) := by decide +kernel
theorem dX2_compareAll_86 : decode cX2_compareAll 86 = .ok (.goto (-75), 3) := by decide +kernel
theorem dX2_compareAll_89 : decode cX2_compareAll 89 = .ok (.return_, 1) := by decide +kernel
set_option maxRecDepth 20000 in
theorem ggX2_setReach_X0_hasLine : GoodIn wsX2_setReach wsX0_hasLine := goodIn_r _ [7, 8, 15, 16, 17, 18] (by decide +kernel) (by decide +kernel)
set_option maxRecDepth 20000 in
theorem gX2_setReach_X0_hasLine : GoodIn wsX2_setReach (wsV RX2 88 RX0 yX0_hasLine wsX0_hasLine) := goodIn_app (goodIn_of _ (by decide +kernel)) ggX2_setReach_X0_hasLine
theorem dX2_setReach_0 : decode cX2_setReach 0 = .ok (.aload_n 0, 1) := by decide +kernel
theorem dX2_setReach_1 : decode cX2_setReach 1 = .ok (.getfield 32, 3) := by decide +kernel
theorem dX2_setReach_4 : decode cX2_setReach 4 = .ok (.iload_n 1, 1) := by decide +kernel
theorem dX2_setReach_5 : decode cX2_setReach 5 = .ok (.invokevirtual 88, 3) := by decide +kernel
theorem dX2_setReach_8 : decode cX2_setReach 8 = .ok (.ifCond .eq 26, 3) := by decide +kernel
theorem dX2_setReach_11 : decode cX2_setReach 11 = .ok (.aload_n 0, 1) := by decide +kernel
theorem dX2_setReach_12 : decode cX2_setReach 12 = .ok (.getfield 32, 3) := by decide +kernel
theorem dX2_setReach_15 : decode cX2_setReach 15 = .ok (.iload_n 2, 1) := by decide +kernel
theorem dX2_setReach_16 : decode cX2_setReach 16 = .ok (.invokevirtual 88, 3) := by decide +kernel
theorem dX2_setReach_19 : decode cX2_setReach 19 = .ok (.ifCond .eq 15, 3) := by decide +kernel
theorem dX2_setReach_22 : decode cX2_setReach 22 = .ok (.aload_n 0, 1) := by decide +kernel
theorem dX2_setReach_23 : decode cX2_setReach 23 = .ok (.getfield 18, 3) := by decide +kernel
theorem dX2_setReach_26 : decode cX2_setReach 26 = .ok (.iload_n 1, 1) := by decide +kernel
theorem dX2_setReach_27 : decode cX2_setReach 27 = .ok (.bipush 20, 2) := by decide +kernel
theorem dX2_setReach_29 : decode cX2_setReach 29 = .ok (.imul, 1) := by decide +kernel
theorem dX2_setReach_30 : decode cX2_setReach 30 = .ok (.iload_n 2, 1) := by decide +kernel
theorem dX2_setReach_31 : decode cX2_setReach 31 = .ok (.iadd, 1) := by decide +kernel
theorem dX2_setReach_32 : decode cX2_setReach 32 = .ok (.iload_n 3, 1) := by decide +kernel
theorem dX2_setReach_33 : decode cX2_setReach 33 = .ok (.iastore, 1) := by decide +kernel
theorem dX2_setReach_34 : decode cX2_setReach 34 = .ok (.return_, 1) := by decide +kernel
set_option maxRecDepth 20000 in
theorem ggX2_reachOf_X0_hasLine : GoodIn wsX2_reachOf wsX0_hasLine := goodIn_r _ [7, 8, 15, 16, 17, 18] (by decide +kernel) (by decide +kernel)
set_option maxRecDepth 20000 in
theorem gX2_reachOf_X0_hasLine : GoodIn wsX2_reachOf (wsV RX2 88 RX0 yX0_hasLine wsX0_hasLine) := goodIn_app (goodIn_of _ (by decide +kernel)) ggX2_reachOf_X0_hasLine
theorem dX2_reachOf_0 : decode cX2_reachOf 0 = .ok (.aload_n 0, 1) := by decide +kernel
theorem dX2_reachOf_1 : decode cX2_reachOf 1 = .ok (.getfield 32, 3) := by decide +kernel
theorem dX2_reachOf_4 : decode cX2_reachOf 4 = .ok (.iload_n 1, 1) := by decide +kernel
theorem dX2_reachOf_5 : decode cX2_reachOf 5 = .ok (.invokevirtual 88, 3) := by decide +kernel
theorem dX2_reachOf_8 : decode cX2_reachOf 8 = .ok (.ifCond .eq 28, 3) := by decide +kernel
theorem dX2_reachOf_11 : decode cX2_reachOf 11 = .ok (.aload_n 0, 1) := by decide +kernel
theorem dX2_reachOf_12 : decode cX2_reachOf 12 = .ok (.getfield 32, 3) := by decide +kernel
theorem dX2_reachOf_15 : decode cX2_reachOf 15 = .ok (.iload_n 2, 1) := by decide +kernel
theorem dX2_reachOf_16 : decode cX2_reachOf 16 = .ok (.invokevirtual 88, 3) := by decide +kernel
theorem dX2_reachOf_19 : decode cX2_reachOf 19 = .ok (.ifCond .eq 17, 3) := by decide +kernel
theorem dX2_reachOf_22 : decode cX2_reachOf 22 = .ok (.aload_n 0, 1) := by decide +kernel
theorem dX2_reachOf_23 : decode cX2_reachOf 23 = .ok (.getfield 18, 3) := by decide +kernel
theorem dX2_reachOf_26 : decode cX2_reachOf 26 = .ok (.iload_n 1, 1) := by decide +kernel
theorem dX2_reachOf_27 : decode cX2_reachOf 27 = .ok (.bipush 20, 2) := by decide +kernel
theorem dX2_reachOf_29 : decode cX2_reachOf 29 = .ok (.imul, 1) := by decide +kernel
theorem dX2_reachOf_30 : decode cX2_reachOf 30 = .ok (.iload_n 2, 1) := by decide +kernel
theorem dX2_reachOf_31 : decode cX2_reachOf 31 = .ok (.iadd, 1) := by decide +kernel
theorem dX2_reachOf_32 : decode cX2_reachOf 32 = .ok (.iaload, 1) := by decide +kernel
theorem dX2_reachOf_33 : decode cX2_reachOf 33 = .ok (.goto 4, 3) := by decide +kernel
theorem dX2_reachOf_36 : decode cX2_reachOf 36 = .ok (.iconst 0, 1) := by decide +kernel
theorem dX2_reachOf_37 : decode cX2_reachOf 37 = .ok (.ireturn, 1) := by decide +kernel
set_option maxRecDepth 20000 in
theorem ggX2_seekLongest_X0_lines : GoodIn wsX2_seekLongest wsX0_lines := goodIn_r _ [13, 14, 31, 32, 33, 34] (by decide +kernel) (by decide +kernel)
set_option maxRecDepth 20000 in
theorem gX2_seekLongest_X0_lines : GoodIn wsX2_seekLongest (wsV RX2 50 RX0 yX0_lines wsX0_lines) := goodIn_app (goodIn_of _ (by decide +kernel)) ggX2_seekLongest_X0_lines
set_option maxRecDepth 20000 in
theorem ggX2_seekLongest_X2_reachOf : GoodIn wsX2_seekLongest wsX2_reachOf := goodIn_r _ [19, 2, 20, 21, 22, 23, 12, 24, 14, 25, 26, 27, 28, 29, 30, 31, 32, 33, 34] (by decide +kernel) (by decide +kernel)
set_option maxRecDepth 20000 in
theorem gX2_seekLongest_X2_reachOf : GoodIn wsX2_seekLongest (wsV RX2 91 RX2 yX2_reachOf wsX2_reachOf) := goodIn_app (goodIn_of _ (by decide +kernel)) ggX2_seekLongest_X2_reachOf
theorem dX2_seekLongest_0 : decode cX2_seekLongest 0 = .ok (.aload_n 0, 1) := by decide +kernel
theorem dX2_seekLongest_1 : decode cX2_seekLongest 1 = .ok (.iconst 0, 1) := by decide +kernel
theorem dX2_seekLongest_2 : decode cX2_seekLongest 2 = .ok (.putfield 22, 3) := by decide +kernel
theorem dX2_seekLongest_5 : decode cX2_seekLongest 5 = .ok (.iconst 0, 1) := by decide +kernel
theorem dX2_seekLongest_6 : decode cX2_seekLongest 6 = .ok (.istore_n 1, 1) := by decide +kernel
theorem dX2_seekLongest_7 : decode cX2_seekLongest 7 = .ok (.iload_n 1, 1) := by decide +kernel
theorem dX2_seekLongest_8 : decode cX2_seekLongest 8 = .ok (.aload_n 0, 1) := by decide +kernel
theorem dX2_seekLongest_9 : decode cX2_seekLongest 9 = .ok (.getfield 32, 3) := by decide +kernel
theorem dX2_seekLongest_12 : decode cX2_seekLongest 12 = .ok (.invokevirtual 50, 3) := by decide +kernel
theorem dX2_seekLongest_15 : decode cX2_seekLongest 15 = .ok (.if_icmp .ge 66, 3) := by decide +kernel
theorem dX2_seekLongest_18 : decode cX2_seekLongest 18 = .ok (.iload_n 1, 1) := by decide +kernel
theorem dX2_seekLongest_19 : decode cX2_seekLongest 19 = .ok (.iconst 1, 1) := by decide +kernel
theorem dX2_seekLongest_20 : decode cX2_seekLongest 20 = .ok (.iadd, 1) := by decide +kernel
theorem dX2_seekLongest_21 : decode cX2_seekLongest 21 = .ok (.istore_n 2, 1) := by decide +kernel
theorem dX2_seekLongest_22 : decode cX2_seekLongest 22 = .ok (.iload_n 2, 1) := by decide +kernel
theorem dX2_seekLongest_23 : decode cX2_seekLongest 23 = .ok (.aload_n 0, 1) := by decide +kernel
theorem dX2_seekLongest_24 : decode cX2_seekLongest 24 = .ok (.getfield 32, 3) := by decide +kernel
theorem dX2_seekLongest_27 : decode cX2_seekLongest 27 = .ok (.invokevirtual 50, 3) := by decide +kernel
theorem dX2_seekLongest_30 : decode cX2_seekLongest 30 = .ok (.if_icmp .ge 45, 3) := by decide +kernel
theorem dX2_seekLongest_33 : decode cX2_seekLongest 33 = .ok (.aload_n 0, 1) := by decide +kernel
theorem dX2_seekLongest_34 : decode cX2_seekLongest 34 = .ok (.iload_n 1, 1) := by decide +kernel
theorem dX2_seekLongest_35 : decode cX2_seekLongest 35 = .ok (.iload_n 2, 1) := by decide +kernel
theorem dX2_seekLongest_36 : decode cX2_seekLongest 36 = .ok (.invokevirtual 91, 3) := by decide +kernel
theorem dX2_seekLongest_39 : decode cX2_seekLongest 39 = .ok (.iload_n 2, 1) := by decide +kernel
theorem dX2_seekLongest_40 : decode cX2_seekLongest 40 = .ok (.iload_n 1, 1) := by decide +kernel
theorem dX2_seekLongest_41 : decode cX2_seekLongest 41 = .ok (.isub, 1) := by decide +kernel
theorem dX2_seekLongest_42 : decode cX2_seekLongest 42 = .ok (.invokestatic 94, 3) := by decide +kernel
theorem dX2_seekLongest_45 : decode cX2_seekLongest 45 = .ok (.istore_n 3, 1) := by decide +kernel
theorem dX2_seekLongest_46 : decode cX2_seekLongest 46 = .ok (.iload_n 3, 1) := by decide +kernel
theorem dX2_seekLongest_47 : decode cX2_seekLongest 47 = .ok (.aload_n 0, 1) := by decide +kernel
theorem dX2_seekLongest_48 : decode cX2_seekLongest 48 = .ok (.getfield 22, 3) := by decide +kernel
theorem dX2_seekLongest_51 : decode cX2_seekLongest 51 = .ok (.if_icmp .le 18, 3) := by decide +kernel
theorem dX2_seekLongest_54 : decode cX2_seekLongest 54 = .ok (.aload_n 0, 1) := by decide +kernel
theorem dX2_seekLongest_55 : decode cX2_seekLongest 55 = .ok (.iload_n 3, 1) := by decide +kernel
theorem dX2_seekLongest_56 : decode cX2_seekLongest 56 = .ok (.putfield 22, 3) := by decide +kernel
theorem dX2_seekLongest_59 : decode cX2_seekLongest 59 = .ok (.aload_n 0, 1) := by decide +kernel
theorem dX2_seekLongest_60 : decode cX2_seekLongest 60 = .ok (.iload_n 1, 1) := by decide +kernel
theorem dX2_seekLongest_61 : decode cX2_seekLongest 61 = .ok (.putfield 26, 3) := by decide +kernel
theorem dX2_seekLongest_64 : decode cX2_seekLongest 64 = .ok (.aload_n 0, 1) := by decide +kernel
theorem dX2_seekLongest_65 : decode cX2_seekLongest 65 = .ok (.iload_n 2, 1) := by decide +kernel
theorem dX2_seekLongest_66 : decode cX2_seekLongest 66 = .ok (.putfield 29, 3) := by decide +kernel
theorem dX2_seekLongest_69 : decode cX2_seekLongest 69 = .ok (.iinc 2 1, 3) := by decide +kernel
theorem dX2_seekLongest_72 : decode cX2_seekLongest 72 = .ok (.goto (-50), 3) := by decide +kernel
theorem dX2_seekLongest_75 : decode cX2_seekLongest 75 = .ok (.iinc 1 1, 3) := by decide +kernel
theorem dX2_seekLongest_78 : decode cX2_seekLongest 78 = .ok (.goto (-71), 3) := by decide +kernel
theorem dX2_seekLongest_81 : decode cX2_seekLongest 81 = .ok (.return_, 1) := by decide +kernel
set_option maxRecDepth 20000 in
theorem ggX2_startsLike_X0_lines : GoodIn wsX2_startsLike wsX0_lines := goodIn_r _ [6, 7, 24, 25, 26, 27] (by decide +kernel) (by decide +kernel)
set_option maxRecDepth 20000 in
theorem gX2_startsLike_X0_lines : GoodIn wsX2_startsLike (wsV RX2 50 RX0 yX0_lines wsX0_lines) := goodIn_app (goodIn_of _ (by decide +kernel)) ggX2_startsLike_X0_lines
set_option maxRecDepth 20000 in
theorem ggX2_startsLike_X2_reachOf : GoodIn wsX2_startsLike wsX2_reachOf := goodIn_r _ [12, 1, 13, 14, 15, 16, 5, 17, 7, 18, 19, 20, 21, 22, 23, 24, 25, 26, 27] (by decide +kernel) (by decide +kernel)
set_option maxRecDepth 20000 in
theorem gX2_startsLike_X2_reachOf : GoodIn wsX2_startsLike (wsV RX2 91 RX2 yX2_reachOf wsX2_reachOf) := goodIn_app (goodIn_of _ (by decide +kernel)) ggX2_startsLike_X2_reachOf
theorem dX2_startsLike_0 : decode cX2_startsLike 0 = .ok (.iconst 0, 1) := by decide +kernel
theorem dX2_startsLike_1 : decode cX2_startsLike 1 = .ok (.istore_n 3, 1) := by decide +kernel
theorem dX2_startsLike_2 : decode cX2_startsLike 2 = .ok (.iconst 0, 1) := by decide +kernel
theorem dX2_startsLike_3 : decode cX2_startsLike 3 = .ok (.istore 4, 2) := by decide +kernel
theorem dX2_startsLike_5 : decode cX2_startsLike 5 = .ok (.iload 4, 2) := by decide +kernel
theorem dX2_startsLike_7 : decode cX2_startsLike 7 = .ok (.aload_n 0, 1) := by decide +kernel
theorem dX2_startsLike_8 : decode cX2_startsLike 8 = .ok (.getfield 32, 3) := by decide +kernel
theorem dX2_startsLike_11 : decode cX2_startsLike 11 = .ok (.invokevirtual 50, 3) := by decide +kernel
theorem dX2_startsLike_14 : decode cX2_startsLike 14 = .ok (.if_icmp .ge 27, 3) := by decide +kernel
theorem dX2_startsLike_17 : decode cX2_startsLike 17 = .ok (.aload_n 0, 1) := by decide +kernel
theorem dX2_startsLike_18 : decode cX2_startsLike 18 = .ok (.iload_n 1, 1) := by decide +kernel
theorem dX2_startsLike_19 : decode cX2_startsLike 19 = .ok (.iload 4, 2) := by decide +kernel
theorem dX2_startsLike_21 : decode cX2_startsLike 21 = .ok (.invokevirtual 91, 3) := by decide +kernel
theorem dX2_startsLike_24 : decode cX2_startsLike 24 = .ok (.iload_n 2, 1) := by decide +kernel
theorem dX2_startsLike_25 : decode cX2_startsLike 25 = .ok (.if_icmp .lt 10, 3) := by decide +kernel
theorem dX2_startsLike_28 : decode cX2_startsLike 28 = .ok (.iload_n 3, 1) := by decide +kernel
theorem dX2_startsLike_29 : decode cX2_startsLike 29 = .ok (.iconst 1, 1) := by decide +kernel
theorem dX2_startsLike_30 : decode cX2_startsLike 30 = .ok (.iload 4, 2) := by decide +kernel
theorem dX2_startsLike_32 : decode cX2_startsLike 32 = .ok (.ishl, 1) := by decide +kernel
theorem dX2_startsLike_33 : decode cX2_startsLike 33 = .ok (.ior, 1) := by decide +kernel
theorem dX2_startsLike_34 : decode cX2_startsLike 34 = .ok (.istore_n 3, 1) := by decide +kernel
theorem dX2_startsLike_35 : decode cX2_startsLike 35 = .ok (.iinc 4 1, 3) := by decide +kernel
theorem dX2_startsLike_38 : decode cX2_startsLike 38 = .ok (.goto (-33), 3) := by decide +kernel
theorem dX2_startsLike_41 : decode cX2_startsLike 41 = .ok (.iload_n 3, 1) := by decide +kernel
theorem dX2_startsLike_42 : decode cX2_startsLike 42 = .ok (.ireturn, 1) := by decide +kernel
set_option maxRecDepth 20000 in
theorem ggX2_isLeastOfGroup_X2_startsLike : GoodIn wsX2_isLeastOfGroup wsX2_startsLike := goodIn_r _ [5, 6, 7, 8, 9, 10, 11, 12, 13, 14, 15, 4, 16, 17, 18, 19, 20, 21, 32, 33, 34, 35, 36, 37, 38, 39, 40, 41] (by decide +kernel) (by decide +kernel)
set_option maxRecDepth 20000 in
theorem gX2_isLeastOfGroup_X2_startsLike : GoodIn wsX2_isLeastOfGroup (wsV RX2 97 RX2 yX2_startsLike wsX2_startsLike) := goodIn_app (goodIn_of _ (by decide +kernel)) ggX2_isLeastOfGroup_X2_startsLike
set_option maxRecDepth 20000 in
theorem ggX2_isLeastOfGroup_J6_bitCount_0f7a4 : GoodIn wsX2_isLeastOfGroup wsJ6_bitCount_0f7a4 := goodIn_r _ [25, 26, 27, 28] (by decide +kernel) (by decide +kernel)
set_option maxRecDepth 20000 in
theorem gX2_isLeastOfGroup_J6_bitCount_0f7a4 : GoodIn wsX2_isLeastOfGroup (va_wsS RX2 100 yJ6_bitCount_0f7a4 wsJ6_bitCount_0f7a4) := goodIn_app (goodIn_of _ (by decide +kernel)) ggX2_isLeastOfGroup_J6_bitCount_0f7a4
set_option maxRecDepth 20000 in
theorem ggX2_isLeastOfGroup_X2_leastOf : GoodIn wsX2_isLeastOfGroup wsX2_leastOf := goodIn_r _ [31] (by decide +kernel) (by decide +kernel)
set_option maxRecDepth 20000 in
theorem gX2_isLeastOfGroup_X2_leastOf : GoodIn wsX2_isLeastOfGroup (va_wsS RX2 106 yX2_leastOf wsX2_leastOf) := goodIn_app (goodIn_of _ (by decide +kernel)) ggX2_isLeastOfGroup_X2_leastOf
theorem dX2_isLeastOfGroup_0 : decode cX2_isLeastOfGroup 0 = .ok (.aload_n 0, 1) := by decide +kernel
theorem dX2_isLeastOfGroup_1 : decode cX2_isLeastOfGroup 1 = .ok (.iload_n 1, 1) := by decide +kernel
theorem dX2_isLeastOfGroup_2 : decode cX2_isLeastOfGroup 2 = .ok (.iload_n 2, 1) := by decide +kernel
theorem dX2_isLeastOfGroup_3 : decode cX2_isLeastOfGroup 3 = .ok (.invokevirtual 97, 3) := by decide +kernel
theorem dX2_isLeastOfGroup_6 : decode cX2_isLeastOfGroup 6 = .ok (.istore_n 3, 1) := by decide +kernel
theorem dX2_isLeastOfGroup_7 : decode cX2_isLeastOfGroup 7 = .ok (.iload_n 3, 1) := by decide +kernel
theorem dX2_isLeastOfGroup_8 : decode cX2_isLeastOfGroup 8 = .ok (.invokestatic 100, 3) := by decide +kernel
theorem dX2_isLeastOfGroup_11 : decode cX2_isLeastOfGroup 11 = .ok (.iconst 2, 1) := by decide +kernel
theorem dX2_isLeastOfGroup_12 : decode cX2_isLeastOfGroup 12 = .ok (.if_icmp .lt 15, 3) := by decide +kernel
theorem dX2_isLeastOfGroup_15 : decode cX2_isLeastOfGroup 15 = .ok (.iload_n 3, 1) := by decide +kernel
theorem dX2_isLeastOfGroup_16 : decode cX2_isLeastOfGroup 16 = .ok (.invokestatic 106, 3) := by decide +kernel
theorem dX2_isLeastOfGroup_19 : decode cX2_isLeastOfGroup 19 = .ok (.iload_n 1, 1) := by decide +kernel
theorem dX2_isLeastOfGroup_20 : decode cX2_isLeastOfGroup 20 = .ok (.if_icmp .ne 7, 3) := by decide +kernel
theorem dX2_isLeastOfGroup_23 : decode cX2_isLeastOfGroup 23 = .ok (.iconst 1, 1) := by decide +kernel
theorem dX2_isLeastOfGroup_24 : decode cX2_isLeastOfGroup 24 = .ok (.goto 4, 3) := by decide +kernel
theorem dX2_isLeastOfGroup_27 : decode cX2_isLeastOfGroup 27 = .ok (.iconst 0, 1) := by decide +kernel
theorem dX2_isLeastOfGroup_28 : decode cX2_isLeastOfGroup 28 = .ok (.ireturn, 1) := by decide +kernel
theorem dX2_leastOf_0 : decode cX2_leastOf 0 = .ok (.iconst 0, 1) := by decide +kernel
theorem dX2_leastOf_1 : decode cX2_leastOf 1 = .ok (.istore_n 1, 1) := by decide +kernel
theorem dX2_leastOf_2 : decode cX2_leastOf 2 = .ok (.iload_n 1, 1) := by decide +kernel
theorem dX2_leastOf_3 : decode cX2_leastOf 3 = .ok (.bipush 20, 2) := by decide +kernel
theorem dX2_leastOf_5 : decode cX2_leastOf 5 = .ok (.if_icmp .ge 17, 3) := by decide +kernel
theorem dX2_leastOf_8 : decode cX2_leastOf 8 = .ok (.iload_n 0, 1) := by decide +kernel
theorem dX2_leastOf_9 : decode cX2_leastOf 9 = .ok (.iconst 1, 1) := by decide +kernel
theorem dX2_leastOf_10 : decode cX2_leastOf 10 = .ok (.iload_n 1, 1) := by decide +kernel
theorem dX2_leastOf_11 : decode cX2_leastOf 11 = .ok (.ishl, 1) := by decide +kernel
theorem dX2_leastOf_12 : decode cX2_leastOf 12 = .ok (.iand, 1) := by decide +kernel
theorem dX2_leastOf_13 : decode cX2_leastOf 13 = .ok (.ifCond .ne 9, 3) := by decide +kernel
theorem dX2_leastOf_16 : decode cX2_leastOf 16 = .ok (.iinc 1 1, 3) := by decide +kernel
theorem dX2_leastOf_19 : decode cX2_leastOf 19 = .ok (.goto (-17), 3) := by decide +kernel
theorem dX2_leastOf_22 : decode cX2_leastOf 22 = .ok (.iload_n 1, 1) := by decide +kernel
theorem dX2_leastOf_23 : decode cX2_leastOf 23 = .ok (.ireturn, 1) := by decide +kernel
set_option maxRecDepth 20000 in
theorem ggX2_isWithinLonger_X2_leastOf : GoodIn wsX2_isWithinLonger wsX2_leastOf := goodIn_r _ [4] (by decide +kernel) (by decide +kernel)
set_option maxRecDepth 20000 in
theorem gX2_isWithinLonger_X2_leastOf : GoodIn wsX2_isWithinLonger (va_wsS RX2 106 yX2_leastOf wsX2_leastOf) := goodIn_app (goodIn_of _ (by decide +kernel)) ggX2_isWithinLonger_X2_leastOf
set_option maxRecDepth 20000 in
theorem ggX2_isWithinLonger_X2_startsLike : GoodIn wsX2_isWithinLonger wsX2_startsLike := goodIn_r _ [8, 9, 10, 11, 12, 13, 14, 15, 16, 17, 18, 3, 19, 20, 21, 22, 23, 24, 25, 26, 27, 28, 29, 30, 31, 32, 33, 34] (by decide +kernel) (by decide +kernel)
set_option maxRecDepth 20000 in
theorem gX2_isWithinLonger_X2_startsLike : GoodIn wsX2_isWithinLonger (wsV RX2 97 RX2 yX2_startsLike wsX2_startsLike) := goodIn_app (goodIn_of _ (by decide +kernel)) ggX2_isWithinLonger_X2_startsLike
theorem dX2_isWithinLonger_0 : decode cX2_isWithinLonger 0 = .ok (.iload_n 1, 1) := by decide +kernel
theorem dX2_isWithinLonger_1 : decode cX2_isWithinLonger 1 = .ok (.invokestatic 106, 3) := by decide +kernel
theorem dX2_isWithinLonger_4 : decode cX2_isWithinLonger 4 = .ok (.istore_n 3, 1) := by decide +kernel
theorem dX2_isWithinLonger_5 : decode cX2_isWithinLonger 5 = .ok (.aload_n 0, 1) := by decide +kernel
theorem dX2_isWithinLonger_6 : decode cX2_isWithinLonger 6 = .ok (.iload_n 3, 1) := by decide +kernel
theorem dX2_isWithinLonger_7 : decode cX2_isWithinLonger 7 = .ok (.iload_n 2, 1) := by decide +kernel
theorem dX2_isWithinLonger_8 : decode cX2_isWithinLonger 8 = .ok (.iconst 1, 1) := by decide +kernel
theorem dX2_isWithinLonger_9 : decode cX2_isWithinLonger 9 = .ok (.iadd, 1) := by decide +kernel
theorem dX2_isWithinLonger_10 : decode cX2_isWithinLonger 10 = .ok (.invokevirtual 97, 3) := by decide +kernel
theorem dX2_isWithinLonger_13 : decode cX2_isWithinLonger 13 = .ok (.iload_n 1, 1) := by decide +kernel
theorem dX2_isWithinLonger_14 : decode cX2_isWithinLonger 14 = .ok (.if_icmp .ne 5, 3) := by decide +kernel
theorem dX2_isWithinLonger_17 : decode cX2_isWithinLonger 17 = .ok (.iconst 1, 1) := by decide +kernel
theorem dX2_isWithinLonger_18 : decode cX2_isWithinLonger 18 = .ok (.ireturn, 1) := by decide +kernel
theorem dX2_isWithinLonger_19 : decode cX2_isWithinLonger 19 = .ok (.iload_n 3, 1) := by decide +kernel
theorem dX2_isWithinLonger_20 : decode cX2_isWithinLonger 20 = .ok (.ifCond .le 23, 3) := by decide +kernel
theorem dX2_isWithinLonger_23 : decode cX2_isWithinLonger 23 = .ok (.aload_n 0, 1) := by decide +kernel
theorem dX2_isWithinLonger_24 : decode cX2_isWithinLonger 24 = .ok (.iload_n 3, 1) := by decide +kernel
theorem dX2_isWithinLonger_25 : decode cX2_isWithinLonger 25 = .ok (.iconst 1, 1) := by decide +kernel
theorem dX2_isWithinLonger_26 : decode cX2_isWithinLonger 26 = .ok (.isub, 1) := by decide +kernel
theorem dX2_isWithinLonger_27 : decode cX2_isWithinLonger 27 = .ok (.iload_n 2, 1) := by decide +kernel
theorem dX2_isWithinLonger_28 : decode cX2_isWithinLonger 28 = .ok (.iconst 1, 1) := by decide +kernel
theorem dX2_isWithinLonger_29 : decode cX2_isWithinLonger 29 = .ok (.iadd, 1) := by decide +kernel
theorem dX2_isWithinLonger_30 : decode cX2_isWithinLonger 30 = .ok (.invokevirtual 97, 3) := by decide +kernel
theorem dX2_isWithinLonger_33 : decode cX2_isWithinLonger 33 = .ok (.iload_n 1, 1) := by decide +kernel
theorem dX2_isWithinLonger_34 : decode cX2_isWithinLonger 34 = .ok (.iconst 1, 1) := by decide +kernel
theorem dX2_isWithinLonger_35 : decode cX2_isWithinLonger 35 = .ok (.ishr, 1) := by decide +kernel
theorem dX2_isWithinLonger_36 : decode cX2_isWithinLonger 36 = .ok (.if_icmp .ne 7, 3) := by decide +kernel
theorem dX2_isWithinLonger_39 : decode cX2_isWithinLonger 39 = .ok (.iconst 1, 1) := by decide +kernel
theorem dX2_isWithinLonger_40 : decode cX2_isWithinLonger 40 = .ok (.goto 4, 3) := by decide +kernel
theorem dX2_isWithinLonger_43 : decode cX2_isWithinLonger 43 = .ok (.iconst 0, 1) := by decide +kernel
theorem dX2_isWithinLonger_44 : decode cX2_isWithinLonger 44 = .ok (.ireturn, 1) := by decide +kernel
