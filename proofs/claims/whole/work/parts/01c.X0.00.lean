theorem dX0_init_0 : decode cX0_init 0 = .ok (.aload_n 0, 1) := by decide +kernel
theorem dX0_init_1 : decode cX0_init 1 = .ok (.invokespecial 3, 3) := by decide +kernel
theorem dX0_init_4 : decode cX0_init 4 = .ok (.aload_n 0, 1) := by decide +kernel
theorem dX0_init_5 : decode cX0_init 5 = .ok (.sipush 640, 3) := by decide +kernel
theorem dX0_init_8 : decode cX0_init 8 = .ok (.newarray .int, 2) := by decide +kernel
theorem dX0_init_10 : decode cX0_init 10 = .ok (.putfield 9, 3) := by decide +kernel
theorem dX0_init_13 : decode cX0_init 13 = .ok (.aload_n 0, 1) := by decide +kernel
theorem dX0_init_14 : decode cX0_init 14 = .ok (.bipush 80, 2) := by decide +kernel
theorem dX0_init_16 : decode cX0_init 16 = .ok (.newarray .int, 2) := by decide +kernel
theorem dX0_init_18 : decode cX0_init 18 = .ok (.putfield 15, 3) := by decide +kernel
theorem dX0_init_21 : decode cX0_init 21 = .ok (.aload_n 0, 1) := by decide +kernel
theorem dX0_init_22 : decode cX0_init 22 = .ok (.iconst 0, 1) := by decide +kernel
theorem dX0_init_23 : decode cX0_init 23 = .ok (.putfield 18, 3) := by decide +kernel
theorem dX0_init_26 : decode cX0_init 26 = .ok (.aload_n 0, 1) := by decide +kernel
theorem dX0_init_27 : decode cX0_init 27 = .ok (.iconst 1, 1) := by decide +kernel
theorem dX0_init_28 : decode cX0_init 28 = .ok (.putfield 22, 3) := by decide +kernel
theorem dX0_init_31 : decode cX0_init 31 = .ok (.return_, 1) := by decide +kernel
theorem dX0_lines_0 : decode cX0_lines 0 = .ok (.aload_n 0, 1) := by decide +kernel
theorem dX0_lines_1 : decode cX0_lines 1 = .ok (.getfield 18, 3) := by decide +kernel
theorem dX0_lines_4 : decode cX0_lines 4 = .ok (.ireturn, 1) := by decide +kernel
theorem dX0_versions_0 : decode cX0_versions 0 = .ok (.aload_n 0, 1) := by decide +kernel
theorem dX0_versions_1 : decode cX0_versions 1 = .ok (.getfield 22, 3) := by decide +kernel
theorem dX0_versions_4 : decode cX0_versions 4 = .ok (.ireturn, 1) := by decide +kernel
theorem dX0_hasVersion_0 : decode cX0_hasVersion 0 = .ok (.iload_n 1, 1) := by decide +kernel
theorem dX0_hasVersion_1 : decode cX0_hasVersion 1 = .ok (.ifCond .lt 15, 3) := by decide +kernel
theorem dX0_hasVersion_4 : decode cX0_hasVersion 4 = .ok (.iload_n 1, 1) := by decide +kernel
theorem dX0_hasVersion_5 : decode cX0_hasVersion 5 = .ok (.aload_n 0, 1) := by decide +kernel
theorem dX0_hasVersion_6 : decode cX0_hasVersion 6 = .ok (.getfield 22, 3) := by decide +kernel
theorem dX0_hasVersion_9 : decode cX0_hasVersion 9 = .ok (.if_icmp .ge 7, 3) := by decide +kernel
theorem dX0_hasVersion_12 : decode cX0_hasVersion 12 = .ok (.iconst 1, 1) := by decide +kernel
theorem dX0_hasVersion_13 : decode cX0_hasVersion 13 = .ok (.goto 4, 3) := by decide +kernel
theorem dX0_hasVersion_16 : decode cX0_hasVersion 16 = .ok (.iconst 0, 1) := by decide +kernel
theorem dX0_hasVersion_17 : decode cX0_hasVersion 17 = .ok (.ireturn, 1) := by decide +kernel
theorem dX0_hasLine_0 : decode cX0_hasLine 0 = .ok (.iload_n 1, 1) := by decide +kernel
theorem dX0_hasLine_1 : decode cX0_hasLine 1 = .ok (.ifCond .lt 15, 3) := by decide +kernel
theorem dX0_hasLine_4 : decode cX0_hasLine 4 = .ok (.iload_n 1, 1) := by decide +kernel
theorem dX0_hasLine_5 : decode cX0_hasLine 5 = .ok (.aload_n 0, 1) := by decide +kernel
theorem dX0_hasLine_6 : decode cX0_hasLine 6 = .ok (.getfield 18, 3) := by decide +kernel
theorem dX0_hasLine_9 : decode cX0_hasLine 9 = .ok (.if_icmp .ge 7, 3) := by decide +kernel
theorem dX0_hasLine_12 : decode cX0_hasLine 12 = .ok (.iconst 1, 1) := by decide +kernel
theorem dX0_hasLine_13 : decode cX0_hasLine 13 = .ok (.goto 4, 3) := by decide +kernel
theorem dX0_hasLine_16 : decode cX0_hasLine 16 = .ok (.iconst 0, 1) := by decide +kernel
theorem dX0_hasLine_17 : decode cX0_hasLine 17 = .ok (.ireturn, 1) := by decide +kernel
theorem dX0_sizeOf_0 : decode cX0_sizeOf 0 = .ok (.iload_n 1, 1) := by decide +kernel
theorem dX0_sizeOf_1 : decode cX0_sizeOf 1 = .ok (.ifCond .lt 23, 3) := by decide +kernel
theorem dX0_sizeOf_4 : decode cX0_sizeOf 4 = .ok (.iload_n 1, 1) := by decide +kernel
theorem dX0_sizeOf_5 : decode cX0_sizeOf 5 = .ok (.aload_n 0, 1) := by decide +kernel
theorem dX0_sizeOf_6 : decode cX0_sizeOf 6 = .ok (.getfield 22, 3) := by decide +kernel
theorem dX0_sizeOf_9 : decode cX0_sizeOf 9 = .ok (.if_icmp .ge 15, 3) := by decide +kernel
theorem dX0_sizeOf_12 : decode cX0_sizeOf 12 = .ok (.iload_n 2, 1) := by decide +kernel
theorem dX0_sizeOf_13 : decode cX0_sizeOf 13 = .ok (.ifCond .lt 11, 3) := by decide +kernel
theorem dX0_sizeOf_16 : decode cX0_sizeOf 16 = .ok (.iload_n 2, 1) := by decide +kernel
theorem dX0_sizeOf_17 : decode cX0_sizeOf 17 = .ok (.aload_n 0, 1) := by decide +kernel
theorem dX0_sizeOf_18 : decode cX0_sizeOf 18 = .ok (.getfield 18, 3) := by decide +kernel
theorem dX0_sizeOf_21 : decode cX0_sizeOf 21 = .ok (.if_icmp .lt 5, 3) := by decide +kernel
theorem dX0_sizeOf_24 : decode cX0_sizeOf 24 = .ok (.iconst 0, 1) := by decide +kernel
theorem dX0_sizeOf_25 : decode cX0_sizeOf 25 = .ok (.ireturn, 1) := by decide +kernel
theorem dX0_sizeOf_26 : decode cX0_sizeOf 26 = .ok (.aload_n 0, 1) := by decide +kernel
theorem dX0_sizeOf_27 : decode cX0_sizeOf 27 = .ok (.getfield 15, 3) := by decide +kernel
theorem dX0_sizeOf_30 : decode cX0_sizeOf 30 = .ok (.iload_n 1, 1) := by decide +kernel
theorem dX0_sizeOf_31 : decode cX0_sizeOf 31 = .ok (.bipush 20, 2) := by decide +kernel
theorem dX0_sizeOf_33 : decode cX0_sizeOf 33 = .ok (.imul, 1) := by decide +kernel
theorem dX0_sizeOf_34 : decode cX0_sizeOf 34 = .ok (.iload_n 2, 1) := by decide +kernel
theorem dX0_sizeOf_35 : decode cX0_sizeOf 35 = .ok (.iadd, 1) := by decide +kernel
theorem dX0_sizeOf_36 : decode cX0_sizeOf 36 = .ok (.iaload, 1) := by decide +kernel
theorem dX0_sizeOf_37 : decode cX0_sizeOf 37 = .ok (.ireturn, 1) := by decide +kernel
theorem dX0_signAt_0 : decode cX0_signAt 0 = .ok (.iload_n 1, 1) := by decide +kernel
theorem dX0_signAt_1 : decode cX0_signAt 1 = .ok (.ifCond .lt 23, 3) := by decide +kernel
theorem dX0_signAt_4 : decode cX0_signAt 4 = .ok (.iload_n 1, 1) := by decide +kernel
theorem dX0_signAt_5 : decode cX0_signAt 5 = .ok (.aload_n 0, 1) := by decide +kernel
theorem dX0_signAt_6 : decode cX0_signAt 6 = .ok (.getfield 22, 3) := by decide +kernel
theorem dX0_signAt_9 : decode cX0_signAt 9 = .ok (.if_icmp .ge 15, 3) := by decide +kernel
theorem dX0_signAt_12 : decode cX0_signAt 12 = .ok (.iload_n 2, 1) := by decide +kernel
theorem dX0_signAt_13 : decode cX0_signAt 13 = .ok (.ifCond .lt 11, 3) := by decide +kernel
theorem dX0_signAt_16 : decode cX0_signAt 16 = .ok (.iload_n 2, 1) := by decide +kernel
theorem dX0_signAt_17 : decode cX0_signAt 17 = .ok (.aload_n 0, 1) := by decide +kernel
theorem dX0_signAt_18 : decode cX0_signAt 18 = .ok (.getfield 18, 3) := by decide +kernel
theorem dX0_signAt_21 : decode cX0_signAt 21 = .ok (.if_icmp .lt 5, 3) := by decide +kernel
theorem dX0_signAt_24 : decode cX0_signAt 24 = .ok (.iconst 0, 1) := by decide +kernel
theorem dX0_signAt_25 : decode cX0_signAt 25 = .ok (.ireturn, 1) := by decide +kernel
theorem dX0_signAt_26 : decode cX0_signAt 26 = .ok (.iload_n 1, 1) := by decide +kernel
theorem dX0_signAt_27 : decode cX0_signAt 27 = .ok (.bipush 20, 2) := by decide +kernel
theorem dX0_signAt_29 : decode cX0_signAt 29 = .ok (.imul, 1) := by decide +kernel
theorem dX0_signAt_30 : decode cX0_signAt 30 = .ok (.iload_n 2, 1) := by decide +kernel
theorem dX0_signAt_31 : decode cX0_signAt 31 = .ok (.iadd, 1) := by decide +kernel
theorem dX0_signAt_32 : decode cX0_signAt 32 = .ok (.istore 4, 2) := by decide +kernel
theorem dX0_signAt_34 : decode cX0_signAt 34 = .ok (.iload_n 3, 1) := by decide +kernel
theorem dX0_signAt_35 : decode cX0_signAt 35 = .ok (.ifCond .lt 29, 3) := by decide +kernel
theorem dX0_signAt_38 : decode cX0_signAt 38 = .ok (.iload_n 3, 1) := by decide +kernel
theorem dX0_signAt_39 : decode cX0_signAt 39 = .ok (.aload_n 0, 1) := by decide +kernel
theorem dX0_signAt_40 : decode cX0_signAt 40 = .ok (.getfield 15, 3) := by decide +kernel
theorem dX0_signAt_43 : decode cX0_signAt 43 = .ok (.iload 4, 2) := by decide +kernel
theorem dX0_signAt_45 : decode cX0_signAt 45 = .ok (.iaload, 1) := by decide +kernel
theorem dX0_signAt_46 : decode cX0_signAt 46 = .ok (.if_icmp .ge 18, 3) := by decide +kernel
theorem dX0_signAt_49 : decode cX0_signAt 49 = .ok (.aload_n 0, 1) := by decide +kernel
theorem dX0_signAt_50 : decode cX0_signAt 50 = .ok (.getfield 9, 3) := by decide +kernel
theorem dX0_signAt_53 : decode cX0_signAt 53 = .ok (.iload 4, 2) := by decide +kernel
theorem dX0_signAt_55 : decode cX0_signAt 55 = .ok (.bipush 8, 2) := by decide +kernel
theorem dX0_signAt_57 : decode cX0_signAt 57 = .ok (.imul, 1) := by decide +kernel
theorem dX0_signAt_58 : decode cX0_signAt 58 = .ok (.iload_n 3, 1) := by decide +kernel
theorem dX0_signAt_59 : decode cX0_signAt 59 = .ok (.iadd, 1) := by decide +kernel
theorem dX0_signAt_60 : decode cX0_signAt 60 = .ok (.iaload, 1) := by decide +kernel
theorem dX0_signAt_61 : decode cX0_signAt 61 = .ok (.goto 4, 3) := by decide +kernel
theorem dX0_signAt_64 : decode cX0_signAt 64 = .ok (.iconst 0, 1) := by decide +kernel
theorem dX0_signAt_65 : decode cX0_signAt 65 = .ok (.ireturn, 1) := by decide +kernel
set_option maxRecDepth 20000 in
theorem ggX0_write_X0_hasVersion : GoodIn wsX0_write wsX0_hasVersion := goodIn_r _ [11, 12, 18, 19, 20, 21] (by decide +kernel) (by decide +kernel)
set_option maxRecDepth 20000 in
theorem gX0_write_X0_hasVersion : GoodIn wsX0_write (wsV RX0 25 RX0 yX0_hasVersion wsX0_hasVersion) := goodIn_app (goodIn_of _ (by decide +kernel)) ggX0_write_X0_hasVersion
set_option maxRecDepth 20000 in
theorem ggX0_write_X0_hasLine : GoodIn wsX0_write wsX0_hasLine := goodIn_r _ [16, 17, 18, 19, 20, 21] (by decide +kernel) (by decide +kernel)
set_option maxRecDepth 20000 in
theorem gX0_write_X0_hasLine : GoodIn wsX0_write (wsV RX0 29 RX0 yX0_hasLine wsX0_hasLine) := goodIn_app (goodIn_of _ (by decide +kernel)) ggX0_write_X0_hasLine
theorem dX0_write_0 : decode cX0_write 0 = .ok (.aload_n 0, 1) := by decide +kernel
theorem dX0_write_1 : decode cX0_write 1 = .ok (.iload_n 1, 1) := by decide +kernel
theorem dX0_write_2 : decode cX0_write 2 = .ok (.invokevirtual 25, 3) := by decide +kernel
theorem dX0_write_5 : decode cX0_write 5 = .ok (.ifCond .eq 30, 3) := by decide +kernel
theorem dX0_write_8 : decode cX0_write 8 = .ok (.aload_n 0, 1) := by decide +kernel
theorem dX0_write_9 : decode cX0_write 9 = .ok (.iload_n 2, 1) := by decide +kernel
theorem dX0_write_10 : decode cX0_write 10 = .ok (.invokevirtual 29, 3) := by decide +kernel
theorem dX0_write_13 : decode cX0_write 13 = .ok (.ifCond .eq 22, 3) := by decide +kernel
theorem dX0_write_16 : decode cX0_write 16 = .ok (.iload 4, 2) := by decide +kernel
theorem dX0_write_18 : decode cX0_write 18 = .ok (.ifCond .lt 17, 3) := by decide +kernel
theorem dX0_write_21 : decode cX0_write 21 = .ok (.iload 4, 2) := by decide +kernel
theorem dX0_write_23 : decode cX0_write 23 = .ok (.bipush 8, 2) := by decide +kernel
theorem dX0_write_25 : decode cX0_write 25 = .ok (.if_icmp .gt 10, 3) := by decide +kernel
theorem dX0_write_28 : decode cX0_write 28 = .ok (.iload 4, 2) := by decide +kernel
theorem dX0_write_30 : decode cX0_write 30 = .ok (.aload_n 3, 1) := by decide +kernel
theorem dX0_write_31 : decode cX0_write 31 = .ok (.arraylength, 1) := by decide +kernel
theorem dX0_write_32 : decode cX0_write 32 = .ok (.if_icmp .le 4, 3) := by decide +kernel
theorem dX0_write_35 : decode cX0_write 35 = .ok (.return_, 1) := by decide +kernel
theorem dX0_write_36 : decode cX0_write 36 = .ok (.iload_n 1, 1) := by decide +kernel
theorem dX0_write_37 : decode cX0_write 37 = .ok (.bipush 20, 2) := by decide +kernel
theorem dX0_write_39 : decode cX0_write 39 = .ok (.imul, 1) := by decide +kernel
theorem dX0_write_40 : decode cX0_write 40 = .ok (.iload_n 2, 1) := by decide +kernel
theorem dX0_write_41 : decode cX0_write 41 = .ok (.iadd, 1) := by decide +kernel
theorem dX0_write_42 : decode cX0_write 42 = .ok (.istore 5, 2) := by decide +kernel
theorem dX0_write_44 : decode cX0_write 44 = .ok (.aload_n 3, 1) := by decide +kernel
theorem dX0_write_45 : decode cX0_write 45 = .ok (.iconst 0, 1) := by decide +kernel
theorem dX0_write_46 : decode cX0_write 46 = .ok (.aload_n 0, 1) := by decide +kernel
theorem dX0_write_47 : decode cX0_write 47 = .ok (.getfield 9, 3) := by decide +kernel
theorem dX0_write_50 : decode cX0_write 50 = .ok (.iload 5, 2) := by decide +kernel
theorem dX0_write_52 : decode cX0_write 52 = .ok (.bipush 8, 2) := by decide +kernel
theorem dX0_write_54 : decode cX0_write 54 = .ok (.imul, 1) := by decide +kernel
theorem dX0_write_55 : decode cX0_write 55 = .ok (.iload 4, 2) := by decide +kernel
theorem dX0_write_57 : decode cX0_write 57 = .ok (.invokestatic 32, 3) := by decide +kernel
theorem dX0_write_60 : decode cX0_write 60 = .ok (.aload_n 0, 1) := by decide +kernel
theorem dX0_write_61 : decode cX0_write 61 = .ok (.getfield 15, 3) := by decide +kernel
theorem dX0_write_64 : decode cX0_write 64 = .ok (.iload 5, 2) := by decide +kernel
theorem dX0_write_66 : decode cX0_write 66 = .ok (.iload 4, 2) := by decide +kernel
theorem dX0_write_68 : decode cX0_write 68 = .ok (.iastore, 1) := by decide +kernel
theorem dX0_write_69 : decode cX0_write 69 = .ok (.return_, 1) := by decide +kernel
set_option maxRecDepth 20000 in
theorem ggX0_addLine_X0_write : GoodIn wsX0_addLine wsX0_write := goodIn_r _ [7, 8, 9, 10, 11, 12, 13, 14, 15, 16, 6, 17, 2, 18, 19, 20, 21, 1, 22, 23, 24, 25] (by decide +kernel) (by decide +kernel)
set_option maxRecDepth 20000 in
theorem gX0_addLine_X0_write : GoodIn wsX0_addLine (wsV RX0 38 RX0 yX0_write wsX0_write) := goodIn_app (goodIn_of _ (by decide +kernel)) ggX0_addLine_X0_write
theorem dX0_addLine_0 : decode cX0_addLine 0 = .ok (.aload_n 0, 1) := by decide +kernel
theorem dX0_addLine_1 : decode cX0_addLine 1 = .ok (.getfield 18, 3) := by decide +kernel
theorem dX0_addLine_4 : decode cX0_addLine 4 = .ok (.bipush 20, 2) := by decide +kernel
theorem dX0_addLine_6 : decode cX0_addLine 6 = .ok (.if_icmp .lt 4, 3) := by decide +kernel
theorem dX0_addLine_9 : decode cX0_addLine 9 = .ok (.return_, 1) := by decide +kernel
theorem dX0_addLine_10 : decode cX0_addLine 10 = .ok (.aload_n 0, 1) := by decide +kernel
theorem dX0_addLine_11 : decode cX0_addLine 11 = .ok (.dup, 1) := by decide +kernel
theorem dX0_addLine_12 : decode cX0_addLine 12 = .ok (.getfield 18, 3) := by decide +kernel
theorem dX0_addLine_15 : decode cX0_addLine 15 = .ok (.iconst 1, 1) := by decide +kernel
theorem dX0_addLine_16 : decode cX0_addLine 16 = .ok (.iadd, 1) := by decide +kernel
theorem dX0_addLine_17 : decode cX0_addLine 17 = .ok (.putfield 18, 3) := by decide +kernel
theorem dX0_addLine_20 : decode cX0_addLine 20 = .ok (.iconst 0, 1) := by decide +kernel
theorem dX0_addLine_21 : decode cX0_addLine 21 = .ok (.istore_n 3, 1) := by decide +kernel
theorem dX0_addLine_22 : decode cX0_addLine 22 = .ok (.iload_n 3, 1) := by decide +kernel
theorem dX0_addLine_23 : decode cX0_addLine 23 = .ok (.aload_n 0, 1) := by decide +kernel
theorem dX0_addLine_24 : decode cX0_addLine 24 = .ok (.getfield 22, 3) := by decide +kernel
theorem dX0_addLine_27 : decode cX0_addLine 27 = .ok (.if_icmp .ge 22, 3) := by decide +kernel
theorem dX0_addLine_30 : decode cX0_addLine 30 = .ok (.aload_n 0, 1) := by decide +kernel
theorem dX0_addLine_31 : decode cX0_addLine 31 = .ok (.iload_n 3, 1) := by decide +kernel
theorem dX0_addLine_32 : decode cX0_addLine 32 = .ok (.aload_n 0, 1) := by decide +kernel
theorem dX0_addLine_33 : decode cX0_addLine 33 = .ok (.getfield 18, 3) := by decide +kernel
theorem dX0_addLine_36 : decode cX0_addLine 36 = .ok (.iconst 1, 1) := by decide +kernel
theorem dX0_addLine_37 : decode cX0_addLine 37 = .ok (.isub, 1) := by decide +kernel
theorem dX0_addLine_38 : decode cX0_addLine 38 = .ok (.aload_n 1, 1) := by decide +kernel
theorem dX0_addLine_39 : decode cX0_addLine 39 = .ok (.iload_n 2, 1) := by decide +kernel
theorem dX0_addLine_40 : decode cX0_addLine 40 = .ok (.invokevirtual 38, 3) := by decide +kernel
theorem dX0_addLine_43 : decode cX0_addLine 43 = .ok (.iinc 3 1, 3) := by decide +kernel
theorem dX0_addLine_46 : decode cX0_addLine 46 = .ok (.goto (-24), 3) := by decide +kernel
theorem dX0_addLine_49 : decode cX0_addLine 49 = .ok (.return_, 1) := by decide +kernel
theorem dX0_addVersion_0 : decode cX0_addVersion 0 = .ok (.aload_n 0, 1) := by decide +kernel
theorem dX0_addVersion_1 : decode cX0_addVersion 1 = .ok (.getfield 22, 3) := by decide +kernel
theorem dX0_addVersion_4 : decode cX0_addVersion 4 = .ok (.iconst 1, 1) := by decide +kernel
theorem dX0_addVersion_5 : decode cX0_addVersion 5 = .ok (.if_icmp .lt 11, 3) := by decide +kernel
theorem dX0_addVersion_8 : decode cX0_addVersion 8 = .ok (.aload_n 0, 1) := by decide +kernel
theorem dX0_addVersion_9 : decode cX0_addVersion 9 = .ok (.getfield 22, 3) := by decide +kernel
theorem dX0_addVersion_12 : decode cX0_addVersion 12 = .ok (.iconst 4, 1) := by decide +kernel
theorem dX0_addVersion_13 : decode cX0_addVersion 13 = .ok (.if_icmp .lt 4, 3) := by decide +kernel
theorem dX0_addVersion_16 : decode cX0_addVersion 16 = .ok (.return_, 1) := by decide +kernel
theorem dX0_addVersion_17 : decode cX0_addVersion 17 = .ok (.aload_n 0, 1) := by decide +kernel
theorem dX0_addVersion_18 : decode cX0_addVersion 18 = .ok (.getfield 22, 3) := by decide +kernel
theorem dX0_addVersion_21 : decode cX0_addVersion 21 = .ok (.iconst 1, 1) := by decide +kernel
theorem dX0_addVersion_22 : decode cX0_addVersion 22 = .ok (.isub, 1) := by decide +kernel
theorem dX0_addVersion_23 : decode cX0_addVersion 23 = .ok (.bipush 20, 2) := by decide +kernel
theorem dX0_addVersion_25 : decode cX0_addVersion 25 = .ok (.imul, 1) := by decide +kernel
theorem dX0_addVersion_26 : decode cX0_addVersion 26 = .ok (.istore_n 1, 1) := by decide +kernel
theorem dX0_addVersion_27 : decode cX0_addVersion 27 = .ok (.aload_n 0, 1) := by decide +kernel
theorem dX0_addVersion_28 : decode cX0_addVersion 28 = .ok (.getfield 22, 3) := by decide +kernel
theorem dX0_addVersion_31 : decode cX0_addVersion 31 = .ok (.bipush 20, 2) := by decide +kernel
theorem dX0_addVersion_33 : decode cX0_addVersion 33 = .ok (.imul, 1) := by decide +kernel
theorem dX0_addVersion_34 : decode cX0_addVersion 34 = .ok (.istore_n 2, 1) := by decide +kernel
theorem dX0_addVersion_35 : decode cX0_addVersion 35 = .ok (.aload_n 0, 1) := by decide +kernel
theorem dX0_addVersion_36 : decode cX0_addVersion 36 = .ok (.getfield 15, 3) := by decide +kernel
theorem dX0_addVersion_39 : decode cX0_addVersion 39 = .ok (.iload_n 1, 1) := by decide +kernel
theorem dX0_addVersion_40 : decode cX0_addVersion 40 = .ok (.aload_n 0, 1) := by decide +kernel
theorem dX0_addVersion_41 : decode cX0_addVersion 41 = .ok (.getfield 15, 3) := by decide +kernel
theorem dX0_addVersion_44 : decode cX0_addVersion 44 = .ok (.iload_n 2, 1) := by decide +kernel
theorem dX0_addVersion_45 : decode cX0_addVersion 45 = .ok (.bipush 20, 2) := by decide +kernel
theorem dX0_addVersion_47 : decode cX0_addVersion 47 = .ok (.invokestatic 32, 3) := by decide +kernel
theorem dX0_addVersion_50 : decode cX0_addVersion 50 = .ok (.aload_n 0, 1) := by decide +kernel
theorem dX0_addVersion_51 : decode cX0_addVersion 51 = .ok (.getfield 9, 3) := by decide +kernel
theorem dX0_addVersion_54 : decode cX0_addVersion 54 = .ok (.iload_n 1, 1) := by decide +kernel
theorem dX0_addVersion_55 : decode cX0_addVersion 55 = .ok (.bipush 8, 2) := by decide +kernel
theorem dX0_addVersion_57 : decode cX0_addVersion 57 = .ok (.imul, 1) := by decide +kernel
theorem dX0_addVersion_58 : decode cX0_addVersion 58 = .ok (.aload_n 0, 1) := by decide +kernel
theorem dX0_addVersion_59 : decode cX0_addVersion 59 = .ok (.getfield 9, 3) := by decide +kernel
theorem dX0_addVersion_62 : decode cX0_addVersion 62 = .ok (.iload_n 2, 1) := by decide +kernel
theorem dX0_addVersion_63 : decode cX0_addVersion 63 = .ok (.bipush 8, 2) := by decide +kernel
theorem dX0_addVersion_65 : decode cX0_addVersion 65 = .ok (.imul, 1) := by decide +kernel
theorem dX0_addVersion_66 : decode cX0_addVersion 66 = .ok (.sipush 160, 3) := by decide +kernel
theorem dX0_addVersion_69 : decode cX0_addVersion 69 = .ok (.invokestatic 32, 3) := by decide +kernel
theorem dX0_addVersion_72 : decode cX0_addVersion 72 = .ok (.aload_n 0, 1) := by decide +kernel
theorem dX0_addVersion_73 : decode cX0_addVersion 73 = .ok (.dup, 1) := by decide +kernel
theorem dX0_addVersion_74 : decode cX0_addVersion 74 = .ok (.getfield 22, 3) := by decide +kernel
theorem dX0_addVersion_77 : decode cX0_addVersion 77 = .ok (.iconst 1, 1) := by decide +kernel
theorem dX0_addVersion_78 : decode cX0_addVersion 78 = .ok (.iadd, 1) := by decide +kernel
theorem dX0_addVersion_79 : decode cX0_addVersion 79 = .ok (.putfield 22, 3) := by decide +kernel
theorem dX0_addVersion_82 : decode cX0_addVersion 82 = .ok (.return_, 1) := by decide +kernel
theorem dX0_becomeAs_0 : decode cX0_becomeAs 0 = .ok (.aload_n 1, 1) := by decide +kernel
theorem dX0_becomeAs_1 : decode cX0_becomeAs 1 = .ok (.getfield 9, 3) := by decide +kernel
theorem dX0_becomeAs_4 : decode cX0_becomeAs 4 = .ok (.iconst 0, 1) := by decide +kernel
theorem dX0_becomeAs_5 : decode cX0_becomeAs 5 = .ok (.aload_n 0, 1) := by decide +kernel
theorem dX0_becomeAs_6 : decode cX0_becomeAs 6 = .ok (.getfield 9, 3) := by decide +kernel
theorem dX0_becomeAs_9 : decode cX0_becomeAs 9 = .ok (.iconst 0, 1) := by decide +kernel
theorem dX0_becomeAs_10 : decode cX0_becomeAs 10 = .ok (.aload_n 0, 1) := by decide +kernel
theorem dX0_becomeAs_11 : decode cX0_becomeAs 11 = .ok (.getfield 9, 3) := by decide +kernel
theorem dX0_becomeAs_14 : decode cX0_becomeAs 14 = .ok (.arraylength, 1) := by decide +kernel
theorem dX0_becomeAs_15 : decode cX0_becomeAs 15 = .ok (.invokestatic 32, 3) := by decide +kernel
theorem dX0_becomeAs_18 : decode cX0_becomeAs 18 = .ok (.aload_n 1, 1) := by decide +kernel
theorem dX0_becomeAs_19 : decode cX0_becomeAs 19 = .ok (.getfield 15, 3) := by decide +kernel
theorem dX0_becomeAs_22 : decode cX0_becomeAs 22 = .ok (.iconst 0, 1) := by decide +kernel
theorem dX0_becomeAs_23 : decode cX0_becomeAs 23 = .ok (.aload_n 0, 1) := by decide +kernel
theorem dX0_becomeAs_24 : decode cX0_becomeAs 24 = .ok (.getfield 15, 3) := by decide +kernel
theorem dX0_becomeAs_27 : decode cX0_becomeAs 27 = .ok (.iconst 0, 1) := by decide +kernel
theorem dX0_becomeAs_28 : decode cX0_becomeAs 28 = .ok (.aload_n 0, 1) := by decide +kernel
theorem dX0_becomeAs_29 : decode cX0_becomeAs 29 = .ok (.getfield 15, 3) := by decide +kernel
theorem dX0_becomeAs_32 : decode cX0_becomeAs 32 = .ok (.arraylength, 1) := by decide +kernel
theorem dX0_becomeAs_33 : decode cX0_becomeAs 33 = .ok (.invokestatic 32, 3) := by decide +kernel
theorem dX0_becomeAs_36 : decode cX0_becomeAs 36 = .ok (.aload_n 0, 1) := by decide +kernel
theorem dX0_becomeAs_37 : decode cX0_becomeAs 37 = .ok (.aload_n 1, 1) := by decide +kernel
theorem dX0_becomeAs_38 : decode cX0_becomeAs 38 = .ok (.getfield 18, 3) := by decide +kernel
theorem dX0_becomeAs_41 : decode cX0_becomeAs 41 = .ok (.putfield 18, 3) := by decide +kernel
theorem dX0_becomeAs_44 : decode cX0_becomeAs 44 = .ok (.aload_n 0, 1) := by decide +kernel
theorem dX0_becomeAs_45 : decode cX0_becomeAs 45 = .ok (.aload_n 1, 1) := by decide +kernel
theorem dX0_becomeAs_46 : decode cX0_becomeAs 46 = .ok (.getfield 22, 3) := by decide +kernel
theorem dX0_becomeAs_49 : decode cX0_becomeAs 49 = .ok (.putfield 22, 3) := by decide +kernel
theorem dX0_becomeAs_52 : decode cX0_becomeAs 52 = .ok (.return_, 1) := by decide +kernel
set_option maxRecDepth 20000 in
theorem ggX0_staysAsItIs_X0_sizeOf : GoodIn wsX0_staysAsItIs wsX0_sizeOf := goodIn_r _ [5, 6, 7, 8, 14, 15, 16, 17] (by decide +kernel) (by decide +kernel)
set_option maxRecDepth 20000 in
theorem gX0_staysAsItIs_X0_sizeOf : GoodIn wsX0_staysAsItIs (wsV RX0 42 RX0 yX0_sizeOf wsX0_sizeOf) := goodIn_app (goodIn_of _ (by decide +kernel)) ggX0_staysAsItIs_X0_sizeOf
set_option maxRecDepth 20000 in
theorem ggX0_staysAsItIs_X0_signAt : GoodIn wsX0_staysAsItIs wsX0_signAt := goodIn_r _ [12, 6, 7, 8, 13, 14, 15, 16, 17] (by decide +kernel) (by decide +kernel)
set_option maxRecDepth 20000 in
theorem gX0_staysAsItIs_X0_signAt : GoodIn wsX0_staysAsItIs (wsV RX0 46 RX0 yX0_signAt wsX0_signAt) := goodIn_app (goodIn_of _ (by decide +kernel)) ggX0_staysAsItIs_X0_signAt
theorem dX0_staysAsItIs_0 : decode cX0_staysAsItIs 0 = .ok (.aload_n 0, 1) := by decide +kernel
theorem dX0_staysAsItIs_1 : decode cX0_staysAsItIs 1 = .ok (.iload_n 1, 1) := by decide +kernel
theorem dX0_staysAsItIs_2 : decode cX0_staysAsItIs 2 = .ok (.iload_n 2, 1) := by decide +kernel
theorem dX0_staysAsItIs_3 : decode cX0_staysAsItIs 3 = .ok (.invokevirtual 42, 3) := by decide +kernel
theorem dX0_staysAsItIs_6 : decode cX0_staysAsItIs 6 = .ok (.istore_n 3, 1) := by decide +kernel
theorem dX0_staysAsItIs_7 : decode cX0_staysAsItIs 7 = .ok (.aload_n 0, 1) := by decide +kernel
theorem dX0_staysAsItIs_8 : decode cX0_staysAsItIs 8 = .ok (.iload_n 1, 1) := by decide +kernel
theorem dX0_staysAsItIs_9 : decode cX0_staysAsItIs 9 = .ok (.iconst 1, 1) := by decide +kernel
theorem dX0_staysAsItIs_10 : decode cX0_staysAsItIs 10 = .ok (.iadd, 1) := by decide +kernel
theorem dX0_staysAsItIs_11 : decode cX0_staysAsItIs 11 = .ok (.iload_n 2, 1) := by decide +kernel
theorem dX0_staysAsItIs_12 : decode cX0_staysAsItIs 12 = .ok (.invokevirtual 42, 3) := by decide +kernel
theorem dX0_staysAsItIs_15 : decode cX0_staysAsItIs 15 = .ok (.iload_n 3, 1) := by decide +kernel
theorem dX0_staysAsItIs_16 : decode cX0_staysAsItIs 16 = .ok (.if_icmp .eq 5, 3) := by decide +kernel
theorem dX0_staysAsItIs_19 : decode cX0_staysAsItIs 19 = .ok (.iconst 0, 1) := by decide +kernel
theorem dX0_staysAsItIs_20 : decode cX0_staysAsItIs 20 = .ok (.ireturn, 1) := by decide +kernel
theorem dX0_staysAsItIs_21 : decode cX0_staysAsItIs 21 = .ok (.iconst 0, 1) := by decide +kernel
theorem dX0_staysAsItIs_22 : decode cX0_staysAsItIs 22 = .ok (.istore 4, 2) := by decide +kernel
theorem dX0_staysAsItIs_24 : decode cX0_staysAsItIs 24 = .ok (.iload 4, 2) := by decide +kernel
theorem dX0_staysAsItIs_26 : decode cX0_staysAsItIs 26 = .ok (.iload_n 3, 1) := by decide +kernel
theorem dX0_staysAsItIs_27 : decode cX0_staysAsItIs 27 = .ok (.if_icmp .ge 32, 3) := by decide +kernel
theorem dX0_staysAsItIs_30 : decode cX0_staysAsItIs 30 = .ok (.aload_n 0, 1) := by decide +kernel
theorem dX0_staysAsItIs_31 : decode cX0_staysAsItIs 31 = .ok (.iload_n 1, 1) := by decide +kernel
theorem dX0_staysAsItIs_32 : decode cX0_staysAsItIs 32 = .ok (.iload_n 2, 1) := by decide +kernel
theorem dX0_staysAsItIs_33 : decode cX0_staysAsItIs 33 = .ok (.iload 4, 2) := by decide +kernel
theorem dX0_staysAsItIs_35 : decode cX0_staysAsItIs 35 = .ok (.invokevirtual 46, 3) := by decide +kernel
theorem dX0_staysAsItIs_38 : decode cX0_staysAsItIs 38 = .ok (.aload_n 0, 1) := by decide +kernel
theorem dX0_staysAsItIs_39 : decode cX0_staysAsItIs 39 = .ok (.iload_n 1, 1) := by decide +kernel
theorem dX0_staysAsItIs_40 : decode cX0_staysAsItIs 40 = .ok (.iconst 1, 1) := by decide +kernel
theorem dX0_staysAsItIs_41 : decode cX0_staysAsItIs 41 = .ok (.iadd, 1) := by decide +kernel
theorem dX0_staysAsItIs_42 : decode cX0_staysAsItIs 42 = .ok (.iload_n 2, 1) := by decide +kernel
theorem dX0_staysAsItIs_43 : decode cX0_staysAsItIs 43 = .ok (.iload 4, 2) := by decide +kernel
theorem dX0_staysAsItIs_45 : decode cX0_staysAsItIs 45 = .ok (.invokevirtual 46, 3) := by decide +kernel
theorem dX0_staysAsItIs_48 : decode cX0_staysAsItIs 48 = .ok (.if_icmp .eq 5, 3) := by decide +kernel
theorem dX0_staysAsItIs_51 : decode cX0_staysAsItIs 51 = .ok (.iconst 0, 1) := by decide +kernel
theorem dX0_staysAsItIs_52 : decode cX0_staysAsItIs 52 = .ok (.ireturn, 1) := by decide +kernel
theorem dX0_staysAsItIs_53 : decode cX0_staysAsItIs 53 = .ok (.iinc 4 1, 3) := by decide +kernel
theorem dX0_staysAsItIs_56 : decode cX0_staysAsItIs 56 = .ok (.goto (-32), 3) := by decide +kernel
theorem dX0_staysAsItIs_59 : decode cX0_staysAsItIs 59 = .ok (.iconst 1, 1) := by decide +kernel
theorem dX0_staysAsItIs_60 : decode cX0_staysAsItIs 60 = .ok (.ireturn, 1) := by decide +kernel
