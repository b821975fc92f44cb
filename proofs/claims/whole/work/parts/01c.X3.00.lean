theorem dX3_init_0 : decode cX3_init 0 = .ok (.aload_n 0, 1) := by decide +kernel
theorem dX3_init_1 : decode cX3_init 1 = .ok (.invokespecial 3, 3) := by decide +kernel
theorem dX3_init_4 : decode cX3_init 4 = .ok (.aload_n 0, 1) := by decide +kernel
theorem dX3_init_5 : decode cX3_init 5 = .ok (.bipush 26, 2) := by decide +kernel
theorem dX3_init_7 : decode cX3_init 7 = .ok (.newarray .int, 2) := by decide +kernel
theorem dX3_init_9 : decode cX3_init 9 = .ok (.putfield 9, 3) := by decide +kernel
theorem dX3_init_12 : decode cX3_init 12 = .ok (.aload_n 0, 1) := by decide +kernel
theorem dX3_init_13 : decode cX3_init 13 = .ok (.iconst 0, 1) := by decide +kernel
theorem dX3_init_14 : decode cX3_init 14 = .ok (.putfield 15, 3) := by decide +kernel
theorem dX3_init_17 : decode cX3_init 17 = .ok (.aload_n 0, 1) := by decide +kernel
theorem dX3_init_18 : decode cX3_init 18 = .ok (.iconst 0, 1) := by decide +kernel
theorem dX3_init_19 : decode cX3_init 19 = .ok (.putfield 19, 3) := by decide +kernel
theorem dX3_init_22 : decode cX3_init 22 = .ok (.return_, 1) := by decide +kernel
theorem dX3_clear_0 : decode cX3_clear 0 = .ok (.aload_n 0, 1) := by decide +kernel
theorem dX3_clear_1 : decode cX3_clear 1 = .ok (.iconst 0, 1) := by decide +kernel
theorem dX3_clear_2 : decode cX3_clear 2 = .ok (.putfield 15, 3) := by decide +kernel
theorem dX3_clear_5 : decode cX3_clear 5 = .ok (.aload_n 0, 1) := by decide +kernel
theorem dX3_clear_6 : decode cX3_clear 6 = .ok (.iconst 0, 1) := by decide +kernel
theorem dX3_clear_7 : decode cX3_clear 7 = .ok (.putfield 19, 3) := by decide +kernel
theorem dX3_clear_10 : decode cX3_clear 10 = .ok (.return_, 1) := by decide +kernel
set_option maxRecDepth 20000 in
theorem ggX3_join_X7_isName : GoodIn wsX3_join wsX7_isName := goodIn_r _ [6] (by decide +kernel) (by decide +kernel)
set_option maxRecDepth 20000 in
theorem gX3_join_X7_isName_n22 : GoodIn wsX3_join (wsX7_isName) := ggX3_join_X7_isName
theorem dX3_join_0 : decode cX3_join 0 = .ok (.iload_n 1, 1) := by decide +kernel
theorem dX3_join_1 : decode cX3_join 1 = .ok (.invokestatic 22, 3) := by decide +kernel
theorem dX3_join_4 : decode cX3_join 4 = .ok (.ifCond .eq 10, 3) := by decide +kernel
theorem dX3_join_7 : decode cX3_join 7 = .ok (.iload_n 2, 1) := by decide +kernel
theorem dX3_join_8 : decode cX3_join 8 = .ok (.invokestatic 22, 3) := by decide +kernel
theorem dX3_join_11 : decode cX3_join 11 = .ok (.ifCond .ne 5, 3) := by decide +kernel
theorem dX3_join_14 : decode cX3_join 14 = .ok (.iconst 0, 1) := by decide +kernel
theorem dX3_join_15 : decode cX3_join 15 = .ok (.ireturn, 1) := by decide +kernel
theorem dX3_join_16 : decode cX3_join 16 = .ok (.iconst 1, 1) := by decide +kernel
theorem dX3_join_17 : decode cX3_join 17 = .ok (.iload_n 1, 1) := by decide +kernel
theorem dX3_join_18 : decode cX3_join 18 = .ok (.bipush 97, 2) := by decide +kernel
theorem dX3_join_20 : decode cX3_join 20 = .ok (.isub, 1) := by decide +kernel
theorem dX3_join_21 : decode cX3_join 21 = .ok (.ishl, 1) := by decide +kernel
theorem dX3_join_22 : decode cX3_join 22 = .ok (.istore_n 3, 1) := by decide +kernel
theorem dX3_join_23 : decode cX3_join 23 = .ok (.iconst 1, 1) := by decide +kernel
theorem dX3_join_24 : decode cX3_join 24 = .ok (.iload_n 2, 1) := by decide +kernel
theorem dX3_join_25 : decode cX3_join 25 = .ok (.bipush 97, 2) := by decide +kernel
theorem dX3_join_27 : decode cX3_join 27 = .ok (.isub, 1) := by decide +kernel
theorem dX3_join_28 : decode cX3_join 28 = .ok (.ishl, 1) := by decide +kernel
theorem dX3_join_29 : decode cX3_join 29 = .ok (.istore 4, 2) := by decide +kernel
theorem dX3_join_31 : decode cX3_join 31 = .ok (.aload_n 0, 1) := by decide +kernel
theorem dX3_join_32 : decode cX3_join 32 = .ok (.getfield 15, 3) := by decide +kernel
theorem dX3_join_35 : decode cX3_join 35 = .ok (.iload_n 3, 1) := by decide +kernel
theorem dX3_join_36 : decode cX3_join 36 = .ok (.iand, 1) := by decide +kernel
theorem dX3_join_37 : decode cX3_join 37 = .ok (.ifCond .eq 22, 3) := by decide +kernel
theorem dX3_join_40 : decode cX3_join 40 = .ok (.aload_n 0, 1) := by decide +kernel
theorem dX3_join_41 : decode cX3_join 41 = .ok (.getfield 9, 3) := by decide +kernel
theorem dX3_join_44 : decode cX3_join 44 = .ok (.iload_n 1, 1) := by decide +kernel
theorem dX3_join_45 : decode cX3_join 45 = .ok (.bipush 97, 2) := by decide +kernel
theorem dX3_join_47 : decode cX3_join 47 = .ok (.isub, 1) := by decide +kernel
theorem dX3_join_48 : decode cX3_join 48 = .ok (.iaload, 1) := by decide +kernel
theorem dX3_join_49 : decode cX3_join 49 = .ok (.iload_n 2, 1) := by decide +kernel
theorem dX3_join_50 : decode cX3_join 50 = .ok (.if_icmp .ne 7, 3) := by decide +kernel
theorem dX3_join_53 : decode cX3_join 53 = .ok (.iconst 1, 1) := by decide +kernel
theorem dX3_join_54 : decode cX3_join 54 = .ok (.goto 4, 3) := by decide +kernel
theorem dX3_join_57 : decode cX3_join 57 = .ok (.iconst 0, 1) := by decide +kernel
theorem dX3_join_58 : decode cX3_join 58 = .ok (.ireturn, 1) := by decide +kernel
theorem dX3_join_59 : decode cX3_join 59 = .ok (.aload_n 0, 1) := by decide +kernel
theorem dX3_join_60 : decode cX3_join 60 = .ok (.getfield 19, 3) := by decide +kernel
theorem dX3_join_63 : decode cX3_join 63 = .ok (.iload 4, 2) := by decide +kernel
theorem dX3_join_65 : decode cX3_join 65 = .ok (.iand, 1) := by decide +kernel
theorem dX3_join_66 : decode cX3_join 66 = .ok (.ifCond .eq 5, 3) := by decide +kernel
theorem dX3_join_69 : decode cX3_join 69 = .ok (.iconst 0, 1) := by decide +kernel
theorem dX3_join_70 : decode cX3_join 70 = .ok (.ireturn, 1) := by decide +kernel
theorem dX3_join_71 : decode cX3_join 71 = .ok (.aload_n 0, 1) := by decide +kernel
theorem dX3_join_72 : decode cX3_join 72 = .ok (.dup, 1) := by decide +kernel
theorem dX3_join_73 : decode cX3_join 73 = .ok (.getfield 15, 3) := by decide +kernel
theorem dX3_join_76 : decode cX3_join 76 = .ok (.iload_n 3, 1) := by decide +kernel
theorem dX3_join_77 : decode cX3_join 77 = .ok (.ior, 1) := by decide +kernel
theorem dX3_join_78 : decode cX3_join 78 = .ok (.putfield 15, 3) := by decide +kernel
theorem dX3_join_81 : decode cX3_join 81 = .ok (.aload_n 0, 1) := by decide +kernel
theorem dX3_join_82 : decode cX3_join 82 = .ok (.dup, 1) := by decide +kernel
theorem dX3_join_83 : decode cX3_join 83 = .ok (.getfield 19, 3) := by decide +kernel
theorem dX3_join_86 : decode cX3_join 86 = .ok (.iload 4, 2) := by decide +kernel
theorem dX3_join_88 : decode cX3_join 88 = .ok (.ior, 1) := by decide +kernel
theorem dX3_join_89 : decode cX3_join 89 = .ok (.putfield 19, 3) := by decide +kernel
theorem dX3_join_92 : decode cX3_join 92 = .ok (.aload_n 0, 1) := by decide +kernel
theorem dX3_join_93 : decode cX3_join 93 = .ok (.getfield 9, 3) := by decide +kernel
theorem dX3_join_96 : decode cX3_join 96 = .ok (.iload_n 1, 1) := by decide +kernel
theorem dX3_join_97 : decode cX3_join 97 = .ok (.bipush 97, 2) := by decide +kernel
theorem dX3_join_99 : decode cX3_join 99 = .ok (.isub, 1) := by decide +kernel
theorem dX3_join_100 : decode cX3_join 100 = .ok (.iload_n 2, 1) := by decide +kernel
theorem dX3_join_101 : decode cX3_join 101 = .ok (.iastore, 1) := by decide +kernel
theorem dX3_join_102 : decode cX3_join 102 = .ok (.iconst 1, 1) := by decide +kernel
theorem dX3_join_103 : decode cX3_join 103 = .ok (.ireturn, 1) := by decide +kernel
set_option maxRecDepth 20000 in
theorem ggX3_hasPartner_X7_isName : GoodIn wsX3_hasPartner wsX7_isName := goodIn_r _ [4] (by decide +kernel) (by decide +kernel)
set_option maxRecDepth 20000 in
theorem gX3_hasPartner_X7_isName_n22 : GoodIn wsX3_hasPartner (wsX7_isName) := ggX3_hasPartner_X7_isName
theorem dX3_hasPartner_0 : decode cX3_hasPartner 0 = .ok (.iload_n 1, 1) := by decide +kernel
theorem dX3_hasPartner_1 : decode cX3_hasPartner 1 = .ok (.invokestatic 22, 3) := by decide +kernel
theorem dX3_hasPartner_4 : decode cX3_hasPartner 4 = .ok (.ifCond .eq 21, 3) := by decide +kernel
theorem dX3_hasPartner_7 : decode cX3_hasPartner 7 = .ok (.aload_n 0, 1) := by decide +kernel
theorem dX3_hasPartner_8 : decode cX3_hasPartner 8 = .ok (.getfield 15, 3) := by decide +kernel
theorem dX3_hasPartner_11 : decode cX3_hasPartner 11 = .ok (.iconst 1, 1) := by decide +kernel
theorem dX3_hasPartner_12 : decode cX3_hasPartner 12 = .ok (.iload_n 1, 1) := by decide +kernel
theorem dX3_hasPartner_13 : decode cX3_hasPartner 13 = .ok (.bipush 97, 2) := by decide +kernel
theorem dX3_hasPartner_15 : decode cX3_hasPartner 15 = .ok (.isub, 1) := by decide +kernel
theorem dX3_hasPartner_16 : decode cX3_hasPartner 16 = .ok (.ishl, 1) := by decide +kernel
theorem dX3_hasPartner_17 : decode cX3_hasPartner 17 = .ok (.iand, 1) := by decide +kernel
theorem dX3_hasPartner_18 : decode cX3_hasPartner 18 = .ok (.ifCond .eq 7, 3) := by decide +kernel
theorem dX3_hasPartner_21 : decode cX3_hasPartner 21 = .ok (.iconst 1, 1) := by decide +kernel
theorem dX3_hasPartner_22 : decode cX3_hasPartner 22 = .ok (.goto 4, 3) := by decide +kernel
theorem dX3_hasPartner_25 : decode cX3_hasPartner 25 = .ok (.iconst 0, 1) := by decide +kernel
theorem dX3_hasPartner_26 : decode cX3_hasPartner 26 = .ok (.ireturn, 1) := by decide +kernel
set_option maxRecDepth 20000 in
theorem ggX3_renamed_X3_hasPartner : GoodIn wsX3_renamed wsX3_hasPartner := goodIn_r _ [6, 7, 8, 9, 10, 11, 12, 13] (by decide +kernel) (by decide +kernel)
set_option maxRecDepth 20000 in
theorem gX3_renamed_X3_hasPartner : GoodIn wsX3_renamed (wsV RX3 26 RX3 yX3_hasPartner wsX3_hasPartner) := goodIn_app (goodIn_of _ (by decide +kernel)) ggX3_renamed_X3_hasPartner
theorem dX3_renamed_0 : decode cX3_renamed 0 = .ok (.aload_n 0, 1) := by decide +kernel
theorem dX3_renamed_1 : decode cX3_renamed 1 = .ok (.iload_n 1, 1) := by decide +kernel
theorem dX3_renamed_2 : decode cX3_renamed 2 = .ok (.invokevirtual 26, 3) := by decide +kernel
theorem dX3_renamed_5 : decode cX3_renamed 5 = .ok (.ifCond .eq 15, 3) := by decide +kernel
theorem dX3_renamed_8 : decode cX3_renamed 8 = .ok (.aload_n 0, 1) := by decide +kernel
theorem dX3_renamed_9 : decode cX3_renamed 9 = .ok (.getfield 9, 3) := by decide +kernel
theorem dX3_renamed_12 : decode cX3_renamed 12 = .ok (.iload_n 1, 1) := by decide +kernel
theorem dX3_renamed_13 : decode cX3_renamed 13 = .ok (.bipush 97, 2) := by decide +kernel
theorem dX3_renamed_15 : decode cX3_renamed 15 = .ok (.isub, 1) := by decide +kernel
theorem dX3_renamed_16 : decode cX3_renamed 16 = .ok (.iaload, 1) := by decide +kernel
theorem dX3_renamed_17 : decode cX3_renamed 17 = .ok (.goto 4, 3) := by decide +kernel
theorem dX3_renamed_20 : decode cX3_renamed 20 = .ok (.iload_n 1, 1) := by decide +kernel
theorem dX3_renamed_21 : decode cX3_renamed 21 = .ok (.ireturn, 1) := by decide +kernel
set_option maxRecDepth 20000 in
theorem ggX3_firstNameThatFits_X3_hasPartner : GoodIn wsX3_firstNameThatFits wsX3_hasPartner := goodIn_r _ [6, 7, 8, 9, 10, 16, 17, 18] (by decide +kernel) (by decide +kernel)
set_option maxRecDepth 20000 in
theorem gX3_firstNameThatFits_X3_hasPartner : GoodIn wsX3_firstNameThatFits (wsV RX3 26 RX3 yX3_hasPartner wsX3_hasPartner) := goodIn_app (goodIn_of _ (by decide +kernel)) ggX3_firstNameThatFits_X3_hasPartner
set_option maxRecDepth 20000 in
theorem ggX3_firstNameThatFits_X3_renamed : GoodIn wsX3_firstNameThatFits wsX3_renamed := goodIn_r _ [14, 15, 2, 3, 4, 5, 6, 7, 8, 9, 10, 16, 17, 18] (by decide +kernel) (by decide +kernel)
set_option maxRecDepth 20000 in
theorem gX3_firstNameThatFits_X3_renamed : GoodIn wsX3_firstNameThatFits (wsV RX3 29 RX3 yX3_renamed wsX3_renamed) := goodIn_app (goodIn_of _ (by decide +kernel)) ggX3_firstNameThatFits_X3_renamed
theorem dX3_firstNameThatFits_0 : decode cX3_firstNameThatFits 0 = .ok (.aload_n 0, 1) := by decide +kernel
theorem dX3_firstNameThatFits_1 : decode cX3_firstNameThatFits 1 = .ok (.iload_n 1, 1) := by decide +kernel
theorem dX3_firstNameThatFits_2 : decode cX3_firstNameThatFits 2 = .ok (.invokevirtual 26, 3) := by decide +kernel
theorem dX3_firstNameThatFits_5 : decode cX3_firstNameThatFits 5 = .ok (.ifCond .eq 9, 3) := by decide +kernel
theorem dX3_firstNameThatFits_8 : decode cX3_firstNameThatFits 8 = .ok (.aload_n 0, 1) := by decide +kernel
theorem dX3_firstNameThatFits_9 : decode cX3_firstNameThatFits 9 = .ok (.iload_n 1, 1) := by decide +kernel
theorem dX3_firstNameThatFits_10 : decode cX3_firstNameThatFits 10 = .ok (.invokevirtual 29, 3) := by decide +kernel
theorem dX3_firstNameThatFits_13 : decode cX3_firstNameThatFits 13 = .ok (.ireturn, 1) := by decide +kernel
theorem dX3_firstNameThatFits_14 : decode cX3_firstNameThatFits 14 = .ok (.iconst 0, 1) := by decide +kernel
theorem dX3_firstNameThatFits_15 : decode cX3_firstNameThatFits 15 = .ok (.istore_n 2, 1) := by decide +kernel
theorem dX3_firstNameThatFits_16 : decode cX3_firstNameThatFits 16 = .ok (.iload_n 2, 1) := by decide +kernel
theorem dX3_firstNameThatFits_17 : decode cX3_firstNameThatFits 17 = .ok (.bipush 26, 2) := by decide +kernel
theorem dX3_firstNameThatFits_19 : decode cX3_firstNameThatFits 19 = .ok (.if_icmp .ge 25, 3) := by decide +kernel
theorem dX3_firstNameThatFits_22 : decode cX3_firstNameThatFits 22 = .ok (.aload_n 0, 1) := by decide +kernel
theorem dX3_firstNameThatFits_23 : decode cX3_firstNameThatFits 23 = .ok (.getfield 19, 3) := by decide +kernel
theorem dX3_firstNameThatFits_26 : decode cX3_firstNameThatFits 26 = .ok (.iconst 1, 1) := by decide +kernel
theorem dX3_firstNameThatFits_27 : decode cX3_firstNameThatFits 27 = .ok (.iload_n 2, 1) := by decide +kernel
theorem dX3_firstNameThatFits_28 : decode cX3_firstNameThatFits 28 = .ok (.ishl, 1) := by decide +kernel
theorem dX3_firstNameThatFits_29 : decode cX3_firstNameThatFits 29 = .ok (.iand, 1) := by decide +kernel
theorem dX3_firstNameThatFits_30 : decode cX3_firstNameThatFits 30 = .ok (.ifCond .ne 8, 3) := by decide +kernel
theorem dX3_firstNameThatFits_33 : decode cX3_firstNameThatFits 33 = .ok (.bipush 97, 2) := by decide +kernel
theorem dX3_firstNameThatFits_35 : decode cX3_firstNameThatFits 35 = .ok (.iload_n 2, 1) := by decide +kernel
theorem dX3_firstNameThatFits_36 : decode cX3_firstNameThatFits 36 = .ok (.iadd, 1) := by decide +kernel
theorem dX3_firstNameThatFits_37 : decode cX3_firstNameThatFits 37 = .ok (.ireturn, 1) := by decide +kernel
theorem dX3_firstNameThatFits_38 : decode cX3_firstNameThatFits 38 = .ok (.iinc 2 1, 3) := by decide +kernel
theorem dX3_firstNameThatFits_41 : decode cX3_firstNameThatFits 41 = .ok (.goto (-25), 3) := by decide +kernel
theorem dX3_firstNameThatFits_44 : decode cX3_firstNameThatFits 44 = .ok (.iconst 0, 1) := by decide +kernel
theorem dX3_firstNameThatFits_45 : decode cX3_firstNameThatFits 45 = .ok (.ireturn, 1) := by decide +kernel
