theorem dX0_init_0 : decode cX0_init 0 = .ok (.aload_n 0, 1) := by decide +kernel
theorem dX0_init_1 : decode cX0_init 1 = .ok (.invokespecial 3, 3) := by decide +kernel
theorem dX0_init_4 : decode cX0_init 4 = .ok (.aload_n 0, 1) := by decide +kernel
theorem dX0_init_5 : decode cX0_init 5 = .ok (.bipush 9, 2) := by decide +kernel
theorem dX0_init_7 : decode cX0_init 7 = .ok (.iconst 4, 1) := by decide +kernel
theorem dX0_init_8 : decode cX0_init 8 = .ok (.multianewarray 9 2, 4) := by decide +kernel
theorem dX0_init_12 : decode cX0_init 12 = .ok (.putfield 11, 3) := by decide +kernel
theorem dX0_init_15 : decode cX0_init 15 = .ok (.aload_n 0, 1) := by decide +kernel
theorem dX0_init_16 : decode cX0_init 16 = .ok (.bipush 9, 2) := by decide +kernel
theorem dX0_init_18 : decode cX0_init 18 = .ok (.newarray .long, 2) := by decide +kernel
theorem dX0_init_20 : decode cX0_init 20 = .ok (.putfield 16, 3) := by decide +kernel
theorem dX0_init_23 : decode cX0_init 23 = .ok (.return_, 1) := by decide +kernel
set_option maxRecDepth 20000 in
theorem ggX0_lookAhead_X0_sumOfBest : GoodIn wsX0_lookAhead wsX0_sumOfBest := goodIn_r _ [8, 3, 9, 10, 11, 12, 13, 14, 15, 7, 16, 17, 18, 19, 1, 2, 20, 21, 22, 23, 24, 25, 26, 27, 28, 29, 30, 31, 32, 33, 34, 35, 36, 37, 38, 39, 42, 43, 44, 45, 46, 40, 41] (by decide +kernel) (by decide +kernel)
set_option maxRecDepth 20000 in
theorem gX0_lookAhead_X0_sumOfBest : GoodIn wsX0_lookAhead (wsV RX0 26 RX0 yX0_sumOfBest wsX0_sumOfBest) := goodIn_app (goodIn_of _ (by decide +kernel)) ggX0_lookAhead_X0_sumOfBest
theorem dX0_lookAhead_0 : decode cX0_lookAhead 0 = .ok (.aload_n 0, 1) := by decide +kernel
theorem dX0_lookAhead_1 : decode cX0_lookAhead 1 = .ok (.getfield 16, 3) := by decide +kernel
theorem dX0_lookAhead_4 : decode cX0_lookAhead 4 = .ok (.iconst 0, 1) := by decide +kernel
theorem dX0_lookAhead_5 : decode cX0_lookAhead 5 = .ok (.lconst 1, 1) := by decide +kernel
theorem dX0_lookAhead_6 : decode cX0_lookAhead 6 = .ok (.lastore, 1) := by decide +kernel
theorem dX0_lookAhead_7 : decode cX0_lookAhead 7 = .ok (.iconst 0, 1) := by decide +kernel
theorem dX0_lookAhead_8 : decode cX0_lookAhead 8 = .ok (.istore 4, 2) := by decide +kernel
theorem dX0_lookAhead_10 : decode cX0_lookAhead 10 = .ok (.iload 4, 2) := by decide +kernel
theorem dX0_lookAhead_12 : decode cX0_lookAhead 12 = .ok (.iconst 3, 1) := by decide +kernel
theorem dX0_lookAhead_13 : decode cX0_lookAhead 13 = .ok (.if_icmp .gt 19, 3) := by decide +kernel
theorem dX0_lookAhead_16 : decode cX0_lookAhead 16 = .ok (.aload_n 0, 1) := by decide +kernel
theorem dX0_lookAhead_17 : decode cX0_lookAhead 17 = .ok (.getfield 11, 3) := by decide +kernel
theorem dX0_lookAhead_20 : decode cX0_lookAhead 20 = .ok (.iconst 0, 1) := by decide +kernel
theorem dX0_lookAhead_21 : decode cX0_lookAhead 21 = .ok (.aaload, 1) := by decide +kernel
theorem dX0_lookAhead_22 : decode cX0_lookAhead 22 = .ok (.iload 4, 2) := by decide +kernel
theorem dX0_lookAhead_24 : decode cX0_lookAhead 24 = .ok (.lconst 0, 1) := by decide +kernel
theorem dX0_lookAhead_25 : decode cX0_lookAhead 25 = .ok (.lastore, 1) := by decide +kernel
theorem dX0_lookAhead_26 : decode cX0_lookAhead 26 = .ok (.iinc 4 1, 3) := by decide +kernel
theorem dX0_lookAhead_29 : decode cX0_lookAhead 29 = .ok (.goto (-19), 3) := by decide +kernel
theorem dX0_lookAhead_32 : decode cX0_lookAhead 32 = .ok (.iconst 1, 1) := by decide +kernel
theorem dX0_lookAhead_33 : decode cX0_lookAhead 33 = .ok (.istore 4, 2) := by decide +kernel
theorem dX0_lookAhead_35 : decode cX0_lookAhead 35 = .ok (.iload 4, 2) := by decide +kernel
theorem dX0_lookAhead_37 : decode cX0_lookAhead 37 = .ok (.iload_n 3, 1) := by decide +kernel
theorem dX0_lookAhead_38 : decode cX0_lookAhead 38 = .ok (.if_icmp .gt 68, 3) := by decide +kernel
theorem dX0_lookAhead_41 : decode cX0_lookAhead 41 = .ok (.aload_n 0, 1) := by decide +kernel
theorem dX0_lookAhead_42 : decode cX0_lookAhead 42 = .ok (.getfield 16, 3) := by decide +kernel
theorem dX0_lookAhead_45 : decode cX0_lookAhead 45 = .ok (.iload 4, 2) := by decide +kernel
theorem dX0_lookAhead_47 : decode cX0_lookAhead 47 = .ok (.aload_n 0, 1) := by decide +kernel
theorem dX0_lookAhead_48 : decode cX0_lookAhead 48 = .ok (.getfield 16, 3) := by decide +kernel
theorem dX0_lookAhead_51 : decode cX0_lookAhead 51 = .ok (.iload 4, 2) := by decide +kernel
theorem dX0_lookAhead_53 : decode cX0_lookAhead 53 = .ok (.iconst 1, 1) := by decide +kernel
theorem dX0_lookAhead_54 : decode cX0_lookAhead 54 = .ok (.isub, 1) := by decide +kernel
theorem dX0_lookAhead_55 : decode cX0_lookAhead 55 = .ok (.laload, 1) := by decide +kernel
theorem dX0_lookAhead_56 : decode cX0_lookAhead 56 = .ok (.aload_n 1, 1) := by decide +kernel
theorem dX0_lookAhead_57 : decode cX0_lookAhead 57 = .ok (.getfield 20, 3) := by decide +kernel
theorem dX0_lookAhead_60 : decode cX0_lookAhead 60 = .ok (.i2l, 1) := by decide +kernel
theorem dX0_lookAhead_61 : decode cX0_lookAhead 61 = .ok (.lmul, 1) := by decide +kernel
theorem dX0_lookAhead_62 : decode cX0_lookAhead 62 = .ok (.lastore, 1) := by decide +kernel
theorem dX0_lookAhead_63 : decode cX0_lookAhead 63 = .ok (.iconst 0, 1) := by decide +kernel
theorem dX0_lookAhead_64 : decode cX0_lookAhead 64 = .ok (.istore 5, 2) := by decide +kernel
theorem dX0_lookAhead_66 : decode cX0_lookAhead 66 = .ok (.iload 5, 2) := by decide +kernel
theorem dX0_lookAhead_68 : decode cX0_lookAhead 68 = .ok (.iconst 3, 1) := by decide +kernel
theorem dX0_lookAhead_69 : decode cX0_lookAhead 69 = .ok (.if_icmp .gt 31, 3) := by decide +kernel
theorem dX0_lookAhead_72 : decode cX0_lookAhead 72 = .ok (.aload_n 0, 1) := by decide +kernel
theorem dX0_lookAhead_73 : decode cX0_lookAhead 73 = .ok (.getfield 11, 3) := by decide +kernel
theorem dX0_lookAhead_76 : decode cX0_lookAhead 76 = .ok (.iload 4, 2) := by decide +kernel
theorem dX0_lookAhead_78 : decode cX0_lookAhead 78 = .ok (.aaload, 1) := by decide +kernel
theorem dX0_lookAhead_79 : decode cX0_lookAhead 79 = .ok (.iload 5, 2) := by decide +kernel
theorem dX0_lookAhead_81 : decode cX0_lookAhead 81 = .ok (.aload_n 0, 1) := by decide +kernel
theorem dX0_lookAhead_82 : decode cX0_lookAhead 82 = .ok (.aload_n 1, 1) := by decide +kernel
theorem dX0_lookAhead_83 : decode cX0_lookAhead 83 = .ok (.iload_n 2, 1) := by decide +kernel
theorem dX0_lookAhead_84 : decode cX0_lookAhead 84 = .ok (.iload 4, 2) := by decide +kernel
theorem dX0_lookAhead_86 : decode cX0_lookAhead 86 = .ok (.iconst 1, 1) := by decide +kernel
theorem dX0_lookAhead_87 : decode cX0_lookAhead 87 = .ok (.isub, 1) := by decide +kernel
theorem dX0_lookAhead_88 : decode cX0_lookAhead 88 = .ok (.iload 5, 2) := by decide +kernel
theorem dX0_lookAhead_90 : decode cX0_lookAhead 90 = .ok (.invokevirtual 26, 3) := by decide +kernel
theorem dX0_lookAhead_93 : decode cX0_lookAhead 93 = .ok (.lastore, 1) := by decide +kernel
theorem dX0_lookAhead_94 : decode cX0_lookAhead 94 = .ok (.iinc 5 1, 3) := by decide +kernel
theorem dX0_lookAhead_97 : decode cX0_lookAhead 97 = .ok (.goto (-31), 3) := by decide +kernel
theorem dX0_lookAhead_100 : decode cX0_lookAhead 100 = .ok (.iinc 4 1, 3) := by decide +kernel
theorem dX0_lookAhead_103 : decode cX0_lookAhead 103 = .ok (.goto (-68), 3) := by decide +kernel
theorem dX0_lookAhead_106 : decode cX0_lookAhead 106 = .ok (.return_, 1) := by decide +kernel
set_option maxRecDepth 20000 in
theorem ggX0_sumOfBest_X0_byNone : GoodIn wsX0_sumOfBest wsX0_byNone := goodIn_r _ [10, 11, 12, 4, 13, 14, 15, 16, 17, 18, 19, 20, 21, 22, 23, 24, 25, 26, 27, 28, 29, 30, 41, 42, 36, 37, 38, 39, 40] (by decide +kernel) (by decide +kernel)
set_option maxRecDepth 20000 in
theorem gX0_sumOfBest_X0_byNone : GoodIn wsX0_sumOfBest (wsV RX0 30 RX0 yX0_byNone wsX0_byNone) := goodIn_app (goodIn_of _ (by decide +kernel)) ggX0_sumOfBest_X0_byNone
set_option maxRecDepth 20000 in
theorem ggX0_sumOfBest_X0_byPaper : GoodIn wsX0_sumOfBest wsX0_byPaper := goodIn_r _ [34, 14, 15, 35, 22, 23, 19, 24, 25, 41, 42, 36, 37, 38, 39, 40] (by decide +kernel) (by decide +kernel)
set_option maxRecDepth 20000 in
theorem gX0_sumOfBest_X0_byPaper : GoodIn wsX0_sumOfBest (wsV RX0 34 RX0 yX0_byPaper wsX0_byPaper) := goodIn_app (goodIn_of _ (by decide +kernel)) ggX0_sumOfBest_X0_byPaper
theorem dX0_sumOfBest_0 : decode cX0_sumOfBest 0 = .ok (.lconst 0, 1) := by decide +kernel
theorem dX0_sumOfBest_1 : decode cX0_sumOfBest 1 = .ok (.lstore 5, 2) := by decide +kernel
theorem dX0_sumOfBest_3 : decode cX0_sumOfBest 3 = .ok (.iconst 0, 1) := by decide +kernel
theorem dX0_sumOfBest_4 : decode cX0_sumOfBest 4 = .ok (.istore 7, 2) := by decide +kernel
theorem dX0_sumOfBest_6 : decode cX0_sumOfBest 6 = .ok (.iload 7, 2) := by decide +kernel
theorem dX0_sumOfBest_8 : decode cX0_sumOfBest 8 = .ok (.aload_n 1, 1) := by decide +kernel
theorem dX0_sumOfBest_9 : decode cX0_sumOfBest 9 = .ok (.getfield 20, 3) := by decide +kernel
theorem dX0_sumOfBest_12 : decode cX0_sumOfBest 12 = .ok (.if_icmp .ge 51, 3) := by decide +kernel
theorem dX0_sumOfBest_15 : decode cX0_sumOfBest 15 = .ok (.aload_n 0, 1) := by decide +kernel
theorem dX0_sumOfBest_16 : decode cX0_sumOfBest 16 = .ok (.aload_n 1, 1) := by decide +kernel
theorem dX0_sumOfBest_17 : decode cX0_sumOfBest 17 = .ok (.iload_n 2, 1) := by decide +kernel
theorem dX0_sumOfBest_18 : decode cX0_sumOfBest 18 = .ok (.iload 7, 2) := by decide +kernel
theorem dX0_sumOfBest_20 : decode cX0_sumOfBest 20 = .ok (.iload_n 3, 1) := by decide +kernel
theorem dX0_sumOfBest_21 : decode cX0_sumOfBest 21 = .ok (.iload 4, 2) := by decide +kernel
theorem dX0_sumOfBest_23 : decode cX0_sumOfBest 23 = .ok (.invokevirtual 30, 3) := by decide +kernel
theorem dX0_sumOfBest_26 : decode cX0_sumOfBest 26 = .ok (.lstore 8, 2) := by decide +kernel
theorem dX0_sumOfBest_28 : decode cX0_sumOfBest 28 = .ok (.iload 4, 2) := by decide +kernel
theorem dX0_sumOfBest_30 : decode cX0_sumOfBest 30 = .ok (.ifCond .le 20, 3) := by decide +kernel
theorem dX0_sumOfBest_33 : decode cX0_sumOfBest 33 = .ok (.lload 8, 2) := by decide +kernel
theorem dX0_sumOfBest_35 : decode cX0_sumOfBest 35 = .ok (.aload_n 0, 1) := by decide +kernel
theorem dX0_sumOfBest_36 : decode cX0_sumOfBest 36 = .ok (.aload_n 1, 1) := by decide +kernel
theorem dX0_sumOfBest_37 : decode cX0_sumOfBest 37 = .ok (.iload 7, 2) := by decide +kernel
theorem dX0_sumOfBest_39 : decode cX0_sumOfBest 39 = .ok (.iload_n 3, 1) := by decide +kernel
theorem dX0_sumOfBest_40 : decode cX0_sumOfBest 40 = .ok (.iload 4, 2) := by decide +kernel
theorem dX0_sumOfBest_42 : decode cX0_sumOfBest 42 = .ok (.invokevirtual 34, 3) := by decide +kernel
theorem dX0_sumOfBest_45 : decode cX0_sumOfBest 45 = .ok (.invokestatic 37, 3) := by decide +kernel
theorem dX0_sumOfBest_48 : decode cX0_sumOfBest 48 = .ok (.lstore 8, 2) := by decide +kernel
theorem dX0_sumOfBest_50 : decode cX0_sumOfBest 50 = .ok (.lload 5, 2) := by decide +kernel
theorem dX0_sumOfBest_52 : decode cX0_sumOfBest 52 = .ok (.lload 8, 2) := by decide +kernel
theorem dX0_sumOfBest_54 : decode cX0_sumOfBest 54 = .ok (.ladd, 1) := by decide +kernel
theorem dX0_sumOfBest_55 : decode cX0_sumOfBest 55 = .ok (.lstore 5, 2) := by decide +kernel
theorem dX0_sumOfBest_57 : decode cX0_sumOfBest 57 = .ok (.iinc 7 1, 3) := by decide +kernel
theorem dX0_sumOfBest_60 : decode cX0_sumOfBest 60 = .ok (.goto (-54), 3) := by decide +kernel
theorem dX0_sumOfBest_63 : decode cX0_sumOfBest 63 = .ok (.lload 5, 2) := by decide +kernel
theorem dX0_sumOfBest_65 : decode cX0_sumOfBest 65 = .ok (.lreturn, 1) := by decide +kernel
set_option maxRecDepth 20000 in
theorem ggX0_byPaper_X2_pardonedValue : GoodIn wsX0_byPaper wsX2_pardonedValue := goodIn_r _ [7, 8, 11, 12, 13, 14, 15] (by decide +kernel) (by decide +kernel)
set_option maxRecDepth 20000 in
theorem gX0_byPaper_X2_pardonedValue : GoodIn wsX0_byPaper (wsV RX0 43 RX2 yX2_pardonedValue wsX2_pardonedValue) := goodIn_app (goodIn_of _ (by decide +kernel)) ggX0_byPaper_X2_pardonedValue
theorem dX0_byPaper_0 : decode cX0_byPaper 0 = .ok (.aload_n 1, 1) := by decide +kernel
theorem dX0_byPaper_1 : decode cX0_byPaper 1 = .ok (.iload_n 2, 1) := by decide +kernel
theorem dX0_byPaper_2 : decode cX0_byPaper 2 = .ok (.invokevirtual 43, 3) := by decide +kernel
theorem dX0_byPaper_5 : decode cX0_byPaper 5 = .ok (.i2l, 1) := by decide +kernel
theorem dX0_byPaper_6 : decode cX0_byPaper 6 = .ok (.aload_n 0, 1) := by decide +kernel
theorem dX0_byPaper_7 : decode cX0_byPaper 7 = .ok (.getfield 16, 3) := by decide +kernel
theorem dX0_byPaper_10 : decode cX0_byPaper 10 = .ok (.iload_n 3, 1) := by decide +kernel
theorem dX0_byPaper_11 : decode cX0_byPaper 11 = .ok (.laload, 1) := by decide +kernel
theorem dX0_byPaper_12 : decode cX0_byPaper 12 = .ok (.lmul, 1) := by decide +kernel
theorem dX0_byPaper_13 : decode cX0_byPaper 13 = .ok (.aload_n 0, 1) := by decide +kernel
theorem dX0_byPaper_14 : decode cX0_byPaper 14 = .ok (.getfield 11, 3) := by decide +kernel
theorem dX0_byPaper_17 : decode cX0_byPaper 17 = .ok (.iload_n 3, 1) := by decide +kernel
theorem dX0_byPaper_18 : decode cX0_byPaper 18 = .ok (.aaload, 1) := by decide +kernel
theorem dX0_byPaper_19 : decode cX0_byPaper 19 = .ok (.iload 4, 2) := by decide +kernel
theorem dX0_byPaper_21 : decode cX0_byPaper 21 = .ok (.iconst 1, 1) := by decide +kernel
theorem dX0_byPaper_22 : decode cX0_byPaper 22 = .ok (.isub, 1) := by decide +kernel
theorem dX0_byPaper_23 : decode cX0_byPaper 23 = .ok (.laload, 1) := by decide +kernel
theorem dX0_byPaper_24 : decode cX0_byPaper 24 = .ok (.ladd, 1) := by decide +kernel
theorem dX0_byPaper_25 : decode cX0_byPaper 25 = .ok (.lreturn, 1) := by decide +kernel
set_option maxRecDepth 20000 in
theorem ggX0_byNone_X2_unpardonedValue : GoodIn wsX0_byNone wsX2_unpardonedValue := goodIn_r _ [11, 12, 13, 14, 10, 15, 16, 17, 18, 19, 20, 21, 24, 25, 26, 27, 28] (by decide +kernel) (by decide +kernel)
set_option maxRecDepth 20000 in
theorem gX0_byNone_X2_unpardonedValue : GoodIn wsX0_byNone (wsV RX0 47 RX2 yX2_unpardonedValue wsX2_unpardonedValue) := goodIn_app (goodIn_of _ (by decide +kernel)) ggX0_byNone_X2_unpardonedValue
theorem dX0_byNone_0 : decode cX0_byNone 0 = .ok (.iconst 0, 1) := by decide +kernel
theorem dX0_byNone_1 : decode cX0_byNone 1 = .ok (.aload_n 1, 1) := by decide +kernel
theorem dX0_byNone_2 : decode cX0_byNone 2 = .ok (.iload_n 2, 1) := by decide +kernel
theorem dX0_byNone_3 : decode cX0_byNone 3 = .ok (.iload_n 3, 1) := by decide +kernel
theorem dX0_byNone_4 : decode cX0_byNone 4 = .ok (.invokevirtual 47, 3) := by decide +kernel
theorem dX0_byNone_7 : decode cX0_byNone 7 = .ok (.invokestatic 51, 3) := by decide +kernel
theorem dX0_byNone_10 : decode cX0_byNone 10 = .ok (.i2l, 1) := by decide +kernel
theorem dX0_byNone_11 : decode cX0_byNone 11 = .ok (.aload_n 0, 1) := by decide +kernel
theorem dX0_byNone_12 : decode cX0_byNone 12 = .ok (.getfield 16, 3) := by decide +kernel
theorem dX0_byNone_15 : decode cX0_byNone 15 = .ok (.iload 4, 2) := by decide +kernel
theorem dX0_byNone_17 : decode cX0_byNone 17 = .ok (.laload, 1) := by decide +kernel
theorem dX0_byNone_18 : decode cX0_byNone 18 = .ok (.lmul, 1) := by decide +kernel
theorem dX0_byNone_19 : decode cX0_byNone 19 = .ok (.aload_n 0, 1) := by decide +kernel
theorem dX0_byNone_20 : decode cX0_byNone 20 = .ok (.getfield 11, 3) := by decide +kernel
theorem dX0_byNone_23 : decode cX0_byNone 23 = .ok (.iload 4, 2) := by decide +kernel
theorem dX0_byNone_25 : decode cX0_byNone 25 = .ok (.aaload, 1) := by decide +kernel
theorem dX0_byNone_26 : decode cX0_byNone 26 = .ok (.iload 5, 2) := by decide +kernel
theorem dX0_byNone_28 : decode cX0_byNone 28 = .ok (.laload, 1) := by decide +kernel
theorem dX0_byNone_29 : decode cX0_byNone 29 = .ok (.ladd, 1) := by decide +kernel
theorem dX0_byNone_30 : decode cX0_byNone 30 = .ok (.lreturn, 1) := by decide +kernel
theorem dX1_init_0 : decode cX1_init 0 = .ok (.aload_n 0, 1) := by decide +kernel
theorem dX1_init_1 : decode cX1_init 1 = .ok (.invokespecial 3, 3) := by decide +kernel
theorem dX1_init_4 : decode cX1_init 4 = .ok (.aload_n 0, 1) := by decide +kernel
theorem dX1_init_5 : decode cX1_init 5 = .ok (.bipush 8, 2) := by decide +kernel
theorem dX1_init_7 : decode cX1_init 7 = .ok (.newarray .int, 2) := by decide +kernel
theorem dX1_init_9 : decode cX1_init 9 = .ok (.putfield 9, 3) := by decide +kernel
theorem dX1_init_12 : decode cX1_init 12 = .ok (.aload_n 0, 1) := by decide +kernel
theorem dX1_init_13 : decode cX1_init 13 = .ok (.bipush 8, 2) := by decide +kernel
theorem dX1_init_15 : decode cX1_init 15 = .ok (.newarray .int, 2) := by decide +kernel
theorem dX1_init_17 : decode cX1_init 17 = .ok (.putfield 15, 3) := by decide +kernel
theorem dX1_init_20 : decode cX1_init 20 = .ok (.aload_n 0, 1) := by decide +kernel
theorem dX1_init_21 : decode cX1_init 21 = .ok (.bipush 8, 2) := by decide +kernel
theorem dX1_init_23 : decode cX1_init 23 = .ok (.newarray .boolean, 2) := by decide +kernel
theorem dX1_init_25 : decode cX1_init 25 = .ok (.putfield 18, 3) := by decide +kernel
theorem dX1_init_28 : decode cX1_init 28 = .ok (.return_, 1) := by decide +kernel
theorem dX1_note_0 : decode cX1_note 0 = .ok (.aload_n 0, 1) := by decide +kernel
theorem dX1_note_1 : decode cX1_note 1 = .ok (.getfield 9, 3) := by decide +kernel
theorem dX1_note_4 : decode cX1_note 4 = .ok (.aload_n 0, 1) := by decide +kernel
theorem dX1_note_5 : decode cX1_note 5 = .ok (.getfield 22, 3) := by decide +kernel
theorem dX1_note_8 : decode cX1_note 8 = .ok (.iload_n 1, 1) := by decide +kernel
theorem dX1_note_9 : decode cX1_note 9 = .ok (.iastore, 1) := by decide +kernel
theorem dX1_note_10 : decode cX1_note 10 = .ok (.aload_n 0, 1) := by decide +kernel
theorem dX1_note_11 : decode cX1_note 11 = .ok (.getfield 15, 3) := by decide +kernel
theorem dX1_note_14 : decode cX1_note 14 = .ok (.aload_n 0, 1) := by decide +kernel
theorem dX1_note_15 : decode cX1_note 15 = .ok (.getfield 22, 3) := by decide +kernel
theorem dX1_note_18 : decode cX1_note 18 = .ok (.iload_n 2, 1) := by decide +kernel
theorem dX1_note_19 : decode cX1_note 19 = .ok (.iastore, 1) := by decide +kernel
theorem dX1_note_20 : decode cX1_note 20 = .ok (.aload_n 0, 1) := by decide +kernel
theorem dX1_note_21 : decode cX1_note 21 = .ok (.getfield 18, 3) := by decide +kernel
theorem dX1_note_24 : decode cX1_note 24 = .ok (.aload_n 0, 1) := by decide +kernel
theorem dX1_note_25 : decode cX1_note 25 = .ok (.getfield 22, 3) := by decide +kernel
theorem dX1_note_28 : decode cX1_note 28 = .ok (.iload_n 3, 1) := by decide +kernel
theorem dX1_note_29 : decode cX1_note 29 = .ok (.bastore, 1) := by decide +kernel
theorem dX1_note_30 : decode cX1_note 30 = .ok (.aload_n 0, 1) := by decide +kernel
theorem dX1_note_31 : decode cX1_note 31 = .ok (.dup, 1) := by decide +kernel
theorem dX1_note_32 : decode cX1_note 32 = .ok (.getfield 22, 3) := by decide +kernel
theorem dX1_note_35 : decode cX1_note 35 = .ok (.iconst 1, 1) := by decide +kernel
theorem dX1_note_36 : decode cX1_note 36 = .ok (.iadd, 1) := by decide +kernel
theorem dX1_note_37 : decode cX1_note 37 = .ok (.putfield 22, 3) := by decide +kernel
theorem dX1_note_40 : decode cX1_note 40 = .ok (.aload_n 0, 1) := by decide +kernel
theorem dX1_note_41 : decode cX1_note 41 = .ok (.getfield 22, 3) := by decide +kernel
theorem dX1_note_44 : decode cX1_note 44 = .ok (.iconst 1, 1) := by decide +kernel
theorem dX1_note_45 : decode cX1_note 45 = .ok (.isub, 1) := by decide +kernel
theorem dX1_note_46 : decode cX1_note 46 = .ok (.ireturn, 1) := by decide +kernel
set_option maxRecDepth 20000 in
theorem ggX1_fitting_X1_allAreSo : GoodIn wsX1_fitting wsX1_allAreSo := goodIn_r _ [5, 6, 7, 8, 9, 10, 11, 12, 13, 14, 15, 16, 17, 18, 19, 20, 21, 22, 23, 24, 25, 26, 27, 28, 29, 30, 31, 32, 33, 34, 35, 36, 37] (by decide +kernel) (by decide +kernel)
set_option maxRecDepth 20000 in
theorem gX1_fitting_X1_allAreSo : GoodIn wsX1_fitting (wsV RX1 26 RX1 yX1_allAreSo wsX1_allAreSo) := goodIn_app (goodIn_of _ (by decide +kernel)) ggX1_fitting_X1_allAreSo
theorem dX1_fitting_0 : decode cX1_fitting 0 = .ok (.aload_n 2, 1) := by decide +kernel
theorem dX1_fitting_1 : decode cX1_fitting 1 = .ok (.iload_n 3, 1) := by decide +kernel
theorem dX1_fitting_2 : decode cX1_fitting 2 = .ok (.iaload, 1) := by decide +kernel
theorem dX1_fitting_3 : decode cX1_fitting 3 = .ok (.istore 5, 2) := by decide +kernel
theorem dX1_fitting_5 : decode cX1_fitting 5 = .ok (.iconst 0, 1) := by decide +kernel
theorem dX1_fitting_6 : decode cX1_fitting 6 = .ok (.istore 6, 2) := by decide +kernel
theorem dX1_fitting_8 : decode cX1_fitting 8 = .ok (.iconst 0, 1) := by decide +kernel
theorem dX1_fitting_9 : decode cX1_fitting 9 = .ok (.istore 7, 2) := by decide +kernel
theorem dX1_fitting_11 : decode cX1_fitting 11 = .ok (.iload 7, 2) := by decide +kernel
theorem dX1_fitting_13 : decode cX1_fitting 13 = .ok (.iload 4, 2) := by decide +kernel
theorem dX1_fitting_15 : decode cX1_fitting 15 = .ok (.if_icmp .ge 31, 3) := by decide +kernel
theorem dX1_fitting_18 : decode cX1_fitting 18 = .ok (.aload_n 2, 1) := by decide +kernel
theorem dX1_fitting_19 : decode cX1_fitting 19 = .ok (.iload_n 3, 1) := by decide +kernel
theorem dX1_fitting_20 : decode cX1_fitting 20 = .ok (.iload 7, 2) := by decide +kernel
theorem dX1_fitting_22 : decode cX1_fitting 22 = .ok (.iastore, 1) := by decide +kernel
theorem dX1_fitting_23 : decode cX1_fitting 23 = .ok (.aload_n 0, 1) := by decide +kernel
theorem dX1_fitting_24 : decode cX1_fitting 24 = .ok (.aload_n 1, 1) := by decide +kernel
theorem dX1_fitting_25 : decode cX1_fitting 25 = .ok (.invokevirtual 26, 3) := by decide +kernel
theorem dX1_fitting_28 : decode cX1_fitting 28 = .ok (.ifCond .eq 12, 3) := by decide +kernel
theorem dX1_fitting_31 : decode cX1_fitting 31 = .ok (.iload 6, 2) := by decide +kernel
theorem dX1_fitting_33 : decode cX1_fitting 33 = .ok (.iconst 1, 1) := by decide +kernel
theorem dX1_fitting_34 : decode cX1_fitting 34 = .ok (.iload 7, 2) := by decide +kernel
theorem dX1_fitting_36 : decode cX1_fitting 36 = .ok (.ishl, 1) := by decide +kernel
theorem dX1_fitting_37 : decode cX1_fitting 37 = .ok (.ior, 1) := by decide +kernel
theorem dX1_fitting_38 : decode cX1_fitting 38 = .ok (.istore 6, 2) := by decide +kernel
theorem dX1_fitting_40 : decode cX1_fitting 40 = .ok (.iinc 7 1, 3) := by decide +kernel
theorem dX1_fitting_43 : decode cX1_fitting 43 = .ok (.goto (-32), 3) := by decide +kernel
theorem dX1_fitting_46 : decode cX1_fitting 46 = .ok (.aload_n 2, 1) := by decide +kernel
theorem dX1_fitting_47 : decode cX1_fitting 47 = .ok (.iload_n 3, 1) := by decide +kernel
theorem dX1_fitting_48 : decode cX1_fitting 48 = .ok (.iload 5, 2) := by decide +kernel
theorem dX1_fitting_50 : decode cX1_fitting 50 = .ok (.iastore, 1) := by decide +kernel
theorem dX1_fitting_51 : decode cX1_fitting 51 = .ok (.iload 6, 2) := by decide +kernel
theorem dX1_fitting_53 : decode cX1_fitting 53 = .ok (.ireturn, 1) := by decide +kernel
set_option maxRecDepth 20000 in
theorem ggX1_allAreSo_X2_wouldDo : GoodIn wsX1_allAreSo wsX2_wouldDo := goodIn_r _ [9, 10, 11, 12, 8, 13, 14, 15, 16, 17, 18, 19, 20, 21, 22, 23, 28, 29, 30, 31, 32] (by decide +kernel) (by decide +kernel)
set_option maxRecDepth 20000 in
theorem gX1_allAreSo_X2_wouldDo : GoodIn wsX1_allAreSo (wsV RX1 30 RX2 yX2_wouldDo wsX2_wouldDo) := goodIn_app (goodIn_of _ (by decide +kernel)) ggX1_allAreSo_X2_wouldDo
theorem dX1_allAreSo_0 : decode cX1_allAreSo 0 = .ok (.iconst 0, 1) := by decide +kernel
theorem dX1_allAreSo_1 : decode cX1_allAreSo 1 = .ok (.istore_n 2, 1) := by decide +kernel
theorem dX1_allAreSo_2 : decode cX1_allAreSo 2 = .ok (.iload_n 2, 1) := by decide +kernel
theorem dX1_allAreSo_3 : decode cX1_allAreSo 3 = .ok (.aload_n 0, 1) := by decide +kernel
theorem dX1_allAreSo_4 : decode cX1_allAreSo 4 = .ok (.getfield 22, 3) := by decide +kernel
theorem dX1_allAreSo_7 : decode cX1_allAreSo 7 = .ok (.if_icmp .ge 36, 3) := by decide +kernel
theorem dX1_allAreSo_10 : decode cX1_allAreSo 10 = .ok (.aload_n 1, 1) := by decide +kernel
theorem dX1_allAreSo_11 : decode cX1_allAreSo 11 = .ok (.aload_n 0, 1) := by decide +kernel
theorem dX1_allAreSo_12 : decode cX1_allAreSo 12 = .ok (.getfield 9, 3) := by decide +kernel
theorem dX1_allAreSo_15 : decode cX1_allAreSo 15 = .ok (.iload_n 2, 1) := by decide +kernel
theorem dX1_allAreSo_16 : decode cX1_allAreSo 16 = .ok (.iaload, 1) := by decide +kernel
theorem dX1_allAreSo_17 : decode cX1_allAreSo 17 = .ok (.aload_n 0, 1) := by decide +kernel
theorem dX1_allAreSo_18 : decode cX1_allAreSo 18 = .ok (.getfield 15, 3) := by decide +kernel
theorem dX1_allAreSo_21 : decode cX1_allAreSo 21 = .ok (.iload_n 2, 1) := by decide +kernel
theorem dX1_allAreSo_22 : decode cX1_allAreSo 22 = .ok (.iaload, 1) := by decide +kernel
theorem dX1_allAreSo_23 : decode cX1_allAreSo 23 = .ok (.invokevirtual 30, 3) := by decide +kernel
theorem dX1_allAreSo_26 : decode cX1_allAreSo 26 = .ok (.aload_n 0, 1) := by decide +kernel
theorem dX1_allAreSo_27 : decode cX1_allAreSo 27 = .ok (.getfield 18, 3) := by decide +kernel
theorem dX1_allAreSo_30 : decode cX1_allAreSo 30 = .ok (.iload_n 2, 1) := by decide +kernel
theorem dX1_allAreSo_31 : decode cX1_allAreSo 31 = .ok (.baload, 1) := by decide +kernel
theorem dX1_allAreSo_32 : decode cX1_allAreSo 32 = .ok (.if_icmp .eq 5, 3) := by decide +kernel
theorem dX1_allAreSo_35 : decode cX1_allAreSo 35 = .ok (.iconst 0, 1) := by decide +kernel
theorem dX1_allAreSo_36 : decode cX1_allAreSo 36 = .ok (.ireturn, 1) := by decide +kernel
theorem dX1_allAreSo_37 : decode cX1_allAreSo 37 = .ok (.iinc 2 1, 3) := by decide +kernel
theorem dX1_allAreSo_40 : decode cX1_allAreSo 40 = .ok (.goto (-38), 3) := by decide +kernel
theorem dX1_allAreSo_43 : decode cX1_allAreSo 43 = .ok (.iconst 1, 1) := by decide +kernel
theorem dX1_allAreSo_44 : decode cX1_allAreSo 44 = .ok (.ireturn, 1) := by decide +kernel
theorem dX2_init_0 : decode cX2_init 0 = .ok (.aload_n 0, 1) := by decide +kernel
theorem dX2_init_1 : decode cX2_init 1 = .ok (.invokespecial 3, 3) := by decide +kernel
theorem dX2_init_4 : decode cX2_init 4 = .ok (.aload_n 0, 1) := by decide +kernel
theorem dX2_init_5 : decode cX2_init 5 = .ok (.iconst 5, 1) := by decide +kernel
theorem dX2_init_6 : decode cX2_init 6 = .ok (.iconst 3, 1) := by decide +kernel
theorem dX2_init_7 : decode cX2_init 7 = .ok (.multianewarray 9 2, 4) := by decide +kernel
theorem dX2_init_11 : decode cX2_init 11 = .ok (.putfield 11, 3) := by decide +kernel
theorem dX2_init_14 : decode cX2_init 14 = .ok (.aload_n 0, 1) := by decide +kernel
theorem dX2_init_15 : decode cX2_init 15 = .ok (.iconst 4, 1) := by decide +kernel
theorem dX2_init_16 : decode cX2_init 16 = .ok (.newarray .int, 2) := by decide +kernel
theorem dX2_init_18 : decode cX2_init 18 = .ok (.putfield 16, 3) := by decide +kernel
theorem dX2_init_21 : decode cX2_init 21 = .ok (.aload_n 0, 1) := by decide +kernel
theorem dX2_init_22 : decode cX2_init 22 = .ok (.iconst 4, 1) := by decide +kernel
theorem dX2_init_23 : decode cX2_init 23 = .ok (.newarray .int, 2) := by decide +kernel
theorem dX2_init_25 : decode cX2_init 25 = .ok (.putfield 20, 3) := by decide +kernel
theorem dX2_init_28 : decode cX2_init 28 = .ok (.return_, 1) := by decide +kernel
set_option maxRecDepth 20000 in
theorem ggX2_found_X4_digitOfDeed : GoodIn wsX2_found wsX4_digitOfDeed := goodIn_r _ [12, 13, 14, 15, 11, 16, 17, 18, 19, 20, 21, 22, 23, 37, 38, 39, 40, 41, 47, 48, 49, 50] (by decide +kernel) (by decide +kernel)
set_option maxRecDepth 20000 in
theorem gX2_found_X4_digitOfDeed : GoodIn wsX2_found (wsV RX2 37 RX4 yX4_digitOfDeed wsX4_digitOfDeed) := goodIn_app (goodIn_of _ (by decide +kernel)) ggX2_found_X4_digitOfDeed
set_option maxRecDepth 20000 in
theorem ggX2_found_X4_kindOfSubject : GoodIn wsX2_found wsX4_kindOfSubject := goodIn_r _ [27, 28, 29, 30, 31, 11, 32, 13, 14, 15, 16, 17, 18, 19, 20, 21, 22, 23, 37, 38, 39, 40, 41, 47, 48, 49, 50] (by decide +kernel) (by decide +kernel)
set_option maxRecDepth 20000 in
theorem gX2_found_X4_kindOfSubject : GoodIn wsX2_found (wsV RX2 41 RX4 yX4_kindOfSubject wsX4_kindOfSubject) := goodIn_app (goodIn_of _ (by decide +kernel)) ggX2_found_X4_kindOfSubject
set_option maxRecDepth 20000 in
theorem ggX2_found_X4_papersOfSubject : GoodIn wsX2_found wsX4_papersOfSubject := goodIn_r _ [36, 28, 13, 14, 15, 11, 16, 17, 18, 19, 20, 21, 22, 23, 37, 38, 39, 40, 41, 47, 48, 49, 50] (by decide +kernel) (by decide +kernel)
set_option maxRecDepth 20000 in
theorem gX2_found_X4_papersOfSubject : GoodIn wsX2_found (wsV RX2 45 RX4 yX4_papersOfSubject wsX4_papersOfSubject) := goodIn_app (goodIn_of _ (by decide +kernel)) ggX2_found_X4_papersOfSubject
theorem dX2_found_0 : decode cX2_found 0 = .ok (.aload_n 0, 1) := by decide +kernel
theorem dX2_found_1 : decode cX2_found 1 = .ok (.aload_n 1, 1) := by decide +kernel
theorem dX2_found_2 : decode cX2_found 2 = .ok (.getfield 23, 3) := by decide +kernel
theorem dX2_found_5 : decode cX2_found 5 = .ok (.putfield 28, 3) := by decide +kernel
theorem dX2_found_8 : decode cX2_found 8 = .ok (.aload_n 0, 1) := by decide +kernel
theorem dX2_found_9 : decode cX2_found 9 = .ok (.aload_n 1, 1) := by decide +kernel
theorem dX2_found_10 : decode cX2_found 10 = .ok (.getfield 31, 3) := by decide +kernel
theorem dX2_found_13 : decode cX2_found 13 = .ok (.putfield 34, 3) := by decide +kernel
theorem dX2_found_16 : decode cX2_found 16 = .ok (.iconst 0, 1) := by decide +kernel
theorem dX2_found_17 : decode cX2_found 17 = .ok (.istore_n 2, 1) := by decide +kernel
theorem dX2_found_18 : decode cX2_found 18 = .ok (.iload_n 2, 1) := by decide +kernel
theorem dX2_found_19 : decode cX2_found 19 = .ok (.aload_n 0, 1) := by decide +kernel
theorem dX2_found_20 : decode cX2_found 20 = .ok (.getfield 28, 3) := by decide +kernel
theorem dX2_found_23 : decode cX2_found 23 = .ok (.if_icmp .ge 36, 3) := by decide +kernel
theorem dX2_found_26 : decode cX2_found 26 = .ok (.iconst 0, 1) := by decide +kernel
theorem dX2_found_27 : decode cX2_found 27 = .ok (.istore_n 3, 1) := by decide +kernel
theorem dX2_found_28 : decode cX2_found 28 = .ok (.iload_n 3, 1) := by decide +kernel
theorem dX2_found_29 : decode cX2_found 29 = .ok (.iconst 3, 1) := by decide +kernel
theorem dX2_found_30 : decode cX2_found 30 = .ok (.if_icmp .ge 23, 3) := by decide +kernel
theorem dX2_found_33 : decode cX2_found 33 = .ok (.aload_n 0, 1) := by decide +kernel
theorem dX2_found_34 : decode cX2_found 34 = .ok (.getfield 11, 3) := by decide +kernel
theorem dX2_found_37 : decode cX2_found 37 = .ok (.iload_n 2, 1) := by decide +kernel
theorem dX2_found_38 : decode cX2_found 38 = .ok (.aaload, 1) := by decide +kernel
theorem dX2_found_39 : decode cX2_found 39 = .ok (.iload_n 3, 1) := by decide +kernel
theorem dX2_found_40 : decode cX2_found 40 = .ok (.aload_n 1, 1) := by decide +kernel
theorem dX2_found_41 : decode cX2_found 41 = .ok (.iload_n 2, 1) := by decide +kernel
theorem dX2_found_42 : decode cX2_found 42 = .ok (.iload_n 3, 1) := by decide +kernel
theorem dX2_found_43 : decode cX2_found 43 = .ok (.invokevirtual 37, 3) := by decide +kernel
theorem dX2_found_46 : decode cX2_found 46 = .ok (.iastore, 1) := by decide +kernel
theorem dX2_found_47 : decode cX2_found 47 = .ok (.iinc 3 1, 3) := by decide +kernel
theorem dX2_found_50 : decode cX2_found 50 = .ok (.goto (-22), 3) := by decide +kernel
theorem dX2_found_53 : decode cX2_found 53 = .ok (.iinc 2 1, 3) := by decide +kernel
theorem dX2_found_56 : decode cX2_found 56 = .ok (.goto (-38), 3) := by decide +kernel
theorem dX2_found_59 : decode cX2_found 59 = .ok (.iconst 0, 1) := by decide +kernel
theorem dX2_found_60 : decode cX2_found 60 = .ok (.istore_n 2, 1) := by decide +kernel
theorem dX2_found_61 : decode cX2_found 61 = .ok (.iload_n 2, 1) := by decide +kernel
theorem dX2_found_62 : decode cX2_found 62 = .ok (.aload_n 0, 1) := by decide +kernel
theorem dX2_found_63 : decode cX2_found 63 = .ok (.getfield 34, 3) := by decide +kernel
theorem dX2_found_66 : decode cX2_found 66 = .ok (.if_icmp .ge 31, 3) := by decide +kernel
theorem dX2_found_69 : decode cX2_found 69 = .ok (.aload_n 0, 1) := by decide +kernel
theorem dX2_found_70 : decode cX2_found 70 = .ok (.getfield 16, 3) := by decide +kernel
theorem dX2_found_73 : decode cX2_found 73 = .ok (.iload_n 2, 1) := by decide +kernel
theorem dX2_found_74 : decode cX2_found 74 = .ok (.aload_n 1, 1) := by decide +kernel
theorem dX2_found_75 : decode cX2_found 75 = .ok (.iload_n 2, 1) := by decide +kernel
theorem dX2_found_76 : decode cX2_found 76 = .ok (.invokevirtual 41, 3) := by decide +kernel
theorem dX2_found_79 : decode cX2_found 79 = .ok (.iastore, 1) := by decide +kernel
theorem dX2_found_80 : decode cX2_found 80 = .ok (.aload_n 0, 1) := by decide +kernel
theorem dX2_found_81 : decode cX2_found 81 = .ok (.getfield 20, 3) := by decide +kernel
theorem dX2_found_84 : decode cX2_found 84 = .ok (.iload_n 2, 1) := by decide +kernel
theorem dX2_found_85 : decode cX2_found 85 = .ok (.aload_n 1, 1) := by decide +kernel
theorem dX2_found_86 : decode cX2_found 86 = .ok (.iload_n 2, 1) := by decide +kernel
theorem dX2_found_87 : decode cX2_found 87 = .ok (.invokevirtual 45, 3) := by decide +kernel
theorem dX2_found_90 : decode cX2_found 90 = .ok (.iastore, 1) := by decide +kernel
theorem dX2_found_91 : decode cX2_found 91 = .ok (.iinc 2 1, 3) := by decide +kernel
theorem dX2_found_94 : decode cX2_found 94 = .ok (.goto (-33), 3) := by decide +kernel
theorem dX2_found_97 : decode cX2_found 97 = .ok (.return_, 1) := by decide +kernel
theorem dX2_isThere_0 : decode cX2_isThere 0 = .ok (.aload_n 0, 1) := by decide +kernel
theorem dX2_isThere_1 : decode cX2_isThere 1 = .ok (.getfield 34, 3) := by decide +kernel
theorem dX2_isThere_4 : decode cX2_isThere 4 = .ok (.ifCond .le 7, 3) := by decide +kernel
theorem dX2_isThere_7 : decode cX2_isThere 7 = .ok (.iconst 1, 1) := by decide +kernel
theorem dX2_isThere_8 : decode cX2_isThere 8 = .ok (.goto 4, 3) := by decide +kernel
theorem dX2_isThere_11 : decode cX2_isThere 11 = .ok (.iconst 0, 1) := by decide +kernel
theorem dX2_isThere_12 : decode cX2_isThere 12 = .ok (.ireturn, 1) := by decide +kernel
set_option maxRecDepth 20000 in
theorem ggX2_hasDeed_X6_isBelow : GoodIn wsX2_hasDeed wsX6_isBelow := goodIn_r _ [4] (by decide +kernel) (by decide +kernel)
set_option maxRecDepth 20000 in
theorem gX2_hasDeed_X6_isBelow_n48 : GoodIn wsX2_hasDeed (wsX6_isBelow) := ggX2_hasDeed_X6_isBelow
theorem dX2_hasDeed_0 : decode cX2_hasDeed 0 = .ok (.iload_n 1, 1) := by decide +kernel
theorem dX2_hasDeed_1 : decode cX2_hasDeed 1 = .ok (.aload_n 0, 1) := by decide +kernel
theorem dX2_hasDeed_2 : decode cX2_hasDeed 2 = .ok (.getfield 28, 3) := by decide +kernel
theorem dX2_hasDeed_5 : decode cX2_hasDeed 5 = .ok (.invokestatic 48, 3) := by decide +kernel
theorem dX2_hasDeed_8 : decode cX2_hasDeed 8 = .ok (.ireturn, 1) := by decide +kernel
set_option maxRecDepth 20000 in
theorem ggX2_hasSubject_X6_isBelow : GoodIn wsX2_hasSubject wsX6_isBelow := goodIn_r _ [4] (by decide +kernel) (by decide +kernel)
set_option maxRecDepth 20000 in
theorem gX2_hasSubject_X6_isBelow_n48 : GoodIn wsX2_hasSubject (wsX6_isBelow) := ggX2_hasSubject_X6_isBelow
theorem dX2_hasSubject_0 : decode cX2_hasSubject 0 = .ok (.iload_n 1, 1) := by decide +kernel
theorem dX2_hasSubject_1 : decode cX2_hasSubject 1 = .ok (.aload_n 0, 1) := by decide +kernel
theorem dX2_hasSubject_2 : decode cX2_hasSubject 2 = .ok (.getfield 34, 3) := by decide +kernel
theorem dX2_hasSubject_5 : decode cX2_hasSubject 5 = .ok (.invokestatic 48, 3) := by decide +kernel
theorem dX2_hasSubject_8 : decode cX2_hasSubject 8 = .ok (.ireturn, 1) := by decide +kernel
theorem dX2_fearOf_0 : decode cX2_fearOf 0 = .ok (.aload_n 0, 1) := by decide +kernel
theorem dX2_fearOf_1 : decode cX2_fearOf 1 = .ok (.getfield 11, 3) := by decide +kernel
theorem dX2_fearOf_4 : decode cX2_fearOf 4 = .ok (.iload_n 2, 1) := by decide +kernel
theorem dX2_fearOf_5 : decode cX2_fearOf 5 = .ok (.aaload, 1) := by decide +kernel
theorem dX2_fearOf_6 : decode cX2_fearOf 6 = .ok (.iconst 1, 1) := by decide +kernel
theorem dX2_fearOf_7 : decode cX2_fearOf 7 = .ok (.iaload, 1) := by decide +kernel
theorem dX2_fearOf_8 : decode cX2_fearOf 8 = .ok (.aload_n 0, 1) := by decide +kernel
theorem dX2_fearOf_9 : decode cX2_fearOf 9 = .ok (.getfield 11, 3) := by decide +kernel
theorem dX2_fearOf_12 : decode cX2_fearOf 12 = .ok (.iload_n 2, 1) := by decide +kernel
theorem dX2_fearOf_13 : decode cX2_fearOf 13 = .ok (.aaload, 1) := by decide +kernel
theorem dX2_fearOf_14 : decode cX2_fearOf 14 = .ok (.iconst 2, 1) := by decide +kernel
theorem dX2_fearOf_15 : decode cX2_fearOf 15 = .ok (.iaload, 1) := by decide +kernel
theorem dX2_fearOf_16 : decode cX2_fearOf 16 = .ok (.imul, 1) := by decide +kernel
theorem dX2_fearOf_17 : decode cX2_fearOf 17 = .ok (.istore_n 3, 1) := by decide +kernel
theorem dX2_fearOf_18 : decode cX2_fearOf 18 = .ok (.aload_n 0, 1) := by decide +kernel
theorem dX2_fearOf_19 : decode cX2_fearOf 19 = .ok (.getfield 16, 3) := by decide +kernel
theorem dX2_fearOf_22 : decode cX2_fearOf 22 = .ok (.iload_n 1, 1) := by decide +kernel
theorem dX2_fearOf_23 : decode cX2_fearOf 23 = .ok (.iaload, 1) := by decide +kernel
theorem dX2_fearOf_24 : decode cX2_fearOf 24 = .ok (.lookupswitch 40 #[(1, 35), (2, 28)], 28) := by decide +kernel
theorem dX2_fearOf_52 : decode cX2_fearOf 52 = .ok (.iconst 2, 1) := by decide +kernel
theorem dX2_fearOf_53 : decode cX2_fearOf 53 = .ok (.iload_n 3, 1) := by decide +kernel
theorem dX2_fearOf_54 : decode cX2_fearOf 54 = .ok (.bipush 10, 2) := by decide +kernel
theorem dX2_fearOf_56 : decode cX2_fearOf 56 = .ok (.iadd, 1) := by decide +kernel
theorem dX2_fearOf_57 : decode cX2_fearOf 57 = .ok (.imul, 1) := by decide +kernel
theorem dX2_fearOf_58 : decode cX2_fearOf 58 = .ok (.ireturn, 1) := by decide +kernel
theorem dX2_fearOf_59 : decode cX2_fearOf 59 = .ok (.iload_n 3, 1) := by decide +kernel
theorem dX2_fearOf_60 : decode cX2_fearOf 60 = .ok (.bipush 10, 2) := by decide +kernel
theorem dX2_fearOf_62 : decode cX2_fearOf 62 = .ok (.iadd, 1) := by decide +kernel
theorem dX2_fearOf_63 : decode cX2_fearOf 63 = .ok (.ireturn, 1) := by decide +kernel
theorem dX2_fearOf_64 : decode cX2_fearOf 64 = .ok (.iload_n 3, 1) := by decide +kernel
theorem dX2_fearOf_65 : decode cX2_fearOf 65 = .ok (.ireturn, 1) := by decide +kernel
theorem dX2_pardonedValue_0 : decode cX2_pardonedValue 0 = .ok (.bipush 10, 2) := by decide +kernel
theorem dX2_pardonedValue_2 : decode cX2_pardonedValue 2 = .ok (.aload_n 0, 1) := by decide +kernel
theorem dX2_pardonedValue_3 : decode cX2_pardonedValue 3 = .ok (.getfield 11, 3) := by decide +kernel
theorem dX2_pardonedValue_6 : decode cX2_pardonedValue 6 = .ok (.iload_n 1, 1) := by decide +kernel
theorem dX2_pardonedValue_7 : decode cX2_pardonedValue 7 = .ok (.aaload, 1) := by decide +kernel
theorem dX2_pardonedValue_8 : decode cX2_pardonedValue 8 = .ok (.iconst 0, 1) := by decide +kernel
theorem dX2_pardonedValue_9 : decode cX2_pardonedValue 9 = .ok (.iaload, 1) := by decide +kernel
theorem dX2_pardonedValue_10 : decode cX2_pardonedValue 10 = .ok (.imul, 1) := by decide +kernel
theorem dX2_pardonedValue_11 : decode cX2_pardonedValue 11 = .ok (.ireturn, 1) := by decide +kernel
set_option maxRecDepth 20000 in
theorem ggX2_unpardonedValue_X2_pardonedValue : GoodIn wsX2_unpardonedValue wsX2_pardonedValue := goodIn_r _ [5, 6, 12, 13, 14, 15, 16] (by decide +kernel) (by decide +kernel)
set_option maxRecDepth 20000 in
theorem gX2_unpardonedValue_X2_pardonedValue : GoodIn wsX2_unpardonedValue (wsV RX2 52 RX2 yX2_pardonedValue wsX2_pardonedValue) := goodIn_app (goodIn_of _ (by decide +kernel)) ggX2_unpardonedValue_X2_pardonedValue
set_option maxRecDepth 20000 in
theorem ggX2_unpardonedValue_X2_fearOf : GoodIn wsX2_unpardonedValue wsX2_fearOf := goodIn_r _ [10, 6, 11, 12, 13, 14, 15, 16] (by decide +kernel) (by decide +kernel)
set_option maxRecDepth 20000 in
theorem gX2_unpardonedValue_X2_fearOf : GoodIn wsX2_unpardonedValue (wsV RX2 55 RX2 yX2_fearOf wsX2_fearOf) := goodIn_app (goodIn_of _ (by decide +kernel)) ggX2_unpardonedValue_X2_fearOf
theorem dX2_unpardonedValue_0 : decode cX2_unpardonedValue 0 = .ok (.aload_n 0, 1) := by decide +kernel
theorem dX2_unpardonedValue_1 : decode cX2_unpardonedValue 1 = .ok (.iload_n 2, 1) := by decide +kernel
theorem dX2_unpardonedValue_2 : decode cX2_unpardonedValue 2 = .ok (.invokevirtual 52, 3) := by decide +kernel
theorem dX2_unpardonedValue_5 : decode cX2_unpardonedValue 5 = .ok (.aload_n 0, 1) := by decide +kernel
theorem dX2_unpardonedValue_6 : decode cX2_unpardonedValue 6 = .ok (.iload_n 1, 1) := by decide +kernel
theorem dX2_unpardonedValue_7 : decode cX2_unpardonedValue 7 = .ok (.iload_n 2, 1) := by decide +kernel
theorem dX2_unpardonedValue_8 : decode cX2_unpardonedValue 8 = .ok (.invokevirtual 55, 3) := by decide +kernel
theorem dX2_unpardonedValue_11 : decode cX2_unpardonedValue 11 = .ok (.isub, 1) := by decide +kernel
theorem dX2_unpardonedValue_12 : decode cX2_unpardonedValue 12 = .ok (.ireturn, 1) := by decide +kernel
set_option maxRecDepth 20000 in
theorem ggX2_wouldDo_X2_unpardonedValue : GoodIn wsX2_wouldDo wsX2_unpardonedValue := goodIn_r _ [5, 6, 7, 8, 4, 9, 10, 11, 12, 13, 14, 15, 16, 17, 18, 19, 20] (by decide +kernel) (by decide +kernel)
set_option maxRecDepth 20000 in
theorem gX2_wouldDo_X2_unpardonedValue : GoodIn wsX2_wouldDo (wsV RX2 58 RX2 yX2_unpardonedValue wsX2_unpardonedValue) := goodIn_app (goodIn_of _ (by decide +kernel)) ggX2_wouldDo_X2_unpardonedValue
theorem dX2_wouldDo_0 : decode cX2_wouldDo 0 = .ok (.aload_n 0, 1) := by decide +kernel
theorem dX2_wouldDo_1 : decode cX2_wouldDo 1 = .ok (.iload_n 1, 1) := by decide +kernel
theorem dX2_wouldDo_2 : decode cX2_wouldDo 2 = .ok (.iload_n 2, 1) := by decide +kernel
theorem dX2_wouldDo_3 : decode cX2_wouldDo 3 = .ok (.invokevirtual 58, 3) := by decide +kernel
theorem dX2_wouldDo_6 : decode cX2_wouldDo 6 = .ok (.ifCond .le 7, 3) := by decide +kernel
theorem dX2_wouldDo_9 : decode cX2_wouldDo 9 = .ok (.iconst 1, 1) := by decide +kernel
theorem dX2_wouldDo_10 : decode cX2_wouldDo 10 = .ok (.goto 4, 3) := by decide +kernel
theorem dX2_wouldDo_13 : decode cX2_wouldDo 13 = .ok (.iconst 0, 1) := by decide +kernel
theorem dX2_wouldDo_14 : decode cX2_wouldDo 14 = .ok (.ireturn, 1) := by decide +kernel
set_option maxRecDepth 20000 in
theorem ggX2_doneBy_X2_wouldDo : GoodIn wsX2_doneBy wsX2_wouldDo := goodIn_r _ [6, 7, 8, 9, 5, 10, 11, 12, 13, 14, 15, 16, 17, 18, 19, 20, 21, 22, 23, 24, 25] (by decide +kernel) (by decide +kernel)
set_option maxRecDepth 20000 in
theorem gX2_doneBy_X2_wouldDo : GoodIn wsX2_doneBy (wsV RX2 61 RX2 yX2_wouldDo wsX2_wouldDo) := goodIn_app (goodIn_of _ (by decide +kernel)) ggX2_doneBy_X2_wouldDo
theorem dX2_doneBy_0 : decode cX2_doneBy 0 = .ok (.iconst 0, 1) := by decide +kernel
theorem dX2_doneBy_1 : decode cX2_doneBy 1 = .ok (.istore_n 2, 1) := by decide +kernel
theorem dX2_doneBy_2 : decode cX2_doneBy 2 = .ok (.iconst 0, 1) := by decide +kernel
theorem dX2_doneBy_3 : decode cX2_doneBy 3 = .ok (.istore_n 3, 1) := by decide +kernel
theorem dX2_doneBy_4 : decode cX2_doneBy 4 = .ok (.iload_n 3, 1) := by decide +kernel
theorem dX2_doneBy_5 : decode cX2_doneBy 5 = .ok (.aload_n 0, 1) := by decide +kernel
theorem dX2_doneBy_6 : decode cX2_doneBy 6 = .ok (.getfield 28, 3) := by decide +kernel
theorem dX2_doneBy_9 : decode cX2_doneBy 9 = .ok (.if_icmp .ge 24, 3) := by decide +kernel
theorem dX2_doneBy_12 : decode cX2_doneBy 12 = .ok (.aload_n 0, 1) := by decide +kernel
theorem dX2_doneBy_13 : decode cX2_doneBy 13 = .ok (.iload_n 1, 1) := by decide +kernel
theorem dX2_doneBy_14 : decode cX2_doneBy 14 = .ok (.iload_n 3, 1) := by decide +kernel
theorem dX2_doneBy_15 : decode cX2_doneBy 15 = .ok (.invokevirtual 61, 3) := by decide +kernel
theorem dX2_doneBy_18 : decode cX2_doneBy 18 = .ok (.ifCond .eq 9, 3) := by decide +kernel
theorem dX2_doneBy_21 : decode cX2_doneBy 21 = .ok (.iload_n 2, 1) := by decide +kernel
theorem dX2_doneBy_22 : decode cX2_doneBy 22 = .ok (.iconst 1, 1) := by decide +kernel
theorem dX2_doneBy_23 : decode cX2_doneBy 23 = .ok (.iload_n 3, 1) := by decide +kernel
theorem dX2_doneBy_24 : decode cX2_doneBy 24 = .ok (.ishl, 1) := by decide +kernel
theorem dX2_doneBy_25 : decode cX2_doneBy 25 = .ok (.ior, 1) := by decide +kernel
theorem dX2_doneBy_26 : decode cX2_doneBy 26 = .ok (.istore_n 2, 1) := by decide +kernel
theorem dX2_doneBy_27 : decode cX2_doneBy 27 = .ok (.iinc 3 1, 3) := by decide +kernel
theorem dX2_doneBy_30 : decode cX2_doneBy 30 = .ok (.goto (-26), 3) := by decide +kernel
theorem dX2_doneBy_33 : decode cX2_doneBy 33 = .ok (.iload_n 2, 1) := by decide +kernel
theorem dX2_doneBy_34 : decode cX2_doneBy 34 = .ok (.ireturn, 1) := by decide +kernel
theorem dX2_allPapers_0 : decode cX2_allPapers 0 = .ok (.iconst 0, 1) := by decide +kernel
theorem dX2_allPapers_1 : decode cX2_allPapers 1 = .ok (.istore_n 1, 1) := by decide +kernel
theorem dX2_allPapers_2 : decode cX2_allPapers 2 = .ok (.iconst 0, 1) := by decide +kernel
theorem dX2_allPapers_3 : decode cX2_allPapers 3 = .ok (.istore_n 2, 1) := by decide +kernel
theorem dX2_allPapers_4 : decode cX2_allPapers 4 = .ok (.iload_n 2, 1) := by decide +kernel
theorem dX2_allPapers_5 : decode cX2_allPapers 5 = .ok (.aload_n 0, 1) := by decide +kernel
theorem dX2_allPapers_6 : decode cX2_allPapers 6 = .ok (.getfield 34, 3) := by decide +kernel
theorem dX2_allPapers_9 : decode cX2_allPapers 9 = .ok (.if_icmp .ge 18, 3) := by decide +kernel
theorem dX2_allPapers_12 : decode cX2_allPapers 12 = .ok (.iload_n 1, 1) := by decide +kernel
theorem dX2_allPapers_13 : decode cX2_allPapers 13 = .ok (.aload_n 0, 1) := by decide +kernel
theorem dX2_allPapers_14 : decode cX2_allPapers 14 = .ok (.getfield 20, 3) := by decide +kernel
theorem dX2_allPapers_17 : decode cX2_allPapers 17 = .ok (.iload_n 2, 1) := by decide +kernel
theorem dX2_allPapers_18 : decode cX2_allPapers 18 = .ok (.iaload, 1) := by decide +kernel
theorem dX2_allPapers_19 : decode cX2_allPapers 19 = .ok (.iadd, 1) := by decide +kernel
theorem dX2_allPapers_20 : decode cX2_allPapers 20 = .ok (.istore_n 1, 1) := by decide +kernel
theorem dX2_allPapers_21 : decode cX2_allPapers 21 = .ok (.iinc 2 1, 3) := by decide +kernel
theorem dX2_allPapers_24 : decode cX2_allPapers 24 = .ok (.goto (-20), 3) := by decide +kernel
theorem dX2_allPapers_27 : decode cX2_allPapers 27 = .ok (.iload_n 1, 1) := by decide +kernel
theorem dX2_allPapers_28 : decode cX2_allPapers 28 = .ok (.ireturn, 1) := by decide +kernel
theorem dX3_init_0 : decode cX3_init 0 = .ok (.aload_n 0, 1) := by decide +kernel
theorem dX3_init_1 : decode cX3_init 1 = .ok (.invokespecial 3, 3) := by decide +kernel
theorem dX3_init_4 : decode cX3_init 4 = .ok (.aload_n 0, 1) := by decide +kernel
theorem dX3_init_5 : decode cX3_init 5 = .ok (.bipush 60, 2) := by decide +kernel
theorem dX3_init_7 : decode cX3_init 7 = .ok (.newarray .int, 2) := by decide +kernel
theorem dX3_init_9 : decode cX3_init 9 = .ok (.putfield 9, 3) := by decide +kernel
theorem dX3_init_12 : decode cX3_init 12 = .ok (.return_, 1) := by decide +kernel
theorem dX3_renew_0 : decode cX3_renew 0 = .ok (.aload_n 0, 1) := by decide +kernel
theorem dX3_renew_1 : decode cX3_renew 1 = .ok (.iconst 1, 1) := by decide +kernel
theorem dX3_renew_2 : decode cX3_renew 2 = .ok (.putfield 15, 3) := by decide +kernel
theorem dX3_renew_5 : decode cX3_renew 5 = .ok (.aload_n 0, 1) := by decide +kernel
theorem dX3_renew_6 : decode cX3_renew 6 = .ok (.iload_n 1, 1) := by decide +kernel
theorem dX3_renew_7 : decode cX3_renew 7 = .ok (.putfield 19, 3) := by decide +kernel
theorem dX3_renew_10 : decode cX3_renew 10 = .ok (.aload_n 0, 1) := by decide +kernel
theorem dX3_renew_11 : decode cX3_renew 11 = .ok (.iload_n 2, 1) := by decide +kernel
theorem dX3_renew_12 : decode cX3_renew 12 = .ok (.putfield 23, 3) := by decide +kernel
theorem dX3_renew_15 : decode cX3_renew 15 = .ok (.iconst 0, 1) := by decide +kernel
theorem dX3_renew_16 : decode cX3_renew 16 = .ok (.istore_n 3, 1) := by decide +kernel
theorem dX3_renew_17 : decode cX3_renew 17 = .ok (.iload_n 3, 1) := by decide +kernel
theorem dX3_renew_18 : decode cX3_renew 18 = .ok (.bipush 60, 2) := by decide +kernel
theorem dX3_renew_20 : decode cX3_renew 20 = .ok (.if_icmp .ge 16, 3) := by decide +kernel
theorem dX3_renew_23 : decode cX3_renew 23 = .ok (.aload_n 0, 1) := by decide +kernel
theorem dX3_renew_24 : decode cX3_renew 24 = .ok (.getfield 9, 3) := by decide +kernel
theorem dX3_renew_27 : decode cX3_renew 27 = .ok (.iload_n 3, 1) := by decide +kernel
theorem dX3_renew_28 : decode cX3_renew 28 = .ok (.iconst 0, 1) := by decide +kernel
theorem dX3_renew_29 : decode cX3_renew 29 = .ok (.iastore, 1) := by decide +kernel
theorem dX3_renew_30 : decode cX3_renew 30 = .ok (.iinc 3 1, 3) := by decide +kernel
theorem dX3_renew_33 : decode cX3_renew 33 = .ok (.goto (-16), 3) := by decide +kernel
theorem dX3_renew_36 : decode cX3_renew 36 = .ok (.return_, 1) := by decide +kernel
theorem dX3_cut_0 : decode cX3_cut 0 = .ok (.aload_n 0, 1) := by decide +kernel
theorem dX3_cut_1 : decode cX3_cut 1 = .ok (.getfield 19, 3) := by decide +kernel
theorem dX3_cut_4 : decode cX3_cut 4 = .ok (.lookupswitch 34 #[(0, 28), (1, 31)], 28) := by decide +kernel
theorem dX3_cut_32 : decode cX3_cut 32 = .ok (.iload_n 1, 1) := by decide +kernel
theorem dX3_cut_33 : decode cX3_cut 33 = .ok (.i2b, 1) := by decide +kernel
theorem dX3_cut_34 : decode cX3_cut 34 = .ok (.ireturn, 1) := by decide +kernel
theorem dX3_cut_35 : decode cX3_cut 35 = .ok (.iload_n 1, 1) := by decide +kernel
theorem dX3_cut_36 : decode cX3_cut 36 = .ok (.i2s, 1) := by decide +kernel
theorem dX3_cut_37 : decode cX3_cut 37 = .ok (.ireturn, 1) := by decide +kernel
theorem dX3_cut_38 : decode cX3_cut 38 = .ok (.iload_n 1, 1) := by decide +kernel
theorem dX3_cut_39 : decode cX3_cut 39 = .ok (.ireturn, 1) := by decide +kernel
theorem dX3_spans_0 : decode cX3_spans 0 = .ok (.iload_n 1, 1) := by decide +kernel
theorem dX3_spans_1 : decode cX3_spans 1 = .ok (.ifCond .lt 29, 3) := by decide +kernel
theorem dX3_spans_4 : decode cX3_spans 4 = .ok (.iload_n 1, 1) := by decide +kernel
theorem dX3_spans_5 : decode cX3_spans 5 = .ok (.aload_n 0, 1) := by decide +kernel
theorem dX3_spans_6 : decode cX3_spans 6 = .ok (.getfield 23, 3) := by decide +kernel
theorem dX3_spans_9 : decode cX3_spans 9 = .ok (.if_icmp .gt 21, 3) := by decide +kernel
theorem dX3_spans_12 : decode cX3_spans 12 = .ok (.iload_n 2, 1) := by decide +kernel
theorem dX3_spans_13 : decode cX3_spans 13 = .ok (.ifCond .lt 17, 3) := by decide +kernel
theorem dX3_spans_16 : decode cX3_spans 16 = .ok (.iload_n 2, 1) := by decide +kernel
theorem dX3_spans_17 : decode cX3_spans 17 = .ok (.aload_n 0, 1) := by decide +kernel
theorem dX3_spans_18 : decode cX3_spans 18 = .ok (.getfield 23, 3) := by decide +kernel
theorem dX3_spans_21 : decode cX3_spans 21 = .ok (.iload_n 1, 1) := by decide +kernel
theorem dX3_spans_22 : decode cX3_spans 22 = .ok (.isub, 1) := by decide +kernel
theorem dX3_spans_23 : decode cX3_spans 23 = .ok (.if_icmp .gt 7, 3) := by decide +kernel
theorem dX3_spans_26 : decode cX3_spans 26 = .ok (.iconst 1, 1) := by decide +kernel
theorem dX3_spans_27 : decode cX3_spans 27 = .ok (.goto 4, 3) := by decide +kernel
theorem dX3_spans_30 : decode cX3_spans 30 = .ok (.iconst 0, 1) := by decide +kernel
theorem dX3_spans_31 : decode cX3_spans 31 = .ok (.ireturn, 1) := by decide +kernel
theorem dX4_init_0 : decode cX4_init 0 = .ok (.aload_n 0, 1) := by decide +kernel
theorem dX4_init_1 : decode cX4_init 1 = .ok (.invokespecial 3, 3) := by decide +kernel
theorem dX4_init_4 : decode cX4_init 4 = .ok (.aload_n 0, 1) := by decide +kernel
theorem dX4_init_5 : decode cX4_init 5 = .ok (.aload_n 1, 1) := by decide +kernel
theorem dX4_init_6 : decode cX4_init 6 = .ok (.putfield 9, 3) := by decide +kernel
theorem dX4_init_9 : decode cX4_init 9 = .ok (.aload_n 0, 1) := by decide +kernel
theorem dX4_init_10 : decode cX4_init 10 = .ok (.iload_n 2, 1) := by decide +kernel
theorem dX4_init_11 : decode cX4_init 11 = .ok (.putfield 15, 3) := by decide +kernel
theorem dX4_init_14 : decode cX4_init 14 = .ok (.aload_n 0, 1) := by decide +kernel
theorem dX4_init_15 : decode cX4_init 15 = .ok (.iload_n 3, 1) := by decide +kernel
theorem dX4_init_16 : decode cX4_init 16 = .ok (.putfield 19, 3) := by decide +kernel
theorem dX4_init_19 : decode cX4_init 19 = .ok (.return_, 1) := by decide +kernel
set_option maxRecDepth 20000 in
theorem ggX4_firstFault_X4_code : GoodIn wsX4_firstFault wsX4_code := goodIn_r _ [8, 3, 9, 10, 11, 12, 13, 14, 23, 24, 25, 26, 27, 28, 29, 30, 31] (by decide +kernel) (by decide +kernel)
set_option maxRecDepth 20000 in
theorem gX4_firstFault_X4_code : GoodIn wsX4_firstFault (wsV RX4 22 RX4 yX4_code wsX4_code) := goodIn_app (goodIn_of _ (by decide +kernel)) ggX4_firstFault_X4_code
set_option maxRecDepth 20000 in
theorem ggX4_firstFault_X4_isDigit : GoodIn wsX4_firstFault wsX4_isDigit := goodIn_r _ [18, 4, 5, 6, 7, 8, 3, 9, 10, 11, 12, 13, 14, 23, 24, 25, 26, 27, 28, 29, 30, 31] (by decide +kernel) (by decide +kernel)
set_option maxRecDepth 20000 in
theorem gX4_firstFault_X4_isDigit : GoodIn wsX4_firstFault (wsV RX4 29 RX4 yX4_isDigit wsX4_isDigit) := goodIn_app (goodIn_of _ (by decide +kernel)) ggX4_firstFault_X4_isDigit
set_option maxRecDepth 20000 in
theorem ggX4_firstFault_X4_kindAt : GoodIn wsX4_firstFault wsX4_kindAt := goodIn_r _ [22, 4, 5, 6, 7, 8, 3, 9, 10, 11, 12, 13, 14, 23, 24, 25, 26, 27, 28, 29, 30, 31] (by decide +kernel) (by decide +kernel)
set_option maxRecDepth 20000 in
theorem gX4_firstFault_X4_kindAt : GoodIn wsX4_firstFault (wsV RX4 36 RX4 yX4_kindAt wsX4_kindAt) := goodIn_app (goodIn_of _ (by decide +kernel)) ggX4_firstFault_X4_kindAt
theorem dX4_firstFault_0 : decode cX4_firstFault 0 = .ok (.aload_n 0, 1) := by decide +kernel
theorem dX4_firstFault_1 : decode cX4_firstFault 1 = .ok (.iconst 0, 1) := by decide +kernel
theorem dX4_firstFault_2 : decode cX4_firstFault 2 = .ok (.invokevirtual 22, 3) := by decide +kernel
theorem dX4_firstFault_5 : decode cX4_firstFault 5 = .ok (.bipush 112, 2) := by decide +kernel
theorem dX4_firstFault_7 : decode cX4_firstFault 7 = .ok (.if_icmp .eq 5, 3) := by decide +kernel
theorem dX4_firstFault_10 : decode cX4_firstFault 10 = .ok (.iconst 0, 1) := by decide +kernel
theorem dX4_firstFault_11 : decode cX4_firstFault 11 = .ok (.ireturn, 1) := by decide +kernel
theorem dX4_firstFault_12 : decode cX4_firstFault 12 = .ok (.iconst 1, 1) := by decide +kernel
theorem dX4_firstFault_13 : decode cX4_firstFault 13 = .ok (.istore_n 1, 1) := by decide +kernel
theorem dX4_firstFault_14 : decode cX4_firstFault 14 = .ok (.aload_n 0, 1) := by decide +kernel
theorem dX4_firstFault_15 : decode cX4_firstFault 15 = .ok (.iconst 0, 1) := by decide +kernel
theorem dX4_firstFault_16 : decode cX4_firstFault 16 = .ok (.putfield 26, 3) := by decide +kernel
theorem dX4_firstFault_19 : decode cX4_firstFault 19 = .ok (.aload_n 0, 1) := by decide +kernel
theorem dX4_firstFault_20 : decode cX4_firstFault 20 = .ok (.getfield 26, 3) := by decide +kernel
theorem dX4_firstFault_23 : decode cX4_firstFault 23 = .ok (.iconst 5, 1) := by decide +kernel
theorem dX4_firstFault_24 : decode cX4_firstFault 24 = .ok (.if_icmp .ge 58, 3) := by decide +kernel
theorem dX4_firstFault_27 : decode cX4_firstFault 27 = .ok (.aload_n 0, 1) := by decide +kernel
theorem dX4_firstFault_28 : decode cX4_firstFault 28 = .ok (.iload_n 1, 1) := by decide +kernel
theorem dX4_firstFault_29 : decode cX4_firstFault 29 = .ok (.invokevirtual 22, 3) := by decide +kernel
theorem dX4_firstFault_32 : decode cX4_firstFault 32 = .ok (.bipush 47, 2) := by decide +kernel
theorem dX4_firstFault_34 : decode cX4_firstFault 34 = .ok (.if_icmp .ne 48, 3) := by decide +kernel
theorem dX4_firstFault_37 : decode cX4_firstFault 37 = .ok (.iconst 1, 1) := by decide +kernel
theorem dX4_firstFault_38 : decode cX4_firstFault 38 = .ok (.istore_n 2, 1) := by decide +kernel
theorem dX4_firstFault_39 : decode cX4_firstFault 39 = .ok (.iload_n 2, 1) := by decide +kernel
theorem dX4_firstFault_40 : decode cX4_firstFault 40 = .ok (.iconst 3, 1) := by decide +kernel
theorem dX4_firstFault_41 : decode cX4_firstFault 41 = .ok (.if_icmp .gt 25, 3) := by decide +kernel
theorem dX4_firstFault_44 : decode cX4_firstFault 44 = .ok (.aload_n 0, 1) := by decide +kernel
theorem dX4_firstFault_45 : decode cX4_firstFault 45 = .ok (.iload_n 1, 1) := by decide +kernel
theorem dX4_firstFault_46 : decode cX4_firstFault 46 = .ok (.iload_n 2, 1) := by decide +kernel
theorem dX4_firstFault_47 : decode cX4_firstFault 47 = .ok (.iadd, 1) := by decide +kernel
theorem dX4_firstFault_48 : decode cX4_firstFault 48 = .ok (.bipush 57, 2) := by decide +kernel
theorem dX4_firstFault_50 : decode cX4_firstFault 50 = .ok (.invokevirtual 29, 3) := by decide +kernel
theorem dX4_firstFault_53 : decode cX4_firstFault 53 = .ok (.ifCond .ne 7, 3) := by decide +kernel
theorem dX4_firstFault_56 : decode cX4_firstFault 56 = .ok (.iload_n 1, 1) := by decide +kernel
theorem dX4_firstFault_57 : decode cX4_firstFault 57 = .ok (.iload_n 2, 1) := by decide +kernel
theorem dX4_firstFault_58 : decode cX4_firstFault 58 = .ok (.iadd, 1) := by decide +kernel
theorem dX4_firstFault_59 : decode cX4_firstFault 59 = .ok (.ireturn, 1) := by decide +kernel
theorem dX4_firstFault_60 : decode cX4_firstFault 60 = .ok (.iinc 2 1, 3) := by decide +kernel
theorem dX4_firstFault_63 : decode cX4_firstFault 63 = .ok (.goto (-24), 3) := by decide +kernel
theorem dX4_firstFault_66 : decode cX4_firstFault 66 = .ok (.iinc 1 4, 3) := by decide +kernel
theorem dX4_firstFault_69 : decode cX4_firstFault 69 = .ok (.aload_n 0, 1) := by decide +kernel
theorem dX4_firstFault_70 : decode cX4_firstFault 70 = .ok (.dup, 1) := by decide +kernel
theorem dX4_firstFault_71 : decode cX4_firstFault 71 = .ok (.getfield 26, 3) := by decide +kernel
theorem dX4_firstFault_74 : decode cX4_firstFault 74 = .ok (.iconst 1, 1) := by decide +kernel
theorem dX4_firstFault_75 : decode cX4_firstFault 75 = .ok (.iadd, 1) := by decide +kernel
theorem dX4_firstFault_76 : decode cX4_firstFault 76 = .ok (.putfield 26, 3) := by decide +kernel
theorem dX4_firstFault_79 : decode cX4_firstFault 79 = .ok (.goto (-60), 3) := by decide +kernel
theorem dX4_firstFault_82 : decode cX4_firstFault 82 = .ok (.aload_n 0, 1) := by decide +kernel
theorem dX4_firstFault_83 : decode cX4_firstFault 83 = .ok (.getfield 26, 3) := by decide +kernel
theorem dX4_firstFault_86 : decode cX4_firstFault 86 = .ok (.ifCond .ne 5, 3) := by decide +kernel
theorem dX4_firstFault_89 : decode cX4_firstFault 89 = .ok (.iload_n 1, 1) := by decide +kernel
theorem dX4_firstFault_90 : decode cX4_firstFault 90 = .ok (.ireturn, 1) := by decide +kernel
theorem dX4_firstFault_91 : decode cX4_firstFault 91 = .ok (.aload_n 0, 1) := by decide +kernel
theorem dX4_firstFault_92 : decode cX4_firstFault 92 = .ok (.iconst 0, 1) := by decide +kernel
theorem dX4_firstFault_93 : decode cX4_firstFault 93 = .ok (.putfield 33, 3) := by decide +kernel
theorem dX4_firstFault_96 : decode cX4_firstFault 96 = .ok (.aload_n 0, 1) := by decide +kernel
theorem dX4_firstFault_97 : decode cX4_firstFault 97 = .ok (.getfield 33, 3) := by decide +kernel
theorem dX4_firstFault_100 : decode cX4_firstFault 100 = .ok (.iconst 4, 1) := by decide +kernel
theorem dX4_firstFault_101 : decode cX4_firstFault 101 = .ok (.if_icmp .ge 61, 3) := by decide +kernel
theorem dX4_firstFault_104 : decode cX4_firstFault 104 = .ok (.aload_n 0, 1) := by decide +kernel
theorem dX4_firstFault_105 : decode cX4_firstFault 105 = .ok (.iload_n 1, 1) := by decide +kernel
theorem dX4_firstFault_106 : decode cX4_firstFault 106 = .ok (.invokevirtual 22, 3) := by decide +kernel
theorem dX4_firstFault_109 : decode cX4_firstFault 109 = .ok (.bipush 59, 2) := by decide +kernel
theorem dX4_firstFault_111 : decode cX4_firstFault 111 = .ok (.if_icmp .ne 51, 3) := by decide +kernel
theorem dX4_firstFault_114 : decode cX4_firstFault 114 = .ok (.aload_n 0, 1) := by decide +kernel
theorem dX4_firstFault_115 : decode cX4_firstFault 115 = .ok (.iload_n 1, 1) := by decide +kernel
theorem dX4_firstFault_116 : decode cX4_firstFault 116 = .ok (.iconst 1, 1) := by decide +kernel
theorem dX4_firstFault_117 : decode cX4_firstFault 117 = .ok (.iadd, 1) := by decide +kernel
theorem dX4_firstFault_118 : decode cX4_firstFault 118 = .ok (.invokevirtual 36, 3) := by decide +kernel
theorem dX4_firstFault_121 : decode cX4_firstFault 121 = .ok (.bipush (-9), 2) := by decide +kernel
theorem dX4_firstFault_123 : decode cX4_firstFault 123 = .ok (.if_icmp .ne 7, 3) := by decide +kernel
theorem dX4_firstFault_126 : decode cX4_firstFault 126 = .ok (.iload_n 1, 1) := by decide +kernel
theorem dX4_firstFault_127 : decode cX4_firstFault 127 = .ok (.iconst 1, 1) := by decide +kernel
theorem dX4_firstFault_128 : decode cX4_firstFault 128 = .ok (.iadd, 1) := by decide +kernel
theorem dX4_firstFault_129 : decode cX4_firstFault 129 = .ok (.ireturn, 1) := by decide +kernel
theorem dX4_firstFault_130 : decode cX4_firstFault 130 = .ok (.aload_n 0, 1) := by decide +kernel
theorem dX4_firstFault_131 : decode cX4_firstFault 131 = .ok (.iload_n 1, 1) := by decide +kernel
theorem dX4_firstFault_132 : decode cX4_firstFault 132 = .ok (.iconst 2, 1) := by decide +kernel
theorem dX4_firstFault_133 : decode cX4_firstFault 133 = .ok (.iadd, 1) := by decide +kernel
theorem dX4_firstFault_134 : decode cX4_firstFault 134 = .ok (.bipush 51, 2) := by decide +kernel
theorem dX4_firstFault_136 : decode cX4_firstFault 136 = .ok (.invokevirtual 29, 3) := by decide +kernel
theorem dX4_firstFault_139 : decode cX4_firstFault 139 = .ok (.ifCond .ne 7, 3) := by decide +kernel
theorem dX4_firstFault_142 : decode cX4_firstFault 142 = .ok (.iload_n 1, 1) := by decide +kernel
theorem dX4_firstFault_143 : decode cX4_firstFault 143 = .ok (.iconst 2, 1) := by decide +kernel
theorem dX4_firstFault_144 : decode cX4_firstFault 144 = .ok (.iadd, 1) := by decide +kernel
theorem dX4_firstFault_145 : decode cX4_firstFault 145 = .ok (.ireturn, 1) := by decide +kernel
theorem dX4_firstFault_146 : decode cX4_firstFault 146 = .ok (.iinc 1 3, 3) := by decide +kernel
theorem dX4_firstFault_149 : decode cX4_firstFault 149 = .ok (.aload_n 0, 1) := by decide +kernel
theorem dX4_firstFault_150 : decode cX4_firstFault 150 = .ok (.dup, 1) := by decide +kernel
theorem dX4_firstFault_151 : decode cX4_firstFault 151 = .ok (.getfield 33, 3) := by decide +kernel
theorem dX4_firstFault_154 : decode cX4_firstFault 154 = .ok (.iconst 1, 1) := by decide +kernel
theorem dX4_firstFault_155 : decode cX4_firstFault 155 = .ok (.iadd, 1) := by decide +kernel
theorem dX4_firstFault_156 : decode cX4_firstFault 156 = .ok (.putfield 33, 3) := by decide +kernel
theorem dX4_firstFault_159 : decode cX4_firstFault 159 = .ok (.goto (-63), 3) := by decide +kernel
theorem dX4_firstFault_162 : decode cX4_firstFault 162 = .ok (.aload_n 0, 1) := by decide +kernel
theorem dX4_firstFault_163 : decode cX4_firstFault 163 = .ok (.getfield 33, 3) := by decide +kernel
theorem dX4_firstFault_166 : decode cX4_firstFault 166 = .ok (.ifCond .le 15, 3) := by decide +kernel
theorem dX4_firstFault_169 : decode cX4_firstFault 169 = .ok (.iload_n 1, 1) := by decide +kernel
theorem dX4_firstFault_170 : decode cX4_firstFault 170 = .ok (.aload_n 0, 1) := by decide +kernel
theorem dX4_firstFault_171 : decode cX4_firstFault 171 = .ok (.getfield 19, 3) := by decide +kernel
theorem dX4_firstFault_174 : decode cX4_firstFault 174 = .ok (.if_icmp .ne 7, 3) := by decide +kernel
theorem dX4_firstFault_177 : decode cX4_firstFault 177 = .ok (.iconst (-1), 1) := by decide +kernel
theorem dX4_firstFault_178 : decode cX4_firstFault 178 = .ok (.goto 4, 3) := by decide +kernel
theorem dX4_firstFault_181 : decode cX4_firstFault 181 = .ok (.iload_n 1, 1) := by decide +kernel
theorem dX4_firstFault_182 : decode cX4_firstFault 182 = .ok (.ireturn, 1) := by decide +kernel
set_option maxRecDepth 20000 in
theorem ggX4_digitOfDeed_X4_code : GoodIn wsX4_digitOfDeed wsX4_code := goodIn_r _ [5, 6, 7, 8, 9, 10, 11, 12, 13, 14, 15, 16, 17, 18, 19, 20, 21] (by decide +kernel) (by decide +kernel)
set_option maxRecDepth 20000 in
theorem gX4_digitOfDeed_X4_code : GoodIn wsX4_digitOfDeed (wsV RX4 22 RX4 yX4_code wsX4_code) := goodIn_app (goodIn_of _ (by decide +kernel)) ggX4_digitOfDeed_X4_code
theorem dX4_digitOfDeed_0 : decode cX4_digitOfDeed 0 = .ok (.aload_n 0, 1) := by decide +kernel
theorem dX4_digitOfDeed_1 : decode cX4_digitOfDeed 1 = .ok (.iconst 4, 1) := by decide +kernel
theorem dX4_digitOfDeed_2 : decode cX4_digitOfDeed 2 = .ok (.iload_n 1, 1) := by decide +kernel
theorem dX4_digitOfDeed_3 : decode cX4_digitOfDeed 3 = .ok (.imul, 1) := by decide +kernel
theorem dX4_digitOfDeed_4 : decode cX4_digitOfDeed 4 = .ok (.iconst 2, 1) := by decide +kernel
theorem dX4_digitOfDeed_5 : decode cX4_digitOfDeed 5 = .ok (.iadd, 1) := by decide +kernel
theorem dX4_digitOfDeed_6 : decode cX4_digitOfDeed 6 = .ok (.iload_n 2, 1) := by decide +kernel
theorem dX4_digitOfDeed_7 : decode cX4_digitOfDeed 7 = .ok (.iadd, 1) := by decide +kernel
theorem dX4_digitOfDeed_8 : decode cX4_digitOfDeed 8 = .ok (.invokevirtual 22, 3) := by decide +kernel
theorem dX4_digitOfDeed_11 : decode cX4_digitOfDeed 11 = .ok (.bipush 48, 2) := by decide +kernel
theorem dX4_digitOfDeed_13 : decode cX4_digitOfDeed 13 = .ok (.isub, 1) := by decide +kernel
theorem dX4_digitOfDeed_14 : decode cX4_digitOfDeed 14 = .ok (.ireturn, 1) := by decide +kernel
set_option maxRecDepth 20000 in
theorem ggX4_kindOfSubject_X4_kindAt : GoodIn wsX4_kindOfSubject wsX4_kindAt := goodIn_r _ [6, 7, 8, 9, 5, 10, 11, 12, 13, 14, 15, 16, 17, 18, 19, 20, 21, 22, 23, 24, 25, 26] (by decide +kernel) (by decide +kernel)
set_option maxRecDepth 20000 in
theorem gX4_kindOfSubject_X4_kindAt : GoodIn wsX4_kindOfSubject (wsV RX4 36 RX4 yX4_kindAt wsX4_kindAt) := goodIn_app (goodIn_of _ (by decide +kernel)) ggX4_kindOfSubject_X4_kindAt
theorem dX4_kindOfSubject_0 : decode cX4_kindOfSubject 0 = .ok (.aload_n 0, 1) := by decide +kernel
theorem dX4_kindOfSubject_1 : decode cX4_kindOfSubject 1 = .ok (.iconst 4, 1) := by decide +kernel
theorem dX4_kindOfSubject_2 : decode cX4_kindOfSubject 2 = .ok (.aload_n 0, 1) := by decide +kernel
theorem dX4_kindOfSubject_3 : decode cX4_kindOfSubject 3 = .ok (.getfield 26, 3) := by decide +kernel
theorem dX4_kindOfSubject_6 : decode cX4_kindOfSubject 6 = .ok (.imul, 1) := by decide +kernel
theorem dX4_kindOfSubject_7 : decode cX4_kindOfSubject 7 = .ok (.iconst 3, 1) := by decide +kernel
theorem dX4_kindOfSubject_8 : decode cX4_kindOfSubject 8 = .ok (.iload_n 1, 1) := by decide +kernel
theorem dX4_kindOfSubject_9 : decode cX4_kindOfSubject 9 = .ok (.imul, 1) := by decide +kernel
theorem dX4_kindOfSubject_10 : decode cX4_kindOfSubject 10 = .ok (.iadd, 1) := by decide +kernel
theorem dX4_kindOfSubject_11 : decode cX4_kindOfSubject 11 = .ok (.iconst 2, 1) := by decide +kernel
theorem dX4_kindOfSubject_12 : decode cX4_kindOfSubject 12 = .ok (.iadd, 1) := by decide +kernel
theorem dX4_kindOfSubject_13 : decode cX4_kindOfSubject 13 = .ok (.invokevirtual 36, 3) := by decide +kernel
theorem dX4_kindOfSubject_16 : decode cX4_kindOfSubject 16 = .ok (.ireturn, 1) := by decide +kernel
set_option maxRecDepth 20000 in
theorem ggX4_papersOfSubject_X4_code : GoodIn wsX4_papersOfSubject wsX4_code := goodIn_r _ [6, 7, 8, 9, 10, 11, 12, 13, 14, 15, 16, 17, 18, 19, 20, 21, 22] (by decide +kernel) (by decide +kernel)
set_option maxRecDepth 20000 in
theorem gX4_papersOfSubject_X4_code : GoodIn wsX4_papersOfSubject (wsV RX4 22 RX4 yX4_code wsX4_code) := goodIn_app (goodIn_of _ (by decide +kernel)) ggX4_papersOfSubject_X4_code
theorem dX4_papersOfSubject_0 : decode cX4_papersOfSubject 0 = .ok (.aload_n 0, 1) := by decide +kernel
theorem dX4_papersOfSubject_1 : decode cX4_papersOfSubject 1 = .ok (.iconst 4, 1) := by decide +kernel
theorem dX4_papersOfSubject_2 : decode cX4_papersOfSubject 2 = .ok (.aload_n 0, 1) := by decide +kernel
theorem dX4_papersOfSubject_3 : decode cX4_papersOfSubject 3 = .ok (.getfield 26, 3) := by decide +kernel
theorem dX4_papersOfSubject_6 : decode cX4_papersOfSubject 6 = .ok (.imul, 1) := by decide +kernel
theorem dX4_papersOfSubject_7 : decode cX4_papersOfSubject 7 = .ok (.iconst 3, 1) := by decide +kernel
theorem dX4_papersOfSubject_8 : decode cX4_papersOfSubject 8 = .ok (.iload_n 1, 1) := by decide +kernel
theorem dX4_papersOfSubject_9 : decode cX4_papersOfSubject 9 = .ok (.imul, 1) := by decide +kernel
theorem dX4_papersOfSubject_10 : decode cX4_papersOfSubject 10 = .ok (.iadd, 1) := by decide +kernel
theorem dX4_papersOfSubject_11 : decode cX4_papersOfSubject 11 = .ok (.iconst 3, 1) := by decide +kernel
theorem dX4_papersOfSubject_12 : decode cX4_papersOfSubject 12 = .ok (.iadd, 1) := by decide +kernel
theorem dX4_papersOfSubject_13 : decode cX4_papersOfSubject 13 = .ok (.invokevirtual 22, 3) := by decide +kernel
theorem dX4_papersOfSubject_16 : decode cX4_papersOfSubject 16 = .ok (.bipush 48, 2) := by decide +kernel
theorem dX4_papersOfSubject_18 : decode cX4_papersOfSubject 18 = .ok (.isub, 1) := by decide +kernel
theorem dX4_papersOfSubject_19 : decode cX4_papersOfSubject 19 = .ok (.ireturn, 1) := by decide +kernel
set_option maxRecDepth 20000 in
theorem ggX4_code_X6_isBelow : GoodIn wsX4_code wsX6_isBelow := goodIn_r _ [7] (by decide +kernel) (by decide +kernel)
set_option maxRecDepth 20000 in
theorem gX4_code_X6_isBelow_n39 : GoodIn wsX4_code (wsX6_isBelow) := ggX4_code_X6_isBelow
theorem dX4_code_0 : decode cX4_code 0 = .ok (.iload_n 1, 1) := by decide +kernel
theorem dX4_code_1 : decode cX4_code 1 = .ok (.aload_n 0, 1) := by decide +kernel
theorem dX4_code_2 : decode cX4_code 2 = .ok (.getfield 19, 3) := by decide +kernel
theorem dX4_code_5 : decode cX4_code 5 = .ok (.invokestatic 39, 3) := by decide +kernel
theorem dX4_code_8 : decode cX4_code 8 = .ok (.ifCond .eq 20, 3) := by decide +kernel
theorem dX4_code_11 : decode cX4_code 11 = .ok (.aload_n 0, 1) := by decide +kernel
theorem dX4_code_12 : decode cX4_code 12 = .ok (.getfield 9, 3) := by decide +kernel
theorem dX4_code_15 : decode cX4_code 15 = .ok (.getfield 42, 3) := by decide +kernel
theorem dX4_code_18 : decode cX4_code 18 = .ok (.aload_n 0, 1) := by decide +kernel
theorem dX4_code_19 : decode cX4_code 19 = .ok (.getfield 15, 3) := by decide +kernel
theorem dX4_code_22 : decode cX4_code 22 = .ok (.iload_n 1, 1) := by decide +kernel
theorem dX4_code_23 : decode cX4_code 23 = .ok (.iadd, 1) := by decide +kernel
theorem dX4_code_24 : decode cX4_code 24 = .ok (.iaload, 1) := by decide +kernel
theorem dX4_code_25 : decode cX4_code 25 = .ok (.goto 5, 3) := by decide +kernel
theorem dX4_code_28 : decode cX4_code 28 = .ok (.bipush (-9), 2) := by decide +kernel
theorem dX4_code_30 : decode cX4_code 30 = .ok (.ireturn, 1) := by decide +kernel
set_option maxRecDepth 20000 in
theorem ggX4_isDigit_X4_code : GoodIn wsX4_isDigit wsX4_code := goodIn_r _ [5, 6, 7, 8, 9, 10, 11, 12, 13, 14, 15, 16, 17, 18, 19, 20, 21] (by decide +kernel) (by decide +kernel)
set_option maxRecDepth 20000 in
theorem gX4_isDigit_X4_code : GoodIn wsX4_isDigit (wsV RX4 22 RX4 yX4_code wsX4_code) := goodIn_app (goodIn_of _ (by decide +kernel)) ggX4_isDigit_X4_code
theorem dX4_isDigit_0 : decode cX4_isDigit 0 = .ok (.aload_n 0, 1) := by decide +kernel
theorem dX4_isDigit_1 : decode cX4_isDigit 1 = .ok (.iload_n 1, 1) := by decide +kernel
theorem dX4_isDigit_2 : decode cX4_isDigit 2 = .ok (.invokevirtual 22, 3) := by decide +kernel
theorem dX4_isDigit_5 : decode cX4_isDigit 5 = .ok (.istore_n 3, 1) := by decide +kernel
theorem dX4_isDigit_6 : decode cX4_isDigit 6 = .ok (.iload_n 3, 1) := by decide +kernel
theorem dX4_isDigit_7 : decode cX4_isDigit 7 = .ok (.bipush 48, 2) := by decide +kernel
theorem dX4_isDigit_9 : decode cX4_isDigit 9 = .ok (.if_icmp .lt 12, 3) := by decide +kernel
theorem dX4_isDigit_12 : decode cX4_isDigit 12 = .ok (.iload_n 3, 1) := by decide +kernel
theorem dX4_isDigit_13 : decode cX4_isDigit 13 = .ok (.iload_n 2, 1) := by decide +kernel
theorem dX4_isDigit_14 : decode cX4_isDigit 14 = .ok (.if_icmp .gt 7, 3) := by decide +kernel
theorem dX4_isDigit_17 : decode cX4_isDigit 17 = .ok (.iconst 1, 1) := by decide +kernel
theorem dX4_isDigit_18 : decode cX4_isDigit 18 = .ok (.goto 4, 3) := by decide +kernel
theorem dX4_isDigit_21 : decode cX4_isDigit 21 = .ok (.iconst 0, 1) := by decide +kernel
theorem dX4_isDigit_22 : decode cX4_isDigit 22 = .ok (.ireturn, 1) := by decide +kernel
set_option maxRecDepth 20000 in
theorem ggX4_kindAt_X4_code : GoodIn wsX4_kindAt wsX4_code := goodIn_r _ [5, 6, 7, 8, 9, 10, 11, 12, 13, 14, 15, 16, 17, 18, 19, 20, 21] (by decide +kernel) (by decide +kernel)
set_option maxRecDepth 20000 in
theorem gX4_kindAt_X4_code : GoodIn wsX4_kindAt (wsV RX4 22 RX4 yX4_code wsX4_code) := goodIn_app (goodIn_of _ (by decide +kernel)) ggX4_kindAt_X4_code
theorem dX4_kindAt_0 : decode cX4_kindAt 0 = .ok (.aload_n 0, 1) := by decide +kernel
theorem dX4_kindAt_1 : decode cX4_kindAt 1 = .ok (.iload_n 1, 1) := by decide +kernel
theorem dX4_kindAt_2 : decode cX4_kindAt 2 = .ok (.invokevirtual 22, 3) := by decide +kernel
theorem dX4_kindAt_5 : decode cX4_kindAt 5 = .ok (.lookupswitch 41 #[(104, 39), (109, 37), (115, 35)], 35) := by decide +kernel
theorem dX4_kindAt_40 : decode cX4_kindAt 40 = .ok (.iconst 0, 1) := by decide +kernel
theorem dX4_kindAt_41 : decode cX4_kindAt 41 = .ok (.ireturn, 1) := by decide +kernel
theorem dX4_kindAt_42 : decode cX4_kindAt 42 = .ok (.iconst 1, 1) := by decide +kernel
theorem dX4_kindAt_43 : decode cX4_kindAt 43 = .ok (.ireturn, 1) := by decide +kernel
theorem dX4_kindAt_44 : decode cX4_kindAt 44 = .ok (.iconst 2, 1) := by decide +kernel
theorem dX4_kindAt_45 : decode cX4_kindAt 45 = .ok (.ireturn, 1) := by decide +kernel
theorem dX4_kindAt_46 : decode cX4_kindAt 46 = .ok (.bipush (-9), 2) := by decide +kernel
theorem dX4_kindAt_48 : decode cX4_kindAt 48 = .ok (.ireturn, 1) := by decide +kernel
theorem dX5_init_0 : decode cX5_init 0 = .ok (.aload_n 0, 1) := by decide +kernel
theorem dX5_init_1 : decode cX5_init 1 = .ok (.invokespecial 3, 3) := by decide +kernel
theorem dX5_init_4 : decode cX5_init 4 = .ok (.aload_n 0, 1) := by decide +kernel
theorem dX5_init_5 : decode cX5_init 5 = .ok (.iconst 4, 1) := by decide +kernel
theorem dX5_init_6 : decode cX5_init 6 = .ok (.newarray .int, 2) := by decide +kernel
theorem dX5_init_8 : decode cX5_init 8 = .ok (.putfield 9, 3) := by decide +kernel
theorem dX5_init_11 : decode cX5_init 11 = .ok (.return_, 1) := by decide +kernel
set_option maxRecDepth 20000 in
theorem ggX5_live_X5_goesOn : GoodIn wsX5_live wsX5_goesOn := goodIn_r _ [12, 5, 2, 1, 13, 14, 15, 16, 17, 18, 19, 20, 21, 22, 23, 24, 25, 26, 27, 28, 29, 30, 31, 32, 33, 34, 35, 36, 37, 38, 39, 40, 41, 42] (by decide +kernel) (by decide +kernel)
set_option maxRecDepth 20000 in
theorem gX5_live_X5_goesOn : GoodIn wsX5_live (wsV RX5 38 RX5 yX5_goesOn wsX5_goesOn) := goodIn_app (goodIn_of _ (by decide +kernel)) ggX5_live_X5_goesOn
theorem dX5_live_0 : decode cX5_live 0 = .ok (.aload_n 0, 1) := by decide +kernel
theorem dX5_live_1 : decode cX5_live 1 = .ok (.iconst 0, 1) := by decide +kernel
theorem dX5_live_2 : decode cX5_live 2 = .ok (.putfield 15, 3) := by decide +kernel
theorem dX5_live_5 : decode cX5_live 5 = .ok (.aload_n 0, 1) := by decide +kernel
theorem dX5_live_6 : decode cX5_live 6 = .ok (.iconst 0, 1) := by decide +kernel
theorem dX5_live_7 : decode cX5_live 7 = .ok (.putfield 19, 3) := by decide +kernel
theorem dX5_live_10 : decode cX5_live 10 = .ok (.aload_n 0, 1) := by decide +kernel
theorem dX5_live_11 : decode cX5_live 11 = .ok (.bipush (-9), 2) := by decide +kernel
theorem dX5_live_13 : decode cX5_live 13 = .ok (.putfield 22, 3) := by decide +kernel
theorem dX5_live_16 : decode cX5_live 16 = .ok (.iconst 0, 1) := by decide +kernel
theorem dX5_live_17 : decode cX5_live 17 = .ok (.istore 5, 2) := by decide +kernel
theorem dX5_live_19 : decode cX5_live 19 = .ok (.iload 5, 2) := by decide +kernel
theorem dX5_live_21 : decode cX5_live 21 = .ok (.aload_n 1, 1) := by decide +kernel
theorem dX5_live_22 : decode cX5_live 22 = .ok (.getfield 25, 3) := by decide +kernel
theorem dX5_live_25 : decode cX5_live 25 = .ok (.if_icmp .ge 23, 3) := by decide +kernel
theorem dX5_live_28 : decode cX5_live 28 = .ok (.aload_n 0, 1) := by decide +kernel
theorem dX5_live_29 : decode cX5_live 29 = .ok (.getfield 9, 3) := by decide +kernel
theorem dX5_live_32 : decode cX5_live 32 = .ok (.iload 5, 2) := by decide +kernel
theorem dX5_live_34 : decode cX5_live 34 = .ok (.aload_n 1, 1) := by decide +kernel
theorem dX5_live_35 : decode cX5_live 35 = .ok (.getfield 30, 3) := by decide +kernel
theorem dX5_live_38 : decode cX5_live 38 = .ok (.iload 5, 2) := by decide +kernel
theorem dX5_live_40 : decode cX5_live 40 = .ok (.iaload, 1) := by decide +kernel
theorem dX5_live_41 : decode cX5_live 41 = .ok (.iastore, 1) := by decide +kernel
theorem dX5_live_42 : decode cX5_live 42 = .ok (.iinc 5 1, 3) := by decide +kernel
theorem dX5_live_45 : decode cX5_live 45 = .ok (.goto (-26), 3) := by decide +kernel
theorem dX5_live_48 : decode cX5_live 48 = .ok (.iconst 0, 1) := by decide +kernel
theorem dX5_live_49 : decode cX5_live 49 = .ok (.istore 5, 2) := by decide +kernel
theorem dX5_live_51 : decode cX5_live 51 = .ok (.iload 5, 2) := by decide +kernel
theorem dX5_live_53 : decode cX5_live 53 = .ok (.iload 4, 2) := by decide +kernel
theorem dX5_live_55 : decode cX5_live 55 = .ok (.if_icmp .ge 65, 3) := by decide +kernel
theorem dX5_live_58 : decode cX5_live 58 = .ok (.aload_n 0, 1) := by decide +kernel
theorem dX5_live_59 : decode cX5_live 59 = .ok (.getfield 22, 3) := by decide +kernel
theorem dX5_live_62 : decode cX5_live 62 = .ok (.bipush (-9), 2) := by decide +kernel
theorem dX5_live_64 : decode cX5_live 64 = .ok (.if_icmp .ne 56, 3) := by decide +kernel
theorem dX5_live_67 : decode cX5_live 67 = .ok (.iload_n 3, 1) := by decide +kernel
theorem dX5_live_68 : decode cX5_live 68 = .ok (.iconst 3, 1) := by decide +kernel
theorem dX5_live_69 : decode cX5_live 69 = .ok (.iload 5, 2) := by decide +kernel
theorem dX5_live_71 : decode cX5_live 71 = .ok (.imul, 1) := by decide +kernel
theorem dX5_live_72 : decode cX5_live 72 = .ok (.iadd, 1) := by decide +kernel
theorem dX5_live_73 : decode cX5_live 73 = .ok (.istore 6, 2) := by decide +kernel
theorem dX5_live_75 : decode cX5_live 75 = .ok (.aload_n 0, 1) := by decide +kernel
theorem dX5_live_76 : decode cX5_live 76 = .ok (.aload_n 1, 1) := by decide +kernel
theorem dX5_live_77 : decode cX5_live 77 = .ok (.aload_n 2, 1) := by decide +kernel
theorem dX5_live_78 : decode cX5_live 78 = .ok (.getfield 33, 3) := by decide +kernel
theorem dX5_live_81 : decode cX5_live 81 = .ok (.iload 6, 2) := by decide +kernel
theorem dX5_live_83 : decode cX5_live 83 = .ok (.iaload, 1) := by decide +kernel
theorem dX5_live_84 : decode cX5_live 84 = .ok (.aload_n 2, 1) := by decide +kernel
theorem dX5_live_85 : decode cX5_live 85 = .ok (.getfield 33, 3) := by decide +kernel
theorem dX5_live_88 : decode cX5_live 88 = .ok (.iload 6, 2) := by decide +kernel
theorem dX5_live_90 : decode cX5_live 90 = .ok (.iconst 1, 1) := by decide +kernel
theorem dX5_live_91 : decode cX5_live 91 = .ok (.iadd, 1) := by decide +kernel
theorem dX5_live_92 : decode cX5_live 92 = .ok (.iaload, 1) := by decide +kernel
theorem dX5_live_93 : decode cX5_live 93 = .ok (.aload_n 2, 1) := by decide +kernel
theorem dX5_live_94 : decode cX5_live 94 = .ok (.getfield 33, 3) := by decide +kernel
theorem dX5_live_97 : decode cX5_live 97 = .ok (.iload 6, 2) := by decide +kernel
theorem dX5_live_99 : decode cX5_live 99 = .ok (.iconst 2, 1) := by decide +kernel
theorem dX5_live_100 : decode cX5_live 100 = .ok (.iadd, 1) := by decide +kernel
theorem dX5_live_101 : decode cX5_live 101 = .ok (.iaload, 1) := by decide +kernel
theorem dX5_live_102 : decode cX5_live 102 = .ok (.invokevirtual 38, 3) := by decide +kernel
theorem dX5_live_105 : decode cX5_live 105 = .ok (.ifCond .ne 9, 3) := by decide +kernel
theorem dX5_live_108 : decode cX5_live 108 = .ok (.aload_n 0, 1) := by decide +kernel
theorem dX5_live_109 : decode cX5_live 109 = .ok (.iload 5, 2) := by decide +kernel
theorem dX5_live_111 : decode cX5_live 111 = .ok (.putfield 22, 3) := by decide +kernel
theorem dX5_live_114 : decode cX5_live 114 = .ok (.iinc 5 1, 3) := by decide +kernel
theorem dX5_live_117 : decode cX5_live 117 = .ok (.goto (-66), 3) := by decide +kernel
theorem dX5_live_120 : decode cX5_live 120 = .ok (.return_, 1) := by decide +kernel
set_option maxRecDepth 20000 in
theorem ggX5_goesOn_X2_pardonedValue : GoodIn wsX5_goesOn wsX2_pardonedValue := goodIn_r _ [8, 9, 29, 30, 31, 32, 33] (by decide +kernel) (by decide +kernel)
set_option maxRecDepth 20000 in
theorem gX5_goesOn_X2_pardonedValue : GoodIn wsX5_goesOn (wsV RX5 42 RX2 yX2_pardonedValue wsX2_pardonedValue) := goodIn_app (goodIn_of _ (by decide +kernel)) ggX5_goesOn_X2_pardonedValue
set_option maxRecDepth 20000 in
theorem ggX5_goesOn_X2_unpardonedValue : GoodIn wsX5_goesOn wsX2_unpardonedValue := goodIn_r _ [13, 14, 5, 6, 7, 8, 9, 15, 16, 17, 18, 19, 29, 30, 31, 32, 33] (by decide +kernel) (by decide +kernel)
set_option maxRecDepth 20000 in
theorem gX5_goesOn_X2_unpardonedValue : GoodIn wsX5_goesOn (wsV RX5 46 RX2 yX2_unpardonedValue wsX2_unpardonedValue) := goodIn_app (goodIn_of _ (by decide +kernel)) ggX5_goesOn_X2_unpardonedValue
set_option maxRecDepth 20000 in
theorem ggX5_goesOn_X2_wouldDo : GoodIn wsX5_goesOn wsX2_wouldDo := goodIn_r _ [23, 24, 11, 12, 7, 13, 14, 5, 6, 8, 9, 15, 16, 17, 18, 19, 29, 30, 31, 32, 33] (by decide +kernel) (by decide +kernel)
set_option maxRecDepth 20000 in
theorem gX5_goesOn_X2_wouldDo : GoodIn wsX5_goesOn (wsV RX5 50 RX2 yX2_wouldDo wsX2_wouldDo) := goodIn_app (goodIn_of _ (by decide +kernel)) ggX5_goesOn_X2_wouldDo
theorem dX5_goesOn_0 : decode cX5_goesOn 0 = .ok (.iload 4, 2) := by decide +kernel
theorem dX5_goesOn_2 : decode cX5_goesOn 2 = .ok (.iconst 2, 1) := by decide +kernel
theorem dX5_goesOn_3 : decode cX5_goesOn 3 = .ok (.if_icmp .ne 52, 3) := by decide +kernel
theorem dX5_goesOn_6 : decode cX5_goesOn 6 = .ok (.aload_n 0, 1) := by decide +kernel
theorem dX5_goesOn_7 : decode cX5_goesOn 7 = .ok (.getfield 9, 3) := by decide +kernel
theorem dX5_goesOn_10 : decode cX5_goesOn 10 = .ok (.iload_n 2, 1) := by decide +kernel
theorem dX5_goesOn_11 : decode cX5_goesOn 11 = .ok (.dup2, 1) := by decide +kernel
theorem dX5_goesOn_12 : decode cX5_goesOn 12 = .ok (.iaload, 1) := by decide +kernel
theorem dX5_goesOn_13 : decode cX5_goesOn 13 = .ok (.iconst 1, 1) := by decide +kernel
theorem dX5_goesOn_14 : decode cX5_goesOn 14 = .ok (.isub, 1) := by decide +kernel
theorem dX5_goesOn_15 : decode cX5_goesOn 15 = .ok (.iastore, 1) := by decide +kernel
theorem dX5_goesOn_16 : decode cX5_goesOn 16 = .ok (.aload_n 0, 1) := by decide +kernel
theorem dX5_goesOn_17 : decode cX5_goesOn 17 = .ok (.dup, 1) := by decide +kernel
theorem dX5_goesOn_18 : decode cX5_goesOn 18 = .ok (.getfield 19, 3) := by decide +kernel
theorem dX5_goesOn_21 : decode cX5_goesOn 21 = .ok (.iconst 1, 1) := by decide +kernel
theorem dX5_goesOn_22 : decode cX5_goesOn 22 = .ok (.iadd, 1) := by decide +kernel
theorem dX5_goesOn_23 : decode cX5_goesOn 23 = .ok (.putfield 19, 3) := by decide +kernel
theorem dX5_goesOn_26 : decode cX5_goesOn 26 = .ok (.aload_n 0, 1) := by decide +kernel
theorem dX5_goesOn_27 : decode cX5_goesOn 27 = .ok (.dup, 1) := by decide +kernel
theorem dX5_goesOn_28 : decode cX5_goesOn 28 = .ok (.getfield 15, 3) := by decide +kernel
theorem dX5_goesOn_31 : decode cX5_goesOn 31 = .ok (.aload_n 1, 1) := by decide +kernel
theorem dX5_goesOn_32 : decode cX5_goesOn 32 = .ok (.iload_n 3, 1) := by decide +kernel
theorem dX5_goesOn_33 : decode cX5_goesOn 33 = .ok (.invokevirtual 42, 3) := by decide +kernel
theorem dX5_goesOn_36 : decode cX5_goesOn 36 = .ok (.iadd, 1) := by decide +kernel
theorem dX5_goesOn_37 : decode cX5_goesOn 37 = .ok (.putfield 15, 3) := by decide +kernel
theorem dX5_goesOn_40 : decode cX5_goesOn 40 = .ok (.aload_n 0, 1) := by decide +kernel
theorem dX5_goesOn_41 : decode cX5_goesOn 41 = .ok (.getfield 9, 3) := by decide +kernel
theorem dX5_goesOn_44 : decode cX5_goesOn 44 = .ok (.iload_n 2, 1) := by decide +kernel
theorem dX5_goesOn_45 : decode cX5_goesOn 45 = .ok (.iaload, 1) := by decide +kernel
theorem dX5_goesOn_46 : decode cX5_goesOn 46 = .ok (.ifCond .lt 7, 3) := by decide +kernel
theorem dX5_goesOn_49 : decode cX5_goesOn 49 = .ok (.iconst 1, 1) := by decide +kernel
theorem dX5_goesOn_50 : decode cX5_goesOn 50 = .ok (.goto 4, 3) := by decide +kernel
theorem dX5_goesOn_53 : decode cX5_goesOn 53 = .ok (.iconst 0, 1) := by decide +kernel
theorem dX5_goesOn_54 : decode cX5_goesOn 54 = .ok (.ireturn, 1) := by decide +kernel
theorem dX5_goesOn_55 : decode cX5_goesOn 55 = .ok (.iload 4, 2) := by decide +kernel
theorem dX5_goesOn_57 : decode cX5_goesOn 57 = .ok (.iconst 1, 1) := by decide +kernel
theorem dX5_goesOn_58 : decode cX5_goesOn 58 = .ok (.if_icmp .ne 25, 3) := by decide +kernel
theorem dX5_goesOn_61 : decode cX5_goesOn 61 = .ok (.aload_n 0, 1) := by decide +kernel
theorem dX5_goesOn_62 : decode cX5_goesOn 62 = .ok (.dup, 1) := by decide +kernel
theorem dX5_goesOn_63 : decode cX5_goesOn 63 = .ok (.getfield 15, 3) := by decide +kernel
theorem dX5_goesOn_66 : decode cX5_goesOn 66 = .ok (.aload_n 1, 1) := by decide +kernel
theorem dX5_goesOn_67 : decode cX5_goesOn 67 = .ok (.iload_n 2, 1) := by decide +kernel
theorem dX5_goesOn_68 : decode cX5_goesOn 68 = .ok (.iload_n 3, 1) := by decide +kernel
theorem dX5_goesOn_69 : decode cX5_goesOn 69 = .ok (.invokevirtual 46, 3) := by decide +kernel
theorem dX5_goesOn_72 : decode cX5_goesOn 72 = .ok (.iadd, 1) := by decide +kernel
theorem dX5_goesOn_73 : decode cX5_goesOn 73 = .ok (.putfield 15, 3) := by decide +kernel
theorem dX5_goesOn_76 : decode cX5_goesOn 76 = .ok (.aload_n 1, 1) := by decide +kernel
theorem dX5_goesOn_77 : decode cX5_goesOn 77 = .ok (.iload_n 2, 1) := by decide +kernel
theorem dX5_goesOn_78 : decode cX5_goesOn 78 = .ok (.iload_n 3, 1) := by decide +kernel
theorem dX5_goesOn_79 : decode cX5_goesOn 79 = .ok (.invokevirtual 50, 3) := by decide +kernel
theorem dX5_goesOn_82 : decode cX5_goesOn 82 = .ok (.ireturn, 1) := by decide +kernel
theorem dX5_goesOn_83 : decode cX5_goesOn 83 = .ok (.iconst 1, 1) := by decide +kernel
theorem dX5_goesOn_84 : decode cX5_goesOn 84 = .ok (.ireturn, 1) := by decide +kernel
theorem dJ6_bitCount_0f7a4_0 : decode cJ6_bitCount_0f7a4 0 = .ok (.iload_n 0, 1) := by decide +kernel
theorem dJ6_bitCount_0f7a4_1 : decode cJ6_bitCount_0f7a4 1 = .ok (.iload_n 0, 1) := by decide +kernel
theorem dJ6_bitCount_0f7a4_2 : decode cJ6_bitCount_0f7a4 2 = .ok (.iconst 1, 1) := by decide +kernel
theorem dJ6_bitCount_0f7a4_3 : decode cJ6_bitCount_0f7a4 3 = .ok (.iushr, 1) := by decide +kernel
theorem dJ6_bitCount_0f7a4_4 : decode cJ6_bitCount_0f7a4 4 = .ok (.ldc_w 265, 3) := by decide +kernel
theorem dJ6_bitCount_0f7a4_7 : decode cJ6_bitCount_0f7a4 7 = .ok (.iand, 1) := by decide +kernel
theorem dJ6_bitCount_0f7a4_8 : decode cJ6_bitCount_0f7a4 8 = .ok (.isub, 1) := by decide +kernel
theorem dJ6_bitCount_0f7a4_9 : decode cJ6_bitCount_0f7a4 9 = .ok (.istore_n 0, 1) := by decide +kernel
theorem dJ6_bitCount_0f7a4_10 : decode cJ6_bitCount_0f7a4 10 = .ok (.iload_n 0, 1) := by decide +kernel
theorem dJ6_bitCount_0f7a4_11 : decode cJ6_bitCount_0f7a4 11 = .ok (.ldc_w 266, 3) := by decide +kernel
theorem dJ6_bitCount_0f7a4_14 : decode cJ6_bitCount_0f7a4 14 = .ok (.iand, 1) := by decide +kernel
theorem dJ6_bitCount_0f7a4_15 : decode cJ6_bitCount_0f7a4 15 = .ok (.iload_n 0, 1) := by decide +kernel
theorem dJ6_bitCount_0f7a4_16 : decode cJ6_bitCount_0f7a4 16 = .ok (.iconst 2, 1) := by decide +kernel
theorem dJ6_bitCount_0f7a4_17 : decode cJ6_bitCount_0f7a4 17 = .ok (.iushr, 1) := by decide +kernel
theorem dJ6_bitCount_0f7a4_18 : decode cJ6_bitCount_0f7a4 18 = .ok (.ldc_w 266, 3) := by decide +kernel
theorem dJ6_bitCount_0f7a4_21 : decode cJ6_bitCount_0f7a4 21 = .ok (.iand, 1) := by decide +kernel
theorem dJ6_bitCount_0f7a4_22 : decode cJ6_bitCount_0f7a4 22 = .ok (.iadd, 1) := by decide +kernel
theorem dJ6_bitCount_0f7a4_23 : decode cJ6_bitCount_0f7a4 23 = .ok (.istore_n 0, 1) := by decide +kernel
theorem dJ6_bitCount_0f7a4_24 : decode cJ6_bitCount_0f7a4 24 = .ok (.iload_n 0, 1) := by decide +kernel
theorem dJ6_bitCount_0f7a4_25 : decode cJ6_bitCount_0f7a4 25 = .ok (.iload_n 0, 1) := by decide +kernel
theorem dJ6_bitCount_0f7a4_26 : decode cJ6_bitCount_0f7a4 26 = .ok (.iconst 4, 1) := by decide +kernel
theorem dJ6_bitCount_0f7a4_27 : decode cJ6_bitCount_0f7a4 27 = .ok (.iushr, 1) := by decide +kernel
theorem dJ6_bitCount_0f7a4_28 : decode cJ6_bitCount_0f7a4 28 = .ok (.iadd, 1) := by decide +kernel
theorem dJ6_bitCount_0f7a4_29 : decode cJ6_bitCount_0f7a4 29 = .ok (.ldc_w 267, 3) := by decide +kernel
theorem dJ6_bitCount_0f7a4_32 : decode cJ6_bitCount_0f7a4 32 = .ok (.iand, 1) := by decide +kernel
theorem dJ6_bitCount_0f7a4_33 : decode cJ6_bitCount_0f7a4 33 = .ok (.istore_n 0, 1) := by decide +kernel
theorem dJ6_bitCount_0f7a4_34 : decode cJ6_bitCount_0f7a4 34 = .ok (.iload_n 0, 1) := by decide +kernel
theorem dJ6_bitCount_0f7a4_35 : decode cJ6_bitCount_0f7a4 35 = .ok (.iload_n 0, 1) := by decide +kernel
theorem dJ6_bitCount_0f7a4_36 : decode cJ6_bitCount_0f7a4 36 = .ok (.bipush 8, 2) := by decide +kernel
theorem dJ6_bitCount_0f7a4_38 : decode cJ6_bitCount_0f7a4 38 = .ok (.iushr, 1) := by decide +kernel
theorem dJ6_bitCount_0f7a4_39 : decode cJ6_bitCount_0f7a4 39 = .ok (.iadd, 1) := by decide +kernel
theorem dJ6_bitCount_0f7a4_40 : decode cJ6_bitCount_0f7a4 40 = .ok (.istore_n 0, 1) := by decide +kernel
theorem dJ6_bitCount_0f7a4_41 : decode cJ6_bitCount_0f7a4 41 = .ok (.iload_n 0, 1) := by decide +kernel
theorem dJ6_bitCount_0f7a4_42 : decode cJ6_bitCount_0f7a4 42 = .ok (.iload_n 0, 1) := by decide +kernel
theorem dJ6_bitCount_0f7a4_43 : decode cJ6_bitCount_0f7a4 43 = .ok (.bipush 16, 2) := by decide +kernel
theorem dJ6_bitCount_0f7a4_45 : decode cJ6_bitCount_0f7a4 45 = .ok (.iushr, 1) := by decide +kernel
theorem dJ6_bitCount_0f7a4_46 : decode cJ6_bitCount_0f7a4 46 = .ok (.iadd, 1) := by decide +kernel
theorem dJ6_bitCount_0f7a4_47 : decode cJ6_bitCount_0f7a4 47 = .ok (.istore_n 0, 1) := by decide +kernel
theorem dJ6_bitCount_0f7a4_48 : decode cJ6_bitCount_0f7a4 48 = .ok (.iload_n 0, 1) := by decide +kernel
theorem dJ6_bitCount_0f7a4_49 : decode cJ6_bitCount_0f7a4 49 = .ok (.bipush 63, 2) := by decide +kernel
theorem dJ6_bitCount_0f7a4_51 : decode cJ6_bitCount_0f7a4 51 = .ok (.iand, 1) := by decide +kernel
theorem dJ6_bitCount_0f7a4_52 : decode cJ6_bitCount_0f7a4 52 = .ok (.ireturn, 1) := by decide +kernel
theorem dJ9_max_7cf53_0 : decode cJ9_max_7cf53 0 = .ok (.iload_n 0, 1) := by decide +kernel
theorem dJ9_max_7cf53_1 : decode cJ9_max_7cf53 1 = .ok (.iload_n 1, 1) := by decide +kernel
theorem dJ9_max_7cf53_2 : decode cJ9_max_7cf53 2 = .ok (.if_icmp .lt 7, 3) := by decide +kernel
theorem dJ9_max_7cf53_5 : decode cJ9_max_7cf53 5 = .ok (.iload_n 0, 1) := by decide +kernel
theorem dJ9_max_7cf53_6 : decode cJ9_max_7cf53 6 = .ok (.goto 4, 3) := by decide +kernel
theorem dJ9_max_7cf53_9 : decode cJ9_max_7cf53 9 = .ok (.iload_n 1, 1) := by decide +kernel
theorem dJ9_max_7cf53_10 : decode cJ9_max_7cf53 10 = .ok (.ireturn, 1) := by decide +kernel
theorem dJ9_max_f86c9_0 : decode cJ9_max_f86c9 0 = .ok (.lload_n 0, 1) := by decide +kernel
theorem dJ9_max_f86c9_1 : decode cJ9_max_f86c9 1 = .ok (.lload_n 2, 1) := by decide +kernel
theorem dJ9_max_f86c9_2 : decode cJ9_max_f86c9 2 = .ok (.lcmp, 1) := by decide +kernel
theorem dJ9_max_f86c9_3 : decode cJ9_max_f86c9 3 = .ok (.ifCond .lt 7, 3) := by decide +kernel
theorem dJ9_max_f86c9_6 : decode cJ9_max_f86c9 6 = .ok (.lload_n 0, 1) := by decide +kernel
theorem dJ9_max_f86c9_7 : decode cJ9_max_f86c9 7 = .ok (.goto 4, 3) := by decide +kernel
theorem dJ9_max_f86c9_10 : decode cJ9_max_f86c9 10 = .ok (.lload_n 2, 1) := by decide +kernel
theorem dJ9_max_f86c9_11 : decode cJ9_max_f86c9 11 = .ok (.lreturn, 1) := by decide +kernel
