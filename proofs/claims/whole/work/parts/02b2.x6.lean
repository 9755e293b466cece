theorem dX6_weighPapers_38 : decode cX6_weighPapers 38 = .ok (.iload_n 1, 1) := by decide +kernel
theorem dX6_weighPapers_39 : decode cX6_weighPapers 39 = .ok (.aaload, 1) := by decide +kernel
theorem dX6_weighPapers_40 : decode cX6_weighPapers 40 = .ok (.iconst 1, 1) := by decide +kernel
theorem dX6_weighPapers_41 : decode cX6_weighPapers 41 = .ok (.laload, 1) := by decide +kernel
theorem dX6_weighPapers_42 : decode cX6_weighPapers 42 = .ok (.aload_n 0, 1) := by decide +kernel
theorem dX6_weighPapers_43 : decode cX6_weighPapers 43 = .ok (.getfield 34, 3) := by decide +kernel
theorem dX6_weighPapers_46 : decode cX6_weighPapers 46 = .ok (.getfield 156, 3) := by decide +kernel
theorem dX6_weighPapers_49 : decode cX6_weighPapers 49 = .ok (.iload_n 1, 1) := by decide +kernel
theorem dX6_weighPapers_50 : decode cX6_weighPapers 50 = .ok (.aaload, 1) := by decide +kernel
theorem dX6_weighPapers_51 : decode cX6_weighPapers 51 = .ok (.iconst 0, 1) := by decide +kernel
theorem dX6_weighPapers_52 : decode cX6_weighPapers 52 = .ok (.laload, 1) := by decide +kernel
theorem dX6_weighPapers_53 : decode cX6_weighPapers 53 = .ok (.lsub, 1) := by decide +kernel
theorem dX6_weighPapers_54 : decode cX6_weighPapers 54 = .ok (.lastore, 1) := by decide +kernel
theorem dX6_weighPapers_55 : decode cX6_weighPapers 55 = .ok (.iinc 2 1, 3) := by decide +kernel
theorem dX6_weighPapers_58 : decode cX6_weighPapers 58 = .ok (.goto (-56), 3) := by decide +kernel
theorem dX6_weighPapers_61 : decode cX6_weighPapers 61 = .ok (.return_, 1) := by decide +kernel
theorem dX6_buyersAt_0 : decode cX6_buyersAt 0 = .ok (.iconst 0, 1) := by decide +kernel
theorem dX6_buyersAt_1 : decode cX6_buyersAt 1 = .ok (.istore_n 3, 1) := by decide +kernel
theorem dX6_buyersAt_2 : decode cX6_buyersAt 2 = .ok (.iconst 0, 1) := by decide +kernel
theorem dX6_buyersAt_3 : decode cX6_buyersAt 3 = .ok (.istore 4, 2) := by decide +kernel
theorem dX6_buyersAt_5 : decode cX6_buyersAt 5 = .ok (.iload 4, 2) := by decide +kernel
theorem dX6_buyersAt_7 : decode cX6_buyersAt 7 = .ok (.aload_n 0, 1) := by decide +kernel
theorem dX6_buyersAt_8 : decode cX6_buyersAt 8 = .ok (.getfield 20, 3) := by decide +kernel
theorem dX6_buyersAt_11 : decode cX6_buyersAt 11 = .ok (.getfield 89, 3) := by decide +kernel
theorem dX6_buyersAt_14 : decode cX6_buyersAt 14 = .ok (.if_icmp .ge 39, 3) := by decide +kernel
theorem dX6_buyersAt_17 : decode cX6_buyersAt 17 = .ok (.aload_n 0, 1) := by decide +kernel
theorem dX6_buyersAt_18 : decode cX6_buyersAt 18 = .ok (.getfield 45, 3) := by decide +kernel
theorem dX6_buyersAt_21 : decode cX6_buyersAt 21 = .ok (.iload 4, 2) := by decide +kernel
theorem dX6_buyersAt_23 : decode cX6_buyersAt 23 = .ok (.laload, 1) := by decide +kernel
theorem dX6_buyersAt_24 : decode cX6_buyersAt 24 = .ok (.iload_n 1, 1) := by decide +kernel
theorem dX6_buyersAt_25 : decode cX6_buyersAt 25 = .ok (.i2l, 1) := by decide +kernel
theorem dX6_buyersAt_26 : decode cX6_buyersAt 26 = .ok (.aload_n 0, 1) := by decide +kernel
theorem dX6_buyersAt_27 : decode cX6_buyersAt 27 = .ok (.getfield 34, 3) := by decide +kernel
theorem dX6_buyersAt_30 : decode cX6_buyersAt 30 = .ok (.getfield 160, 3) := by decide +kernel
theorem dX6_buyersAt_33 : decode cX6_buyersAt 33 = .ok (.iload_n 2, 1) := by decide +kernel
theorem dX6_buyersAt_34 : decode cX6_buyersAt 34 = .ok (.laload, 1) := by decide +kernel
theorem dX6_buyersAt_35 : decode cX6_buyersAt 35 = .ok (.lmul, 1) := by decide +kernel
theorem dX6_buyersAt_36 : decode cX6_buyersAt 36 = .ok (.lcmp, 1) := by decide +kernel
theorem dX6_buyersAt_37 : decode cX6_buyersAt 37 = .ok (.ifCond .lt 10, 3) := by decide +kernel
theorem dX6_buyersAt_40 : decode cX6_buyersAt 40 = .ok (.iload_n 3, 1) := by decide +kernel
theorem dX6_buyersAt_41 : decode cX6_buyersAt 41 = .ok (.iconst 1, 1) := by decide +kernel
theorem dX6_buyersAt_42 : decode cX6_buyersAt 42 = .ok (.iload 4, 2) := by decide +kernel
theorem dX6_buyersAt_44 : decode cX6_buyersAt 44 = .ok (.ishl, 1) := by decide +kernel
theorem dX6_buyersAt_45 : decode cX6_buyersAt 45 = .ok (.ior, 1) := by decide +kernel
theorem dX6_buyersAt_46 : decode cX6_buyersAt 46 = .ok (.istore_n 3, 1) := by decide +kernel
theorem dX6_buyersAt_47 : decode cX6_buyersAt 47 = .ok (.iinc 4 1, 3) := by decide +kernel
theorem dX6_buyersAt_50 : decode cX6_buyersAt 50 = .ok (.goto (-45), 3) := by decide +kernel
theorem dX6_buyersAt_53 : decode cX6_buyersAt 53 = .ok (.iload_n 3, 1) := by decide +kernel
theorem dX6_buyersAt_54 : decode cX6_buyersAt 54 = .ok (.ireturn, 1) := by decide +kernel
set_option maxRecDepth 20000 in
theorem ggX6_reading_X2_hasSubject : GoodIn wsX6_reading wsX2_hasSubject := goodIn_r _ [8, 9, 10, 11, 12, 39, 40, 41, 42, 43] (by decide +kernel) (by decide +kernel)
set_option maxRecDepth 20000 in
theorem gX6_reading_X2_hasSubject : GoodIn wsX6_reading (wsV RX6 99 RX2 yX2_hasSubject wsX2_hasSubject) := goodIn_app (goodIn_of _ (by decide +kernel)) ggX6_reading_X2_hasSubject
set_option maxRecDepth 20000 in
theorem ggX6_reading_X2_hasDeed : GoodIn wsX6_reading wsX2_hasDeed := goodIn_r _ [16, 17, 10, 11, 12, 39, 40, 41, 42, 43] (by decide +kernel) (by decide +kernel)
set_option maxRecDepth 20000 in
theorem gX6_reading_X2_hasDeed : GoodIn wsX6_reading (wsV RX6 92 RX2 yX2_hasDeed wsX2_hasDeed) := goodIn_app (goodIn_of _ (by decide +kernel)) ggX6_reading_X2_hasDeed
set_option maxRecDepth 20000 in
theorem ggX6_reading_X1_note : GoodIn wsX6_reading wsX1_note := goodIn_r _ [22, 23, 24, 25, 26, 35, 36, 37, 38] (by decide +kernel) (by decide +kernel)
set_option maxRecDepth 20000 in
theorem gX6_reading_X1_note : GoodIn wsX6_reading (wsV RX6 190 RX1 yX1_note wsX1_note) := goodIn_app (goodIn_of _ (by decide +kernel)) ggX6_reading_X1_note
theorem dX6_reading_0 : decode cX6_reading 0 = .ok (.aload_n 0, 1) := by decide +kernel
theorem dX6_reading_1 : decode cX6_reading 1 = .ok (.getfield 20, 3) := by decide +kernel
theorem dX6_reading_4 : decode cX6_reading 4 = .ok (.iload_n 1, 1) := by decide +kernel
theorem dX6_reading_5 : decode cX6_reading 5 = .ok (.invokevirtual 99, 3) := by decide +kernel
theorem dX6_reading_8 : decode cX6_reading 8 = .ok (.ifCond .eq 14, 3) := by decide +kernel
theorem dX6_reading_11 : decode cX6_reading 11 = .ok (.aload_n 0, 1) := by decide +kernel
theorem dX6_reading_12 : decode cX6_reading 12 = .ok (.getfield 20, 3) := by decide +kernel
theorem dX6_reading_15 : decode cX6_reading 15 = .ok (.iload_n 2, 1) := by decide +kernel
theorem dX6_reading_16 : decode cX6_reading 16 = .ok (.invokevirtual 92, 3) := by decide +kernel
theorem dX6_reading_19 : decode cX6_reading 19 = .ok (.ifCond .ne 5, 3) := by decide +kernel
theorem dX6_reading_22 : decode cX6_reading 22 = .ok (.iconst (-1), 1) := by decide +kernel
theorem dX6_reading_23 : decode cX6_reading 23 = .ok (.ireturn, 1) := by decide +kernel
theorem dX6_reading_24 : decode cX6_reading 24 = .ok (.aload_n 0, 1) := by decide +kernel
theorem dX6_reading_25 : decode cX6_reading 25 = .ok (.getfield 27, 3) := by decide +kernel
theorem dX6_reading_28 : decode cX6_reading 28 = .ok (.getfield 86, 3) := by decide +kernel
theorem dX6_reading_31 : decode cX6_reading 31 = .ok (.bipush 8, 2) := by decide +kernel
theorem dX6_reading_33 : decode cX6_reading 33 = .ok (.if_icmp .lt 6, 3) := by decide +kernel
theorem dX6_reading_36 : decode cX6_reading 36 = .ok (.bipush (-4), 2) := by decide +kernel
theorem dX6_reading_38 : decode cX6_reading 38 = .ok (.ireturn, 1) := by decide +kernel
theorem dX6_reading_39 : decode cX6_reading 39 = .ok (.aload_n 0, 1) := by decide +kernel
theorem dX6_reading_40 : decode cX6_reading 40 = .ok (.getfield 27, 3) := by decide +kernel
theorem dX6_reading_43 : decode cX6_reading 43 = .ok (.iload_n 1, 1) := by decide +kernel
theorem dX6_reading_44 : decode cX6_reading 44 = .ok (.iload_n 2, 1) := by decide +kernel
theorem dX6_reading_45 : decode cX6_reading 45 = .ok (.iload_n 3, 1) := by decide +kernel
theorem dX6_reading_46 : decode cX6_reading 46 = .ok (.invokevirtual 190, 3) := by decide +kernel
theorem dX6_reading_49 : decode cX6_reading 49 = .ok (.ireturn, 1) := by decide +kernel
theorem dX6_back_0 : decode cX6_back 0 = .ok (.iload_n 1, 1) := by decide +kernel
theorem dX6_back_1 : decode cX6_back 1 = .ok (.ifCond .lt 14, 3) := by decide +kernel
theorem dX6_back_4 : decode cX6_back 4 = .ok (.iload_n 1, 1) := by decide +kernel
theorem dX6_back_5 : decode cX6_back 5 = .ok (.aload_n 0, 1) := by decide +kernel
theorem dX6_back_6 : decode cX6_back 6 = .ok (.getfield 27, 3) := by decide +kernel
theorem dX6_back_9 : decode cX6_back 9 = .ok (.getfield 86, 3) := by decide +kernel
theorem dX6_back_12 : decode cX6_back 12 = .ok (.if_icmp .le 6, 3) := by decide +kernel
theorem dX6_back_15 : decode cX6_back 15 = .ok (.bipush (-2), 2) := by decide +kernel
theorem dX6_back_17 : decode cX6_back 17 = .ok (.ireturn, 1) := by decide +kernel
theorem dX6_back_18 : decode cX6_back 18 = .ok (.aload_n 0, 1) := by decide +kernel
theorem dX6_back_19 : decode cX6_back 19 = .ok (.getfield 27, 3) := by decide +kernel
theorem dX6_back_22 : decode cX6_back 22 = .ok (.dup, 1) := by decide +kernel
theorem dX6_back_23 : decode cX6_back 23 = .ok (.getfield 86, 3) := by decide +kernel
theorem dX6_back_26 : decode cX6_back 26 = .ok (.iload_n 1, 1) := by decide +kernel
theorem dX6_back_27 : decode cX6_back 27 = .ok (.isub, 1) := by decide +kernel
theorem dX6_back_28 : decode cX6_back 28 = .ok (.putfield 86, 3) := by decide +kernel
theorem dX6_back_31 : decode cX6_back 31 = .ok (.aload_n 0, 1) := by decide +kernel
theorem dX6_back_32 : decode cX6_back 32 = .ok (.getfield 27, 3) := by decide +kernel
theorem dX6_back_35 : decode cX6_back 35 = .ok (.getfield 86, 3) := by decide +kernel
theorem dX6_back_38 : decode cX6_back 38 = .ok (.ireturn, 1) := by decide +kernel
set_option maxRecDepth 20000 in
theorem ggX6_risks_X2_hasDeed : GoodIn wsX6_risks wsX2_hasDeed := goodIn_r _ [8, 9, 10, 11, 12, 52, 53, 54, 55, 56] (by decide +kernel) (by decide +kernel)
set_option maxRecDepth 20000 in
theorem gX6_risks_X2_hasDeed : GoodIn wsX6_risks (wsV RX6 92 RX2 yX2_hasDeed wsX2_hasDeed) := goodIn_app (goodIn_of _ (by decide +kernel)) ggX6_risks_X2_hasDeed
set_option maxRecDepth 20000 in
theorem ggX6_risks_X1_fitting : GoodIn wsX6_risks wsX1_fitting := goodIn_r _ [17, 18, 19, 20, 16, 21, 22, 23, 24, 25, 26, 27, 28, 7, 29, 30, 31, 32, 33, 34, 35, 36, 37, 38, 39, 40, 41, 42, 43, 57, 58, 59, 60, 52, 53, 54, 55, 56] (by decide +kernel) (by decide +kernel)
set_option maxRecDepth 20000 in
theorem gX6_risks_X1_fitting : GoodIn wsX6_risks (wsV RX6 194 RX1 yX1_fitting wsX1_fitting) := goodIn_app (goodIn_of _ (by decide +kernel)) ggX6_risks_X1_fitting
theorem dX6_risks_0 : decode cX6_risks 0 = .ok (.aload_n 0, 1) := by decide +kernel
theorem dX6_risks_1 : decode cX6_risks 1 = .ok (.getfield 20, 3) := by decide +kernel
theorem dX6_risks_4 : decode cX6_risks 4 = .ok (.iload_n 1, 1) := by decide +kernel
theorem dX6_risks_5 : decode cX6_risks 5 = .ok (.invokevirtual 92, 3) := by decide +kernel
theorem dX6_risks_8 : decode cX6_risks 8 = .ok (.ifCond .ne 5, 3) := by decide +kernel
theorem dX6_risks_11 : decode cX6_risks 11 = .ok (.iconst (-1), 1) := by decide +kernel
theorem dX6_risks_12 : decode cX6_risks 12 = .ok (.ireturn, 1) := by decide +kernel
theorem dX6_risks_13 : decode cX6_risks 13 = .ok (.aload_n 0, 1) := by decide +kernel
theorem dX6_risks_14 : decode cX6_risks 14 = .ok (.getfield 27, 3) := by decide +kernel
theorem dX6_risks_17 : decode cX6_risks 17 = .ok (.aload_n 0, 1) := by decide +kernel
theorem dX6_risks_18 : decode cX6_risks 18 = .ok (.getfield 20, 3) := by decide +kernel
theorem dX6_risks_21 : decode cX6_risks 21 = .ok (.aload_n 0, 1) := by decide +kernel
theorem dX6_risks_22 : decode cX6_risks 22 = .ok (.getfield 20, 3) := by decide +kernel
theorem dX6_risks_25 : decode cX6_risks 25 = .ok (.getfield 95, 3) := by decide +kernel
theorem dX6_risks_28 : decode cX6_risks 28 = .ok (.iload_n 1, 1) := by decide +kernel
theorem dX6_risks_29 : decode cX6_risks 29 = .ok (.aaload, 1) := by decide +kernel
theorem dX6_risks_30 : decode cX6_risks 30 = .ok (.iconst 1, 1) := by decide +kernel
theorem dX6_risks_31 : decode cX6_risks 31 = .ok (.bipush 10, 2) := by decide +kernel
theorem dX6_risks_33 : decode cX6_risks 33 = .ok (.invokevirtual 194, 3) := by decide +kernel
theorem dX6_risks_36 : decode cX6_risks 36 = .ok (.ireturn, 1) := by decide +kernel
set_option maxRecDepth 20000 in
theorem ggX6_hurts_X2_hasDeed : GoodIn wsX6_hurts wsX2_hasDeed := goodIn_r _ [8, 9, 10, 11, 12, 52, 53, 54, 55, 56] (by decide +kernel) (by decide +kernel)
set_option maxRecDepth 20000 in
theorem gX6_hurts_X2_hasDeed : GoodIn wsX6_hurts (wsV RX6 92 RX2 yX2_hasDeed wsX2_hasDeed) := goodIn_app (goodIn_of _ (by decide +kernel)) ggX6_hurts_X2_hasDeed
set_option maxRecDepth 20000 in
theorem ggX6_hurts_X1_fitting : GoodIn wsX6_hurts wsX1_fitting := goodIn_r _ [17, 18, 19, 20, 16, 21, 22, 23, 24, 25, 26, 27, 28, 7, 29, 30, 31, 32, 33, 34, 35, 36, 37, 38, 39, 40, 41, 42, 43, 57, 58, 59, 60, 52, 53, 54, 55, 56] (by decide +kernel) (by decide +kernel)
set_option maxRecDepth 20000 in
theorem gX6_hurts_X1_fitting : GoodIn wsX6_hurts (wsV RX6 194 RX1 yX1_fitting wsX1_fitting) := goodIn_app (goodIn_of _ (by decide +kernel)) ggX6_hurts_X1_fitting
theorem dX6_hurts_0 : decode cX6_hurts 0 = .ok (.aload_n 0, 1) := by decide +kernel
theorem dX6_hurts_1 : decode cX6_hurts 1 = .ok (.getfield 20, 3) := by decide +kernel
theorem dX6_hurts_4 : decode cX6_hurts 4 = .ok (.iload_n 1, 1) := by decide +kernel
theorem dX6_hurts_5 : decode cX6_hurts 5 = .ok (.invokevirtual 92, 3) := by decide +kernel
theorem dX6_hurts_8 : decode cX6_hurts 8 = .ok (.ifCond .ne 5, 3) := by decide +kernel
theorem dX6_hurts_11 : decode cX6_hurts 11 = .ok (.iconst (-1), 1) := by decide +kernel
theorem dX6_hurts_12 : decode cX6_hurts 12 = .ok (.ireturn, 1) := by decide +kernel
theorem dX6_hurts_13 : decode cX6_hurts 13 = .ok (.aload_n 0, 1) := by decide +kernel
theorem dX6_hurts_14 : decode cX6_hurts 14 = .ok (.getfield 27, 3) := by decide +kernel
theorem dX6_hurts_17 : decode cX6_hurts 17 = .ok (.aload_n 0, 1) := by decide +kernel
theorem dX6_hurts_18 : decode cX6_hurts 18 = .ok (.getfield 20, 3) := by decide +kernel
theorem dX6_hurts_21 : decode cX6_hurts 21 = .ok (.aload_n 0, 1) := by decide +kernel
theorem dX6_hurts_22 : decode cX6_hurts 22 = .ok (.getfield 20, 3) := by decide +kernel
theorem dX6_hurts_25 : decode cX6_hurts 25 = .ok (.getfield 95, 3) := by decide +kernel
theorem dX6_hurts_28 : decode cX6_hurts 28 = .ok (.iload_n 1, 1) := by decide +kernel
theorem dX6_hurts_29 : decode cX6_hurts 29 = .ok (.aaload, 1) := by decide +kernel
theorem dX6_hurts_30 : decode cX6_hurts 30 = .ok (.iconst 2, 1) := by decide +kernel
theorem dX6_hurts_31 : decode cX6_hurts 31 = .ok (.bipush 10, 2) := by decide +kernel
theorem dX6_hurts_33 : decode cX6_hurts 33 = .ok (.invokevirtual 194, 3) := by decide +kernel
theorem dX6_hurts_36 : decode cX6_hurts 36 = .ok (.ireturn, 1) := by decide +kernel
set_option maxRecDepth 20000 in
theorem ggX6_kinds_X2_hasSubject : GoodIn wsX6_kinds wsX2_hasSubject := goodIn_r _ [8, 9, 10, 11, 12, 52, 53, 54, 55, 56] (by decide +kernel) (by decide +kernel)
set_option maxRecDepth 20000 in
theorem gX6_kinds_X2_hasSubject : GoodIn wsX6_kinds (wsV RX6 99 RX2 yX2_hasSubject wsX2_hasSubject) := goodIn_app (goodIn_of _ (by decide +kernel)) ggX6_kinds_X2_hasSubject
set_option maxRecDepth 20000 in
theorem ggX6_kinds_X1_fitting : GoodIn wsX6_kinds wsX1_fitting := goodIn_r _ [17, 18, 19, 20, 16, 21, 22, 23, 24, 25, 26, 27, 28, 7, 29, 30, 31, 32, 33, 34, 35, 36, 37, 38, 39, 40, 41, 42, 43, 57, 58, 59, 60, 52, 53, 54, 55, 56] (by decide +kernel) (by decide +kernel)
set_option maxRecDepth 20000 in
theorem gX6_kinds_X1_fitting : GoodIn wsX6_kinds (wsV RX6 194 RX1 yX1_fitting wsX1_fitting) := goodIn_app (goodIn_of _ (by decide +kernel)) ggX6_kinds_X1_fitting
theorem dX6_kinds_0 : decode cX6_kinds 0 = .ok (.aload_n 0, 1) := by decide +kernel
theorem dX6_kinds_1 : decode cX6_kinds 1 = .ok (.getfield 20, 3) := by decide +kernel
theorem dX6_kinds_4 : decode cX6_kinds 4 = .ok (.iload_n 1, 1) := by decide +kernel
theorem dX6_kinds_5 : decode cX6_kinds 5 = .ok (.invokevirtual 99, 3) := by decide +kernel
theorem dX6_kinds_8 : decode cX6_kinds 8 = .ok (.ifCond .ne 5, 3) := by decide +kernel
theorem dX6_kinds_11 : decode cX6_kinds 11 = .ok (.iconst (-1), 1) := by decide +kernel
theorem dX6_kinds_12 : decode cX6_kinds 12 = .ok (.ireturn, 1) := by decide +kernel
theorem dX6_kinds_13 : decode cX6_kinds 13 = .ok (.aload_n 0, 1) := by decide +kernel
theorem dX6_kinds_14 : decode cX6_kinds 14 = .ok (.getfield 27, 3) := by decide +kernel
theorem dX6_kinds_17 : decode cX6_kinds 17 = .ok (.aload_n 0, 1) := by decide +kernel
theorem dX6_kinds_18 : decode cX6_kinds 18 = .ok (.getfield 20, 3) := by decide +kernel
theorem dX6_kinds_21 : decode cX6_kinds 21 = .ok (.aload_n 0, 1) := by decide +kernel
theorem dX6_kinds_22 : decode cX6_kinds 22 = .ok (.getfield 20, 3) := by decide +kernel
theorem dX6_kinds_25 : decode cX6_kinds 25 = .ok (.getfield 102, 3) := by decide +kernel
theorem dX6_kinds_28 : decode cX6_kinds 28 = .ok (.iload_n 1, 1) := by decide +kernel
theorem dX6_kinds_29 : decode cX6_kinds 29 = .ok (.iconst 3, 1) := by decide +kernel
theorem dX6_kinds_30 : decode cX6_kinds 30 = .ok (.invokevirtual 194, 3) := by decide +kernel
theorem dX6_kinds_33 : decode cX6_kinds 33 = .ok (.ireturn, 1) := by decide +kernel
set_option maxRecDepth 20000 in
theorem ggX6_odds_X2_isThere : GoodIn wsX6_odds wsX2_isThere := goodIn_r _ [10, 11, 30, 31, 32, 33, 34] (by decide +kernel) (by decide +kernel)
set_option maxRecDepth 20000 in
theorem gX6_odds_X2_isThere : GoodIn wsX6_odds (wsV RX6 119 RX2 yX2_isThere wsX2_isThere) := goodIn_app (goodIn_of _ (by decide +kernel)) ggX6_odds_X2_isThere
set_option maxRecDepth 20000 in
theorem ggX6_odds_X6_isBelow : GoodIn wsX6_odds wsX6_isBelow := goodIn_r _ [15] (by decide +kernel) (by decide +kernel)
set_option maxRecDepth 20000 in
theorem gX6_odds_X6_isBelow : GoodIn wsX6_odds (va_wsS RX6 58 yX6_isBelow wsX6_isBelow) := goodIn_app (goodIn_of _ (by decide +kernel)) ggX6_odds_X6_isBelow
set_option maxRecDepth 20000 in
theorem ggX6_odds_X6_inLeastTerms : GoodIn wsX6_odds wsX6_inLeastTerms := goodIn_r _ [18, 19, 20, 14, 21] (by decide +kernel) (by decide +kernel)
set_option maxRecDepth 20000 in
theorem gX6_odds_X6_inLeastTerms : GoodIn wsX6_odds (va_wsS RX6 163 yX6_inLeastTerms wsX6_inLeastTerms) := goodIn_app (goodIn_of _ (by decide +kernel)) ggX6_odds_X6_inLeastTerms
theorem dX6_odds_0 : decode cX6_odds 0 = .ok (.aload_n 0, 1) := by decide +kernel
theorem dX6_odds_1 : decode cX6_odds 1 = .ok (.getfield 20, 3) := by decide +kernel
theorem dX6_odds_4 : decode cX6_odds 4 = .ok (.invokevirtual 119, 3) := by decide +kernel
theorem dX6_odds_7 : decode cX6_odds 7 = .ok (.ifCond .ne 7, 3) := by decide +kernel
theorem dX6_odds_10 : decode cX6_odds 10 = .ok (.ldc2_w 150, 3) := by decide +kernel
theorem dX6_odds_13 : decode cX6_odds 13 = .ok (.lreturn, 1) := by decide +kernel
theorem dX6_odds_14 : decode cX6_odds 14 = .ok (.iload_n 1, 1) := by decide +kernel
theorem dX6_odds_15 : decode cX6_odds 15 = .ok (.iconst 1, 1) := by decide +kernel
theorem dX6_odds_16 : decode cX6_odds 16 = .ok (.aload_n 0, 1) := by decide +kernel
theorem dX6_odds_17 : decode cX6_odds 17 = .ok (.getfield 20, 3) := by decide +kernel
theorem dX6_odds_20 : decode cX6_odds 20 = .ok (.getfield 167, 3) := by decide +kernel
theorem dX6_odds_23 : decode cX6_odds 23 = .ok (.ishl, 1) := by decide +kernel
theorem dX6_odds_24 : decode cX6_odds 24 = .ok (.invokestatic 58, 3) := by decide +kernel
theorem dX6_odds_27 : decode cX6_odds 27 = .ok (.ifCond .eq 19, 3) := by decide +kernel
theorem dX6_odds_30 : decode cX6_odds 30 = .ok (.iload_n 2, 1) := by decide +kernel
theorem dX6_odds_31 : decode cX6_odds 31 = .ok (.iconst 4, 1) := by decide +kernel
theorem dX6_odds_32 : decode cX6_odds 32 = .ok (.invokestatic 58, 3) := by decide +kernel
theorem dX6_odds_35 : decode cX6_odds 35 = .ok (.ifCond .eq 11, 3) := by decide +kernel
theorem dX6_odds_38 : decode cX6_odds 38 = .ok (.iload_n 3, 1) := by decide +kernel
theorem dX6_odds_39 : decode cX6_odds 39 = .ok (.iconst 2, 1) := by decide +kernel
theorem dX6_odds_40 : decode cX6_odds 40 = .ok (.invokestatic 58, 3) := by decide +kernel
theorem dX6_odds_43 : decode cX6_odds 43 = .ok (.ifCond .ne 7, 3) := by decide +kernel
theorem dX6_odds_46 : decode cX6_odds 46 = .ok (.ldc2_w 150, 3) := by decide +kernel
theorem dX6_odds_49 : decode cX6_odds 49 = .ok (.lreturn, 1) := by decide +kernel
theorem dX6_odds_50 : decode cX6_odds 50 = .ok (.lconst 1, 1) := by decide +kernel
theorem dX6_odds_51 : decode cX6_odds 51 = .ok (.lstore 4, 2) := by decide +kernel
theorem dX6_odds_53 : decode cX6_odds 53 = .ok (.lconst 1, 1) := by decide +kernel
theorem dX6_odds_54 : decode cX6_odds 54 = .ok (.lstore 6, 2) := by decide +kernel
theorem dX6_odds_56 : decode cX6_odds 56 = .ok (.iconst 0, 1) := by decide +kernel
theorem dX6_odds_57 : decode cX6_odds 57 = .ok (.istore 8, 2) := by decide +kernel
theorem dX6_odds_59 : decode cX6_odds 59 = .ok (.iload 8, 2) := by decide +kernel
theorem dX6_odds_61 : decode cX6_odds 61 = .ok (.aload_n 0, 1) := by decide +kernel
theorem dX6_odds_62 : decode cX6_odds 62 = .ok (.getfield 20, 3) := by decide +kernel
theorem dX6_odds_65 : decode cX6_odds 65 = .ok (.getfield 167, 3) := by decide +kernel
theorem dX6_odds_68 : decode cX6_odds 68 = .ok (.if_icmp .ge 71, 3) := by decide +kernel
theorem dX6_odds_71 : decode cX6_odds 71 = .ok (.iload_n 1, 1) := by decide +kernel
theorem dX6_odds_72 : decode cX6_odds 72 = .ok (.iload 8, 2) := by decide +kernel
theorem dX6_odds_74 : decode cX6_odds 74 = .ok (.ishr, 1) := by decide +kernel
theorem dX6_odds_75 : decode cX6_odds 75 = .ok (.iconst 1, 1) := by decide +kernel
theorem dX6_odds_76 : decode cX6_odds 76 = .ok (.iand, 1) := by decide +kernel
theorem dX6_odds_77 : decode cX6_odds 77 = .ok (.iconst 1, 1) := by decide +kernel
theorem dX6_odds_78 : decode cX6_odds 78 = .ok (.if_icmp .ne 7, 3) := by decide +kernel
theorem dX6_odds_81 : decode cX6_odds 81 = .ok (.iload_n 2, 1) := by decide +kernel
theorem dX6_odds_82 : decode cX6_odds 82 = .ok (.goto 4, 3) := by decide +kernel
theorem dX6_odds_85 : decode cX6_odds 85 = .ok (.iconst 0, 1) := by decide +kernel
theorem dX6_odds_86 : decode cX6_odds 86 = .ok (.istore 9, 2) := by decide +kernel
theorem dX6_odds_88 : decode cX6_odds 88 = .ok (.iconst 0, 1) := by decide +kernel
theorem dX6_odds_89 : decode cX6_odds 89 = .ok (.istore 10, 2) := by decide +kernel
theorem dX6_odds_91 : decode cX6_odds 91 = .ok (.iload 10, 2) := by decide +kernel
theorem dX6_odds_93 : decode cX6_odds 93 = .ok (.iload 9, 2) := by decide +kernel
theorem dX6_odds_95 : decode cX6_odds 95 = .ok (.if_icmp .ge 38, 3) := by decide +kernel
theorem dX6_odds_98 : decode cX6_odds 98 = .ok (.lload 4, 2) := by decide +kernel
theorem dX6_odds_100 : decode cX6_odds 100 = .ok (.bipush 10, 2) := by decide +kernel
theorem dX6_odds_102 : decode cX6_odds 102 = .ok (.aload_n 0, 1) := by decide +kernel
theorem dX6_odds_103 : decode cX6_odds 103 = .ok (.getfield 20, 3) := by decide +kernel
theorem dX6_odds_106 : decode cX6_odds 106 = .ok (.getfield 95, 3) := by decide +kernel
theorem dX6_odds_109 : decode cX6_odds 109 = .ok (.iload 8, 2) := by decide +kernel
theorem dX6_odds_111 : decode cX6_odds 111 = .ok (.aaload, 1) := by decide +kernel
theorem dX6_odds_112 : decode cX6_odds 112 = .ok (.iconst 1, 1) := by decide +kernel
theorem dX6_odds_113 : decode cX6_odds 113 = .ok (.iaload, 1) := by decide +kernel
theorem dX6_odds_114 : decode cX6_odds 114 = .ok (.isub, 1) := by decide +kernel
theorem dX6_odds_115 : decode cX6_odds 115 = .ok (.i2l, 1) := by decide +kernel
theorem dX6_odds_116 : decode cX6_odds 116 = .ok (.lmul, 1) := by decide +kernel
theorem dX6_odds_117 : decode cX6_odds 117 = .ok (.lstore 4, 2) := by decide +kernel
theorem dX6_odds_119 : decode cX6_odds 119 = .ok (.lload 6, 2) := by decide +kernel
theorem dX6_odds_121 : decode cX6_odds 121 = .ok (.ldc2_w 198, 3) := by decide +kernel
theorem dX6_odds_124 : decode cX6_odds 124 = .ok (.lmul, 1) := by decide +kernel
theorem dX6_odds_125 : decode cX6_odds 125 = .ok (.lstore 6, 2) := by decide +kernel
theorem dX6_odds_127 : decode cX6_odds 127 = .ok (.iinc 10 1, 3) := by decide +kernel
theorem dX6_odds_130 : decode cX6_odds 130 = .ok (.goto (-39), 3) := by decide +kernel
theorem dX6_odds_133 : decode cX6_odds 133 = .ok (.iinc 8 1, 3) := by decide +kernel
theorem dX6_odds_136 : decode cX6_odds 136 = .ok (.goto (-77), 3) := by decide +kernel
theorem dX6_odds_139 : decode cX6_odds 139 = .ok (.lload 4, 2) := by decide +kernel
theorem dX6_odds_141 : decode cX6_odds 141 = .ok (.lload 6, 2) := by decide +kernel
theorem dX6_odds_143 : decode cX6_odds 143 = .ok (.iload_n 3, 1) := by decide +kernel
theorem dX6_odds_144 : decode cX6_odds 144 = .ok (.invokestatic 163, 3) := by decide +kernel
theorem dX6_odds_147 : decode cX6_odds 147 = .ok (.lreturn, 1) := by decide +kernel
set_option maxRecDepth 20000 in
theorem ggX6_sheet_X6_isSheet : GoodIn wsX6_sheet wsX6_isSheet := goodIn_r _ [6, 7, 8, 5, 9] (by decide +kernel) (by decide +kernel)
set_option maxRecDepth 20000 in
theorem gX6_sheet_X6_isSheet : GoodIn wsX6_sheet (va_wsS RX6 54 yX6_isSheet wsX6_isSheet) := goodIn_app (goodIn_of _ (by decide +kernel)) ggX6_sheet_X6_isSheet
set_option maxRecDepth 20000 in
theorem ggX6_sheet_X6_isBelow : GoodIn wsX6_sheet wsX6_isBelow := goodIn_r _ [9] (by decide +kernel) (by decide +kernel)
set_option maxRecDepth 20000 in
theorem gX6_sheet_X6_isBelow : GoodIn wsX6_sheet (va_wsS RX6 58 yX6_isBelow wsX6_isBelow) := goodIn_app (goodIn_of _ (by decide +kernel)) ggX6_sheet_X6_isBelow
set_option maxRecDepth 20000 in
theorem ggX6_sheet_X6_failed : GoodIn wsX6_sheet wsX6_failed := goodIn_r _ [13, 1, 23, 24, 25, 26, 27, 28, 29, 30] (by decide +kernel) (by decide +kernel)
set_option maxRecDepth 20000 in
theorem gX6_sheet_X6_failed : GoodIn wsX6_sheet (wsV RX6 66 RX6 yX6_failed wsX6_failed) := goodIn_app (goodIn_of _ (by decide +kernel)) ggX6_sheet_X6_failed
set_option maxRecDepth 20000 in
theorem ggX6_sheet_X3_renew : GoodIn wsX6_sheet wsX3_renew := goodIn_r _ [18, 19, 20, 21, 22, 31, 32, 33, 34] (by decide +kernel) (by decide +kernel)
set_option maxRecDepth 20000 in
theorem gX6_sheet_X3_renew : GoodIn wsX6_sheet (wsV RX6 200 RX3 yX3_renew wsX3_renew) := goodIn_app (goodIn_of _ (by decide +kernel)) ggX6_sheet_X3_renew
theorem dX6_sheet_0 : decode cX6_sheet 0 = .ok (.aload_n 0, 1) := by decide +kernel
theorem dX6_sheet_1 : decode cX6_sheet 1 = .ok (.iconst 0, 1) := by decide +kernel
theorem dX6_sheet_2 : decode cX6_sheet 2 = .ok (.putfield 50, 3) := by decide +kernel
theorem dX6_sheet_5 : decode cX6_sheet 5 = .ok (.iload_n 1, 1) := by decide +kernel
theorem dX6_sheet_6 : decode cX6_sheet 6 = .ok (.invokestatic 54, 3) := by decide +kernel
theorem dX6_sheet_9 : decode cX6_sheet 9 = .ok (.ifCond .ne 5, 3) := by decide +kernel
theorem dX6_sheet_12 : decode cX6_sheet 12 = .ok (.iconst (-1), 1) := by decide +kernel
theorem dX6_sheet_13 : decode cX6_sheet 13 = .ok (.ireturn, 1) := by decide +kernel
theorem dX6_sheet_14 : decode cX6_sheet 14 = .ok (.iload_n 2, 1) := by decide +kernel
theorem dX6_sheet_15 : decode cX6_sheet 15 = .ok (.iconst 3, 1) := by decide +kernel
theorem dX6_sheet_16 : decode cX6_sheet 16 = .ok (.invokestatic 58, 3) := by decide +kernel
theorem dX6_sheet_19 : decode cX6_sheet 19 = .ok (.ifCond .eq 9, 3) := by decide +kernel
theorem dX6_sheet_22 : decode cX6_sheet 22 = .ok (.iload_n 3, 1) := by decide +kernel
theorem dX6_sheet_23 : decode cX6_sheet 23 = .ok (.bipush 60, 2) := by decide +kernel
theorem dX6_sheet_25 : decode cX6_sheet 25 = .ok (.if_icmp .le 6, 3) := by decide +kernel
theorem dX6_sheet_28 : decode cX6_sheet 28 = .ok (.bipush (-2), 2) := by decide +kernel
theorem dX6_sheet_30 : decode cX6_sheet 30 = .ok (.ireturn, 1) := by decide +kernel
theorem dX6_sheet_31 : decode cX6_sheet 31 = .ok (.iload_n 3, 1) := by decide +kernel
theorem dX6_sheet_32 : decode cX6_sheet 32 = .ok (.ifCond .ge 9, 3) := by decide +kernel
theorem dX6_sheet_35 : decode cX6_sheet 35 = .ok (.aload_n 0, 1) := by decide +kernel
theorem dX6_sheet_36 : decode cX6_sheet 36 = .ok (.iconst 4, 1) := by decide +kernel
theorem dX6_sheet_37 : decode cX6_sheet 37 = .ok (.invokevirtual 66, 3) := by decide +kernel
theorem dX6_sheet_40 : decode cX6_sheet 40 = .ok (.ireturn, 1) := by decide +kernel
theorem dX6_sheet_41 : decode cX6_sheet 41 = .ok (.aload_n 0, 1) := by decide +kernel
theorem dX6_sheet_42 : decode cX6_sheet 42 = .ok (.getfield 13, 3) := by decide +kernel
theorem dX6_sheet_45 : decode cX6_sheet 45 = .ok (.iload_n 1, 1) := by decide +kernel
theorem dX6_sheet_46 : decode cX6_sheet 46 = .ok (.aaload, 1) := by decide +kernel
theorem dX6_sheet_47 : decode cX6_sheet 47 = .ok (.iload_n 2, 1) := by decide +kernel
theorem dX6_sheet_48 : decode cX6_sheet 48 = .ok (.iload_n 3, 1) := by decide +kernel
theorem dX6_sheet_49 : decode cX6_sheet 49 = .ok (.invokevirtual 200, 3) := by decide +kernel
theorem dX6_sheet_52 : decode cX6_sheet 52 = .ok (.iconst 1, 1) := by decide +kernel
theorem dX6_sheet_53 : decode cX6_sheet 53 = .ok (.ireturn, 1) := by decide +kernel
set_option maxRecDepth 20000 in
theorem ggX6_lose_X6_isSheet : GoodIn wsX6_lose wsX6_isSheet := goodIn_r _ [6, 7, 8, 5, 9] (by decide +kernel) (by decide +kernel)
set_option maxRecDepth 20000 in
theorem gX6_lose_X6_isSheet : GoodIn wsX6_lose (va_wsS RX6 54 yX6_isSheet wsX6_isSheet) := goodIn_app (goodIn_of _ (by decide +kernel)) ggX6_lose_X6_isSheet
theorem dX6_lose_0 : decode cX6_lose 0 = .ok (.iload_n 1, 1) := by decide +kernel
theorem dX6_lose_1 : decode cX6_lose 1 = .ok (.invokestatic 54, 3) := by decide +kernel
theorem dX6_lose_4 : decode cX6_lose 4 = .ok (.ifCond .ne 5, 3) := by decide +kernel
theorem dX6_lose_7 : decode cX6_lose 7 = .ok (.iconst (-1), 1) := by decide +kernel
theorem dX6_lose_8 : decode cX6_lose 8 = .ok (.ireturn, 1) := by decide +kernel
theorem dX6_lose_9 : decode cX6_lose 9 = .ok (.aload_n 0, 1) := by decide +kernel
theorem dX6_lose_10 : decode cX6_lose 10 = .ok (.getfield 13, 3) := by decide +kernel
theorem dX6_lose_13 : decode cX6_lose 13 = .ok (.iload_n 1, 1) := by decide +kernel
theorem dX6_lose_14 : decode cX6_lose 14 = .ok (.aaload, 1) := by decide +kernel
theorem dX6_lose_15 : decode cX6_lose 15 = .ok (.getfield 204, 3) := by decide +kernel
theorem dX6_lose_18 : decode cX6_lose 18 = .ok (.ifCond .eq 7, 3) := by decide +kernel
theorem dX6_lose_21 : decode cX6_lose 21 = .ok (.iconst 1, 1) := by decide +kernel
theorem dX6_lose_22 : decode cX6_lose 22 = .ok (.goto 4, 3) := by decide +kernel
theorem dX6_lose_25 : decode cX6_lose 25 = .ok (.iconst 0, 1) := by decide +kernel
theorem dX6_lose_26 : decode cX6_lose 26 = .ok (.istore_n 2, 1) := by decide +kernel
theorem dX6_lose_27 : decode cX6_lose 27 = .ok (.aload_n 0, 1) := by decide +kernel
theorem dX6_lose_28 : decode cX6_lose 28 = .ok (.getfield 13, 3) := by decide +kernel
theorem dX6_lose_31 : decode cX6_lose 31 = .ok (.iload_n 1, 1) := by decide +kernel
theorem dX6_lose_32 : decode cX6_lose 32 = .ok (.aaload, 1) := by decide +kernel
theorem dX6_lose_33 : decode cX6_lose 33 = .ok (.iconst 0, 1) := by decide +kernel
theorem dX6_lose_34 : decode cX6_lose 34 = .ok (.putfield 204, 3) := by decide +kernel
theorem dX6_lose_37 : decode cX6_lose 37 = .ok (.iload_n 2, 1) := by decide +kernel
theorem dX6_lose_38 : decode cX6_lose 38 = .ok (.ireturn, 1) := by decide +kernel
set_option maxRecDepth 20000 in
theorem ggX6_put_X6_isSheet : GoodIn wsX6_put wsX6_isSheet := goodIn_r _ [9, 10, 11, 8, 12] (by decide +kernel) (by decide +kernel)
set_option maxRecDepth 20000 in
theorem gX6_put_X6_isSheet : GoodIn wsX6_put (va_wsS RX6 54 yX6_isSheet wsX6_isSheet) := goodIn_app (goodIn_of _ (by decide +kernel)) ggX6_put_X6_isSheet
set_option maxRecDepth 20000 in
theorem ggX6_put_X6_failed : GoodIn wsX6_put wsX6_failed := goodIn_r _ [16, 1, 23, 24, 25, 26, 27, 28, 29, 30] (by decide +kernel) (by decide +kernel)
set_option maxRecDepth 20000 in
theorem gX6_put_X6_failed : GoodIn wsX6_put (wsV RX6 66 RX6 yX6_failed wsX6_failed) := goodIn_app (goodIn_of _ (by decide +kernel)) ggX6_put_X6_failed
set_option maxRecDepth 20000 in
theorem ggX6_put_X6_isBelow : GoodIn wsX6_put wsX6_isBelow := goodIn_r _ [12] (by decide +kernel) (by decide +kernel)
set_option maxRecDepth 20000 in
theorem gX6_put_X6_isBelow : GoodIn wsX6_put (va_wsS RX6 58 yX6_isBelow wsX6_isBelow) := goodIn_app (goodIn_of _ (by decide +kernel)) ggX6_put_X6_isBelow
set_option maxRecDepth 20000 in
theorem ggX6_put_X3_cut : GoodIn wsX6_put wsX3_cut := goodIn_r _ [21, 22, 31, 32, 33, 34] (by decide +kernel) (by decide +kernel)
set_option maxRecDepth 20000 in
theorem gX6_put_X3_cut : GoodIn wsX6_put (wsV RX6 210 RX3 yX3_cut wsX3_cut) := goodIn_app (goodIn_of _ (by decide +kernel)) ggX6_put_X3_cut
theorem dX6_put_0 : decode cX6_put 0 = .ok (.aload_n 0, 1) := by decide +kernel
theorem dX6_put_1 : decode cX6_put 1 = .ok (.iconst 0, 1) := by decide +kernel
theorem dX6_put_2 : decode cX6_put 2 = .ok (.putfield 50, 3) := by decide +kernel
theorem dX6_put_5 : decode cX6_put 5 = .ok (.iload_n 1, 1) := by decide +kernel
theorem dX6_put_6 : decode cX6_put 6 = .ok (.invokestatic 54, 3) := by decide +kernel
theorem dX6_put_9 : decode cX6_put 9 = .ok (.ifCond .ne 5, 3) := by decide +kernel
theorem dX6_put_12 : decode cX6_put 12 = .ok (.iconst (-1), 1) := by decide +kernel
theorem dX6_put_13 : decode cX6_put 13 = .ok (.ireturn, 1) := by decide +kernel
theorem dX6_put_14 : decode cX6_put 14 = .ok (.aload_n 0, 1) := by decide +kernel
theorem dX6_put_15 : decode cX6_put 15 = .ok (.getfield 13, 3) := by decide +kernel
theorem dX6_put_18 : decode cX6_put 18 = .ok (.iload_n 1, 1) := by decide +kernel
theorem dX6_put_19 : decode cX6_put 19 = .ok (.aaload, 1) := by decide +kernel
theorem dX6_put_20 : decode cX6_put 20 = .ok (.astore 4, 2) := by decide +kernel
theorem dX6_put_22 : decode cX6_put 22 = .ok (.aload 4, 2) := by decide +kernel
theorem dX6_put_24 : decode cX6_put 24 = .ok (.getfield 204, 3) := by decide +kernel
theorem dX6_put_27 : decode cX6_put 27 = .ok (.ifCond .ne 9, 3) := by decide +kernel
theorem dX6_put_30 : decode cX6_put 30 = .ok (.aload_n 0, 1) := by decide +kernel
theorem dX6_put_31 : decode cX6_put 31 = .ok (.iconst 1, 1) := by decide +kernel
theorem dX6_put_32 : decode cX6_put 32 = .ok (.invokevirtual 66, 3) := by decide +kernel
theorem dX6_put_35 : decode cX6_put 35 = .ok (.ireturn, 1) := by decide +kernel
theorem dX6_put_36 : decode cX6_put 36 = .ok (.iload_n 2, 1) := by decide +kernel
theorem dX6_put_37 : decode cX6_put 37 = .ok (.aload 4, 2) := by decide +kernel
theorem dX6_put_39 : decode cX6_put 39 = .ok (.getfield 207, 3) := by decide +kernel
theorem dX6_put_42 : decode cX6_put 42 = .ok (.invokestatic 58, 3) := by decide +kernel
theorem dX6_put_45 : decode cX6_put 45 = .ok (.ifCond .ne 9, 3) := by decide +kernel
theorem dX6_put_48 : decode cX6_put 48 = .ok (.aload_n 0, 1) := by decide +kernel
theorem dX6_put_49 : decode cX6_put 49 = .ok (.iconst 3, 1) := by decide +kernel
theorem dX6_put_50 : decode cX6_put 50 = .ok (.invokevirtual 66, 3) := by decide +kernel
theorem dX6_put_53 : decode cX6_put 53 = .ok (.ireturn, 1) := by decide +kernel
theorem dX6_put_54 : decode cX6_put 54 = .ok (.aload 4, 2) := by decide +kernel
theorem dX6_put_56 : decode cX6_put 56 = .ok (.getfield 134, 3) := by decide +kernel
theorem dX6_put_59 : decode cX6_put 59 = .ok (.iload_n 2, 1) := by decide +kernel
theorem dX6_put_60 : decode cX6_put 60 = .ok (.aload 4, 2) := by decide +kernel
theorem dX6_put_62 : decode cX6_put 62 = .ok (.iload_n 3, 1) := by decide +kernel
theorem dX6_put_63 : decode cX6_put 63 = .ok (.invokevirtual 210, 3) := by decide +kernel
theorem dX6_put_66 : decode cX6_put 66 = .ok (.iastore, 1) := by decide +kernel
theorem dX6_put_67 : decode cX6_put 67 = .ok (.iconst 1, 1) := by decide +kernel
theorem dX6_put_68 : decode cX6_put 68 = .ok (.ireturn, 1) := by decide +kernel
set_option maxRecDepth 20000 in
theorem ggX6_cell_X6_isSheet : GoodIn wsX6_cell wsX6_isSheet := goodIn_r _ [9, 10, 11, 8, 12] (by decide +kernel) (by decide +kernel)
set_option maxRecDepth 20000 in
theorem gX6_cell_X6_isSheet : GoodIn wsX6_cell (va_wsS RX6 54 yX6_isSheet wsX6_isSheet) := goodIn_app (goodIn_of _ (by decide +kernel)) ggX6_cell_X6_isSheet
set_option maxRecDepth 20000 in
theorem ggX6_cell_X6_isBelow : GoodIn wsX6_cell wsX6_isBelow := goodIn_r _ [12] (by decide +kernel) (by decide +kernel)
set_option maxRecDepth 20000 in
theorem gX6_cell_X6_isBelow : GoodIn wsX6_cell (va_wsS RX6 58 yX6_isBelow wsX6_isBelow) := goodIn_app (goodIn_of _ (by decide +kernel)) ggX6_cell_X6_isBelow
set_option maxRecDepth 20000 in
theorem ggX6_cell_X6_faultAs : GoodIn wsX6_cell wsX6_faultAs := goodIn_r _ [15, 16, 17, 26, 27, 28, 29] (by decide +kernel) (by decide +kernel)
set_option maxRecDepth 20000 in
theorem gX6_cell_X6_faultAs : GoodIn wsX6_cell (va_wsS RX6 62 yX6_faultAs wsX6_faultAs) := goodIn_app (goodIn_of _ (by decide +kernel)) ggX6_cell_X6_faultAs
theorem dX6_cell_0 : decode cX6_cell 0 = .ok (.aload_n 0, 1) := by decide +kernel
theorem dX6_cell_1 : decode cX6_cell 1 = .ok (.iconst 0, 1) := by decide +kernel
theorem dX6_cell_2 : decode cX6_cell 2 = .ok (.putfield 50, 3) := by decide +kernel
theorem dX6_cell_5 : decode cX6_cell 5 = .ok (.iload_n 1, 1) := by decide +kernel
theorem dX6_cell_6 : decode cX6_cell 6 = .ok (.invokestatic 54, 3) := by decide +kernel
theorem dX6_cell_9 : decode cX6_cell 9 = .ok (.ifCond .eq 11, 3) := by decide +kernel
theorem dX6_cell_12 : decode cX6_cell 12 = .ok (.iload_n 3, 1) := by decide +kernel
theorem dX6_cell_13 : decode cX6_cell 13 = .ok (.iconst 3, 1) := by decide +kernel
theorem dX6_cell_14 : decode cX6_cell 14 = .ok (.invokestatic 58, 3) := by decide +kernel
theorem dX6_cell_17 : decode cX6_cell 17 = .ok (.ifCond .ne 7, 3) := by decide +kernel
theorem dX6_cell_20 : decode cX6_cell 20 = .ok (.ldc2_w 150, 3) := by decide +kernel
theorem dX6_cell_23 : decode cX6_cell 23 = .ok (.lreturn, 1) := by decide +kernel
theorem dX6_cell_24 : decode cX6_cell 24 = .ok (.aload_n 0, 1) := by decide +kernel
theorem dX6_cell_25 : decode cX6_cell 25 = .ok (.getfield 13, 3) := by decide +kernel
theorem dX6_cell_28 : decode cX6_cell 28 = .ok (.iload_n 1, 1) := by decide +kernel
theorem dX6_cell_29 : decode cX6_cell 29 = .ok (.aaload, 1) := by decide +kernel
theorem dX6_cell_30 : decode cX6_cell 30 = .ok (.astore 4, 2) := by decide +kernel
theorem dX6_cell_32 : decode cX6_cell 32 = .ok (.aload_n 0, 1) := by decide +kernel
theorem dX6_cell_33 : decode cX6_cell 33 = .ok (.aload 4, 2) := by decide +kernel
theorem dX6_cell_35 : decode cX6_cell 35 = .ok (.iload_n 3, 1) := by decide +kernel
theorem dX6_cell_36 : decode cX6_cell 36 = .ok (.invokestatic 62, 3) := by decide +kernel
theorem dX6_cell_39 : decode cX6_cell 39 = .ok (.putfield 50, 3) := by decide +kernel
theorem dX6_cell_42 : decode cX6_cell 42 = .ok (.aload_n 0, 1) := by decide +kernel
theorem dX6_cell_43 : decode cX6_cell 43 = .ok (.getfield 50, 3) := by decide +kernel
theorem dX6_cell_46 : decode cX6_cell 46 = .ok (.ifCond .eq 7, 3) := by decide +kernel
theorem dX6_cell_49 : decode cX6_cell 49 = .ok (.ldc2_w 150, 3) := by decide +kernel
theorem dX6_cell_52 : decode cX6_cell 52 = .ok (.lreturn, 1) := by decide +kernel
theorem dX6_cell_53 : decode cX6_cell 53 = .ok (.iload_n 2, 1) := by decide +kernel
theorem dX6_cell_54 : decode cX6_cell 54 = .ok (.aload 4, 2) := by decide +kernel
theorem dX6_cell_56 : decode cX6_cell 56 = .ok (.getfield 207, 3) := by decide +kernel
theorem dX6_cell_59 : decode cX6_cell 59 = .ok (.invokestatic 58, 3) := by decide +kernel
theorem dX6_cell_62 : decode cX6_cell 62 = .ok (.ifCond .ne 12, 3) := by decide +kernel
theorem dX6_cell_65 : decode cX6_cell 65 = .ok (.aload_n 0, 1) := by decide +kernel
theorem dX6_cell_66 : decode cX6_cell 66 = .ok (.iconst 3, 1) := by decide +kernel
theorem dX6_cell_67 : decode cX6_cell 67 = .ok (.putfield 50, 3) := by decide +kernel
theorem dX6_cell_70 : decode cX6_cell 70 = .ok (.ldc2_w 150, 3) := by decide +kernel
theorem dX6_cell_73 : decode cX6_cell 73 = .ok (.lreturn, 1) := by decide +kernel
theorem dX6_cell_74 : decode cX6_cell 74 = .ok (.aload 4, 2) := by decide +kernel
theorem dX6_cell_76 : decode cX6_cell 76 = .ok (.getfield 134, 3) := by decide +kernel
theorem dX6_cell_79 : decode cX6_cell 79 = .ok (.iload_n 2, 1) := by decide +kernel
theorem dX6_cell_80 : decode cX6_cell 80 = .ok (.iaload, 1) := by decide +kernel
theorem dX6_cell_81 : decode cX6_cell 81 = .ok (.i2l, 1) := by decide +kernel
theorem dX6_cell_82 : decode cX6_cell 82 = .ok (.lreturn, 1) := by decide +kernel
set_option maxRecDepth 20000 in
theorem ggX6_copy_X6_isSheet : GoodIn wsX6_copy wsX6_isSheet := goodIn_r _ [13, 14, 15, 12, 16] (by decide +kernel) (by decide +kernel)
set_option maxRecDepth 20000 in
theorem gX6_copy_X6_isSheet : GoodIn wsX6_copy (va_wsS RX6 54 yX6_isSheet wsX6_isSheet) := goodIn_app (goodIn_of _ (by decide +kernel)) ggX6_copy_X6_isSheet
set_option maxRecDepth 20000 in
theorem ggX6_copy_X6_failed : GoodIn wsX6_copy wsX6_failed := goodIn_r _ [20, 1, 27, 28, 29, 30, 31, 32, 33, 34] (by decide +kernel) (by decide +kernel)
set_option maxRecDepth 20000 in
theorem gX6_copy_X6_failed : GoodIn wsX6_copy (wsV RX6 66 RX6 yX6_failed wsX6_failed) := goodIn_app (goodIn_of _ (by decide +kernel)) ggX6_copy_X6_failed
set_option maxRecDepth 20000 in
theorem ggX6_copy_X3_spans : GoodIn wsX6_copy wsX3_spans := goodIn_r _ [25, 26, 35, 36, 37, 38] (by decide +kernel) (by decide +kernel)
set_option maxRecDepth 20000 in
theorem gX6_copy_X3_spans : GoodIn wsX6_copy (wsV RX6 70 RX3 yX3_spans wsX3_spans) := goodIn_app (goodIn_of _ (by decide +kernel)) ggX6_copy_X3_spans
theorem dX6_copy_0 : decode cX6_copy 0 = .ok (.aload_n 0, 1) := by decide +kernel
theorem dX6_copy_1 : decode cX6_copy 1 = .ok (.iconst 0, 1) := by decide +kernel
theorem dX6_copy_2 : decode cX6_copy 2 = .ok (.putfield 50, 3) := by decide +kernel
theorem dX6_copy_5 : decode cX6_copy 5 = .ok (.iload_n 1, 1) := by decide +kernel
theorem dX6_copy_6 : decode cX6_copy 6 = .ok (.invokestatic 54, 3) := by decide +kernel
theorem dX6_copy_9 : decode cX6_copy 9 = .ok (.ifCond .eq 10, 3) := by decide +kernel
theorem dX6_copy_12 : decode cX6_copy 12 = .ok (.iload_n 3, 1) := by decide +kernel
theorem dX6_copy_13 : decode cX6_copy 13 = .ok (.invokestatic 54, 3) := by decide +kernel
theorem dX6_copy_16 : decode cX6_copy 16 = .ok (.ifCond .ne 5, 3) := by decide +kernel
theorem dX6_copy_19 : decode cX6_copy 19 = .ok (.iconst (-1), 1) := by decide +kernel
theorem dX6_copy_20 : decode cX6_copy 20 = .ok (.ireturn, 1) := by decide +kernel
theorem dX6_copy_21 : decode cX6_copy 21 = .ok (.aload_n 0, 1) := by decide +kernel
theorem dX6_copy_22 : decode cX6_copy 22 = .ok (.getfield 13, 3) := by decide +kernel
theorem dX6_copy_25 : decode cX6_copy 25 = .ok (.iload_n 1, 1) := by decide +kernel
theorem dX6_copy_26 : decode cX6_copy 26 = .ok (.aaload, 1) := by decide +kernel
theorem dX6_copy_27 : decode cX6_copy 27 = .ok (.astore 6, 2) := by decide +kernel
theorem dX6_copy_29 : decode cX6_copy 29 = .ok (.aload_n 0, 1) := by decide +kernel
theorem dX6_copy_30 : decode cX6_copy 30 = .ok (.getfield 13, 3) := by decide +kernel
theorem dX6_copy_33 : decode cX6_copy 33 = .ok (.iload_n 3, 1) := by decide +kernel
theorem dX6_copy_34 : decode cX6_copy 34 = .ok (.aaload, 1) := by decide +kernel
theorem dX6_copy_35 : decode cX6_copy 35 = .ok (.astore 7, 2) := by decide +kernel
theorem dX6_copy_37 : decode cX6_copy 37 = .ok (.aload 6, 2) := by decide +kernel
theorem dX6_copy_39 : decode cX6_copy 39 = .ok (.getfield 204, 3) := by decide +kernel
theorem dX6_copy_42 : decode cX6_copy 42 = .ok (.ifCond .eq 11, 3) := by decide +kernel
theorem dX6_copy_45 : decode cX6_copy 45 = .ok (.aload 7, 2) := by decide +kernel
theorem dX6_copy_47 : decode cX6_copy 47 = .ok (.getfield 204, 3) := by decide +kernel
theorem dX6_copy_50 : decode cX6_copy 50 = .ok (.ifCond .ne 9, 3) := by decide +kernel
theorem dX6_copy_53 : decode cX6_copy 53 = .ok (.aload_n 0, 1) := by decide +kernel
theorem dX6_copy_54 : decode cX6_copy 54 = .ok (.iconst 1, 1) := by decide +kernel
theorem dX6_copy_55 : decode cX6_copy 55 = .ok (.invokevirtual 66, 3) := by decide +kernel
theorem dX6_copy_58 : decode cX6_copy 58 = .ok (.ireturn, 1) := by decide +kernel
theorem dX6_copy_59 : decode cX6_copy 59 = .ok (.aload 6, 2) := by decide +kernel
theorem dX6_copy_61 : decode cX6_copy 61 = .ok (.getfield 213, 3) := by decide +kernel
theorem dX6_copy_64 : decode cX6_copy 64 = .ok (.aload 7, 2) := by decide +kernel
theorem dX6_copy_66 : decode cX6_copy 66 = .ok (.getfield 213, 3) := by decide +kernel
theorem dX6_copy_69 : decode cX6_copy 69 = .ok (.if_icmp .eq 9, 3) := by decide +kernel
theorem dX6_copy_72 : decode cX6_copy 72 = .ok (.aload_n 0, 1) := by decide +kernel
theorem dX6_copy_73 : decode cX6_copy 73 = .ok (.iconst 2, 1) := by decide +kernel
theorem dX6_copy_74 : decode cX6_copy 74 = .ok (.invokevirtual 66, 3) := by decide +kernel
theorem dX6_copy_77 : decode cX6_copy 77 = .ok (.ireturn, 1) := by decide +kernel
theorem dX6_copy_78 : decode cX6_copy 78 = .ok (.aload 6, 2) := by decide +kernel
theorem dX6_copy_80 : decode cX6_copy 80 = .ok (.iload_n 2, 1) := by decide +kernel
theorem dX6_copy_81 : decode cX6_copy 81 = .ok (.iload 5, 2) := by decide +kernel
theorem dX6_copy_83 : decode cX6_copy 83 = .ok (.invokevirtual 70, 3) := by decide +kernel
theorem dX6_copy_86 : decode cX6_copy 86 = .ok (.ifCond .eq 15, 3) := by decide +kernel
theorem dX6_copy_89 : decode cX6_copy 89 = .ok (.aload 7, 2) := by decide +kernel
theorem dX6_copy_91 : decode cX6_copy 91 = .ok (.iload 4, 2) := by decide +kernel
theorem dX6_copy_93 : decode cX6_copy 93 = .ok (.iload 5, 2) := by decide +kernel
theorem dX6_copy_95 : decode cX6_copy 95 = .ok (.invokevirtual 70, 3) := by decide +kernel
theorem dX6_copy_98 : decode cX6_copy 98 = .ok (.ifCond .ne 9, 3) := by decide +kernel
theorem dX6_copy_101 : decode cX6_copy 101 = .ok (.aload_n 0, 1) := by decide +kernel
theorem dX6_copy_102 : decode cX6_copy 102 = .ok (.iconst 3, 1) := by decide +kernel
theorem dX6_copy_103 : decode cX6_copy 103 = .ok (.invokevirtual 66, 3) := by decide +kernel
theorem dX6_copy_106 : decode cX6_copy 106 = .ok (.ireturn, 1) := by decide +kernel
theorem dX6_copy_107 : decode cX6_copy 107 = .ok (.aload 6, 2) := by decide +kernel
theorem dX6_copy_109 : decode cX6_copy 109 = .ok (.getfield 134, 3) := by decide +kernel
theorem dX6_copy_112 : decode cX6_copy 112 = .ok (.iload_n 2, 1) := by decide +kernel
theorem dX6_copy_113 : decode cX6_copy 113 = .ok (.aload 7, 2) := by decide +kernel
theorem dX6_copy_115 : decode cX6_copy 115 = .ok (.getfield 134, 3) := by decide +kernel
theorem dX6_copy_118 : decode cX6_copy 118 = .ok (.iload 4, 2) := by decide +kernel
theorem dX6_copy_120 : decode cX6_copy 120 = .ok (.iload 5, 2) := by decide +kernel
theorem dX6_copy_122 : decode cX6_copy 122 = .ok (.invokestatic 216, 3) := by decide +kernel
theorem dX6_copy_125 : decode cX6_copy 125 = .ok (.iload 5, 2) := by decide +kernel
theorem dX6_copy_127 : decode cX6_copy 127 = .ok (.ireturn, 1) := by decide +kernel
set_option maxRecDepth 20000 in
theorem ggX6_tell_X2_hasSubject : GoodIn wsX6_tell wsX2_hasSubject := goodIn_r _ [7, 8, 9, 10, 11, 38, 39, 40, 41, 42] (by decide +kernel) (by decide +kernel)
set_option maxRecDepth 20000 in
theorem gX6_tell_X2_hasSubject : GoodIn wsX6_tell (wsV RX6 99 RX2 yX2_hasSubject wsX2_hasSubject) := goodIn_app (goodIn_of _ (by decide +kernel)) ggX6_tell_X2_hasSubject
set_option maxRecDepth 20000 in
theorem ggX6_tell_X6_tellHoly : GoodIn wsX6_tell wsX6_tellHoly := goodIn_r _ [15, 16, 17, 18, 10, 19, 20, 21, 22, 23, 24, 25, 26, 27, 28, 1, 29, 30, 31, 32, 33, 34, 35, 36, 37, 38, 39, 40, 41, 42] (by decide +kernel) (by decide +kernel)
set_option maxRecDepth 20000 in
theorem gX6_tell_X6_tellHoly : GoodIn wsX6_tell (wsV RX6 222 RX6 yX6_tellHoly wsX6_tellHoly) := goodIn_app (goodIn_of _ (by decide +kernel)) ggX6_tell_X6_tellHoly
set_option maxRecDepth 20000 in
theorem ggX6_tell_X6_tellMeek : GoodIn wsX6_tell wsX6_tellMeek := goodIn_r _ [24, 16, 17, 18, 10, 19, 20, 25, 26, 27, 28, 1, 29, 30, 31, 32, 33, 34, 35, 36, 37, 38, 39, 40, 41, 42] (by decide +kernel) (by decide +kernel)
set_option maxRecDepth 20000 in
theorem gX6_tell_X6_tellMeek : GoodIn wsX6_tell (wsV RX6 225 RX6 yX6_tellMeek wsX6_tellMeek) := goodIn_app (goodIn_of _ (by decide +kernel)) ggX6_tell_X6_tellMeek
set_option maxRecDepth 20000 in
theorem ggX6_tell_X6_tellSubject : GoodIn wsX6_tell wsX6_tellSubject := goodIn_r _ [28, 1, 29, 16, 17, 18, 10, 19, 20, 30, 31, 32, 33, 34, 35, 36, 37, 38, 39, 40, 41, 42] (by decide +kernel) (by decide +kernel)
set_option maxRecDepth 20000 in
theorem gX6_tell_X6_tellSubject : GoodIn wsX6_tell (wsV RX6 228 RX6 yX6_tellSubject wsX6_tellSubject) := goodIn_app (goodIn_of _ (by decide +kernel)) ggX6_tell_X6_tellSubject
theorem dX6_tell_0 : decode cX6_tell 0 = .ok (.aload_n 0, 1) := by decide +kernel
theorem dX6_tell_1 : decode cX6_tell 1 = .ok (.getfield 20, 3) := by decide +kernel
theorem dX6_tell_4 : decode cX6_tell 4 = .ok (.iload_n 1, 1) := by decide +kernel
theorem dX6_tell_5 : decode cX6_tell 5 = .ok (.invokevirtual 99, 3) := by decide +kernel
theorem dX6_tell_8 : decode cX6_tell 8 = .ok (.ifCond .ne 5, 3) := by decide +kernel
theorem dX6_tell_11 : decode cX6_tell 11 = .ok (.iconst (-1), 1) := by decide +kernel
theorem dX6_tell_12 : decode cX6_tell 12 = .ok (.ireturn, 1) := by decide +kernel
theorem dX6_tell_13 : decode cX6_tell 13 = .ok (.aload_n 0, 1) := by decide +kernel
theorem dX6_tell_14 : decode cX6_tell 14 = .ok (.getfield 20, 3) := by decide +kernel
theorem dX6_tell_17 : decode cX6_tell 17 = .ok (.getfield 102, 3) := by decide +kernel
theorem dX6_tell_20 : decode cX6_tell 20 = .ok (.iload_n 1, 1) := by decide +kernel
theorem dX6_tell_21 : decode cX6_tell 21 = .ok (.iaload, 1) := by decide +kernel
theorem dX6_tell_22 : decode cX6_tell 22 = .ok (.lookupswitch 38 #[(1, 32), (2, 26)], 26) := by decide +kernel
theorem dX6_tell_48 : decode cX6_tell 48 = .ok (.aload_n 0, 1) := by decide +kernel
theorem dX6_tell_49 : decode cX6_tell 49 = .ok (.iload_n 1, 1) := by decide +kernel
theorem dX6_tell_50 : decode cX6_tell 50 = .ok (.invokevirtual 222, 3) := by decide +kernel
theorem dX6_tell_53 : decode cX6_tell 53 = .ok (.ireturn, 1) := by decide +kernel
theorem dX6_tell_54 : decode cX6_tell 54 = .ok (.aload_n 0, 1) := by decide +kernel
theorem dX6_tell_55 : decode cX6_tell 55 = .ok (.iload_n 1, 1) := by decide +kernel
theorem dX6_tell_56 : decode cX6_tell 56 = .ok (.invokevirtual 225, 3) := by decide +kernel
theorem dX6_tell_59 : decode cX6_tell 59 = .ok (.ireturn, 1) := by decide +kernel
theorem dX6_tell_60 : decode cX6_tell 60 = .ok (.aload_n 0, 1) := by decide +kernel
theorem dX6_tell_61 : decode cX6_tell 61 = .ok (.iload_n 1, 1) := by decide +kernel
theorem dX6_tell_62 : decode cX6_tell 62 = .ok (.invokevirtual 228, 3) := by decide +kernel
theorem dX6_tell_65 : decode cX6_tell 65 = .ok (.ireturn, 1) := by decide +kernel
set_option maxRecDepth 20000 in
theorem ggX6_name_X2_hasSubject : GoodIn wsX6_name wsX2_hasSubject := goodIn_r _ [7, 8, 9, 10, 11, 25, 26, 27, 28, 29] (by decide +kernel) (by decide +kernel)
set_option maxRecDepth 20000 in
theorem gX6_name_X2_hasSubject : GoodIn wsX6_name (wsV RX6 99 RX2 yX2_hasSubject wsX2_hasSubject) := goodIn_app (goodIn_of _ (by decide +kernel)) ggX6_name_X2_hasSubject
set_option maxRecDepth 20000 in
theorem ggX6_name_X6_leave : GoodIn wsX6_name wsX6_leave := goodIn_r _ [15, 16, 17, 18, 19, 20, 21, 22, 23, 24] (by decide +kernel) (by decide +kernel)
set_option maxRecDepth 20000 in
theorem gX6_name_X6_leave : GoodIn wsX6_name (wsV RX6 231 RX6 yX6_leave wsX6_leave) := goodIn_app (goodIn_of _ (by decide +kernel)) ggX6_name_X6_leave
theorem dX6_name_0 : decode cX6_name 0 = .ok (.aload_n 0, 1) := by decide +kernel
theorem dX6_name_1 : decode cX6_name 1 = .ok (.getfield 20, 3) := by decide +kernel
theorem dX6_name_4 : decode cX6_name 4 = .ok (.iload_n 1, 1) := by decide +kernel
theorem dX6_name_5 : decode cX6_name 5 = .ok (.invokevirtual 99, 3) := by decide +kernel
theorem dX6_name_8 : decode cX6_name 8 = .ok (.ifCond .ne 5, 3) := by decide +kernel
theorem dX6_name_11 : decode cX6_name 11 = .ok (.iconst (-1), 1) := by decide +kernel
theorem dX6_name_12 : decode cX6_name 12 = .ok (.ireturn, 1) := by decide +kernel
theorem dX6_name_13 : decode cX6_name 13 = .ok (.aload_n 0, 1) := by decide +kernel
theorem dX6_name_14 : decode cX6_name 14 = .ok (.getfield 20, 3) := by decide +kernel
theorem dX6_name_17 : decode cX6_name 17 = .ok (.getfield 102, 3) := by decide +kernel
theorem dX6_name_20 : decode cX6_name 20 = .ok (.iload_n 1, 1) := by decide +kernel
theorem dX6_name_21 : decode cX6_name 21 = .ok (.iaload, 1) := by decide +kernel
theorem dX6_name_22 : decode cX6_name 22 = .ok (.iconst 2, 1) := by decide +kernel
theorem dX6_name_23 : decode cX6_name 23 = .ok (.if_icmp .ne 11, 3) := by decide +kernel
theorem dX6_name_26 : decode cX6_name 26 = .ok (.aload_n 0, 1) := by decide +kernel
theorem dX6_name_27 : decode cX6_name 27 = .ok (.iconst 5, 1) := by decide +kernel
theorem dX6_name_28 : decode cX6_name 28 = .ok (.invokevirtual 231, 3) := by decide +kernel
theorem dX6_name_31 : decode cX6_name 31 = .ok (.bipush 70, 2) := by decide +kernel
theorem dX6_name_33 : decode cX6_name 33 = .ok (.ireturn, 1) := by decide +kernel
theorem dX6_name_34 : decode cX6_name 34 = .ok (.aload_n 0, 1) := by decide +kernel
theorem dX6_name_35 : decode cX6_name 35 = .ok (.iconst 4, 1) := by decide +kernel
theorem dX6_name_36 : decode cX6_name 36 = .ok (.invokevirtual 231, 3) := by decide +kernel
theorem dX6_name_39 : decode cX6_name 39 = .ok (.iload_n 1, 1) := by decide +kernel
theorem dX6_name_40 : decode cX6_name 40 = .ok (.ireturn, 1) := by decide +kernel
set_option maxRecDepth 20000 in
theorem ggX6_as_X2_hasSubject : GoodIn wsX6_as wsX2_hasSubject := goodIn_r _ [8, 9, 10, 11, 12, 26, 27, 28, 29, 30] (by decide +kernel) (by decide +kernel)
set_option maxRecDepth 20000 in
theorem gX6_as_X2_hasSubject : GoodIn wsX6_as (wsV RX6 99 RX2 yX2_hasSubject wsX2_hasSubject) := goodIn_app (goodIn_of _ (by decide +kernel)) ggX6_as_X2_hasSubject
set_option maxRecDepth 20000 in
theorem ggX6_as_X6_isBelow : GoodIn wsX6_as wsX6_isBelow := goodIn_r _ [12] (by decide +kernel) (by decide +kernel)
set_option maxRecDepth 20000 in
theorem gX6_as_X6_isBelow : GoodIn wsX6_as (va_wsS RX6 58 yX6_isBelow wsX6_isBelow) := goodIn_app (goodIn_of _ (by decide +kernel)) ggX6_as_X6_isBelow
set_option maxRecDepth 20000 in
theorem ggX6_as_X6_failed : GoodIn wsX6_as wsX6_failed := goodIn_r _ [17, 1, 18, 19, 20, 21, 22, 23, 24, 25] (by decide +kernel) (by decide +kernel)
set_option maxRecDepth 20000 in
theorem gX6_as_X6_failed : GoodIn wsX6_as (wsV RX6 66 RX6 yX6_failed wsX6_failed) := goodIn_app (goodIn_of _ (by decide +kernel)) ggX6_as_X6_failed
theorem dX6_as_0 : decode cX6_as 0 = .ok (.aload_n 0, 1) := by decide +kernel
theorem dX6_as_1 : decode cX6_as 1 = .ok (.iconst 0, 1) := by decide +kernel
theorem dX6_as_2 : decode cX6_as 2 = .ok (.putfield 50, 3) := by decide +kernel
theorem dX6_as_5 : decode cX6_as 5 = .ok (.aload_n 0, 1) := by decide +kernel
theorem dX6_as_6 : decode cX6_as 6 = .ok (.getfield 20, 3) := by decide +kernel
theorem dX6_as_9 : decode cX6_as 9 = .ok (.iload_n 1, 1) := by decide +kernel
theorem dX6_as_10 : decode cX6_as 10 = .ok (.invokevirtual 99, 3) := by decide +kernel
theorem dX6_as_13 : decode cX6_as 13 = .ok (.ifCond .ne 5, 3) := by decide +kernel
theorem dX6_as_16 : decode cX6_as 16 = .ok (.iconst (-1), 1) := by decide +kernel
theorem dX6_as_17 : decode cX6_as 17 = .ok (.ireturn, 1) := by decide +kernel
theorem dX6_as_18 : decode cX6_as 18 = .ok (.iload_n 2, 1) := by decide +kernel
theorem dX6_as_19 : decode cX6_as 19 = .ok (.iconst 3, 1) := by decide +kernel
theorem dX6_as_20 : decode cX6_as 20 = .ok (.invokestatic 58, 3) := by decide +kernel
theorem dX6_as_23 : decode cX6_as 23 = .ok (.ifCond .ne 6, 3) := by decide +kernel
theorem dX6_as_26 : decode cX6_as 26 = .ok (.bipush (-2), 2) := by decide +kernel
theorem dX6_as_28 : decode cX6_as 28 = .ok (.ireturn, 1) := by decide +kernel
theorem dX6_as_29 : decode cX6_as 29 = .ok (.aload_n 0, 1) := by decide +kernel
theorem dX6_as_30 : decode cX6_as 30 = .ok (.getfield 20, 3) := by decide +kernel
theorem dX6_as_33 : decode cX6_as 33 = .ok (.getfield 102, 3) := by decide +kernel
theorem dX6_as_36 : decode cX6_as 36 = .ok (.iload_n 1, 1) := by decide +kernel
theorem dX6_as_37 : decode cX6_as 37 = .ok (.iaload, 1) := by decide +kernel
theorem dX6_as_38 : decode cX6_as 38 = .ok (.iload_n 2, 1) := by decide +kernel
theorem dX6_as_39 : decode cX6_as 39 = .ok (.if_icmp .lt 7, 3) := by decide +kernel
theorem dX6_as_42 : decode cX6_as 42 = .ok (.iconst 1, 1) := by decide +kernel
theorem dX6_as_43 : decode cX6_as 43 = .ok (.goto 8, 3) := by decide +kernel
theorem dX6_as_46 : decode cX6_as 46 = .ok (.aload_n 0, 1) := by decide +kernel
theorem dX6_as_47 : decode cX6_as 47 = .ok (.iconst 2, 1) := by decide +kernel
theorem dX6_as_48 : decode cX6_as 48 = .ok (.invokevirtual 66, 3) := by decide +kernel
theorem dX6_as_51 : decode cX6_as 51 = .ok (.ireturn, 1) := by decide +kernel
theorem dX6_trace_0 : decode cX6_trace 0 = .ok (.aload_n 0, 1) := by decide +kernel
theorem dX6_trace_1 : decode cX6_trace 1 = .ok (.getfield 234, 3) := by decide +kernel
theorem dX6_trace_4 : decode cX6_trace 4 = .ok (.ireturn, 1) := by decide +kernel
theorem dX6_fault_0 : decode cX6_fault 0 = .ok (.aload_n 0, 1) := by decide +kernel
theorem dX6_fault_1 : decode cX6_fault 1 = .ok (.getfield 50, 3) := by decide +kernel
theorem dX6_fault_4 : decode cX6_fault 4 = .ok (.ireturn, 1) := by decide +kernel
set_option maxRecDepth 20000 in
theorem ggX6_many_X2_allPapers : GoodIn wsX6_many wsX2_allPapers := goodIn_r _ [10, 11, 12, 21, 22, 23, 24, 25] (by decide +kernel) (by decide +kernel)
set_option maxRecDepth 20000 in
theorem gX6_many_X2_allPapers : GoodIn wsX6_many (wsV RX6 237 RX2 yX2_allPapers wsX2_allPapers) := goodIn_app (goodIn_of _ (by decide +kernel)) ggX6_many_X2_allPapers
theorem dX6_many_0 : decode cX6_many 0 = .ok (.iload_n 1, 1) := by decide +kernel
theorem dX6_many_1 : decode cX6_many 1 = .ok (.tableswitch 63 0 3 #[31, 39, 47, 55], 31) := by decide +kernel
theorem dX6_many_32 : decode cX6_many 32 = .ok (.aload_n 0, 1) := by decide +kernel
theorem dX6_many_33 : decode cX6_many 33 = .ok (.getfield 20, 3) := by decide +kernel
theorem dX6_many_36 : decode cX6_many 36 = .ok (.getfield 89, 3) := by decide +kernel
theorem dX6_many_39 : decode cX6_many 39 = .ok (.ireturn, 1) := by decide +kernel
theorem dX6_many_40 : decode cX6_many 40 = .ok (.aload_n 0, 1) := by decide +kernel
theorem dX6_many_41 : decode cX6_many 41 = .ok (.getfield 20, 3) := by decide +kernel
theorem dX6_many_44 : decode cX6_many 44 = .ok (.getfield 167, 3) := by decide +kernel
theorem dX6_many_47 : decode cX6_many 47 = .ok (.ireturn, 1) := by decide +kernel
theorem dX6_many_48 : decode cX6_many 48 = .ok (.aload_n 0, 1) := by decide +kernel
theorem dX6_many_49 : decode cX6_many 49 = .ok (.getfield 20, 3) := by decide +kernel
theorem dX6_many_52 : decode cX6_many 52 = .ok (.invokevirtual 237, 3) := by decide +kernel
theorem dX6_many_55 : decode cX6_many 55 = .ok (.ireturn, 1) := by decide +kernel
theorem dX6_many_56 : decode cX6_many 56 = .ok (.aload_n 0, 1) := by decide +kernel
theorem dX6_many_57 : decode cX6_many 57 = .ok (.getfield 27, 3) := by decide +kernel
theorem dX6_many_60 : decode cX6_many 60 = .ok (.getfield 86, 3) := by decide +kernel
theorem dX6_many_63 : decode cX6_many 63 = .ok (.ireturn, 1) := by decide +kernel
theorem dX6_many_64 : decode cX6_many 64 = .ok (.bipush (-2), 2) := by decide +kernel
theorem dX6_many_66 : decode cX6_many 66 = .ok (.ireturn, 1) := by decide +kernel
set_option maxRecDepth 20000 in
theorem ggX6_tellSubject_X6_leave : GoodIn wsX6_tellSubject wsX6_leave := goodIn_r _ [7, 8, 9, 10, 11, 12, 13, 14, 15, 16] (by decide +kernel) (by decide +kernel)
set_option maxRecDepth 20000 in
theorem gX6_tellSubject_X6_leave : GoodIn wsX6_tellSubject (wsV RX6 231 RX6 yX6_leave wsX6_leave) := goodIn_app (goodIn_of _ (by decide +kernel)) ggX6_tellSubject_X6_leave
theorem dX6_tellSubject_0 : decode cX6_tellSubject 0 = .ok (.aload_n 0, 1) := by decide +kernel
theorem dX6_tellSubject_1 : decode cX6_tellSubject 1 = .ok (.iconst 1, 1) := by decide +kernel
theorem dX6_tellSubject_2 : decode cX6_tellSubject 2 = .ok (.invokevirtual 231, 3) := by decide +kernel
theorem dX6_tellSubject_5 : decode cX6_tellSubject 5 = .ok (.aload_n 0, 1) := by decide +kernel
theorem dX6_tellSubject_6 : decode cX6_tellSubject 6 = .ok (.getfield 20, 3) := by decide +kernel
theorem dX6_tellSubject_9 : decode cX6_tellSubject 9 = .ok (.getfield 106, 3) := by decide +kernel
theorem dX6_tellSubject_12 : decode cX6_tellSubject 12 = .ok (.iload_n 1, 1) := by decide +kernel
theorem dX6_tellSubject_13 : decode cX6_tellSubject 13 = .ok (.iaload, 1) := by decide +kernel
theorem dX6_tellSubject_14 : decode cX6_tellSubject 14 = .ok (.ireturn, 1) := by decide +kernel
set_option maxRecDepth 20000 in
theorem ggX6_tellMeek_X6_leave : GoodIn wsX6_tellMeek wsX6_leave := goodIn_r _ [5, 6, 13, 14, 15, 16, 17, 18, 19, 20] (by decide +kernel) (by decide +kernel)
set_option maxRecDepth 20000 in
theorem gX6_tellMeek_X6_leave : GoodIn wsX6_tellMeek (wsV RX6 231 RX6 yX6_leave wsX6_leave) := goodIn_app (goodIn_of _ (by decide +kernel)) ggX6_tellMeek_X6_leave
set_option maxRecDepth 20000 in
theorem ggX6_tellMeek_X6_tellSubject : GoodIn wsX6_tellMeek wsX6_tellSubject := goodIn_r _ [10, 11, 12, 1, 2, 3, 4, 5, 6, 13, 14, 15, 16, 17, 18, 19, 20, 21, 22, 23, 24, 25] (by decide +kernel) (by decide +kernel)
set_option maxRecDepth 20000 in
theorem gX6_tellMeek_X6_tellSubject : GoodIn wsX6_tellMeek (wsV RX6 228 RX6 yX6_tellSubject wsX6_tellSubject) := goodIn_app (goodIn_of _ (by decide +kernel)) ggX6_tellMeek_X6_tellSubject
theorem dX6_tellMeek_0 : decode cX6_tellMeek 0 = .ok (.aload_n 0, 1) := by decide +kernel
theorem dX6_tellMeek_1 : decode cX6_tellMeek 1 = .ok (.iconst 2, 1) := by decide +kernel
theorem dX6_tellMeek_2 : decode cX6_tellMeek 2 = .ok (.invokevirtual 231, 3) := by decide +kernel
theorem dX6_tellMeek_5 : decode cX6_tellMeek 5 = .ok (.aload_n 0, 1) := by decide +kernel
theorem dX6_tellMeek_6 : decode cX6_tellMeek 6 = .ok (.iload_n 1, 1) := by decide +kernel
theorem dX6_tellMeek_7 : decode cX6_tellMeek 7 = .ok (.invokevirtual 228, 3) := by decide +kernel
theorem dX6_tellMeek_10 : decode cX6_tellMeek 10 = .ok (.bipush 100, 2) := by decide +kernel
theorem dX6_tellMeek_12 : decode cX6_tellMeek 12 = .ok (.iadd, 1) := by decide +kernel
theorem dX6_tellMeek_13 : decode cX6_tellMeek 13 = .ok (.ireturn, 1) := by decide +kernel
set_option maxRecDepth 20000 in
theorem ggX6_tellHoly_X6_leave : GoodIn wsX6_tellHoly wsX6_leave := goodIn_r _ [5, 6, 17, 18, 19, 20, 21, 22, 23, 24] (by decide +kernel) (by decide +kernel)
set_option maxRecDepth 20000 in
theorem gX6_tellHoly_X6_leave : GoodIn wsX6_tellHoly (wsV RX6 231 RX6 yX6_leave wsX6_leave) := goodIn_app (goodIn_of _ (by decide +kernel)) ggX6_tellHoly_X6_leave
set_option maxRecDepth 20000 in
theorem ggX6_tellHoly_X6_tellMeek : GoodIn wsX6_tellHoly wsX6_tellMeek := goodIn_r _ [10, 1, 2, 3, 4, 5, 6, 11, 12, 13, 14, 15, 16, 17, 18, 19, 20, 21, 22, 23, 24, 25, 26, 27, 28, 29] (by decide +kernel) (by decide +kernel)
set_option maxRecDepth 20000 in
theorem gX6_tellHoly_X6_tellMeek : GoodIn wsX6_tellHoly (wsV RX6 225 RX6 yX6_tellMeek wsX6_tellMeek) := goodIn_app (goodIn_of _ (by decide +kernel)) ggX6_tellHoly_X6_tellMeek
set_option maxRecDepth 20000 in
theorem ggX6_tellHoly_X6_tellSubject : GoodIn wsX6_tellHoly wsX6_tellSubject := goodIn_r _ [14, 15, 16, 1, 2, 3, 4, 5, 6, 17, 18, 19, 20, 21, 22, 23, 24, 25, 26, 27, 28, 29] (by decide +kernel) (by decide +kernel)
set_option maxRecDepth 20000 in
theorem gX6_tellHoly_X6_tellSubject : GoodIn wsX6_tellHoly (wsV RX6 228 RX6 yX6_tellSubject wsX6_tellSubject) := goodIn_app (goodIn_of _ (by decide +kernel)) ggX6_tellHoly_X6_tellSubject
theorem dX6_tellHoly_0 : decode cX6_tellHoly 0 = .ok (.aload_n 0, 1) := by decide +kernel
theorem dX6_tellHoly_1 : decode cX6_tellHoly 1 = .ok (.iconst 3, 1) := by decide +kernel
theorem dX6_tellHoly_2 : decode cX6_tellHoly 2 = .ok (.invokevirtual 231, 3) := by decide +kernel
theorem dX6_tellHoly_5 : decode cX6_tellHoly 5 = .ok (.aload_n 0, 1) := by decide +kernel
theorem dX6_tellHoly_6 : decode cX6_tellHoly 6 = .ok (.iload_n 1, 1) := by decide +kernel
theorem dX6_tellHoly_7 : decode cX6_tellHoly 7 = .ok (.invokevirtual 225, 3) := by decide +kernel
theorem dX6_tellHoly_10 : decode cX6_tellHoly 10 = .ok (.istore_n 2, 1) := by decide +kernel
theorem dX6_tellHoly_11 : decode cX6_tellHoly 11 = .ok (.iload_n 2, 1) := by decide +kernel
theorem dX6_tellHoly_12 : decode cX6_tellHoly 12 = .ok (.aload_n 0, 1) := by decide +kernel
theorem dX6_tellHoly_13 : decode cX6_tellHoly 13 = .ok (.iload_n 1, 1) := by decide +kernel
theorem dX6_tellHoly_14 : decode cX6_tellHoly 14 = .ok (.invokevirtual 228, 3) := by decide +kernel
theorem dX6_tellHoly_17 : decode cX6_tellHoly 17 = .ok (.iadd, 1) := by decide +kernel
theorem dX6_tellHoly_18 : decode cX6_tellHoly 18 = .ok (.ireturn, 1) := by decide +kernel
theorem dX6_leave_0 : decode cX6_leave 0 = .ok (.aload_n 0, 1) := by decide +kernel
theorem dX6_leave_1 : decode cX6_leave 1 = .ok (.bipush 31, 2) := by decide +kernel
theorem dX6_leave_3 : decode cX6_leave 3 = .ok (.aload_n 0, 1) := by decide +kernel
theorem dX6_leave_4 : decode cX6_leave 4 = .ok (.getfield 234, 3) := by decide +kernel
theorem dX6_leave_7 : decode cX6_leave 7 = .ok (.imul, 1) := by decide +kernel
theorem dX6_leave_8 : decode cX6_leave 8 = .ok (.iload_n 1, 1) := by decide +kernel
theorem dX6_leave_9 : decode cX6_leave 9 = .ok (.iadd, 1) := by decide +kernel
theorem dX6_leave_10 : decode cX6_leave 10 = .ok (.putfield 234, 3) := by decide +kernel
theorem dX6_leave_13 : decode cX6_leave 13 = .ok (.return_, 1) := by decide +kernel
theorem dX6_failed_0 : decode cX6_failed 0 = .ok (.aload_n 0, 1) := by decide +kernel
theorem dX6_failed_1 : decode cX6_failed 1 = .ok (.iload_n 1, 1) := by decide +kernel
theorem dX6_failed_2 : decode cX6_failed 2 = .ok (.putfield 50, 3) := by decide +kernel
theorem dX6_failed_5 : decode cX6_failed 5 = .ok (.bipush (-10), 2) := by decide +kernel
theorem dX6_failed_7 : decode cX6_failed 7 = .ok (.iload_n 1, 1) := by decide +kernel
theorem dX6_failed_8 : decode cX6_failed 8 = .ok (.isub, 1) := by decide +kernel
theorem dX6_failed_9 : decode cX6_failed 9 = .ok (.ireturn, 1) := by decide +kernel
theorem dX6_faultAs_0 : decode cX6_faultAs 0 = .ok (.aload_n 0, 1) := by decide +kernel
theorem dX6_faultAs_1 : decode cX6_faultAs 1 = .ok (.getfield 204, 3) := by decide +kernel
theorem dX6_faultAs_4 : decode cX6_faultAs 4 = .ok (.ifCond .ne 5, 3) := by decide +kernel
theorem dX6_faultAs_7 : decode cX6_faultAs 7 = .ok (.iconst 1, 1) := by decide +kernel
theorem dX6_faultAs_8 : decode cX6_faultAs 8 = .ok (.ireturn, 1) := by decide +kernel
theorem dX6_faultAs_9 : decode cX6_faultAs 9 = .ok (.aload_n 0, 1) := by decide +kernel
theorem dX6_faultAs_10 : decode cX6_faultAs 10 = .ok (.getfield 213, 3) := by decide +kernel
theorem dX6_faultAs_13 : decode cX6_faultAs 13 = .ok (.iload_n 1, 1) := by decide +kernel
theorem dX6_faultAs_14 : decode cX6_faultAs 14 = .ok (.if_icmp .ne 7, 3) := by decide +kernel
theorem dX6_faultAs_17 : decode cX6_faultAs 17 = .ok (.iconst 0, 1) := by decide +kernel
theorem dX6_faultAs_18 : decode cX6_faultAs 18 = .ok (.goto 4, 3) := by decide +kernel
theorem dX6_faultAs_21 : decode cX6_faultAs 21 = .ok (.iconst 2, 1) := by decide +kernel
theorem dX6_faultAs_22 : decode cX6_faultAs 22 = .ok (.ireturn, 1) := by decide +kernel
set_option maxRecDepth 20000 in
theorem ggX6_isSheet_X6_isBelow : GoodIn wsX6_isSheet wsX6_isBelow := goodIn_r _ [4] (by decide +kernel) (by decide +kernel)
set_option maxRecDepth 20000 in
theorem gX6_isSheet_X6_isBelow : GoodIn wsX6_isSheet (va_wsS RX6 58 yX6_isBelow wsX6_isBelow) := goodIn_app (goodIn_of _ (by decide +kernel)) ggX6_isSheet_X6_isBelow
theorem dX6_isSheet_0 : decode cX6_isSheet 0 = .ok (.iload_n 0, 1) := by decide +kernel
theorem dX6_isSheet_1 : decode cX6_isSheet 1 = .ok (.iconst 4, 1) := by decide +kernel
theorem dX6_isSheet_2 : decode cX6_isSheet 2 = .ok (.invokestatic 58, 3) := by decide +kernel
theorem dX6_isSheet_5 : decode cX6_isSheet 5 = .ok (.ireturn, 1) := by decide +kernel
theorem dX6_isBelow_0 : decode cX6_isBelow 0 = .ok (.iload_n 0, 1) := by decide +kernel
theorem dX6_isBelow_1 : decode cX6_isBelow 1 = .ok (.ifCond .lt 12, 3) := by decide +kernel
theorem dX6_isBelow_4 : decode cX6_isBelow 4 = .ok (.iload_n 0, 1) := by decide +kernel
theorem dX6_isBelow_5 : decode cX6_isBelow 5 = .ok (.iload_n 1, 1) := by decide +kernel
theorem dX6_isBelow_6 : decode cX6_isBelow 6 = .ok (.if_icmp .ge 7, 3) := by decide +kernel
theorem dX6_isBelow_9 : decode cX6_isBelow 9 = .ok (.iconst 1, 1) := by decide +kernel
theorem dX6_isBelow_10 : decode cX6_isBelow 10 = .ok (.goto 4, 3) := by decide +kernel
theorem dX6_isBelow_13 : decode cX6_isBelow 13 = .ok (.iconst 0, 1) := by decide +kernel
theorem dX6_isBelow_14 : decode cX6_isBelow 14 = .ok (.ireturn, 1) := by decide +kernel
set_option maxRecDepth 20000 in
theorem ggX6_inLeastTerms_X6_commonDivisor : GoodIn wsX6_inLeastTerms wsX6_commonDivisor := goodIn_r _ [4] (by decide +kernel) (by decide +kernel)
set_option maxRecDepth 20000 in
theorem gX6_inLeastTerms_X6_commonDivisor : GoodIn wsX6_inLeastTerms (va_wsS RX6 240 yX6_commonDivisor wsX6_commonDivisor) := goodIn_app (goodIn_of _ (by decide +kernel)) ggX6_inLeastTerms_X6_commonDivisor
theorem dX6_inLeastTerms_0 : decode cX6_inLeastTerms 0 = .ok (.iload 4, 2) := by decide +kernel
theorem dX6_inLeastTerms_2 : decode cX6_inLeastTerms 2 = .ok (.ifCond .ne 7, 3) := by decide +kernel
theorem dX6_inLeastTerms_5 : decode cX6_inLeastTerms 5 = .ok (.lload_n 0, 1) := by decide +kernel
theorem dX6_inLeastTerms_6 : decode cX6_inLeastTerms 6 = .ok (.goto 4, 3) := by decide +kernel
theorem dX6_inLeastTerms_9 : decode cX6_inLeastTerms 9 = .ok (.lload_n 2, 1) := by decide +kernel
theorem dX6_inLeastTerms_10 : decode cX6_inLeastTerms 10 = .ok (.lstore 5, 2) := by decide +kernel
theorem dX6_inLeastTerms_12 : decode cX6_inLeastTerms 12 = .ok (.lload_n 0, 1) := by decide +kernel
theorem dX6_inLeastTerms_13 : decode cX6_inLeastTerms 13 = .ok (.lload_n 2, 1) := by decide +kernel
theorem dX6_inLeastTerms_14 : decode cX6_inLeastTerms 14 = .ok (.invokestatic 240, 3) := by decide +kernel
theorem dX6_inLeastTerms_17 : decode cX6_inLeastTerms 17 = .ok (.lstore 7, 2) := by decide +kernel
theorem dX6_inLeastTerms_19 : decode cX6_inLeastTerms 19 = .ok (.lload 7, 2) := by decide +kernel
theorem dX6_inLeastTerms_21 : decode cX6_inLeastTerms 21 = .ok (.lconst 1, 1) := by decide +kernel
theorem dX6_inLeastTerms_22 : decode cX6_inLeastTerms 22 = .ok (.lcmp, 1) := by decide +kernel
theorem dX6_inLeastTerms_23 : decode cX6_inLeastTerms 23 = .ok (.ifCond .le 11, 3) := by decide +kernel
theorem dX6_inLeastTerms_26 : decode cX6_inLeastTerms 26 = .ok (.lload 5, 2) := by decide +kernel
theorem dX6_inLeastTerms_28 : decode cX6_inLeastTerms 28 = .ok (.lload 7, 2) := by decide +kernel
theorem dX6_inLeastTerms_30 : decode cX6_inLeastTerms 30 = .ok (.ldiv, 1) := by decide +kernel
theorem dX6_inLeastTerms_31 : decode cX6_inLeastTerms 31 = .ok (.goto 5, 3) := by decide +kernel
theorem dX6_inLeastTerms_34 : decode cX6_inLeastTerms 34 = .ok (.lload 5, 2) := by decide +kernel
theorem dX6_inLeastTerms_36 : decode cX6_inLeastTerms 36 = .ok (.lreturn, 1) := by decide +kernel
theorem dX6_commonDivisor_0 : decode cX6_commonDivisor 0 = .ok (.lload_n 0, 1) := by decide +kernel
theorem dX6_commonDivisor_1 : decode cX6_commonDivisor 1 = .ok (.lstore 4, 2) := by decide +kernel
theorem dX6_commonDivisor_3 : decode cX6_commonDivisor 3 = .ok (.lload_n 2, 1) := by decide +kernel
theorem dX6_commonDivisor_4 : decode cX6_commonDivisor 4 = .ok (.lstore 6, 2) := by decide +kernel
theorem dX6_commonDivisor_6 : decode cX6_commonDivisor 6 = .ok (.iconst 0, 1) := by decide +kernel
theorem dX6_commonDivisor_7 : decode cX6_commonDivisor 7 = .ok (.istore 8, 2) := by decide +kernel
theorem dX6_commonDivisor_9 : decode cX6_commonDivisor 9 = .ok (.iload 8, 2) := by decide +kernel
theorem dX6_commonDivisor_11 : decode cX6_commonDivisor 11 = .ok (.sipush 128, 3) := by decide +kernel
theorem dX6_commonDivisor_14 : decode cX6_commonDivisor 14 = .ok (.if_icmp .ge 31, 3) := by decide +kernel
theorem dX6_commonDivisor_17 : decode cX6_commonDivisor 17 = .ok (.lload 6, 2) := by decide +kernel
theorem dX6_commonDivisor_19 : decode cX6_commonDivisor 19 = .ok (.lconst 0, 1) := by decide +kernel
theorem dX6_commonDivisor_20 : decode cX6_commonDivisor 20 = .ok (.lcmp, 1) := by decide +kernel
theorem dX6_commonDivisor_21 : decode cX6_commonDivisor 21 = .ok (.ifCond .eq 24, 3) := by decide +kernel
theorem dX6_commonDivisor_24 : decode cX6_commonDivisor 24 = .ok (.lload 4, 2) := by decide +kernel
theorem dX6_commonDivisor_26 : decode cX6_commonDivisor 26 = .ok (.lload 6, 2) := by decide +kernel
theorem dX6_commonDivisor_28 : decode cX6_commonDivisor 28 = .ok (.lrem, 1) := by decide +kernel
theorem dX6_commonDivisor_29 : decode cX6_commonDivisor 29 = .ok (.lstore 9, 2) := by decide +kernel
theorem dX6_commonDivisor_31 : decode cX6_commonDivisor 31 = .ok (.lload 6, 2) := by decide +kernel
theorem dX6_commonDivisor_33 : decode cX6_commonDivisor 33 = .ok (.lstore 4, 2) := by decide +kernel
theorem dX6_commonDivisor_35 : decode cX6_commonDivisor 35 = .ok (.lload 9, 2) := by decide +kernel
theorem dX6_commonDivisor_37 : decode cX6_commonDivisor 37 = .ok (.lstore 6, 2) := by decide +kernel
theorem dX6_commonDivisor_39 : decode cX6_commonDivisor 39 = .ok (.iinc 8 1, 3) := by decide +kernel
theorem dX6_commonDivisor_42 : decode cX6_commonDivisor 42 = .ok (.goto (-33), 3) := by decide +kernel
theorem dX6_commonDivisor_45 : decode cX6_commonDivisor 45 = .ok (.lload 4, 2) := by decide +kernel
theorem dX6_commonDivisor_47 : decode cX6_commonDivisor 47 = .ok (.lreturn, 1) := by decide +kernel
