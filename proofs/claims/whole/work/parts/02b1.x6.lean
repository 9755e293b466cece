set_option maxRecDepth 20000 in
theorem ggX6_init_X2_init : GoodIn wsX6_init wsX2_init := goodIn_r _ [27, 28, 2, 3, 29, 30, 31, 32, 33, 63, 64, 65, 66, 67] (by decide +kernel) (by decide +kernel)
set_option maxRecDepth 20000 in
theorem gX6_init_X2_init_n19 : GoodIn wsX6_init (wsX2_init) := ggX6_init_X2_init
set_option maxRecDepth 20000 in
theorem ggX6_init_X1_init : GoodIn wsX6_init wsX1_init := goodIn_r _ [35, 36, 2, 3, 30, 37, 38, 39, 40, 68, 69, 70, 71] (by decide +kernel) (by decide +kernel)
set_option maxRecDepth 20000 in
theorem gX6_init_X1_init_n26 : GoodIn wsX6_init (wsX1_init) := ggX6_init_X1_init
set_option maxRecDepth 20000 in
theorem ggX6_init_X0_init : GoodIn wsX6_init wsX0_init := goodIn_r _ [42, 43, 2, 3, 44, 22, 45, 46, 72, 73] (by decide +kernel) (by decide +kernel)
set_option maxRecDepth 20000 in
theorem gX6_init_X0_init_n33 : GoodIn wsX6_init (wsX0_init) := ggX6_init_X0_init
set_option maxRecDepth 20000 in
theorem ggX6_init_X5_init : GoodIn wsX6_init wsX5_init := goodIn_r _ [48, 49, 2, 3, 30, 50, 74, 75, 76, 77] (by decide +kernel) (by decide +kernel)
set_option maxRecDepth 20000 in
theorem gX6_init_X5_init_n40 : GoodIn wsX6_init (wsX5_init) := ggX6_init_X5_init
set_option maxRecDepth 20000 in
theorem ggX6_init_X3_init : GoodIn wsX6_init wsX3_init := goodIn_r _ [52, 53, 2, 3, 30, 54, 78, 79, 80, 81] (by decide +kernel) (by decide +kernel)
set_option maxRecDepth 20000 in
theorem gX6_init_X3_init_n49 : GoodIn wsX6_init (wsX3_init) := ggX6_init_X3_init
theorem dX6_init_0 : decode cX6_init 0 = .ok (.aload_n 0, 1) := by decide +kernel
theorem dX6_init_1 : decode cX6_init 1 = .ok (.invokespecial 3, 3) := by decide +kernel
theorem dX6_init_4 : decode cX6_init 4 = .ok (.aload_n 0, 1) := by decide +kernel
theorem dX6_init_5 : decode cX6_init 5 = .ok (.iconst 4, 1) := by decide +kernel
theorem dX6_init_6 : decode cX6_init 6 = .ok (.anewarray 11, 3) := by decide +kernel
theorem dX6_init_9 : decode cX6_init 9 = .ok (.putfield 13, 3) := by decide +kernel
theorem dX6_init_12 : decode cX6_init 12 = .ok (.aload_n 0, 1) := by decide +kernel
theorem dX6_init_13 : decode cX6_init 13 = .ok (.new 17, 3) := by decide +kernel
theorem dX6_init_16 : decode cX6_init 16 = .ok (.dup, 1) := by decide +kernel
theorem dX6_init_17 : decode cX6_init 17 = .ok (.invokespecial 19, 3) := by decide +kernel
theorem dX6_init_20 : decode cX6_init 20 = .ok (.putfield 20, 3) := by decide +kernel
theorem dX6_init_23 : decode cX6_init 23 = .ok (.aload_n 0, 1) := by decide +kernel
theorem dX6_init_24 : decode cX6_init 24 = .ok (.new 24, 3) := by decide +kernel
theorem dX6_init_27 : decode cX6_init 27 = .ok (.dup, 1) := by decide +kernel
theorem dX6_init_28 : decode cX6_init 28 = .ok (.invokespecial 26, 3) := by decide +kernel
theorem dX6_init_31 : decode cX6_init 31 = .ok (.putfield 27, 3) := by decide +kernel
theorem dX6_init_34 : decode cX6_init 34 = .ok (.aload_n 0, 1) := by decide +kernel
theorem dX6_init_35 : decode cX6_init 35 = .ok (.new 31, 3) := by decide +kernel
theorem dX6_init_38 : decode cX6_init 38 = .ok (.dup, 1) := by decide +kernel
theorem dX6_init_39 : decode cX6_init 39 = .ok (.invokespecial 33, 3) := by decide +kernel
theorem dX6_init_42 : decode cX6_init 42 = .ok (.putfield 34, 3) := by decide +kernel
theorem dX6_init_45 : decode cX6_init 45 = .ok (.aload_n 0, 1) := by decide +kernel
theorem dX6_init_46 : decode cX6_init 46 = .ok (.new 38, 3) := by decide +kernel
theorem dX6_init_49 : decode cX6_init 49 = .ok (.dup, 1) := by decide +kernel
theorem dX6_init_50 : decode cX6_init 50 = .ok (.invokespecial 40, 3) := by decide +kernel
theorem dX6_init_53 : decode cX6_init 53 = .ok (.putfield 41, 3) := by decide +kernel
theorem dX6_init_56 : decode cX6_init 56 = .ok (.aload_n 0, 1) := by decide +kernel
theorem dX6_init_57 : decode cX6_init 57 = .ok (.iconst 4, 1) := by decide +kernel
theorem dX6_init_58 : decode cX6_init 58 = .ok (.newarray .long, 2) := by decide +kernel
theorem dX6_init_60 : decode cX6_init 60 = .ok (.putfield 45, 3) := by decide +kernel
theorem dX6_init_63 : decode cX6_init 63 = .ok (.iconst 0, 1) := by decide +kernel
theorem dX6_init_64 : decode cX6_init 64 = .ok (.istore_n 1, 1) := by decide +kernel
theorem dX6_init_65 : decode cX6_init 65 = .ok (.iload_n 1, 1) := by decide +kernel
theorem dX6_init_66 : decode cX6_init 66 = .ok (.iconst 4, 1) := by decide +kernel
theorem dX6_init_67 : decode cX6_init 67 = .ok (.if_icmp .ge 22, 3) := by decide +kernel
theorem dX6_init_70 : decode cX6_init 70 = .ok (.aload_n 0, 1) := by decide +kernel
theorem dX6_init_71 : decode cX6_init 71 = .ok (.getfield 13, 3) := by decide +kernel
theorem dX6_init_74 : decode cX6_init 74 = .ok (.iload_n 1, 1) := by decide +kernel
theorem dX6_init_75 : decode cX6_init 75 = .ok (.new 11, 3) := by decide +kernel
theorem dX6_init_78 : decode cX6_init 78 = .ok (.dup, 1) := by decide +kernel
theorem dX6_init_79 : decode cX6_init 79 = .ok (.invokespecial 49, 3) := by decide +kernel
theorem dX6_init_82 : decode cX6_init 82 = .ok (.aastore, 1) := by decide +kernel
theorem dX6_init_83 : decode cX6_init 83 = .ok (.iinc 1 1, 3) := by decide +kernel
theorem dX6_init_86 : decode cX6_init 86 = .ok (.goto (-21), 3) := by decide +kernel
theorem dX6_init_89 : decode cX6_init 89 = .ok (.return_, 1) := by decide +kernel
set_option maxRecDepth 20000 in
theorem ggX6_kingdom_X6_isSheet : GoodIn wsX6_kingdom wsX6_isSheet := goodIn_r _ [13, 14, 15, 12, 16] (by decide +kernel) (by decide +kernel)
set_option maxRecDepth 20000 in
theorem gX6_kingdom_X6_isSheet : GoodIn wsX6_kingdom (va_wsS RX6 54 yX6_isSheet wsX6_isSheet) := goodIn_app (goodIn_of _ (by decide +kernel)) ggX6_kingdom_X6_isSheet
set_option maxRecDepth 20000 in
theorem ggX6_kingdom_X6_isBelow : GoodIn wsX6_kingdom wsX6_isBelow := goodIn_r _ [16] (by decide +kernel) (by decide +kernel)
set_option maxRecDepth 20000 in
theorem gX6_kingdom_X6_isBelow : GoodIn wsX6_kingdom (va_wsS RX6 58 yX6_isBelow wsX6_isBelow) := goodIn_app (goodIn_of _ (by decide +kernel)) ggX6_kingdom_X6_isBelow
set_option maxRecDepth 20000 in
theorem ggX6_kingdom_X6_faultAs : GoodIn wsX6_kingdom wsX6_faultAs := goodIn_r _ [19, 20, 21, 106, 107, 108, 109] (by decide +kernel) (by decide +kernel)
set_option maxRecDepth 20000 in
theorem gX6_kingdom_X6_faultAs : GoodIn wsX6_kingdom (va_wsS RX6 62 yX6_faultAs wsX6_faultAs) := goodIn_app (goodIn_of _ (by decide +kernel)) ggX6_kingdom_X6_faultAs
set_option maxRecDepth 20000 in
theorem ggX6_kingdom_X6_failed : GoodIn wsX6_kingdom wsX6_failed := goodIn_r _ [25, 1, 84, 85, 86, 87, 88, 89, 90, 91] (by decide +kernel) (by decide +kernel)
set_option maxRecDepth 20000 in
theorem gX6_kingdom_X6_failed : GoodIn wsX6_kingdom (wsV RX6 66 RX6 yX6_failed wsX6_failed) := goodIn_app (goodIn_of _ (by decide +kernel)) ggX6_kingdom_X6_failed
set_option maxRecDepth 20000 in
theorem ggX6_kingdom_X3_spans : GoodIn wsX6_kingdom wsX3_spans := goodIn_r _ [30, 31, 106, 107, 108, 109] (by decide +kernel) (by decide +kernel)
set_option maxRecDepth 20000 in
theorem gX6_kingdom_X3_spans : GoodIn wsX6_kingdom (wsV RX6 70 RX3 yX3_spans wsX3_spans) := goodIn_app (goodIn_of _ (by decide +kernel)) ggX6_kingdom_X3_spans
set_option maxRecDepth 20000 in
theorem ggX6_kingdom_X4_init : GoodIn wsX6_kingdom wsX4_init := goodIn_r _ [34, 35, 36, 37, 38, 39, 40, 92, 93, 94, 95, 96] (by decide +kernel) (by decide +kernel)
set_option maxRecDepth 20000 in
theorem gX6_kingdom_X4_init : GoodIn wsX6_kingdom (wsX4_init) := ggX6_kingdom_X4_init
set_option maxRecDepth 20000 in
theorem ggX6_kingdom_X4_firstFault : GoodIn wsX6_kingdom wsX4_firstFault := goodIn_r _ [44, 45, 46, 40, 47, 48, 49, 5, 50, 38, 51, 39, 15, 12, 16, 52, 53, 54, 55, 56, 57, 58, 59, 92, 93, 94, 95, 96, 106, 107, 108, 109] (by decide +kernel) (by decide +kernel)
set_option maxRecDepth 20000 in
theorem gX6_kingdom_X4_firstFault : GoodIn wsX6_kingdom (wsV RX6 78 RX4 yX4_firstFault wsX4_firstFault) := goodIn_app (goodIn_of _ (by decide +kernel)) ggX6_kingdom_X4_firstFault
set_option maxRecDepth 20000 in
theorem ggX6_kingdom_X2_found : GoodIn wsX6_kingdom wsX2_found := goodIn_r _ [64, 65, 66, 67, 68, 69, 70, 71, 72, 73, 74, 5, 75, 47, 48, 49, 50, 40, 38, 51, 39, 15, 12, 16, 76, 77, 78, 79, 45, 56, 57, 58, 59, 80, 81, 82, 83, 92, 93, 94, 95, 96, 101, 102, 103, 104, 105, 106, 107, 108, 109] (by decide +kernel) (by decide +kernel)
set_option maxRecDepth 20000 in
theorem gX6_kingdom_X2_found : GoodIn wsX6_kingdom (wsV RX6 82 RX2 yX2_found wsX2_found) := goodIn_app (goodIn_of _ (by decide +kernel)) ggX6_kingdom_X2_found
theorem dX6_kingdom_0 : decode cX6_kingdom 0 = .ok (.aload_n 0, 1) := by decide +kernel
theorem dX6_kingdom_1 : decode cX6_kingdom 1 = .ok (.iconst 0, 1) := by decide +kernel
theorem dX6_kingdom_2 : decode cX6_kingdom 2 = .ok (.putfield 50, 3) := by decide +kernel
theorem dX6_kingdom_5 : decode cX6_kingdom 5 = .ok (.iload_n 1, 1) := by decide +kernel
theorem dX6_kingdom_6 : decode cX6_kingdom 6 = .ok (.invokestatic 54, 3) := by decide +kernel
theorem dX6_kingdom_9 : decode cX6_kingdom 9 = .ok (.ifCond .ne 5, 3) := by decide +kernel
theorem dX6_kingdom_12 : decode cX6_kingdom 12 = .ok (.iconst (-1), 1) := by decide +kernel
theorem dX6_kingdom_13 : decode cX6_kingdom 13 = .ok (.ireturn, 1) := by decide +kernel
theorem dX6_kingdom_14 : decode cX6_kingdom 14 = .ok (.iload_n 2, 1) := by decide +kernel
theorem dX6_kingdom_15 : decode cX6_kingdom 15 = .ok (.iconst 3, 1) := by decide +kernel
theorem dX6_kingdom_16 : decode cX6_kingdom 16 = .ok (.invokestatic 58, 3) := by decide +kernel
theorem dX6_kingdom_19 : decode cX6_kingdom 19 = .ok (.ifCond .ne 6, 3) := by decide +kernel
theorem dX6_kingdom_22 : decode cX6_kingdom 22 = .ok (.bipush (-2), 2) := by decide +kernel
theorem dX6_kingdom_24 : decode cX6_kingdom 24 = .ok (.ireturn, 1) := by decide +kernel
theorem dX6_kingdom_25 : decode cX6_kingdom 25 = .ok (.aload_n 0, 1) := by decide +kernel
theorem dX6_kingdom_26 : decode cX6_kingdom 26 = .ok (.getfield 13, 3) := by decide +kernel
theorem dX6_kingdom_29 : decode cX6_kingdom 29 = .ok (.iload_n 1, 1) := by decide +kernel
theorem dX6_kingdom_30 : decode cX6_kingdom 30 = .ok (.aaload, 1) := by decide +kernel
theorem dX6_kingdom_31 : decode cX6_kingdom 31 = .ok (.astore 5, 2) := by decide +kernel
theorem dX6_kingdom_33 : decode cX6_kingdom 33 = .ok (.aload 5, 2) := by decide +kernel
theorem dX6_kingdom_35 : decode cX6_kingdom 35 = .ok (.iload_n 2, 1) := by decide +kernel
theorem dX6_kingdom_36 : decode cX6_kingdom 36 = .ok (.invokestatic 62, 3) := by decide +kernel
theorem dX6_kingdom_39 : decode cX6_kingdom 39 = .ok (.istore 6, 2) := by decide +kernel
theorem dX6_kingdom_41 : decode cX6_kingdom 41 = .ok (.iload 6, 2) := by decide +kernel
theorem dX6_kingdom_43 : decode cX6_kingdom 43 = .ok (.ifCond .eq 10, 3) := by decide +kernel
theorem dX6_kingdom_46 : decode cX6_kingdom 46 = .ok (.aload_n 0, 1) := by decide +kernel
theorem dX6_kingdom_47 : decode cX6_kingdom 47 = .ok (.iload 6, 2) := by decide +kernel
theorem dX6_kingdom_49 : decode cX6_kingdom 49 = .ok (.invokevirtual 66, 3) := by decide +kernel
theorem dX6_kingdom_52 : decode cX6_kingdom 52 = .ok (.ireturn, 1) := by decide +kernel
theorem dX6_kingdom_53 : decode cX6_kingdom 53 = .ok (.iload 4, 2) := by decide +kernel
theorem dX6_kingdom_55 : decode cX6_kingdom 55 = .ok (.ifCond .ge 9, 3) := by decide +kernel
theorem dX6_kingdom_58 : decode cX6_kingdom 58 = .ok (.aload_n 0, 1) := by decide +kernel
theorem dX6_kingdom_59 : decode cX6_kingdom 59 = .ok (.iconst 4, 1) := by decide +kernel
theorem dX6_kingdom_60 : decode cX6_kingdom 60 = .ok (.invokevirtual 66, 3) := by decide +kernel
theorem dX6_kingdom_63 : decode cX6_kingdom 63 = .ok (.ireturn, 1) := by decide +kernel
theorem dX6_kingdom_64 : decode cX6_kingdom 64 = .ok (.aload 5, 2) := by decide +kernel
theorem dX6_kingdom_66 : decode cX6_kingdom 66 = .ok (.iload_n 3, 1) := by decide +kernel
theorem dX6_kingdom_67 : decode cX6_kingdom 67 = .ok (.iload 4, 2) := by decide +kernel
theorem dX6_kingdom_69 : decode cX6_kingdom 69 = .ok (.invokevirtual 70, 3) := by decide +kernel
theorem dX6_kingdom_72 : decode cX6_kingdom 72 = .ok (.ifCond .ne 9, 3) := by decide +kernel
theorem dX6_kingdom_75 : decode cX6_kingdom 75 = .ok (.aload_n 0, 1) := by decide +kernel
theorem dX6_kingdom_76 : decode cX6_kingdom 76 = .ok (.iconst 3, 1) := by decide +kernel
theorem dX6_kingdom_77 : decode cX6_kingdom 77 = .ok (.invokevirtual 66, 3) := by decide +kernel
theorem dX6_kingdom_80 : decode cX6_kingdom 80 = .ok (.ireturn, 1) := by decide +kernel
theorem dX6_kingdom_81 : decode cX6_kingdom 81 = .ok (.new 73, 3) := by decide +kernel
theorem dX6_kingdom_84 : decode cX6_kingdom 84 = .ok (.dup, 1) := by decide +kernel
theorem dX6_kingdom_85 : decode cX6_kingdom 85 = .ok (.aload 5, 2) := by decide +kernel
theorem dX6_kingdom_87 : decode cX6_kingdom 87 = .ok (.iload_n 3, 1) := by decide +kernel
theorem dX6_kingdom_88 : decode cX6_kingdom 88 = .ok (.iload 4, 2) := by decide +kernel
theorem dX6_kingdom_90 : decode cX6_kingdom 90 = .ok (.invokespecial 75, 3) := by decide +kernel
theorem dX6_kingdom_93 : decode cX6_kingdom 93 = .ok (.astore 7, 2) := by decide +kernel
theorem dX6_kingdom_95 : decode cX6_kingdom 95 = .ok (.aload 7, 2) := by decide +kernel
theorem dX6_kingdom_97 : decode cX6_kingdom 97 = .ok (.invokevirtual 78, 3) := by decide +kernel
theorem dX6_kingdom_100 : decode cX6_kingdom 100 = .ok (.istore 8, 2) := by decide +kernel
theorem dX6_kingdom_102 : decode cX6_kingdom 102 = .ok (.iload 8, 2) := by decide +kernel
theorem dX6_kingdom_104 : decode cX6_kingdom 104 = .ok (.iconst (-1), 1) := by decide +kernel
theorem dX6_kingdom_105 : decode cX6_kingdom 105 = .ok (.if_icmp .eq 9, 3) := by decide +kernel
theorem dX6_kingdom_108 : decode cX6_kingdom 108 = .ok (.bipush (-100), 2) := by decide +kernel
theorem dX6_kingdom_110 : decode cX6_kingdom 110 = .ok (.iload 8, 2) := by decide +kernel
theorem dX6_kingdom_112 : decode cX6_kingdom 112 = .ok (.isub, 1) := by decide +kernel
theorem dX6_kingdom_113 : decode cX6_kingdom 113 = .ok (.ireturn, 1) := by decide +kernel
theorem dX6_kingdom_114 : decode cX6_kingdom 114 = .ok (.aload_n 0, 1) := by decide +kernel
theorem dX6_kingdom_115 : decode cX6_kingdom 115 = .ok (.getfield 20, 3) := by decide +kernel
theorem dX6_kingdom_118 : decode cX6_kingdom 118 = .ok (.aload 7, 2) := by decide +kernel
theorem dX6_kingdom_120 : decode cX6_kingdom 120 = .ok (.invokevirtual 82, 3) := by decide +kernel
theorem dX6_kingdom_123 : decode cX6_kingdom 123 = .ok (.aload_n 0, 1) := by decide +kernel
theorem dX6_kingdom_124 : decode cX6_kingdom 124 = .ok (.getfield 27, 3) := by decide +kernel
theorem dX6_kingdom_127 : decode cX6_kingdom 127 = .ok (.iconst 0, 1) := by decide +kernel
theorem dX6_kingdom_128 : decode cX6_kingdom 128 = .ok (.putfield 86, 3) := by decide +kernel
theorem dX6_kingdom_131 : decode cX6_kingdom 131 = .ok (.aload_n 0, 1) := by decide +kernel
theorem dX6_kingdom_132 : decode cX6_kingdom 132 = .ok (.getfield 20, 3) := by decide +kernel
theorem dX6_kingdom_135 : decode cX6_kingdom 135 = .ok (.getfield 89, 3) := by decide +kernel
theorem dX6_kingdom_138 : decode cX6_kingdom 138 = .ok (.ireturn, 1) := by decide +kernel
set_option maxRecDepth 20000 in
theorem ggX6_ofDeed_X2_hasDeed : GoodIn wsX6_ofDeed wsX2_hasDeed := goodIn_r _ [7, 8, 9, 10, 11, 21, 22, 23, 24, 25] (by decide +kernel) (by decide +kernel)
set_option maxRecDepth 20000 in
theorem gX6_ofDeed_X2_hasDeed : GoodIn wsX6_ofDeed (wsV RX6 92 RX2 yX2_hasDeed wsX2_hasDeed) := goodIn_app (goodIn_of _ (by decide +kernel)) ggX6_ofDeed_X2_hasDeed
set_option maxRecDepth 20000 in
theorem ggX6_ofDeed_X6_isBelow : GoodIn wsX6_ofDeed wsX6_isBelow := goodIn_r _ [11] (by decide +kernel) (by decide +kernel)
set_option maxRecDepth 20000 in
theorem gX6_ofDeed_X6_isBelow : GoodIn wsX6_ofDeed (va_wsS RX6 58 yX6_isBelow wsX6_isBelow) := goodIn_app (goodIn_of _ (by decide +kernel)) ggX6_ofDeed_X6_isBelow
theorem dX6_ofDeed_0 : decode cX6_ofDeed 0 = .ok (.aload_n 0, 1) := by decide +kernel
theorem dX6_ofDeed_1 : decode cX6_ofDeed 1 = .ok (.getfield 20, 3) := by decide +kernel
theorem dX6_ofDeed_4 : decode cX6_ofDeed 4 = .ok (.iload_n 1, 1) := by decide +kernel
theorem dX6_ofDeed_5 : decode cX6_ofDeed 5 = .ok (.invokevirtual 92, 3) := by decide +kernel
theorem dX6_ofDeed_8 : decode cX6_ofDeed 8 = .ok (.ifCond .ne 5, 3) := by decide +kernel
theorem dX6_ofDeed_11 : decode cX6_ofDeed 11 = .ok (.iconst (-1), 1) := by decide +kernel
theorem dX6_ofDeed_12 : decode cX6_ofDeed 12 = .ok (.ireturn, 1) := by decide +kernel
theorem dX6_ofDeed_13 : decode cX6_ofDeed 13 = .ok (.iload_n 2, 1) := by decide +kernel
theorem dX6_ofDeed_14 : decode cX6_ofDeed 14 = .ok (.iconst 3, 1) := by decide +kernel
theorem dX6_ofDeed_15 : decode cX6_ofDeed 15 = .ok (.invokestatic 58, 3) := by decide +kernel
theorem dX6_ofDeed_18 : decode cX6_ofDeed 18 = .ok (.ifCond .ne 6, 3) := by decide +kernel
theorem dX6_ofDeed_21 : decode cX6_ofDeed 21 = .ok (.bipush (-2), 2) := by decide +kernel
theorem dX6_ofDeed_23 : decode cX6_ofDeed 23 = .ok (.ireturn, 1) := by decide +kernel
theorem dX6_ofDeed_24 : decode cX6_ofDeed 24 = .ok (.aload_n 0, 1) := by decide +kernel
theorem dX6_ofDeed_25 : decode cX6_ofDeed 25 = .ok (.getfield 20, 3) := by decide +kernel
theorem dX6_ofDeed_28 : decode cX6_ofDeed 28 = .ok (.getfield 95, 3) := by decide +kernel
theorem dX6_ofDeed_31 : decode cX6_ofDeed 31 = .ok (.iload_n 1, 1) := by decide +kernel
theorem dX6_ofDeed_32 : decode cX6_ofDeed 32 = .ok (.aaload, 1) := by decide +kernel
theorem dX6_ofDeed_33 : decode cX6_ofDeed 33 = .ok (.iload_n 2, 1) := by decide +kernel
theorem dX6_ofDeed_34 : decode cX6_ofDeed 34 = .ok (.iaload, 1) := by decide +kernel
theorem dX6_ofDeed_35 : decode cX6_ofDeed 35 = .ok (.ireturn, 1) := by decide +kernel
set_option maxRecDepth 20000 in
theorem ggX6_ofSubject_X2_hasSubject : GoodIn wsX6_ofSubject wsX2_hasSubject := goodIn_r _ [8, 9, 10, 11, 12, 44, 45, 46, 47, 48] (by decide +kernel) (by decide +kernel)
set_option maxRecDepth 20000 in
theorem gX6_ofSubject_X2_hasSubject : GoodIn wsX6_ofSubject (wsV RX6 99 RX2 yX2_hasSubject wsX2_hasSubject) := goodIn_app (goodIn_of _ (by decide +kernel)) ggX6_ofSubject_X2_hasSubject
set_option maxRecDepth 20000 in
theorem ggX6_ofSubject_X2_doneBy : GoodIn wsX6_ofSubject wsX2_doneBy := goodIn_r _ [16, 17, 18, 19, 20, 7, 21, 22, 23, 24, 25, 26, 27, 28, 29, 30, 31, 32, 33, 34, 35, 44, 45, 46, 47, 48] (by decide +kernel) (by decide +kernel)
set_option maxRecDepth 20000 in
theorem gX6_ofSubject_X2_doneBy : GoodIn wsX6_ofSubject (wsV RX6 109 RX2 yX2_doneBy wsX2_doneBy) := goodIn_app (goodIn_of _ (by decide +kernel)) ggX6_ofSubject_X2_doneBy
theorem dX6_ofSubject_0 : decode cX6_ofSubject 0 = .ok (.aload_n 0, 1) := by decide +kernel
theorem dX6_ofSubject_1 : decode cX6_ofSubject 1 = .ok (.getfield 20, 3) := by decide +kernel
theorem dX6_ofSubject_4 : decode cX6_ofSubject 4 = .ok (.iload_n 1, 1) := by decide +kernel
theorem dX6_ofSubject_5 : decode cX6_ofSubject 5 = .ok (.invokevirtual 99, 3) := by decide +kernel
theorem dX6_ofSubject_8 : decode cX6_ofSubject 8 = .ok (.ifCond .ne 5, 3) := by decide +kernel
theorem dX6_ofSubject_11 : decode cX6_ofSubject 11 = .ok (.iconst (-1), 1) := by decide +kernel
theorem dX6_ofSubject_12 : decode cX6_ofSubject 12 = .ok (.ireturn, 1) := by decide +kernel
theorem dX6_ofSubject_13 : decode cX6_ofSubject 13 = .ok (.iload_n 2, 1) := by decide +kernel
theorem dX6_ofSubject_14 : decode cX6_ofSubject 14 = .ok (.tableswitch 55 0 2 #[26, 36, 46], 26) := by decide +kernel
theorem dX6_ofSubject_40 : decode cX6_ofSubject 40 = .ok (.aload_n 0, 1) := by decide +kernel
theorem dX6_ofSubject_41 : decode cX6_ofSubject 41 = .ok (.getfield 20, 3) := by decide +kernel
theorem dX6_ofSubject_44 : decode cX6_ofSubject 44 = .ok (.getfield 102, 3) := by decide +kernel
theorem dX6_ofSubject_47 : decode cX6_ofSubject 47 = .ok (.iload_n 1, 1) := by decide +kernel
theorem dX6_ofSubject_48 : decode cX6_ofSubject 48 = .ok (.iaload, 1) := by decide +kernel
theorem dX6_ofSubject_49 : decode cX6_ofSubject 49 = .ok (.ireturn, 1) := by decide +kernel
theorem dX6_ofSubject_50 : decode cX6_ofSubject 50 = .ok (.aload_n 0, 1) := by decide +kernel
theorem dX6_ofSubject_51 : decode cX6_ofSubject 51 = .ok (.getfield 20, 3) := by decide +kernel
theorem dX6_ofSubject_54 : decode cX6_ofSubject 54 = .ok (.getfield 106, 3) := by decide +kernel
theorem dX6_ofSubject_57 : decode cX6_ofSubject 57 = .ok (.iload_n 1, 1) := by decide +kernel
theorem dX6_ofSubject_58 : decode cX6_ofSubject 58 = .ok (.iaload, 1) := by decide +kernel
theorem dX6_ofSubject_59 : decode cX6_ofSubject 59 = .ok (.ireturn, 1) := by decide +kernel
theorem dX6_ofSubject_60 : decode cX6_ofSubject 60 = .ok (.aload_n 0, 1) := by decide +kernel
theorem dX6_ofSubject_61 : decode cX6_ofSubject 61 = .ok (.getfield 20, 3) := by decide +kernel
theorem dX6_ofSubject_64 : decode cX6_ofSubject 64 = .ok (.iload_n 1, 1) := by decide +kernel
theorem dX6_ofSubject_65 : decode cX6_ofSubject 65 = .ok (.invokevirtual 109, 3) := by decide +kernel
theorem dX6_ofSubject_68 : decode cX6_ofSubject 68 = .ok (.ireturn, 1) := by decide +kernel
theorem dX6_ofSubject_69 : decode cX6_ofSubject 69 = .ok (.bipush (-2), 2) := by decide +kernel
theorem dX6_ofSubject_71 : decode cX6_ofSubject 71 = .ok (.ireturn, 1) := by decide +kernel
set_option maxRecDepth 20000 in
theorem ggX6_fear_X2_hasSubject : GoodIn wsX6_fear wsX2_hasSubject := goodIn_r _ [6, 7, 8, 9, 10, 30, 31, 32, 33, 34] (by decide +kernel) (by decide +kernel)
set_option maxRecDepth 20000 in
theorem gX6_fear_X2_hasSubject : GoodIn wsX6_fear (wsV RX6 99 RX2 yX2_hasSubject wsX2_hasSubject) := goodIn_app (goodIn_of _ (by decide +kernel)) ggX6_fear_X2_hasSubject
set_option maxRecDepth 20000 in
theorem ggX6_fear_X2_hasDeed : GoodIn wsX6_fear wsX2_hasDeed := goodIn_r _ [14, 15, 8, 9, 10, 30, 31, 32, 33, 34] (by decide +kernel) (by decide +kernel)
set_option maxRecDepth 20000 in
theorem gX6_fear_X2_hasDeed : GoodIn wsX6_fear (wsV RX6 92 RX2 yX2_hasDeed wsX2_hasDeed) := goodIn_app (goodIn_of _ (by decide +kernel)) ggX6_fear_X2_hasDeed
set_option maxRecDepth 20000 in
theorem ggX6_fear_X2_fearOf : GoodIn wsX6_fear wsX2_fearOf := goodIn_r _ [19, 20, 21, 30, 31, 32, 33, 34] (by decide +kernel) (by decide +kernel)
set_option maxRecDepth 20000 in
theorem gX6_fear_X2_fearOf : GoodIn wsX6_fear (wsV RX6 112 RX2 yX2_fearOf wsX2_fearOf) := goodIn_app (goodIn_of _ (by decide +kernel)) ggX6_fear_X2_fearOf
theorem dX6_fear_0 : decode cX6_fear 0 = .ok (.aload_n 0, 1) := by decide +kernel
theorem dX6_fear_1 : decode cX6_fear 1 = .ok (.getfield 20, 3) := by decide +kernel
theorem dX6_fear_4 : decode cX6_fear 4 = .ok (.iload_n 1, 1) := by decide +kernel
theorem dX6_fear_5 : decode cX6_fear 5 = .ok (.invokevirtual 99, 3) := by decide +kernel
theorem dX6_fear_8 : decode cX6_fear 8 = .ok (.ifCond .eq 14, 3) := by decide +kernel
theorem dX6_fear_11 : decode cX6_fear 11 = .ok (.aload_n 0, 1) := by decide +kernel
theorem dX6_fear_12 : decode cX6_fear 12 = .ok (.getfield 20, 3) := by decide +kernel
theorem dX6_fear_15 : decode cX6_fear 15 = .ok (.iload_n 2, 1) := by decide +kernel
theorem dX6_fear_16 : decode cX6_fear 16 = .ok (.invokevirtual 92, 3) := by decide +kernel
theorem dX6_fear_19 : decode cX6_fear 19 = .ok (.ifCond .ne 5, 3) := by decide +kernel
theorem dX6_fear_22 : decode cX6_fear 22 = .ok (.iconst (-1), 1) := by decide +kernel
theorem dX6_fear_23 : decode cX6_fear 23 = .ok (.ireturn, 1) := by decide +kernel
theorem dX6_fear_24 : decode cX6_fear 24 = .ok (.aload_n 0, 1) := by decide +kernel
theorem dX6_fear_25 : decode cX6_fear 25 = .ok (.getfield 20, 3) := by decide +kernel
theorem dX6_fear_28 : decode cX6_fear 28 = .ok (.iload_n 1, 1) := by decide +kernel
theorem dX6_fear_29 : decode cX6_fear 29 = .ok (.iload_n 2, 1) := by decide +kernel
theorem dX6_fear_30 : decode cX6_fear 30 = .ok (.invokevirtual 112, 3) := by decide +kernel
theorem dX6_fear_33 : decode cX6_fear 33 = .ok (.ireturn, 1) := by decide +kernel
set_option maxRecDepth 20000 in
theorem ggX6_alter_X2_hasDeed : GoodIn wsX6_alter wsX2_hasDeed := goodIn_r _ [7, 8, 9, 10, 11, 21, 22, 23, 24, 25] (by decide +kernel) (by decide +kernel)
set_option maxRecDepth 20000 in
theorem gX6_alter_X2_hasDeed : GoodIn wsX6_alter (wsV RX6 92 RX2 yX2_hasDeed wsX2_hasDeed) := goodIn_app (goodIn_of _ (by decide +kernel)) ggX6_alter_X2_hasDeed
set_option maxRecDepth 20000 in
theorem ggX6_alter_X6_isBelow : GoodIn wsX6_alter wsX6_isBelow := goodIn_r _ [11] (by decide +kernel) (by decide +kernel)
set_option maxRecDepth 20000 in
theorem gX6_alter_X6_isBelow : GoodIn wsX6_alter (va_wsS RX6 58 yX6_isBelow wsX6_isBelow) := goodIn_app (goodIn_of _ (by decide +kernel)) ggX6_alter_X6_isBelow
theorem dX6_alter_0 : decode cX6_alter 0 = .ok (.aload_n 0, 1) := by decide +kernel
theorem dX6_alter_1 : decode cX6_alter 1 = .ok (.getfield 20, 3) := by decide +kernel
theorem dX6_alter_4 : decode cX6_alter 4 = .ok (.iload_n 1, 1) := by decide +kernel
theorem dX6_alter_5 : decode cX6_alter 5 = .ok (.invokevirtual 92, 3) := by decide +kernel
theorem dX6_alter_8 : decode cX6_alter 8 = .ok (.ifCond .ne 5, 3) := by decide +kernel
theorem dX6_alter_11 : decode cX6_alter 11 = .ok (.iconst (-1), 1) := by decide +kernel
theorem dX6_alter_12 : decode cX6_alter 12 = .ok (.ireturn, 1) := by decide +kernel
theorem dX6_alter_13 : decode cX6_alter 13 = .ok (.iload_n 2, 1) := by decide +kernel
theorem dX6_alter_14 : decode cX6_alter 14 = .ok (.iconst 3, 1) := by decide +kernel
theorem dX6_alter_15 : decode cX6_alter 15 = .ok (.invokestatic 58, 3) := by decide +kernel
theorem dX6_alter_18 : decode cX6_alter 18 = .ok (.ifCond .eq 12, 3) := by decide +kernel
theorem dX6_alter_21 : decode cX6_alter 21 = .ok (.iload_n 3, 1) := by decide +kernel
theorem dX6_alter_22 : decode cX6_alter 22 = .ok (.bipush 10, 2) := by decide +kernel
theorem dX6_alter_24 : decode cX6_alter 24 = .ok (.invokestatic 58, 3) := by decide +kernel
theorem dX6_alter_27 : decode cX6_alter 27 = .ok (.ifCond .ne 6, 3) := by decide +kernel
theorem dX6_alter_30 : decode cX6_alter 30 = .ok (.bipush (-2), 2) := by decide +kernel
theorem dX6_alter_32 : decode cX6_alter 32 = .ok (.ireturn, 1) := by decide +kernel
theorem dX6_alter_33 : decode cX6_alter 33 = .ok (.aload_n 0, 1) := by decide +kernel
theorem dX6_alter_34 : decode cX6_alter 34 = .ok (.getfield 20, 3) := by decide +kernel
theorem dX6_alter_37 : decode cX6_alter 37 = .ok (.getfield 95, 3) := by decide +kernel
theorem dX6_alter_40 : decode cX6_alter 40 = .ok (.iload_n 1, 1) := by decide +kernel
theorem dX6_alter_41 : decode cX6_alter 41 = .ok (.aaload, 1) := by decide +kernel
theorem dX6_alter_42 : decode cX6_alter 42 = .ok (.iload_n 2, 1) := by decide +kernel
theorem dX6_alter_43 : decode cX6_alter 43 = .ok (.iaload, 1) := by decide +kernel
theorem dX6_alter_44 : decode cX6_alter 44 = .ok (.istore 4, 2) := by decide +kernel
theorem dX6_alter_46 : decode cX6_alter 46 = .ok (.aload_n 0, 1) := by decide +kernel
theorem dX6_alter_47 : decode cX6_alter 47 = .ok (.getfield 20, 3) := by decide +kernel
theorem dX6_alter_50 : decode cX6_alter 50 = .ok (.getfield 95, 3) := by decide +kernel
theorem dX6_alter_53 : decode cX6_alter 53 = .ok (.iload_n 1, 1) := by decide +kernel
theorem dX6_alter_54 : decode cX6_alter 54 = .ok (.aaload, 1) := by decide +kernel
theorem dX6_alter_55 : decode cX6_alter 55 = .ok (.iload_n 2, 1) := by decide +kernel
theorem dX6_alter_56 : decode cX6_alter 56 = .ok (.iload_n 3, 1) := by decide +kernel
theorem dX6_alter_57 : decode cX6_alter 57 = .ok (.iastore, 1) := by decide +kernel
theorem dX6_alter_58 : decode cX6_alter 58 = .ok (.iload 4, 2) := by decide +kernel
theorem dX6_alter_60 : decode cX6_alter 60 = .ok (.ireturn, 1) := by decide +kernel
set_option maxRecDepth 20000 in
theorem ggX6_grant_X2_hasSubject : GoodIn wsX6_grant wsX2_hasSubject := goodIn_r _ [7, 8, 9, 10, 11, 21, 22, 23, 24, 25] (by decide +kernel) (by decide +kernel)
set_option maxRecDepth 20000 in
theorem gX6_grant_X2_hasSubject : GoodIn wsX6_grant (wsV RX6 99 RX2 yX2_hasSubject wsX2_hasSubject) := goodIn_app (goodIn_of _ (by decide +kernel)) ggX6_grant_X2_hasSubject
set_option maxRecDepth 20000 in
theorem ggX6_grant_X6_isBelow : GoodIn wsX6_grant wsX6_isBelow := goodIn_r _ [11] (by decide +kernel) (by decide +kernel)
set_option maxRecDepth 20000 in
theorem gX6_grant_X6_isBelow : GoodIn wsX6_grant (va_wsS RX6 58 yX6_isBelow wsX6_isBelow) := goodIn_app (goodIn_of _ (by decide +kernel)) ggX6_grant_X6_isBelow
theorem dX6_grant_0 : decode cX6_grant 0 = .ok (.aload_n 0, 1) := by decide +kernel
theorem dX6_grant_1 : decode cX6_grant 1 = .ok (.getfield 20, 3) := by decide +kernel
theorem dX6_grant_4 : decode cX6_grant 4 = .ok (.iload_n 1, 1) := by decide +kernel
theorem dX6_grant_5 : decode cX6_grant 5 = .ok (.invokevirtual 99, 3) := by decide +kernel
theorem dX6_grant_8 : decode cX6_grant 8 = .ok (.ifCond .ne 5, 3) := by decide +kernel
theorem dX6_grant_11 : decode cX6_grant 11 = .ok (.iconst (-1), 1) := by decide +kernel
theorem dX6_grant_12 : decode cX6_grant 12 = .ok (.ireturn, 1) := by decide +kernel
theorem dX6_grant_13 : decode cX6_grant 13 = .ok (.iload_n 2, 1) := by decide +kernel
theorem dX6_grant_14 : decode cX6_grant 14 = .ok (.iconst 4, 1) := by decide +kernel
theorem dX6_grant_15 : decode cX6_grant 15 = .ok (.invokestatic 58, 3) := by decide +kernel
theorem dX6_grant_18 : decode cX6_grant 18 = .ok (.ifCond .ne 6, 3) := by decide +kernel
theorem dX6_grant_21 : decode cX6_grant 21 = .ok (.bipush (-2), 2) := by decide +kernel
theorem dX6_grant_23 : decode cX6_grant 23 = .ok (.ireturn, 1) := by decide +kernel
theorem dX6_grant_24 : decode cX6_grant 24 = .ok (.aload_n 0, 1) := by decide +kernel
theorem dX6_grant_25 : decode cX6_grant 25 = .ok (.getfield 20, 3) := by decide +kernel
theorem dX6_grant_28 : decode cX6_grant 28 = .ok (.getfield 106, 3) := by decide +kernel
theorem dX6_grant_31 : decode cX6_grant 31 = .ok (.iload_n 1, 1) := by decide +kernel
theorem dX6_grant_32 : decode cX6_grant 32 = .ok (.iaload, 1) := by decide +kernel
theorem dX6_grant_33 : decode cX6_grant 33 = .ok (.istore_n 3, 1) := by decide +kernel
theorem dX6_grant_34 : decode cX6_grant 34 = .ok (.aload_n 0, 1) := by decide +kernel
theorem dX6_grant_35 : decode cX6_grant 35 = .ok (.getfield 20, 3) := by decide +kernel
theorem dX6_grant_38 : decode cX6_grant 38 = .ok (.getfield 106, 3) := by decide +kernel
theorem dX6_grant_41 : decode cX6_grant 41 = .ok (.iload_n 1, 1) := by decide +kernel
theorem dX6_grant_42 : decode cX6_grant 42 = .ok (.iload_n 2, 1) := by decide +kernel
theorem dX6_grant_43 : decode cX6_grant 43 = .ok (.iastore, 1) := by decide +kernel
theorem dX6_grant_44 : decode cX6_grant 44 = .ok (.iload_n 3, 1) := by decide +kernel
theorem dX6_grant_45 : decode cX6_grant 45 = .ok (.ireturn, 1) := by decide +kernel
set_option maxRecDepth 20000 in
theorem ggX6_year_X6_isSheet : GoodIn wsX6_year wsX6_isSheet := goodIn_r _ [8, 9, 10, 7, 11] (by decide +kernel) (by decide +kernel)
set_option maxRecDepth 20000 in
theorem gX6_year_X6_isSheet : GoodIn wsX6_year (va_wsS RX6 54 yX6_isSheet wsX6_isSheet) := goodIn_app (goodIn_of _ (by decide +kernel)) ggX6_year_X6_isSheet
set_option maxRecDepth 20000 in
theorem ggX6_year_X6_isBelow : GoodIn wsX6_year wsX6_isBelow := goodIn_r _ [11] (by decide +kernel) (by decide +kernel)
set_option maxRecDepth 20000 in
theorem gX6_year_X6_isBelow : GoodIn wsX6_year (va_wsS RX6 58 yX6_isBelow wsX6_isBelow) := goodIn_app (goodIn_of _ (by decide +kernel)) ggX6_year_X6_isBelow
set_option maxRecDepth 20000 in
theorem ggX6_year_X6_isAskedOfYears : GoodIn wsX6_year wsX6_isAskedOfYears := goodIn_r _ [14, 9, 10, 7, 11] (by decide +kernel) (by decide +kernel)
set_option maxRecDepth 20000 in
theorem gX6_year_X6_isAskedOfYears : GoodIn wsX6_year (va_wsS RX6 116 yX6_isAskedOfYears wsX6_isAskedOfYears) := goodIn_app (goodIn_of _ (by decide +kernel)) ggX6_year_X6_isAskedOfYears
set_option maxRecDepth 20000 in
theorem ggX6_year_X2_isThere : GoodIn wsX6_year wsX2_isThere := goodIn_r _ [19, 20, 103, 104, 105, 106, 107] (by decide +kernel) (by decide +kernel)
set_option maxRecDepth 20000 in
theorem gX6_year_X2_isThere : GoodIn wsX6_year (wsV RX6 119 RX2 yX2_isThere wsX2_isThere) := goodIn_app (goodIn_of _ (by decide +kernel)) ggX6_year_X2_isThere
set_option maxRecDepth 20000 in
theorem ggX6_year_X6_faultAs : GoodIn wsX6_year wsX6_faultAs := goodIn_r _ [23, 24, 25, 108, 109, 110, 111] (by decide +kernel) (by decide +kernel)
set_option maxRecDepth 20000 in
theorem gX6_year_X6_faultAs : GoodIn wsX6_year (va_wsS RX6 62 yX6_faultAs wsX6_faultAs) := goodIn_app (goodIn_of _ (by decide +kernel)) ggX6_year_X6_faultAs
set_option maxRecDepth 20000 in
theorem ggX6_year_X6_failed : GoodIn wsX6_year wsX6_failed := goodIn_r _ [29, 1, 95, 96, 97, 98, 99, 100, 101, 102] (by decide +kernel) (by decide +kernel)
set_option maxRecDepth 20000 in
theorem gX6_year_X6_failed : GoodIn wsX6_year (wsV RX6 66 RX6 yX6_failed wsX6_failed) := goodIn_app (goodIn_of _ (by decide +kernel)) ggX6_year_X6_failed
set_option maxRecDepth 20000 in
theorem ggX6_year_X3_spans : GoodIn wsX6_year wsX3_spans := goodIn_r _ [34, 35, 108, 109, 110, 111] (by decide +kernel) (by decide +kernel)
set_option maxRecDepth 20000 in
theorem gX6_year_X3_spans : GoodIn wsX6_year (wsV RX6 70 RX3 yX3_spans wsX3_spans) := goodIn_app (goodIn_of _ (by decide +kernel)) ggX6_year_X3_spans
set_option maxRecDepth 20000 in
theorem ggX6_year_X6_areTriples : GoodIn wsX6_year wsX6_areTriples := goodIn_r _ [39, 2, 40, 41, 42, 43, 18, 44, 20, 10, 7, 11, 45, 46, 47, 48, 49, 9, 95, 96, 97, 98, 99, 100, 101, 102, 108, 109, 110, 111, 103, 104, 105, 106, 107] (by decide +kernel) (by decide +kernel)
set_option maxRecDepth 20000 in
theorem gX6_year_X6_areTriples : GoodIn wsX6_year (wsV RX6 123 RX6 yX6_areTriples wsX6_areTriples) := goodIn_app (goodIn_of _ (by decide +kernel)) ggX6_year_X6_areTriples
set_option maxRecDepth 20000 in
theorem ggX6_year_X5_live : GoodIn wsX6_year wsX5_live := goodIn_r _ [54, 55, 56, 57, 58, 59, 60, 61, 62, 63, 64, 53, 65, 66, 67, 68, 18, 69, 70, 71, 72, 73, 74, 75, 76, 77, 78, 79, 80, 81, 82, 83, 84, 85, 112, 113, 114, 115, 103, 104, 105, 106, 107, 108, 109, 110, 111] (by decide +kernel) (by decide +kernel)
set_option maxRecDepth 20000 in
theorem gX6_year_X5_live : GoodIn wsX6_year (wsV RX6 127 RX5 yX5_live wsX5_live) := goodIn_app (goodIn_of _ (by decide +kernel)) ggX6_year_X5_live
set_option maxRecDepth 20000 in
theorem ggX6_year_X6_ofYear : GoodIn wsX6_year wsX6_ofYear := goodIn_r _ [89, 4, 90, 91, 92, 93, 2, 94, 41, 42, 43, 18, 44, 20, 10, 7, 11, 95, 96, 97, 98, 99, 100, 101, 102, 112, 113, 114, 115, 103, 104, 105, 106, 107] (by decide +kernel) (by decide +kernel)
set_option maxRecDepth 20000 in
theorem gX6_year_X6_ofYear : GoodIn wsX6_year (wsV RX6 131 RX6 yX6_ofYear wsX6_ofYear) := goodIn_app (goodIn_of _ (by decide +kernel)) ggX6_year_X6_ofYear
theorem dX6_year_0 : decode cX6_year 0 = .ok (.aload_n 0, 1) := by decide +kernel
theorem dX6_year_1 : decode cX6_year 1 = .ok (.iconst 0, 1) := by decide +kernel
theorem dX6_year_2 : decode cX6_year 2 = .ok (.putfield 50, 3) := by decide +kernel
theorem dX6_year_5 : decode cX6_year 5 = .ok (.iload_n 1, 1) := by decide +kernel
theorem dX6_year_6 : decode cX6_year 6 = .ok (.invokestatic 54, 3) := by decide +kernel
theorem dX6_year_9 : decode cX6_year 9 = .ok (.ifCond .ne 5, 3) := by decide +kernel
theorem dX6_year_12 : decode cX6_year 12 = .ok (.iconst (-1), 1) := by decide +kernel
theorem dX6_year_13 : decode cX6_year 13 = .ok (.ireturn, 1) := by decide +kernel
theorem dX6_year_14 : decode cX6_year 14 = .ok (.iload_n 2, 1) := by decide +kernel
theorem dX6_year_15 : decode cX6_year 15 = .ok (.iconst 3, 1) := by decide +kernel
theorem dX6_year_16 : decode cX6_year 16 = .ok (.invokestatic 58, 3) := by decide +kernel
theorem dX6_year_19 : decode cX6_year 19 = .ok (.ifCond .eq 21, 3) := by decide +kernel
theorem dX6_year_22 : decode cX6_year 22 = .ok (.iload 4, 2) := by decide +kernel
theorem dX6_year_24 : decode cX6_year 24 = .ok (.bipush 21, 2) := by decide +kernel
theorem dX6_year_26 : decode cX6_year 26 = .ok (.invokestatic 58, 3) := by decide +kernel
theorem dX6_year_29 : decode cX6_year 29 = .ok (.ifCond .eq 11, 3) := by decide +kernel
theorem dX6_year_32 : decode cX6_year 32 = .ok (.iload 5, 2) := by decide +kernel
theorem dX6_year_34 : decode cX6_year 34 = .ok (.invokestatic 116, 3) := by decide +kernel
theorem dX6_year_37 : decode cX6_year 37 = .ok (.ifCond .ne 6, 3) := by decide +kernel
theorem dX6_year_40 : decode cX6_year 40 = .ok (.bipush (-2), 2) := by decide +kernel
theorem dX6_year_42 : decode cX6_year 42 = .ok (.ireturn, 1) := by decide +kernel
theorem dX6_year_43 : decode cX6_year 43 = .ok (.aload_n 0, 1) := by decide +kernel
theorem dX6_year_44 : decode cX6_year 44 = .ok (.getfield 20, 3) := by decide +kernel
theorem dX6_year_47 : decode cX6_year 47 = .ok (.invokevirtual 119, 3) := by decide +kernel
theorem dX6_year_50 : decode cX6_year 50 = .ok (.ifCond .ne 6, 3) := by decide +kernel
theorem dX6_year_53 : decode cX6_year 53 = .ok (.bipush (-3), 2) := by decide +kernel
theorem dX6_year_55 : decode cX6_year 55 = .ok (.ireturn, 1) := by decide +kernel
theorem dX6_year_56 : decode cX6_year 56 = .ok (.aload_n 0, 1) := by decide +kernel
theorem dX6_year_57 : decode cX6_year 57 = .ok (.getfield 13, 3) := by decide +kernel
theorem dX6_year_60 : decode cX6_year 60 = .ok (.iload_n 1, 1) := by decide +kernel
theorem dX6_year_61 : decode cX6_year 61 = .ok (.aaload, 1) := by decide +kernel
theorem dX6_year_62 : decode cX6_year 62 = .ok (.astore 6, 2) := by decide +kernel
theorem dX6_year_64 : decode cX6_year 64 = .ok (.aload 6, 2) := by decide +kernel
theorem dX6_year_66 : decode cX6_year 66 = .ok (.iload_n 2, 1) := by decide +kernel
theorem dX6_year_67 : decode cX6_year 67 = .ok (.invokestatic 62, 3) := by decide +kernel
theorem dX6_year_70 : decode cX6_year 70 = .ok (.istore 7, 2) := by decide +kernel
theorem dX6_year_72 : decode cX6_year 72 = .ok (.iload 7, 2) := by decide +kernel
theorem dX6_year_74 : decode cX6_year 74 = .ok (.ifCond .eq 10, 3) := by decide +kernel
theorem dX6_year_77 : decode cX6_year 77 = .ok (.aload_n 0, 1) := by decide +kernel
theorem dX6_year_78 : decode cX6_year 78 = .ok (.iload 7, 2) := by decide +kernel
theorem dX6_year_80 : decode cX6_year 80 = .ok (.invokevirtual 66, 3) := by decide +kernel
theorem dX6_year_83 : decode cX6_year 83 = .ok (.ireturn, 1) := by decide +kernel
theorem dX6_year_84 : decode cX6_year 84 = .ok (.aload 6, 2) := by decide +kernel
theorem dX6_year_86 : decode cX6_year 86 = .ok (.iload_n 3, 1) := by decide +kernel
theorem dX6_year_87 : decode cX6_year 87 = .ok (.iconst 3, 1) := by decide +kernel
theorem dX6_year_88 : decode cX6_year 88 = .ok (.iload 4, 2) := by decide +kernel
theorem dX6_year_90 : decode cX6_year 90 = .ok (.imul, 1) := by decide +kernel
theorem dX6_year_91 : decode cX6_year 91 = .ok (.invokevirtual 70, 3) := by decide +kernel
theorem dX6_year_94 : decode cX6_year 94 = .ok (.ifCond .ne 9, 3) := by decide +kernel
theorem dX6_year_97 : decode cX6_year 97 = .ok (.aload_n 0, 1) := by decide +kernel
theorem dX6_year_98 : decode cX6_year 98 = .ok (.iconst 3, 1) := by decide +kernel
theorem dX6_year_99 : decode cX6_year 99 = .ok (.invokevirtual 66, 3) := by decide +kernel
theorem dX6_year_102 : decode cX6_year 102 = .ok (.ireturn, 1) := by decide +kernel
theorem dX6_year_103 : decode cX6_year 103 = .ok (.aload_n 0, 1) := by decide +kernel
theorem dX6_year_104 : decode cX6_year 104 = .ok (.aload 6, 2) := by decide +kernel
theorem dX6_year_106 : decode cX6_year 106 = .ok (.iload_n 3, 1) := by decide +kernel
theorem dX6_year_107 : decode cX6_year 107 = .ok (.iload 4, 2) := by decide +kernel
theorem dX6_year_109 : decode cX6_year 109 = .ok (.invokevirtual 123, 3) := by decide +kernel
theorem dX6_year_112 : decode cX6_year 112 = .ok (.ifCond .ne 5, 3) := by decide +kernel
theorem dX6_year_115 : decode cX6_year 115 = .ok (.iconst (-1), 1) := by decide +kernel
theorem dX6_year_116 : decode cX6_year 116 = .ok (.ireturn, 1) := by decide +kernel
theorem dX6_year_117 : decode cX6_year 117 = .ok (.aload_n 0, 1) := by decide +kernel
theorem dX6_year_118 : decode cX6_year 118 = .ok (.getfield 41, 3) := by decide +kernel
theorem dX6_year_121 : decode cX6_year 121 = .ok (.aload_n 0, 1) := by decide +kernel
theorem dX6_year_122 : decode cX6_year 122 = .ok (.getfield 20, 3) := by decide +kernel
theorem dX6_year_125 : decode cX6_year 125 = .ok (.aload 6, 2) := by decide +kernel
theorem dX6_year_127 : decode cX6_year 127 = .ok (.iload_n 3, 1) := by decide +kernel
theorem dX6_year_128 : decode cX6_year 128 = .ok (.iload 4, 2) := by decide +kernel
theorem dX6_year_130 : decode cX6_year 130 = .ok (.invokevirtual 127, 3) := by decide +kernel
theorem dX6_year_133 : decode cX6_year 133 = .ok (.aload_n 0, 1) := by decide +kernel
theorem dX6_year_134 : decode cX6_year 134 = .ok (.iload 5, 2) := by decide +kernel
theorem dX6_year_136 : decode cX6_year 136 = .ok (.invokevirtual 131, 3) := by decide +kernel
theorem dX6_year_139 : decode cX6_year 139 = .ok (.ireturn, 1) := by decide +kernel
set_option maxRecDepth 20000 in
theorem ggX6_isAskedOfYears_X6_isBelow : GoodIn wsX6_isAskedOfYears wsX6_isBelow := goodIn_r _ [4] (by decide +kernel) (by decide +kernel)
set_option maxRecDepth 20000 in
theorem gX6_isAskedOfYears_X6_isBelow : GoodIn wsX6_isAskedOfYears (va_wsS RX6 58 yX6_isBelow wsX6_isBelow) := goodIn_app (goodIn_of _ (by decide +kernel)) ggX6_isAskedOfYears_X6_isBelow
theorem dX6_isAskedOfYears_0 : decode cX6_isAskedOfYears 0 = .ok (.iload_n 0, 1) := by decide +kernel
theorem dX6_isAskedOfYears_1 : decode cX6_isAskedOfYears 1 = .ok (.iconst 3, 1) := by decide +kernel
theorem dX6_isAskedOfYears_2 : decode cX6_isAskedOfYears 2 = .ok (.invokestatic 58, 3) := by decide +kernel
theorem dX6_isAskedOfYears_5 : decode cX6_isAskedOfYears 5 = .ok (.ifCond .ne 15, 3) := by decide +kernel
theorem dX6_isAskedOfYears_8 : decode cX6_isAskedOfYears 8 = .ok (.iload_n 0, 1) := by decide +kernel
theorem dX6_isAskedOfYears_9 : decode cX6_isAskedOfYears 9 = .ok (.bipush 10, 2) := by decide +kernel
theorem dX6_isAskedOfYears_11 : decode cX6_isAskedOfYears 11 = .ok (.if_icmp .lt 13, 3) := by decide +kernel
theorem dX6_isAskedOfYears_14 : decode cX6_isAskedOfYears 14 = .ok (.iload_n 0, 1) := by decide +kernel
theorem dX6_isAskedOfYears_15 : decode cX6_isAskedOfYears 15 = .ok (.bipush 14, 2) := by decide +kernel
theorem dX6_isAskedOfYears_17 : decode cX6_isAskedOfYears 17 = .ok (.if_icmp .ge 7, 3) := by decide +kernel
theorem dX6_isAskedOfYears_20 : decode cX6_isAskedOfYears 20 = .ok (.iconst 1, 1) := by decide +kernel
theorem dX6_isAskedOfYears_21 : decode cX6_isAskedOfYears 21 = .ok (.goto 4, 3) := by decide +kernel
theorem dX6_isAskedOfYears_24 : decode cX6_isAskedOfYears 24 = .ok (.iconst 0, 1) := by decide +kernel
theorem dX6_isAskedOfYears_25 : decode cX6_isAskedOfYears 25 = .ok (.ireturn, 1) := by decide +kernel
set_option maxRecDepth 20000 in
theorem ggX6_areTriples_X2_hasSubject : GoodIn wsX6_areTriples wsX2_hasSubject := goodIn_r _ [7, 8, 9, 10, 11, 30, 31, 32, 33, 34] (by decide +kernel) (by decide +kernel)
set_option maxRecDepth 20000 in
theorem gX6_areTriples_X2_hasSubject : GoodIn wsX6_areTriples (wsV RX6 99 RX2 yX2_hasSubject wsX2_hasSubject) := goodIn_app (goodIn_of _ (by decide +kernel)) ggX6_areTriples_X2_hasSubject
set_option maxRecDepth 20000 in
theorem ggX6_areTriples_X2_hasDeed : GoodIn wsX6_areTriples wsX2_hasDeed := goodIn_r _ [15, 16, 9, 10, 11, 30, 31, 32, 33, 34] (by decide +kernel) (by decide +kernel)
set_option maxRecDepth 20000 in
theorem gX6_areTriples_X2_hasDeed : GoodIn wsX6_areTriples (wsV RX6 92 RX2 yX2_hasDeed wsX2_hasDeed) := goodIn_app (goodIn_of _ (by decide +kernel)) ggX6_areTriples_X2_hasDeed
set_option maxRecDepth 20000 in
theorem ggX6_areTriples_X6_isBelow : GoodIn wsX6_areTriples wsX6_isBelow := goodIn_r _ [11] (by decide +kernel) (by decide +kernel)
set_option maxRecDepth 20000 in
theorem gX6_areTriples_X6_isBelow : GoodIn wsX6_areTriples (va_wsS RX6 58 yX6_isBelow wsX6_isBelow) := goodIn_app (goodIn_of _ (by decide +kernel)) ggX6_areTriples_X6_isBelow
theorem dX6_areTriples_0 : decode cX6_areTriples 0 = .ok (.iconst 0, 1) := by decide +kernel
theorem dX6_areTriples_1 : decode cX6_areTriples 1 = .ok (.istore 4, 2) := by decide +kernel
theorem dX6_areTriples_3 : decode cX6_areTriples 3 = .ok (.iload 4, 2) := by decide +kernel
theorem dX6_areTriples_5 : decode cX6_areTriples 5 = .ok (.iload_n 3, 1) := by decide +kernel
theorem dX6_areTriples_6 : decode cX6_areTriples 6 = .ok (.if_icmp .ge 71, 3) := by decide +kernel
theorem dX6_areTriples_9 : decode cX6_areTriples 9 = .ok (.iload_n 2, 1) := by decide +kernel
theorem dX6_areTriples_10 : decode cX6_areTriples 10 = .ok (.iconst 3, 1) := by decide +kernel
theorem dX6_areTriples_11 : decode cX6_areTriples 11 = .ok (.iload 4, 2) := by decide +kernel
theorem dX6_areTriples_13 : decode cX6_areTriples 13 = .ok (.imul, 1) := by decide +kernel
theorem dX6_areTriples_14 : decode cX6_areTriples 14 = .ok (.iadd, 1) := by decide +kernel
theorem dX6_areTriples_15 : decode cX6_areTriples 15 = .ok (.istore 5, 2) := by decide +kernel
theorem dX6_areTriples_17 : decode cX6_areTriples 17 = .ok (.aload_n 0, 1) := by decide +kernel
theorem dX6_areTriples_18 : decode cX6_areTriples 18 = .ok (.getfield 20, 3) := by decide +kernel
theorem dX6_areTriples_21 : decode cX6_areTriples 21 = .ok (.aload_n 1, 1) := by decide +kernel
theorem dX6_areTriples_22 : decode cX6_areTriples 22 = .ok (.getfield 134, 3) := by decide +kernel
theorem dX6_areTriples_25 : decode cX6_areTriples 25 = .ok (.iload 5, 2) := by decide +kernel
theorem dX6_areTriples_27 : decode cX6_areTriples 27 = .ok (.iaload, 1) := by decide +kernel
theorem dX6_areTriples_28 : decode cX6_areTriples 28 = .ok (.invokevirtual 99, 3) := by decide +kernel
theorem dX6_areTriples_31 : decode cX6_areTriples 31 = .ok (.ifCond .eq 38, 3) := by decide +kernel
theorem dX6_areTriples_34 : decode cX6_areTriples 34 = .ok (.aload_n 0, 1) := by decide +kernel
theorem dX6_areTriples_35 : decode cX6_areTriples 35 = .ok (.getfield 20, 3) := by decide +kernel
theorem dX6_areTriples_38 : decode cX6_areTriples 38 = .ok (.aload_n 1, 1) := by decide +kernel
theorem dX6_areTriples_39 : decode cX6_areTriples 39 = .ok (.getfield 134, 3) := by decide +kernel
theorem dX6_areTriples_42 : decode cX6_areTriples 42 = .ok (.iload 5, 2) := by decide +kernel
theorem dX6_areTriples_44 : decode cX6_areTriples 44 = .ok (.iconst 1, 1) := by decide +kernel
theorem dX6_areTriples_45 : decode cX6_areTriples 45 = .ok (.iadd, 1) := by decide +kernel
theorem dX6_areTriples_46 : decode cX6_areTriples 46 = .ok (.iaload, 1) := by decide +kernel
theorem dX6_areTriples_47 : decode cX6_areTriples 47 = .ok (.invokevirtual 92, 3) := by decide +kernel
theorem dX6_areTriples_50 : decode cX6_areTriples 50 = .ok (.ifCond .eq 19, 3) := by decide +kernel
theorem dX6_areTriples_53 : decode cX6_areTriples 53 = .ok (.aload_n 1, 1) := by decide +kernel
theorem dX6_areTriples_54 : decode cX6_areTriples 54 = .ok (.getfield 134, 3) := by decide +kernel
theorem dX6_areTriples_57 : decode cX6_areTriples 57 = .ok (.iload 5, 2) := by decide +kernel
theorem dX6_areTriples_59 : decode cX6_areTriples 59 = .ok (.iconst 2, 1) := by decide +kernel
theorem dX6_areTriples_60 : decode cX6_areTriples 60 = .ok (.iadd, 1) := by decide +kernel
theorem dX6_areTriples_61 : decode cX6_areTriples 61 = .ok (.iaload, 1) := by decide +kernel
theorem dX6_areTriples_62 : decode cX6_areTriples 62 = .ok (.iconst 3, 1) := by decide +kernel
theorem dX6_areTriples_63 : decode cX6_areTriples 63 = .ok (.invokestatic 58, 3) := by decide +kernel
theorem dX6_areTriples_66 : decode cX6_areTriples 66 = .ok (.ifCond .ne 5, 3) := by decide +kernel
theorem dX6_areTriples_69 : decode cX6_areTriples 69 = .ok (.iconst 0, 1) := by decide +kernel
theorem dX6_areTriples_70 : decode cX6_areTriples 70 = .ok (.ireturn, 1) := by decide +kernel
theorem dX6_areTriples_71 : decode cX6_areTriples 71 = .ok (.iinc 4 1, 3) := by decide +kernel
theorem dX6_areTriples_74 : decode cX6_areTriples 74 = .ok (.goto (-71), 3) := by decide +kernel
theorem dX6_areTriples_77 : decode cX6_areTriples 77 = .ok (.iconst 1, 1) := by decide +kernel
theorem dX6_areTriples_78 : decode cX6_areTriples 78 = .ok (.ireturn, 1) := by decide +kernel
set_option maxRecDepth 20000 in
theorem ggX6_ofYear_X2_hasSubject : GoodIn wsX6_ofYear wsX2_hasSubject := goodIn_r _ [12, 13, 14, 15, 16, 29, 30, 31, 32, 33] (by decide +kernel) (by decide +kernel)
set_option maxRecDepth 20000 in
theorem gX6_ofYear_X2_hasSubject : GoodIn wsX6_ofYear (wsV RX6 99 RX2 yX2_hasSubject wsX2_hasSubject) := goodIn_app (goodIn_of _ (by decide +kernel)) ggX6_ofYear_X2_hasSubject
theorem dX6_ofYear_0 : decode cX6_ofYear 0 = .ok (.iload_n 1, 1) := by decide +kernel
theorem dX6_ofYear_1 : decode cX6_ofYear 1 = .ok (.iconst 1, 1) := by decide +kernel
theorem dX6_ofYear_2 : decode cX6_ofYear 2 = .ok (.if_icmp .ne 11, 3) := by decide +kernel
theorem dX6_ofYear_5 : decode cX6_ofYear 5 = .ok (.aload_n 0, 1) := by decide +kernel
theorem dX6_ofYear_6 : decode cX6_ofYear 6 = .ok (.getfield 41, 3) := by decide +kernel
theorem dX6_ofYear_9 : decode cX6_ofYear 9 = .ok (.getfield 137, 3) := by decide +kernel
theorem dX6_ofYear_12 : decode cX6_ofYear 12 = .ok (.ireturn, 1) := by decide +kernel
theorem dX6_ofYear_13 : decode cX6_ofYear 13 = .ok (.aload_n 0, 1) := by decide +kernel
theorem dX6_ofYear_14 : decode cX6_ofYear 14 = .ok (.getfield 41, 3) := by decide +kernel
theorem dX6_ofYear_17 : decode cX6_ofYear 17 = .ok (.getfield 137, 3) := by decide +kernel
theorem dX6_ofYear_20 : decode cX6_ofYear 20 = .ok (.bipush (-9), 2) := by decide +kernel
theorem dX6_ofYear_22 : decode cX6_ofYear 22 = .ok (.if_icmp .eq 14, 3) := by decide +kernel
theorem dX6_ofYear_25 : decode cX6_ofYear 25 = .ok (.ldc 140, 2) := by decide +kernel
theorem dX6_ofYear_27 : decode cX6_ofYear 27 = .ok (.aload_n 0, 1) := by decide +kernel
theorem dX6_ofYear_28 : decode cX6_ofYear 28 = .ok (.getfield 41, 3) := by decide +kernel
theorem dX6_ofYear_31 : decode cX6_ofYear 31 = .ok (.getfield 137, 3) := by decide +kernel
theorem dX6_ofYear_34 : decode cX6_ofYear 34 = .ok (.isub, 1) := by decide +kernel
theorem dX6_ofYear_35 : decode cX6_ofYear 35 = .ok (.ireturn, 1) := by decide +kernel
theorem dX6_ofYear_36 : decode cX6_ofYear 36 = .ok (.iload_n 1, 1) := by decide +kernel
theorem dX6_ofYear_37 : decode cX6_ofYear 37 = .ok (.ifCond .ne 11, 3) := by decide +kernel
theorem dX6_ofYear_40 : decode cX6_ofYear 40 = .ok (.aload_n 0, 1) := by decide +kernel
theorem dX6_ofYear_41 : decode cX6_ofYear 41 = .ok (.getfield 41, 3) := by decide +kernel
theorem dX6_ofYear_44 : decode cX6_ofYear 44 = .ok (.getfield 141, 3) := by decide +kernel
theorem dX6_ofYear_47 : decode cX6_ofYear 47 = .ok (.ireturn, 1) := by decide +kernel
theorem dX6_ofYear_48 : decode cX6_ofYear 48 = .ok (.iload_n 1, 1) := by decide +kernel
theorem dX6_ofYear_49 : decode cX6_ofYear 49 = .ok (.iconst 2, 1) := by decide +kernel
theorem dX6_ofYear_50 : decode cX6_ofYear 50 = .ok (.if_icmp .ne 11, 3) := by decide +kernel
theorem dX6_ofYear_53 : decode cX6_ofYear 53 = .ok (.aload_n 0, 1) := by decide +kernel
theorem dX6_ofYear_54 : decode cX6_ofYear 54 = .ok (.getfield 41, 3) := by decide +kernel
theorem dX6_ofYear_57 : decode cX6_ofYear 57 = .ok (.getfield 144, 3) := by decide +kernel
theorem dX6_ofYear_60 : decode cX6_ofYear 60 = .ok (.ireturn, 1) := by decide +kernel
theorem dX6_ofYear_61 : decode cX6_ofYear 61 = .ok (.iload_n 1, 1) := by decide +kernel
theorem dX6_ofYear_62 : decode cX6_ofYear 62 = .ok (.bipush 10, 2) := by decide +kernel
theorem dX6_ofYear_64 : decode cX6_ofYear 64 = .ok (.isub, 1) := by decide +kernel
theorem dX6_ofYear_65 : decode cX6_ofYear 65 = .ok (.istore_n 2, 1) := by decide +kernel
theorem dX6_ofYear_66 : decode cX6_ofYear 66 = .ok (.aload_n 0, 1) := by decide +kernel
theorem dX6_ofYear_67 : decode cX6_ofYear 67 = .ok (.getfield 20, 3) := by decide +kernel
theorem dX6_ofYear_70 : decode cX6_ofYear 70 = .ok (.iload_n 2, 1) := by decide +kernel
theorem dX6_ofYear_71 : decode cX6_ofYear 71 = .ok (.invokevirtual 99, 3) := by decide +kernel
theorem dX6_ofYear_74 : decode cX6_ofYear 74 = .ok (.ifCond .eq 15, 3) := by decide +kernel
theorem dX6_ofYear_77 : decode cX6_ofYear 77 = .ok (.aload_n 0, 1) := by decide +kernel
theorem dX6_ofYear_78 : decode cX6_ofYear 78 = .ok (.getfield 41, 3) := by decide +kernel
theorem dX6_ofYear_81 : decode cX6_ofYear 81 = .ok (.getfield 147, 3) := by decide +kernel
theorem dX6_ofYear_84 : decode cX6_ofYear 84 = .ok (.iload_n 2, 1) := by decide +kernel
theorem dX6_ofYear_85 : decode cX6_ofYear 85 = .ok (.iaload, 1) := by decide +kernel
theorem dX6_ofYear_86 : decode cX6_ofYear 86 = .ok (.goto 5, 3) := by decide +kernel
theorem dX6_ofYear_89 : decode cX6_ofYear 89 = .ok (.bipush (-9), 2) := by decide +kernel
theorem dX6_ofYear_91 : decode cX6_ofYear 91 = .ok (.ireturn, 1) := by decide +kernel
set_option maxRecDepth 20000 in
theorem ggX6_hope_X2_hasSubject : GoodIn wsX6_hope wsX2_hasSubject := goodIn_r _ [10, 11, 12, 13, 14, 74, 75, 76, 77, 78] (by decide +kernel) (by decide +kernel)
set_option maxRecDepth 20000 in
theorem gX6_hope_X2_hasSubject : GoodIn wsX6_hope (wsV RX6 99 RX2 yX2_hasSubject wsX2_hasSubject) := goodIn_app (goodIn_of _ (by decide +kernel)) ggX6_hope_X2_hasSubject
set_option maxRecDepth 20000 in
theorem ggX6_hope_X6_isBelow : GoodIn wsX6_hope wsX6_isBelow := goodIn_r _ [14] (by decide +kernel) (by decide +kernel)
set_option maxRecDepth 20000 in
theorem gX6_hope_X6_isBelow : GoodIn wsX6_hope (va_wsS RX6 58 yX6_isBelow wsX6_isBelow) := goodIn_app (goodIn_of _ (by decide +kernel)) ggX6_hope_X6_isBelow
set_option maxRecDepth 20000 in
theorem ggX6_hope_X0_lookAhead : GoodIn wsX6_hope wsX0_lookAhead := goodIn_r _ [20, 21, 22, 23, 24, 25, 26, 19, 27, 28, 29, 30, 31, 32, 33, 34, 35, 36, 37, 38, 39, 40, 41, 9, 42, 43, 44, 45, 46, 47, 48, 49, 50, 51, 52, 53, 54, 55, 56, 57, 72, 73, 74, 75, 76, 77, 78] (by decide +kernel) (by decide +kernel)
set_option maxRecDepth 20000 in
theorem gX6_hope_X0_lookAhead : GoodIn wsX6_hope (wsV RX6 152 RX0 yX0_lookAhead wsX0_lookAhead) := goodIn_app (goodIn_of _ (by decide +kernel)) ggX6_hope_X0_lookAhead
set_option maxRecDepth 20000 in
theorem ggX6_hope_X6_inLeastTerms : GoodIn wsX6_hope wsX6_inLeastTerms := goodIn_r _ [60, 61, 62, 13, 63] (by decide +kernel) (by decide +kernel)
set_option maxRecDepth 20000 in
theorem gX6_hope_X6_inLeastTerms : GoodIn wsX6_hope (va_wsS RX6 163 yX6_inLeastTerms wsX6_inLeastTerms) := goodIn_app (goodIn_of _ (by decide +kernel)) ggX6_hope_X6_inLeastTerms
theorem dX6_hope_0 : decode cX6_hope 0 = .ok (.aload_n 0, 1) := by decide +kernel
theorem dX6_hope_1 : decode cX6_hope 1 = .ok (.getfield 20, 3) := by decide +kernel
theorem dX6_hope_4 : decode cX6_hope 4 = .ok (.iload_n 1, 1) := by decide +kernel
theorem dX6_hope_5 : decode cX6_hope 5 = .ok (.invokevirtual 99, 3) := by decide +kernel
theorem dX6_hope_8 : decode cX6_hope 8 = .ok (.ifCond .ne 7, 3) := by decide +kernel
theorem dX6_hope_11 : decode cX6_hope 11 = .ok (.ldc2_w 150, 3) := by decide +kernel
theorem dX6_hope_14 : decode cX6_hope 14 = .ok (.lreturn, 1) := by decide +kernel
theorem dX6_hope_15 : decode cX6_hope 15 = .ok (.iload_n 2, 1) := by decide +kernel
theorem dX6_hope_16 : decode cX6_hope 16 = .ok (.bipush 9, 2) := by decide +kernel
theorem dX6_hope_18 : decode cX6_hope 18 = .ok (.invokestatic 58, 3) := by decide +kernel
theorem dX6_hope_21 : decode cX6_hope 21 = .ok (.ifCond .eq 20, 3) := by decide +kernel
theorem dX6_hope_24 : decode cX6_hope 24 = .ok (.iload_n 3, 1) := by decide +kernel
theorem dX6_hope_25 : decode cX6_hope 25 = .ok (.iconst 4, 1) := by decide +kernel
theorem dX6_hope_26 : decode cX6_hope 26 = .ok (.invokestatic 58, 3) := by decide +kernel
theorem dX6_hope_29 : decode cX6_hope 29 = .ok (.ifCond .eq 12, 3) := by decide +kernel
theorem dX6_hope_32 : decode cX6_hope 32 = .ok (.iload 4, 2) := by decide +kernel
theorem dX6_hope_34 : decode cX6_hope 34 = .ok (.iconst 2, 1) := by decide +kernel
theorem dX6_hope_35 : decode cX6_hope 35 = .ok (.invokestatic 58, 3) := by decide +kernel
theorem dX6_hope_38 : decode cX6_hope 38 = .ok (.ifCond .ne 7, 3) := by decide +kernel
theorem dX6_hope_41 : decode cX6_hope 41 = .ok (.ldc2_w 150, 3) := by decide +kernel
theorem dX6_hope_44 : decode cX6_hope 44 = .ok (.lreturn, 1) := by decide +kernel
theorem dX6_hope_45 : decode cX6_hope 45 = .ok (.aload_n 0, 1) := by decide +kernel
theorem dX6_hope_46 : decode cX6_hope 46 = .ok (.getfield 34, 3) := by decide +kernel
theorem dX6_hope_49 : decode cX6_hope 49 = .ok (.aload_n 0, 1) := by decide +kernel
theorem dX6_hope_50 : decode cX6_hope 50 = .ok (.getfield 20, 3) := by decide +kernel
theorem dX6_hope_53 : decode cX6_hope 53 = .ok (.iload_n 1, 1) := by decide +kernel
theorem dX6_hope_54 : decode cX6_hope 54 = .ok (.iload_n 2, 1) := by decide +kernel
theorem dX6_hope_55 : decode cX6_hope 55 = .ok (.invokevirtual 152, 3) := by decide +kernel
theorem dX6_hope_58 : decode cX6_hope 58 = .ok (.aload_n 0, 1) := by decide +kernel
theorem dX6_hope_59 : decode cX6_hope 59 = .ok (.getfield 34, 3) := by decide +kernel
theorem dX6_hope_62 : decode cX6_hope 62 = .ok (.getfield 156, 3) := by decide +kernel
theorem dX6_hope_65 : decode cX6_hope 65 = .ok (.iload_n 2, 1) := by decide +kernel
theorem dX6_hope_66 : decode cX6_hope 66 = .ok (.aaload, 1) := by decide +kernel
theorem dX6_hope_67 : decode cX6_hope 67 = .ok (.iload_n 3, 1) := by decide +kernel
theorem dX6_hope_68 : decode cX6_hope 68 = .ok (.laload, 1) := by decide +kernel
theorem dX6_hope_69 : decode cX6_hope 69 = .ok (.aload_n 0, 1) := by decide +kernel
theorem dX6_hope_70 : decode cX6_hope 70 = .ok (.getfield 34, 3) := by decide +kernel
theorem dX6_hope_73 : decode cX6_hope 73 = .ok (.getfield 160, 3) := by decide +kernel
theorem dX6_hope_76 : decode cX6_hope 76 = .ok (.iload_n 2, 1) := by decide +kernel
theorem dX6_hope_77 : decode cX6_hope 77 = .ok (.laload, 1) := by decide +kernel
theorem dX6_hope_78 : decode cX6_hope 78 = .ok (.iload 4, 2) := by decide +kernel
theorem dX6_hope_80 : decode cX6_hope 80 = .ok (.invokestatic 163, 3) := by decide +kernel
theorem dX6_hope_83 : decode cX6_hope 83 = .ok (.lreturn, 1) := by decide +kernel
set_option maxRecDepth 20000 in
theorem ggX6_uses_X2_hasSubject : GoodIn wsX6_uses wsX2_hasSubject := goodIn_r _ [8, 9, 10, 11, 12, 65, 66, 67, 68, 69] (by decide +kernel) (by decide +kernel)
set_option maxRecDepth 20000 in
theorem gX6_uses_X2_hasSubject : GoodIn wsX6_uses (wsV RX6 99 RX2 yX2_hasSubject wsX2_hasSubject) := goodIn_app (goodIn_of _ (by decide +kernel)) ggX6_uses_X2_hasSubject
set_option maxRecDepth 20000 in
theorem ggX6_uses_X0_lookAhead : GoodIn wsX6_uses wsX0_lookAhead := goodIn_r _ [17, 18, 19, 20, 21, 22, 23, 16, 24, 25, 26, 27, 28, 29, 30, 31, 32, 33, 34, 35, 36, 37, 38, 7, 39, 40, 41, 42, 43, 44, 45, 46, 47, 48, 49, 50, 51, 52, 53, 54, 70, 71, 65, 66, 67, 68, 69] (by decide +kernel) (by decide +kernel)
set_option maxRecDepth 20000 in
theorem gX6_uses_X0_lookAhead : GoodIn wsX6_uses (wsV RX6 152 RX0 yX0_lookAhead wsX0_lookAhead) := goodIn_app (goodIn_of _ (by decide +kernel)) ggX6_uses_X0_lookAhead
set_option maxRecDepth 20000 in
theorem ggX6_uses_X0_byPaper : GoodIn wsX6_uses wsX0_byPaper := goodIn_r _ [53, 18, 19, 54, 41, 42, 7, 43, 44, 70, 71, 65, 66, 67, 68, 69] (by decide +kernel) (by decide +kernel)
set_option maxRecDepth 20000 in
theorem gX6_uses_X0_byPaper : GoodIn wsX6_uses (wsV RX6 170 RX0 yX0_byPaper wsX0_byPaper) := goodIn_app (goodIn_of _ (by decide +kernel)) ggX6_uses_X0_byPaper
set_option maxRecDepth 20000 in
theorem ggX6_uses_X0_byNone : GoodIn wsX6_uses wsX0_byNone := goodIn_r _ [32, 33, 34, 27, 35, 18, 19, 36, 37, 38, 7, 39, 40, 41, 42, 43, 44, 45, 46, 47, 48, 49, 70, 71, 65, 66, 67, 68, 69] (by decide +kernel) (by decide +kernel)
set_option maxRecDepth 20000 in
theorem gX6_uses_X0_byNone : GoodIn wsX6_uses (wsV RX6 174 RX0 yX0_byNone wsX0_byNone) := goodIn_app (goodIn_of _ (by decide +kernel)) ggX6_uses_X0_byNone
theorem dX6_uses_0 : decode cX6_uses 0 = .ok (.aload_n 0, 1) := by decide +kernel
theorem dX6_uses_1 : decode cX6_uses 1 = .ok (.getfield 20, 3) := by decide +kernel
theorem dX6_uses_4 : decode cX6_uses 4 = .ok (.iload_n 1, 1) := by decide +kernel
theorem dX6_uses_5 : decode cX6_uses 5 = .ok (.invokevirtual 99, 3) := by decide +kernel
theorem dX6_uses_8 : decode cX6_uses 8 = .ok (.ifCond .ne 5, 3) := by decide +kernel
theorem dX6_uses_11 : decode cX6_uses 11 = .ok (.iconst (-1), 1) := by decide +kernel
theorem dX6_uses_12 : decode cX6_uses 12 = .ok (.ireturn, 1) := by decide +kernel
theorem dX6_uses_13 : decode cX6_uses 13 = .ok (.iload_n 2, 1) := by decide +kernel
theorem dX6_uses_14 : decode cX6_uses 14 = .ok (.iconst 1, 1) := by decide +kernel
theorem dX6_uses_15 : decode cX6_uses 15 = .ok (.if_icmp .lt 19, 3) := by decide +kernel
theorem dX6_uses_18 : decode cX6_uses 18 = .ok (.iload_n 2, 1) := by decide +kernel
theorem dX6_uses_19 : decode cX6_uses 19 = .ok (.bipush 8, 2) := by decide +kernel
theorem dX6_uses_21 : decode cX6_uses 21 = .ok (.if_icmp .gt 13, 3) := by decide +kernel
theorem dX6_uses_24 : decode cX6_uses 24 = .ok (.iload_n 3, 1) := by decide +kernel
theorem dX6_uses_25 : decode cX6_uses 25 = .ok (.iconst 1, 1) := by decide +kernel
theorem dX6_uses_26 : decode cX6_uses 26 = .ok (.if_icmp .lt 8, 3) := by decide +kernel
theorem dX6_uses_29 : decode cX6_uses 29 = .ok (.iload_n 3, 1) := by decide +kernel
theorem dX6_uses_30 : decode cX6_uses 30 = .ok (.iconst 3, 1) := by decide +kernel
theorem dX6_uses_31 : decode cX6_uses 31 = .ok (.if_icmp .le 6, 3) := by decide +kernel
theorem dX6_uses_34 : decode cX6_uses 34 = .ok (.bipush (-2), 2) := by decide +kernel
theorem dX6_uses_36 : decode cX6_uses 36 = .ok (.ireturn, 1) := by decide +kernel
theorem dX6_uses_37 : decode cX6_uses 37 = .ok (.aload_n 0, 1) := by decide +kernel
theorem dX6_uses_38 : decode cX6_uses 38 = .ok (.getfield 34, 3) := by decide +kernel
theorem dX6_uses_41 : decode cX6_uses 41 = .ok (.aload_n 0, 1) := by decide +kernel
theorem dX6_uses_42 : decode cX6_uses 42 = .ok (.getfield 20, 3) := by decide +kernel
theorem dX6_uses_45 : decode cX6_uses 45 = .ok (.iload_n 1, 1) := by decide +kernel
theorem dX6_uses_46 : decode cX6_uses 46 = .ok (.iload_n 2, 1) := by decide +kernel
theorem dX6_uses_47 : decode cX6_uses 47 = .ok (.iconst 1, 1) := by decide +kernel
theorem dX6_uses_48 : decode cX6_uses 48 = .ok (.isub, 1) := by decide +kernel
theorem dX6_uses_49 : decode cX6_uses 49 = .ok (.invokevirtual 152, 3) := by decide +kernel
theorem dX6_uses_52 : decode cX6_uses 52 = .ok (.iconst 0, 1) := by decide +kernel
theorem dX6_uses_53 : decode cX6_uses 53 = .ok (.istore 4, 2) := by decide +kernel
theorem dX6_uses_55 : decode cX6_uses 55 = .ok (.iconst 0, 1) := by decide +kernel
theorem dX6_uses_56 : decode cX6_uses 56 = .ok (.istore 5, 2) := by decide +kernel
theorem dX6_uses_58 : decode cX6_uses 58 = .ok (.iload 5, 2) := by decide +kernel
theorem dX6_uses_60 : decode cX6_uses 60 = .ok (.aload_n 0, 1) := by decide +kernel
theorem dX6_uses_61 : decode cX6_uses 61 = .ok (.getfield 20, 3) := by decide +kernel
theorem dX6_uses_64 : decode cX6_uses 64 = .ok (.getfield 167, 3) := by decide +kernel
theorem dX6_uses_67 : decode cX6_uses 67 = .ok (.if_icmp .ge 57, 3) := by decide +kernel
theorem dX6_uses_70 : decode cX6_uses 70 = .ok (.aload_n 0, 1) := by decide +kernel
theorem dX6_uses_71 : decode cX6_uses 71 = .ok (.getfield 34, 3) := by decide +kernel
theorem dX6_uses_74 : decode cX6_uses 74 = .ok (.aload_n 0, 1) := by decide +kernel
theorem dX6_uses_75 : decode cX6_uses 75 = .ok (.getfield 20, 3) := by decide +kernel
theorem dX6_uses_78 : decode cX6_uses 78 = .ok (.iload 5, 2) := by decide +kernel
theorem dX6_uses_80 : decode cX6_uses 80 = .ok (.iload_n 2, 1) := by decide +kernel
theorem dX6_uses_81 : decode cX6_uses 81 = .ok (.iconst 1, 1) := by decide +kernel
theorem dX6_uses_82 : decode cX6_uses 82 = .ok (.isub, 1) := by decide +kernel
theorem dX6_uses_83 : decode cX6_uses 83 = .ok (.iload_n 3, 1) := by decide +kernel
theorem dX6_uses_84 : decode cX6_uses 84 = .ok (.invokevirtual 170, 3) := by decide +kernel
theorem dX6_uses_87 : decode cX6_uses 87 = .ok (.aload_n 0, 1) := by decide +kernel
theorem dX6_uses_88 : decode cX6_uses 88 = .ok (.getfield 34, 3) := by decide +kernel
theorem dX6_uses_91 : decode cX6_uses 91 = .ok (.aload_n 0, 1) := by decide +kernel
theorem dX6_uses_92 : decode cX6_uses 92 = .ok (.getfield 20, 3) := by decide +kernel
theorem dX6_uses_95 : decode cX6_uses 95 = .ok (.iload_n 1, 1) := by decide +kernel
theorem dX6_uses_96 : decode cX6_uses 96 = .ok (.iload 5, 2) := by decide +kernel
theorem dX6_uses_98 : decode cX6_uses 98 = .ok (.iload_n 2, 1) := by decide +kernel
theorem dX6_uses_99 : decode cX6_uses 99 = .ok (.iconst 1, 1) := by decide +kernel
theorem dX6_uses_100 : decode cX6_uses 100 = .ok (.isub, 1) := by decide +kernel
theorem dX6_uses_101 : decode cX6_uses 101 = .ok (.iload_n 3, 1) := by decide +kernel
theorem dX6_uses_102 : decode cX6_uses 102 = .ok (.invokevirtual 174, 3) := by decide +kernel
theorem dX6_uses_105 : decode cX6_uses 105 = .ok (.lcmp, 1) := by decide +kernel
theorem dX6_uses_106 : decode cX6_uses 106 = .ok (.ifCond .le 12, 3) := by decide +kernel
theorem dX6_uses_109 : decode cX6_uses 109 = .ok (.iload 4, 2) := by decide +kernel
theorem dX6_uses_111 : decode cX6_uses 111 = .ok (.iconst 1, 1) := by decide +kernel
theorem dX6_uses_112 : decode cX6_uses 112 = .ok (.iload 5, 2) := by decide +kernel
theorem dX6_uses_114 : decode cX6_uses 114 = .ok (.ishl, 1) := by decide +kernel
theorem dX6_uses_115 : decode cX6_uses 115 = .ok (.ior, 1) := by decide +kernel
theorem dX6_uses_116 : decode cX6_uses 116 = .ok (.istore 4, 2) := by decide +kernel
theorem dX6_uses_118 : decode cX6_uses 118 = .ok (.iinc 5 1, 3) := by decide +kernel
theorem dX6_uses_121 : decode cX6_uses 121 = .ok (.goto (-63), 3) := by decide +kernel
theorem dX6_uses_124 : decode cX6_uses 124 = .ok (.iload 4, 2) := by decide +kernel
theorem dX6_uses_126 : decode cX6_uses 126 = .ok (.ireturn, 1) := by decide +kernel
set_option maxRecDepth 20000 in
theorem ggX6_buyers_X6_isBelow : GoodIn wsX6_buyers wsX6_isBelow := goodIn_r _ [5] (by decide +kernel) (by decide +kernel)
set_option maxRecDepth 20000 in
theorem gX6_buyers_X6_isBelow : GoodIn wsX6_buyers (va_wsS RX6 58 yX6_isBelow wsX6_isBelow) := goodIn_app (goodIn_of _ (by decide +kernel)) ggX6_buyers_X6_isBelow
set_option maxRecDepth 20000 in
theorem ggX6_buyers_X2_isThere : GoodIn wsX6_buyers wsX2_isThere := goodIn_r _ [10, 11, 75, 76, 77, 78, 79] (by decide +kernel) (by decide +kernel)
set_option maxRecDepth 20000 in
theorem gX6_buyers_X2_isThere : GoodIn wsX6_buyers (wsV RX6 119 RX2 yX2_isThere wsX2_isThere) := goodIn_app (goodIn_of _ (by decide +kernel)) ggX6_buyers_X2_isThere
set_option maxRecDepth 20000 in
theorem ggX6_buyers_X6_weighPapers : GoodIn wsX6_buyers wsX6_weighPapers := goodIn_r _ [15, 1, 16, 17, 18, 19, 20, 21, 22, 23, 24, 25, 26, 27, 28, 29, 30, 31, 32, 33, 34, 35, 36, 37, 38, 39, 40, 41, 42, 43, 44, 45, 9, 46, 47, 48, 49, 50, 51, 52, 53, 54, 55, 56, 57, 58, 59, 60, 61, 67, 68, 69, 70, 71, 72, 73, 74, 75, 76, 77, 78, 79, 80, 81] (by decide +kernel) (by decide +kernel)
set_option maxRecDepth 20000 in
theorem gX6_buyers_X6_weighPapers : GoodIn wsX6_buyers (wsV RX6 178 RX6 yX6_weighPapers wsX6_weighPapers) := goodIn_app (goodIn_of _ (by decide +kernel)) ggX6_buyers_X6_weighPapers
set_option maxRecDepth 20000 in
theorem ggX6_buyers_X6_buyersAt : GoodIn wsX6_buyers wsX6_buyersAt := goodIn_r _ [65, 1, 16, 18, 17, 66, 67, 68, 69, 70, 71, 72, 73, 74, 75, 76, 77, 78, 79, 80, 81] (by decide +kernel) (by decide +kernel)
set_option maxRecDepth 20000 in
theorem gX6_buyers_X6_buyersAt : GoodIn wsX6_buyers (wsV RX6 182 RX6 yX6_buyersAt wsX6_buyersAt) := goodIn_app (goodIn_of _ (by decide +kernel)) ggX6_buyers_X6_buyersAt
theorem dX6_buyers_0 : decode cX6_buyers 0 = .ok (.iload_n 1, 1) := by decide +kernel
theorem dX6_buyers_1 : decode cX6_buyers 1 = .ok (.bipush 100, 2) := by decide +kernel
theorem dX6_buyers_3 : decode cX6_buyers 3 = .ok (.invokestatic 58, 3) := by decide +kernel
theorem dX6_buyers_6 : decode cX6_buyers 6 = .ok (.ifCond .eq 12, 3) := by decide +kernel
theorem dX6_buyers_9 : decode cX6_buyers 9 = .ok (.iload_n 2, 1) := by decide +kernel
theorem dX6_buyers_10 : decode cX6_buyers 10 = .ok (.bipush 9, 2) := by decide +kernel
theorem dX6_buyers_12 : decode cX6_buyers 12 = .ok (.invokestatic 58, 3) := by decide +kernel
theorem dX6_buyers_15 : decode cX6_buyers 15 = .ok (.ifCond .ne 6, 3) := by decide +kernel
theorem dX6_buyers_18 : decode cX6_buyers 18 = .ok (.bipush (-2), 2) := by decide +kernel
theorem dX6_buyers_20 : decode cX6_buyers 20 = .ok (.ireturn, 1) := by decide +kernel
theorem dX6_buyers_21 : decode cX6_buyers 21 = .ok (.aload_n 0, 1) := by decide +kernel
theorem dX6_buyers_22 : decode cX6_buyers 22 = .ok (.getfield 20, 3) := by decide +kernel
theorem dX6_buyers_25 : decode cX6_buyers 25 = .ok (.invokevirtual 119, 3) := by decide +kernel
theorem dX6_buyers_28 : decode cX6_buyers 28 = .ok (.ifCond .ne 6, 3) := by decide +kernel
theorem dX6_buyers_31 : decode cX6_buyers 31 = .ok (.bipush (-3), 2) := by decide +kernel
theorem dX6_buyers_33 : decode cX6_buyers 33 = .ok (.ireturn, 1) := by decide +kernel
theorem dX6_buyers_34 : decode cX6_buyers 34 = .ok (.aload_n 0, 1) := by decide +kernel
theorem dX6_buyers_35 : decode cX6_buyers 35 = .ok (.iload_n 2, 1) := by decide +kernel
theorem dX6_buyers_36 : decode cX6_buyers 36 = .ok (.invokevirtual 178, 3) := by decide +kernel
theorem dX6_buyers_39 : decode cX6_buyers 39 = .ok (.aload_n 0, 1) := by decide +kernel
theorem dX6_buyers_40 : decode cX6_buyers 40 = .ok (.iload_n 1, 1) := by decide +kernel
theorem dX6_buyers_41 : decode cX6_buyers 41 = .ok (.iload_n 2, 1) := by decide +kernel
theorem dX6_buyers_42 : decode cX6_buyers 42 = .ok (.invokevirtual 182, 3) := by decide +kernel
theorem dX6_buyers_45 : decode cX6_buyers 45 = .ok (.ireturn, 1) := by decide +kernel
set_option maxRecDepth 20000 in
theorem ggX6_best_X6_isBelow : GoodIn wsX6_best wsX6_isBelow := goodIn_r _ [5] (by decide +kernel) (by decide +kernel)
set_option maxRecDepth 20000 in
theorem gX6_best_X6_isBelow : GoodIn wsX6_best (va_wsS RX6 58 yX6_isBelow wsX6_isBelow) := goodIn_app (goodIn_of _ (by decide +kernel)) ggX6_best_X6_isBelow
set_option maxRecDepth 20000 in
theorem ggX6_best_X2_isThere : GoodIn wsX6_best wsX2_isThere := goodIn_r _ [10, 11, 82, 83, 84, 85, 86] (by decide +kernel) (by decide +kernel)
set_option maxRecDepth 20000 in
theorem gX6_best_X2_isThere : GoodIn wsX6_best (wsV RX6 119 RX2 yX2_isThere wsX2_isThere) := goodIn_app (goodIn_of _ (by decide +kernel)) ggX6_best_X2_isThere
set_option maxRecDepth 20000 in
theorem ggX6_best_X6_weighPapers : GoodIn wsX6_best wsX6_weighPapers := goodIn_r _ [15, 1, 16, 17, 18, 19, 20, 21, 22, 23, 24, 25, 26, 27, 28, 29, 30, 31, 32, 33, 34, 35, 36, 37, 38, 39, 40, 41, 42, 43, 44, 45, 9, 46, 47, 48, 49, 50, 51, 52, 53, 54, 55, 56, 57, 58, 59, 60, 61, 74, 75, 76, 77, 78, 79, 80, 81, 82, 83, 84, 85, 86, 87, 88] (by decide +kernel) (by decide +kernel)
set_option maxRecDepth 20000 in
theorem gX6_best_X6_weighPapers : GoodIn wsX6_best (wsV RX6 178 RX6 yX6_weighPapers wsX6_weighPapers) := goodIn_app (goodIn_of _ (by decide +kernel)) ggX6_best_X6_weighPapers
set_option maxRecDepth 20000 in
theorem ggX6_best_X6_buyersAt : GoodIn wsX6_best wsX6_buyersAt := goodIn_r _ [65, 1, 16, 18, 17, 66, 74, 75, 76, 77, 78, 79, 80, 81, 82, 83, 84, 85, 86, 87, 88] (by decide +kernel) (by decide +kernel)
set_option maxRecDepth 20000 in
theorem gX6_best_X6_buyersAt : GoodIn wsX6_best (wsV RX6 182 RX6 yX6_buyersAt wsX6_buyersAt) := goodIn_app (goodIn_of _ (by decide +kernel)) ggX6_best_X6_buyersAt
set_option maxRecDepth 20000 in
theorem ggX6_best_J6_bitCount_0f7a4 : GoodIn wsX6_best wsJ6_bitCount_0f7a4 := goodIn_r _ [70, 71, 72, 73] (by decide +kernel) (by decide +kernel)
set_option maxRecDepth 20000 in
theorem gX6_best_J6_bitCount_0f7a4 : GoodIn wsX6_best (va_wsS RX6 185 yJ6_bitCount_0f7a4 wsJ6_bitCount_0f7a4) := goodIn_app (goodIn_of _ (by decide +kernel)) ggX6_best_J6_bitCount_0f7a4
theorem dX6_best_0 : decode cX6_best 0 = .ok (.iload_n 1, 1) := by decide +kernel
theorem dX6_best_1 : decode cX6_best 1 = .ok (.bipush 9, 2) := by decide +kernel
theorem dX6_best_3 : decode cX6_best 3 = .ok (.invokestatic 58, 3) := by decide +kernel
theorem dX6_best_6 : decode cX6_best 6 = .ok (.ifCond .ne 6, 3) := by decide +kernel
theorem dX6_best_9 : decode cX6_best 9 = .ok (.bipush (-2), 2) := by decide +kernel
theorem dX6_best_11 : decode cX6_best 11 = .ok (.ireturn, 1) := by decide +kernel
theorem dX6_best_12 : decode cX6_best 12 = .ok (.aload_n 0, 1) := by decide +kernel
theorem dX6_best_13 : decode cX6_best 13 = .ok (.getfield 20, 3) := by decide +kernel
theorem dX6_best_16 : decode cX6_best 16 = .ok (.invokevirtual 119, 3) := by decide +kernel
theorem dX6_best_19 : decode cX6_best 19 = .ok (.ifCond .ne 6, 3) := by decide +kernel
theorem dX6_best_22 : decode cX6_best 22 = .ok (.bipush (-3), 2) := by decide +kernel
theorem dX6_best_24 : decode cX6_best 24 = .ok (.ireturn, 1) := by decide +kernel
theorem dX6_best_25 : decode cX6_best 25 = .ok (.aload_n 0, 1) := by decide +kernel
theorem dX6_best_26 : decode cX6_best 26 = .ok (.iload_n 1, 1) := by decide +kernel
theorem dX6_best_27 : decode cX6_best 27 = .ok (.invokevirtual 178, 3) := by decide +kernel
theorem dX6_best_30 : decode cX6_best 30 = .ok (.bipush (-9), 2) := by decide +kernel
theorem dX6_best_32 : decode cX6_best 32 = .ok (.istore_n 2, 1) := by decide +kernel
theorem dX6_best_33 : decode cX6_best 33 = .ok (.iconst 0, 1) := by decide +kernel
theorem dX6_best_34 : decode cX6_best 34 = .ok (.istore_n 3, 1) := by decide +kernel
theorem dX6_best_35 : decode cX6_best 35 = .ok (.iconst 1, 1) := by decide +kernel
theorem dX6_best_36 : decode cX6_best 36 = .ok (.istore 4, 2) := by decide +kernel
theorem dX6_best_38 : decode cX6_best 38 = .ok (.iload 4, 2) := by decide +kernel
theorem dX6_best_40 : decode cX6_best 40 = .ok (.bipush 99, 2) := by decide +kernel
theorem dX6_best_42 : decode cX6_best 42 = .ok (.if_icmp .gt 36, 3) := by decide +kernel
theorem dX6_best_45 : decode cX6_best 45 = .ok (.iload 4, 2) := by decide +kernel
theorem dX6_best_47 : decode cX6_best 47 = .ok (.aload_n 0, 1) := by decide +kernel
theorem dX6_best_48 : decode cX6_best 48 = .ok (.iload 4, 2) := by decide +kernel
theorem dX6_best_50 : decode cX6_best 50 = .ok (.iload_n 1, 1) := by decide +kernel
theorem dX6_best_51 : decode cX6_best 51 = .ok (.invokevirtual 182, 3) := by decide +kernel
theorem dX6_best_54 : decode cX6_best 54 = .ok (.invokestatic 185, 3) := by decide +kernel
theorem dX6_best_57 : decode cX6_best 57 = .ok (.imul, 1) := by decide +kernel
theorem dX6_best_58 : decode cX6_best 58 = .ok (.istore 5, 2) := by decide +kernel
theorem dX6_best_60 : decode cX6_best 60 = .ok (.iload 5, 2) := by decide +kernel
theorem dX6_best_62 : decode cX6_best 62 = .ok (.iload_n 3, 1) := by decide +kernel
theorem dX6_best_63 : decode cX6_best 63 = .ok (.if_icmp .le 9, 3) := by decide +kernel
theorem dX6_best_66 : decode cX6_best 66 = .ok (.iload 5, 2) := by decide +kernel
theorem dX6_best_68 : decode cX6_best 68 = .ok (.istore_n 3, 1) := by decide +kernel
theorem dX6_best_69 : decode cX6_best 69 = .ok (.iload 4, 2) := by decide +kernel
theorem dX6_best_71 : decode cX6_best 71 = .ok (.istore_n 2, 1) := by decide +kernel
theorem dX6_best_72 : decode cX6_best 72 = .ok (.iinc 4 1, 3) := by decide +kernel
theorem dX6_best_75 : decode cX6_best 75 = .ok (.goto (-37), 3) := by decide +kernel
theorem dX6_best_78 : decode cX6_best 78 = .ok (.iload_n 2, 1) := by decide +kernel
theorem dX6_best_79 : decode cX6_best 79 = .ok (.ireturn, 1) := by decide +kernel
set_option maxRecDepth 20000 in
theorem ggX6_weighPapers_X0_lookAhead : GoodIn wsX6_weighPapers wsX0_lookAhead := goodIn_r _ [10, 11, 12, 13, 14, 15, 16, 9, 17, 18, 19, 20, 21, 22, 23, 24, 25, 26, 27, 28, 29, 30, 31, 32, 33, 34, 35, 36, 37, 38, 39, 40, 41, 42, 43, 44, 45, 46, 47, 48, 62, 63, 57, 58, 59, 60, 61] (by decide +kernel) (by decide +kernel)
set_option maxRecDepth 20000 in
theorem gX6_weighPapers_X0_lookAhead : GoodIn wsX6_weighPapers (wsV RX6 152 RX0 yX0_lookAhead wsX0_lookAhead) := goodIn_app (goodIn_of _ (by decide +kernel)) ggX6_weighPapers_X0_lookAhead
theorem dX6_weighPapers_0 : decode cX6_weighPapers 0 = .ok (.iconst 0, 1) := by decide +kernel
theorem dX6_weighPapers_1 : decode cX6_weighPapers 1 = .ok (.istore_n 2, 1) := by decide +kernel
theorem dX6_weighPapers_2 : decode cX6_weighPapers 2 = .ok (.iload_n 2, 1) := by decide +kernel
theorem dX6_weighPapers_3 : decode cX6_weighPapers 3 = .ok (.aload_n 0, 1) := by decide +kernel
theorem dX6_weighPapers_4 : decode cX6_weighPapers 4 = .ok (.getfield 20, 3) := by decide +kernel
theorem dX6_weighPapers_7 : decode cX6_weighPapers 7 = .ok (.getfield 89, 3) := by decide +kernel
theorem dX6_weighPapers_10 : decode cX6_weighPapers 10 = .ok (.if_icmp .ge 51, 3) := by decide +kernel
theorem dX6_weighPapers_13 : decode cX6_weighPapers 13 = .ok (.aload_n 0, 1) := by decide +kernel
theorem dX6_weighPapers_14 : decode cX6_weighPapers 14 = .ok (.getfield 34, 3) := by decide +kernel
theorem dX6_weighPapers_17 : decode cX6_weighPapers 17 = .ok (.aload_n 0, 1) := by decide +kernel
theorem dX6_weighPapers_18 : decode cX6_weighPapers 18 = .ok (.getfield 20, 3) := by decide +kernel
theorem dX6_weighPapers_21 : decode cX6_weighPapers 21 = .ok (.iload_n 2, 1) := by decide +kernel
theorem dX6_weighPapers_22 : decode cX6_weighPapers 22 = .ok (.iload_n 1, 1) := by decide +kernel
theorem dX6_weighPapers_23 : decode cX6_weighPapers 23 = .ok (.invokevirtual 152, 3) := by decide +kernel
theorem dX6_weighPapers_26 : decode cX6_weighPapers 26 = .ok (.aload_n 0, 1) := by decide +kernel
theorem dX6_weighPapers_27 : decode cX6_weighPapers 27 = .ok (.getfield 45, 3) := by decide +kernel
theorem dX6_weighPapers_30 : decode cX6_weighPapers 30 = .ok (.iload_n 2, 1) := by decide +kernel
theorem dX6_weighPapers_31 : decode cX6_weighPapers 31 = .ok (.aload_n 0, 1) := by decide +kernel
theorem dX6_weighPapers_32 : decode cX6_weighPapers 32 = .ok (.getfield 34, 3) := by decide +kernel
theorem dX6_weighPapers_35 : decode cX6_weighPapers 35 = .ok (.getfield 156, 3) := by decide +kernel
