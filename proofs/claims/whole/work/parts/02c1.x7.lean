theorem dX7_init_0 : decode cX7_init 0 = .ok (.aload_n 0, 1) := by decide +kernel
theorem dX7_init_1 : decode cX7_init 1 = .ok (.invokespecial 1, 3) := by decide +kernel
theorem dX7_init_4 : decode cX7_init 4 = .ok (.aload_n 0, 1) := by decide +kernel
theorem dX7_init_5 : decode cX7_init 5 = .ok (.iconst 5, 1) := by decide +kernel
theorem dX7_init_6 : decode cX7_init 6 = .ok (.newarray .int, 2) := by decide +kernel
theorem dX7_init_8 : decode cX7_init 8 = .ok (.putfield 7, 3) := by decide +kernel
theorem dX7_init_11 : decode cX7_init 11 = .ok (.aload_n 0, 1) := by decide +kernel
theorem dX7_init_12 : decode cX7_init 12 = .ok (.iconst 5, 1) := by decide +kernel
theorem dX7_init_13 : decode cX7_init 13 = .ok (.newarray .int, 2) := by decide +kernel
theorem dX7_init_15 : decode cX7_init 15 = .ok (.putfield 13, 3) := by decide +kernel
theorem dX7_init_18 : decode cX7_init 18 = .ok (.aload_n 0, 1) := by decide +kernel
theorem dX7_init_19 : decode cX7_init 19 = .ok (.iconst 5, 1) := by decide +kernel
theorem dX7_init_20 : decode cX7_init 20 = .ok (.newarray .int, 2) := by decide +kernel
theorem dX7_init_22 : decode cX7_init 22 = .ok (.putfield 16, 3) := by decide +kernel
theorem dX7_init_25 : decode cX7_init 25 = .ok (.aload_n 0, 1) := by decide +kernel
theorem dX7_init_26 : decode cX7_init 26 = .ok (.iconst 4, 1) := by decide +kernel
theorem dX7_init_27 : decode cX7_init 27 = .ok (.newarray .int, 2) := by decide +kernel
theorem dX7_init_29 : decode cX7_init 29 = .ok (.putfield 19, 3) := by decide +kernel
theorem dX7_init_32 : decode cX7_init 32 = .ok (.aload_n 0, 1) := by decide +kernel
theorem dX7_init_33 : decode cX7_init 33 = .ok (.iconst 4, 1) := by decide +kernel
theorem dX7_init_34 : decode cX7_init 34 = .ok (.newarray .int, 2) := by decide +kernel
theorem dX7_init_36 : decode cX7_init 36 = .ok (.putfield 22, 3) := by decide +kernel
theorem dX7_init_39 : decode cX7_init 39 = .ok (.aload_n 0, 1) := by decide +kernel
theorem dX7_init_40 : decode cX7_init 40 = .ok (.iconst 5, 1) := by decide +kernel
theorem dX7_init_41 : decode cX7_init 41 = .ok (.newarray .int, 2) := by decide +kernel
theorem dX7_init_43 : decode cX7_init 43 = .ok (.putfield 25, 3) := by decide +kernel
theorem dX7_init_46 : decode cX7_init 46 = .ok (.aload_n 0, 1) := by decide +kernel
theorem dX7_init_47 : decode cX7_init 47 = .ok (.iconst 5, 1) := by decide +kernel
theorem dX7_init_48 : decode cX7_init 48 = .ok (.newarray .int, 2) := by decide +kernel
theorem dX7_init_50 : decode cX7_init 50 = .ok (.putfield 28, 3) := by decide +kernel
theorem dX7_init_53 : decode cX7_init 53 = .ok (.aload_n 0, 1) := by decide +kernel
theorem dX7_init_54 : decode cX7_init 54 = .ok (.iconst 5, 1) := by decide +kernel
theorem dX7_init_55 : decode cX7_init 55 = .ok (.newarray .int, 2) := by decide +kernel
theorem dX7_init_57 : decode cX7_init 57 = .ok (.putfield 31, 3) := by decide +kernel
theorem dX7_init_60 : decode cX7_init 60 = .ok (.aload_n 0, 1) := by decide +kernel
theorem dX7_init_61 : decode cX7_init 61 = .ok (.iconst 4, 1) := by decide +kernel
theorem dX7_init_62 : decode cX7_init 62 = .ok (.newarray .int, 2) := by decide +kernel
theorem dX7_init_64 : decode cX7_init 64 = .ok (.putfield 34, 3) := by decide +kernel
theorem dX7_init_67 : decode cX7_init 67 = .ok (.aload_n 0, 1) := by decide +kernel
theorem dX7_init_68 : decode cX7_init 68 = .ok (.iconst 4, 1) := by decide +kernel
theorem dX7_init_69 : decode cX7_init 69 = .ok (.newarray .int, 2) := by decide +kernel
theorem dX7_init_71 : decode cX7_init 71 = .ok (.putfield 37, 3) := by decide +kernel
theorem dX7_init_74 : decode cX7_init 74 = .ok (.aload_n 0, 1) := by decide +kernel
theorem dX7_init_75 : decode cX7_init 75 = .ok (.iconst 4, 1) := by decide +kernel
theorem dX7_init_76 : decode cX7_init 76 = .ok (.newarray .int, 2) := by decide +kernel
theorem dX7_init_78 : decode cX7_init 78 = .ok (.putfield 40, 3) := by decide +kernel
theorem dX7_init_81 : decode cX7_init 81 = .ok (.aload_n 0, 1) := by decide +kernel
theorem dX7_init_82 : decode cX7_init 82 = .ok (.bipush 36, 2) := by decide +kernel
theorem dX7_init_84 : decode cX7_init 84 = .ok (.newarray .long, 2) := by decide +kernel
theorem dX7_init_86 : decode cX7_init 86 = .ok (.putfield 43, 3) := by decide +kernel
theorem dX7_init_89 : decode cX7_init 89 = .ok (.aload_n 0, 1) := by decide +kernel
theorem dX7_init_90 : decode cX7_init 90 = .ok (.bipush 8, 2) := by decide +kernel
theorem dX7_init_92 : decode cX7_init 92 = .ok (.newarray .int, 2) := by decide +kernel
theorem dX7_init_94 : decode cX7_init 94 = .ok (.putfield 47, 3) := by decide +kernel
theorem dX7_init_97 : decode cX7_init 97 = .ok (.aload_n 0, 1) := by decide +kernel
theorem dX7_init_98 : decode cX7_init 98 = .ok (.bipush 8, 2) := by decide +kernel
theorem dX7_init_100 : decode cX7_init 100 = .ok (.newarray .int, 2) := by decide +kernel
theorem dX7_init_102 : decode cX7_init 102 = .ok (.putfield 50, 3) := by decide +kernel
theorem dX7_init_105 : decode cX7_init 105 = .ok (.aload_n 0, 1) := by decide +kernel
theorem dX7_init_106 : decode cX7_init 106 = .ok (.bipush 8, 2) := by decide +kernel
theorem dX7_init_108 : decode cX7_init 108 = .ok (.newarray .boolean, 2) := by decide +kernel
theorem dX7_init_110 : decode cX7_init 110 = .ok (.putfield 53, 3) := by decide +kernel
theorem dX7_init_113 : decode cX7_init 113 = .ok (.aload_n 0, 1) := by decide +kernel
theorem dX7_init_114 : decode cX7_init 114 = .ok (.iconst 4, 1) := by decide +kernel
theorem dX7_init_115 : decode cX7_init 115 = .ok (.newarray .int, 2) := by decide +kernel
theorem dX7_init_117 : decode cX7_init 117 = .ok (.putfield 57, 3) := by decide +kernel
theorem dX7_init_120 : decode cX7_init 120 = .ok (.aload_n 0, 1) := by decide +kernel
theorem dX7_init_121 : decode cX7_init 121 = .ok (.iconst 4, 1) := by decide +kernel
theorem dX7_init_122 : decode cX7_init 122 = .ok (.newarray .int, 2) := by decide +kernel
theorem dX7_init_124 : decode cX7_init 124 = .ok (.putfield 60, 3) := by decide +kernel
theorem dX7_init_127 : decode cX7_init 127 = .ok (.aload_n 0, 1) := by decide +kernel
theorem dX7_init_128 : decode cX7_init 128 = .ok (.sipush 240, 3) := by decide +kernel
theorem dX7_init_131 : decode cX7_init 131 = .ok (.newarray .int, 2) := by decide +kernel
theorem dX7_init_133 : decode cX7_init 133 = .ok (.putfield 63, 3) := by decide +kernel
theorem dX7_init_136 : decode cX7_init 136 = .ok (.aload_n 0, 1) := by decide +kernel
theorem dX7_init_137 : decode cX7_init 137 = .ok (.bipush 60, 2) := by decide +kernel
theorem dX7_init_139 : decode cX7_init 139 = .ok (.newarray .int, 2) := by decide +kernel
theorem dX7_init_141 : decode cX7_init 141 = .ok (.putfield 66, 3) := by decide +kernel
theorem dX7_init_144 : decode cX7_init 144 = .ok (.iconst 0, 1) := by decide +kernel
theorem dX7_init_145 : decode cX7_init 145 = .ok (.istore_n 1, 1) := by decide +kernel
theorem dX7_init_146 : decode cX7_init 146 = .ok (.iload_n 1, 1) := by decide +kernel
theorem dX7_init_147 : decode cX7_init 147 = .ok (.iconst 4, 1) := by decide +kernel
theorem dX7_init_148 : decode cX7_init 148 = .ok (.if_icmp .ge 16, 3) := by decide +kernel
theorem dX7_init_151 : decode cX7_init 151 = .ok (.aload_n 0, 1) := by decide +kernel
theorem dX7_init_152 : decode cX7_init 152 = .ok (.getfield 57, 3) := by decide +kernel
theorem dX7_init_155 : decode cX7_init 155 = .ok (.iload_n 1, 1) := by decide +kernel
theorem dX7_init_156 : decode cX7_init 156 = .ok (.iconst (-1), 1) := by decide +kernel
theorem dX7_init_157 : decode cX7_init 157 = .ok (.iastore, 1) := by decide +kernel
theorem dX7_init_158 : decode cX7_init 158 = .ok (.iinc 1 1, 3) := by decide +kernel
theorem dX7_init_161 : decode cX7_init 161 = .ok (.goto (-15), 3) := by decide +kernel
theorem dX7_init_164 : decode cX7_init 164 = .ok (.return_, 1) := by decide +kernel
theorem dX7_in_0 : decode cX7_in 0 = .ok (.lload_n 0, 1) := by decide +kernel
theorem dX7_in_1 : decode cX7_in 1 = .ok (.lload_n 2, 1) := by decide +kernel
theorem dX7_in_2 : decode cX7_in 2 = .ok (.lcmp, 1) := by decide +kernel
theorem dX7_in_3 : decode cX7_in 3 = .ok (.ifCond .lt 14, 3) := by decide +kernel
theorem dX7_in_6 : decode cX7_in 6 = .ok (.lload_n 0, 1) := by decide +kernel
theorem dX7_in_7 : decode cX7_in 7 = .ok (.lload 4, 2) := by decide +kernel
theorem dX7_in_9 : decode cX7_in 9 = .ok (.lcmp, 1) := by decide +kernel
theorem dX7_in_10 : decode cX7_in 10 = .ok (.ifCond .gt 7, 3) := by decide +kernel
theorem dX7_in_13 : decode cX7_in 13 = .ok (.iconst 1, 1) := by decide +kernel
theorem dX7_in_14 : decode cX7_in 14 = .ok (.goto 4, 3) := by decide +kernel
theorem dX7_in_17 : decode cX7_in 17 = .ok (.iconst 0, 1) := by decide +kernel
theorem dX7_in_18 : decode cX7_in 18 = .ok (.ireturn, 1) := by decide +kernel
theorem dX7_lost_0 : decode cX7_lost 0 = .ok (.ldc2_w 69, 3) := by decide +kernel
theorem dX7_lost_3 : decode cX7_lost 3 = .ok (.lreturn, 1) := by decide +kernel
theorem dX7_isIn_0 : decode cX7_isIn 0 = .ok (.iload_n 0, 1) := by decide +kernel
theorem dX7_isIn_1 : decode cX7_isIn 1 = .ok (.iload_n 1, 1) := by decide +kernel
theorem dX7_isIn_2 : decode cX7_isIn 2 = .ok (.ishr, 1) := by decide +kernel
theorem dX7_isIn_3 : decode cX7_isIn 3 = .ok (.iconst 1, 1) := by decide +kernel
theorem dX7_isIn_4 : decode cX7_isIn 4 = .ok (.iand, 1) := by decide +kernel
theorem dX7_isIn_5 : decode cX7_isIn 5 = .ok (.iconst 1, 1) := by decide +kernel
theorem dX7_isIn_6 : decode cX7_isIn 6 = .ok (.if_icmp .ne 7, 3) := by decide +kernel
theorem dX7_isIn_9 : decode cX7_isIn 9 = .ok (.iconst 1, 1) := by decide +kernel
theorem dX7_isIn_10 : decode cX7_isIn 10 = .ok (.goto 4, 3) := by decide +kernel
theorem dX7_isIn_13 : decode cX7_isIn 13 = .ok (.iconst 0, 1) := by decide +kernel
theorem dX7_isIn_14 : decode cX7_isIn 14 = .ok (.ireturn, 1) := by decide +kernel
theorem dX7_bits_0 : decode cX7_bits 0 = .ok (.iconst 0, 1) := by decide +kernel
theorem dX7_bits_1 : decode cX7_bits 1 = .ok (.istore_n 1, 1) := by decide +kernel
theorem dX7_bits_2 : decode cX7_bits 2 = .ok (.iload_n 0, 1) := by decide +kernel
theorem dX7_bits_3 : decode cX7_bits 3 = .ok (.istore_n 2, 1) := by decide +kernel
theorem dX7_bits_4 : decode cX7_bits 4 = .ok (.iload_n 2, 1) := by decide +kernel
theorem dX7_bits_5 : decode cX7_bits 5 = .ok (.ifCond .le 16, 3) := by decide +kernel
theorem dX7_bits_8 : decode cX7_bits 8 = .ok (.iload_n 1, 1) := by decide +kernel
theorem dX7_bits_9 : decode cX7_bits 9 = .ok (.iload_n 2, 1) := by decide +kernel
theorem dX7_bits_10 : decode cX7_bits 10 = .ok (.iconst 1, 1) := by decide +kernel
theorem dX7_bits_11 : decode cX7_bits 11 = .ok (.iand, 1) := by decide +kernel
theorem dX7_bits_12 : decode cX7_bits 12 = .ok (.iadd, 1) := by decide +kernel
theorem dX7_bits_13 : decode cX7_bits 13 = .ok (.istore_n 1, 1) := by decide +kernel
theorem dX7_bits_14 : decode cX7_bits 14 = .ok (.iload_n 2, 1) := by decide +kernel
theorem dX7_bits_15 : decode cX7_bits 15 = .ok (.iconst 1, 1) := by decide +kernel
theorem dX7_bits_16 : decode cX7_bits 16 = .ok (.ishr, 1) := by decide +kernel
theorem dX7_bits_17 : decode cX7_bits 17 = .ok (.istore_n 2, 1) := by decide +kernel
theorem dX7_bits_18 : decode cX7_bits 18 = .ok (.goto (-14), 3) := by decide +kernel
theorem dX7_bits_21 : decode cX7_bits 21 = .ok (.iload_n 1, 1) := by decide +kernel
theorem dX7_bits_22 : decode cX7_bits 22 = .ok (.ireturn, 1) := by decide +kernel
theorem dX7_share_0 : decode cX7_share 0 = .ok (.lload_n 0, 1) := by decide +kernel
theorem dX7_share_1 : decode cX7_share 1 = .ok (.lstore 5, 2) := by decide +kernel
theorem dX7_share_3 : decode cX7_share 3 = .ok (.lload_n 2, 1) := by decide +kernel
theorem dX7_share_4 : decode cX7_share 4 = .ok (.lstore 7, 2) := by decide +kernel
theorem dX7_share_6 : decode cX7_share 6 = .ok (.lload 7, 2) := by decide +kernel
theorem dX7_share_8 : decode cX7_share 8 = .ok (.lconst 0, 1) := by decide +kernel
theorem dX7_share_9 : decode cX7_share 9 = .ok (.lcmp, 1) := by decide +kernel
theorem dX7_share_10 : decode cX7_share 10 = .ok (.ifCond .eq 21, 3) := by decide +kernel
theorem dX7_share_13 : decode cX7_share 13 = .ok (.lload 5, 2) := by decide +kernel
theorem dX7_share_15 : decode cX7_share 15 = .ok (.lload 7, 2) := by decide +kernel
theorem dX7_share_17 : decode cX7_share 17 = .ok (.lrem, 1) := by decide +kernel
theorem dX7_share_18 : decode cX7_share 18 = .ok (.lstore 9, 2) := by decide +kernel
theorem dX7_share_20 : decode cX7_share 20 = .ok (.lload 7, 2) := by decide +kernel
theorem dX7_share_22 : decode cX7_share 22 = .ok (.lstore 5, 2) := by decide +kernel
theorem dX7_share_24 : decode cX7_share 24 = .ok (.lload 9, 2) := by decide +kernel
theorem dX7_share_26 : decode cX7_share 26 = .ok (.lstore 7, 2) := by decide +kernel
theorem dX7_share_28 : decode cX7_share 28 = .ok (.goto (-22), 3) := by decide +kernel
theorem dX7_share_31 : decode cX7_share 31 = .ok (.iload 4, 2) := by decide +kernel
theorem dX7_share_33 : decode cX7_share 33 = .ok (.ifCond .ne 7, 3) := by decide +kernel
theorem dX7_share_36 : decode cX7_share 36 = .ok (.lload_n 0, 1) := by decide +kernel
theorem dX7_share_37 : decode cX7_share 37 = .ok (.goto 4, 3) := by decide +kernel
theorem dX7_share_40 : decode cX7_share 40 = .ok (.lload_n 2, 1) := by decide +kernel
theorem dX7_share_41 : decode cX7_share 41 = .ok (.lload 5, 2) := by decide +kernel
theorem dX7_share_43 : decode cX7_share 43 = .ok (.ldiv, 1) := by decide +kernel
theorem dX7_share_44 : decode cX7_share 44 = .ok (.lreturn, 1) := by decide +kernel
theorem dX7_refused_0 : decode cX7_refused 0 = .ok (.aload_n 0, 1) := by decide +kernel
theorem dX7_refused_1 : decode cX7_refused 1 = .ok (.iconst 0, 1) := by decide +kernel
theorem dX7_refused_2 : decode cX7_refused 2 = .ok (.putfield 71, 3) := by decide +kernel
theorem dX7_refused_5 : decode cX7_refused 5 = .ok (.iload_n 1, 1) := by decide +kernel
theorem dX7_refused_6 : decode cX7_refused 6 = .ok (.ireturn, 1) := by decide +kernel
theorem dX7_failed_0 : decode cX7_failed 0 = .ok (.aload_n 0, 1) := by decide +kernel
theorem dX7_failed_1 : decode cX7_failed 1 = .ok (.iload_n 1, 1) := by decide +kernel
theorem dX7_failed_2 : decode cX7_failed 2 = .ok (.putfield 71, 3) := by decide +kernel
theorem dX7_failed_5 : decode cX7_failed 5 = .ok (.bipush (-10), 2) := by decide +kernel
theorem dX7_failed_7 : decode cX7_failed 7 = .ok (.iload_n 1, 1) := by decide +kernel
theorem dX7_failed_8 : decode cX7_failed 8 = .ok (.isub, 1) := by decide +kernel
theorem dX7_failed_9 : decode cX7_failed 9 = .ok (.ireturn, 1) := by decide +kernel
set_option maxRecDepth 20000 in
theorem ggX7_failedLong_X7_lost : GoodIn wsX7_failedLong wsX7_lost := goodIn_r _ [5, 6] (by decide +kernel) (by decide +kernel)
set_option maxRecDepth 20000 in
theorem gX7_failedLong_X7_lost : GoodIn wsX7_failedLong (va_wsS RX7 75 yX7_lost wsX7_lost) := goodIn_app (goodIn_of _ (by decide +kernel)) ggX7_failedLong_X7_lost
theorem dX7_failedLong_0 : decode cX7_failedLong 0 = .ok (.aload_n 0, 1) := by decide +kernel
theorem dX7_failedLong_1 : decode cX7_failedLong 1 = .ok (.iload_n 1, 1) := by decide +kernel
theorem dX7_failedLong_2 : decode cX7_failedLong 2 = .ok (.putfield 71, 3) := by decide +kernel
theorem dX7_failedLong_5 : decode cX7_failedLong 5 = .ok (.invokestatic 75, 3) := by decide +kernel
theorem dX7_failedLong_8 : decode cX7_failedLong 8 = .ok (.lreturn, 1) := by decide +kernel
set_option maxRecDepth 20000 in
theorem ggX7_noDeed_X7_in : GoodIn wsX7_noDeed wsX7_in := goodIn_r _ [5] (by decide +kernel) (by decide +kernel)
set_option maxRecDepth 20000 in
theorem gX7_noDeed_X7_in : GoodIn wsX7_noDeed (va_wsS RX7 82 yX7_in wsX7_in) := goodIn_app (goodIn_of _ (by decide +kernel)) ggX7_noDeed_X7_in
theorem dX7_noDeed_0 : decode cX7_noDeed 0 = .ok (.iload_n 1, 1) := by decide +kernel
theorem dX7_noDeed_1 : decode cX7_noDeed 1 = .ok (.i2l, 1) := by decide +kernel
theorem dX7_noDeed_2 : decode cX7_noDeed 2 = .ok (.lconst 0, 1) := by decide +kernel
theorem dX7_noDeed_3 : decode cX7_noDeed 3 = .ok (.aload_n 0, 1) := by decide +kernel
theorem dX7_noDeed_4 : decode cX7_noDeed 4 = .ok (.getfield 79, 3) := by decide +kernel
theorem dX7_noDeed_7 : decode cX7_noDeed 7 = .ok (.i2l, 1) := by decide +kernel
theorem dX7_noDeed_8 : decode cX7_noDeed 8 = .ok (.lconst 1, 1) := by decide +kernel
theorem dX7_noDeed_9 : decode cX7_noDeed 9 = .ok (.lsub, 1) := by decide +kernel
theorem dX7_noDeed_10 : decode cX7_noDeed 10 = .ok (.invokestatic 82, 3) := by decide +kernel
theorem dX7_noDeed_13 : decode cX7_noDeed 13 = .ok (.ifCond .ne 7, 3) := by decide +kernel
theorem dX7_noDeed_16 : decode cX7_noDeed 16 = .ok (.iconst 1, 1) := by decide +kernel
theorem dX7_noDeed_17 : decode cX7_noDeed 17 = .ok (.goto 4, 3) := by decide +kernel
theorem dX7_noDeed_20 : decode cX7_noDeed 20 = .ok (.iconst 0, 1) := by decide +kernel
theorem dX7_noDeed_21 : decode cX7_noDeed 21 = .ok (.ireturn, 1) := by decide +kernel
set_option maxRecDepth 20000 in
theorem ggX7_noSubject_X7_in : GoodIn wsX7_noSubject wsX7_in := goodIn_r _ [5] (by decide +kernel) (by decide +kernel)
set_option maxRecDepth 20000 in
theorem gX7_noSubject_X7_in : GoodIn wsX7_noSubject (va_wsS RX7 82 yX7_in wsX7_in) := goodIn_app (goodIn_of _ (by decide +kernel)) ggX7_noSubject_X7_in
theorem dX7_noSubject_0 : decode cX7_noSubject 0 = .ok (.iload_n 1, 1) := by decide +kernel
theorem dX7_noSubject_1 : decode cX7_noSubject 1 = .ok (.i2l, 1) := by decide +kernel
theorem dX7_noSubject_2 : decode cX7_noSubject 2 = .ok (.lconst 0, 1) := by decide +kernel
theorem dX7_noSubject_3 : decode cX7_noSubject 3 = .ok (.aload_n 0, 1) := by decide +kernel
theorem dX7_noSubject_4 : decode cX7_noSubject 4 = .ok (.getfield 86, 3) := by decide +kernel
theorem dX7_noSubject_7 : decode cX7_noSubject 7 = .ok (.i2l, 1) := by decide +kernel
theorem dX7_noSubject_8 : decode cX7_noSubject 8 = .ok (.lconst 1, 1) := by decide +kernel
theorem dX7_noSubject_9 : decode cX7_noSubject 9 = .ok (.lsub, 1) := by decide +kernel
theorem dX7_noSubject_10 : decode cX7_noSubject 10 = .ok (.invokestatic 82, 3) := by decide +kernel
theorem dX7_noSubject_13 : decode cX7_noSubject 13 = .ok (.ifCond .ne 7, 3) := by decide +kernel
theorem dX7_noSubject_16 : decode cX7_noSubject 16 = .ok (.iconst 1, 1) := by decide +kernel
theorem dX7_noSubject_17 : decode cX7_noSubject 17 = .ok (.goto 4, 3) := by decide +kernel
theorem dX7_noSubject_20 : decode cX7_noSubject 20 = .ok (.iconst 0, 1) := by decide +kernel
theorem dX7_noSubject_21 : decode cX7_noSubject 21 = .ok (.ireturn, 1) := by decide +kernel
theorem dX7_codeAt_0 : decode cX7_codeAt 0 = .ok (.aload_n 0, 1) := by decide +kernel
theorem dX7_codeAt_1 : decode cX7_codeAt 1 = .ok (.getfield 89, 3) := by decide +kernel
theorem dX7_codeAt_4 : decode cX7_codeAt 4 = .ok (.iload_n 2, 1) := by decide +kernel
theorem dX7_codeAt_5 : decode cX7_codeAt 5 = .ok (.if_icmp .ge 17, 3) := by decide +kernel
theorem dX7_codeAt_8 : decode cX7_codeAt 8 = .ok (.aload_n 0, 1) := by decide +kernel
theorem dX7_codeAt_9 : decode cX7_codeAt 9 = .ok (.getfield 63, 3) := by decide +kernel
theorem dX7_codeAt_12 : decode cX7_codeAt 12 = .ok (.iload_n 1, 1) := by decide +kernel
theorem dX7_codeAt_13 : decode cX7_codeAt 13 = .ok (.aload_n 0, 1) := by decide +kernel
theorem dX7_codeAt_14 : decode cX7_codeAt 14 = .ok (.getfield 89, 3) := by decide +kernel
theorem dX7_codeAt_17 : decode cX7_codeAt 17 = .ok (.iadd, 1) := by decide +kernel
theorem dX7_codeAt_18 : decode cX7_codeAt 18 = .ok (.iaload, 1) := by decide +kernel
theorem dX7_codeAt_19 : decode cX7_codeAt 19 = .ok (.goto 5, 3) := by decide +kernel
theorem dX7_codeAt_22 : decode cX7_codeAt 22 = .ok (.bipush (-9), 2) := by decide +kernel
theorem dX7_codeAt_24 : decode cX7_codeAt 24 = .ok (.ireturn, 1) := by decide +kernel
set_option maxRecDepth 20000 in
theorem ggX7_figure_X7_codeAt : GoodIn wsX7_figure wsX7_codeAt := goodIn_r _ [6, 1, 7, 11, 12, 13, 14, 15, 16, 17, 18, 19, 20, 21, 22, 23, 24, 25, 26, 27, 28, 29, 30, 31, 32, 33, 34, 35, 36, 37, 38, 39, 40] (by decide +kernel) (by decide +kernel)
set_option maxRecDepth 20000 in
theorem gX7_figure_X7_codeAt : GoodIn wsX7_figure (wsV RX7 92 RX7 yX7_codeAt wsX7_codeAt) := goodIn_app (goodIn_of _ (by decide +kernel)) ggX7_figure_X7_codeAt
set_option maxRecDepth 20000 in
theorem ggX7_figure_X7_in : GoodIn wsX7_figure wsX7_in := goodIn_r _ [10] (by decide +kernel) (by decide +kernel)
set_option maxRecDepth 20000 in
theorem gX7_figure_X7_in : GoodIn wsX7_figure (va_wsS RX7 82 yX7_in wsX7_in) := goodIn_app (goodIn_of _ (by decide +kernel)) ggX7_figure_X7_in
theorem dX7_figure_0 : decode cX7_figure 0 = .ok (.aload_n 0, 1) := by decide +kernel
theorem dX7_figure_1 : decode cX7_figure 1 = .ok (.iload_n 1, 1) := by decide +kernel
theorem dX7_figure_2 : decode cX7_figure 2 = .ok (.iload_n 2, 1) := by decide +kernel
theorem dX7_figure_3 : decode cX7_figure 3 = .ok (.invokevirtual 92, 3) := by decide +kernel
theorem dX7_figure_6 : decode cX7_figure 6 = .ok (.bipush 48, 2) := by decide +kernel
theorem dX7_figure_8 : decode cX7_figure 8 = .ok (.isub, 1) := by decide +kernel
theorem dX7_figure_9 : decode cX7_figure 9 = .ok (.istore 5, 2) := by decide +kernel
theorem dX7_figure_11 : decode cX7_figure 11 = .ok (.iload 5, 2) := by decide +kernel
theorem dX7_figure_13 : decode cX7_figure 13 = .ok (.i2l, 1) := by decide +kernel
theorem dX7_figure_14 : decode cX7_figure 14 = .ok (.iload_n 3, 1) := by decide +kernel
theorem dX7_figure_15 : decode cX7_figure 15 = .ok (.i2l, 1) := by decide +kernel
theorem dX7_figure_16 : decode cX7_figure 16 = .ok (.iload 4, 2) := by decide +kernel
theorem dX7_figure_18 : decode cX7_figure 18 = .ok (.i2l, 1) := by decide +kernel
theorem dX7_figure_19 : decode cX7_figure 19 = .ok (.invokestatic 82, 3) := by decide +kernel
theorem dX7_figure_22 : decode cX7_figure 22 = .ok (.istore 6, 2) := by decide +kernel
theorem dX7_figure_24 : decode cX7_figure 24 = .ok (.aload_n 0, 1) := by decide +kernel
theorem dX7_figure_25 : decode cX7_figure 25 = .ok (.dup, 1) := by decide +kernel
theorem dX7_figure_26 : decode cX7_figure 26 = .ok (.getfield 89, 3) := by decide +kernel
theorem dX7_figure_29 : decode cX7_figure 29 = .ok (.iload 6, 2) := by decide +kernel
theorem dX7_figure_31 : decode cX7_figure 31 = .ok (.ifCond .eq 7, 3) := by decide +kernel
theorem dX7_figure_34 : decode cX7_figure 34 = .ok (.iconst 1, 1) := by decide +kernel
theorem dX7_figure_35 : decode cX7_figure 35 = .ok (.goto 4, 3) := by decide +kernel
theorem dX7_figure_38 : decode cX7_figure 38 = .ok (.iconst 0, 1) := by decide +kernel
theorem dX7_figure_39 : decode cX7_figure 39 = .ok (.iadd, 1) := by decide +kernel
theorem dX7_figure_40 : decode cX7_figure 40 = .ok (.putfield 89, 3) := by decide +kernel
theorem dX7_figure_43 : decode cX7_figure 43 = .ok (.iload 6, 2) := by decide +kernel
theorem dX7_figure_45 : decode cX7_figure 45 = .ok (.ifCond .eq 8, 3) := by decide +kernel
theorem dX7_figure_48 : decode cX7_figure 48 = .ok (.iload 5, 2) := by decide +kernel
theorem dX7_figure_50 : decode cX7_figure 50 = .ok (.goto 5, 3) := by decide +kernel
theorem dX7_figure_53 : decode cX7_figure 53 = .ok (.bipush (-9), 2) := by decide +kernel
theorem dX7_figure_55 : decode cX7_figure 55 = .ok (.ireturn, 1) := by decide +kernel
set_option maxRecDepth 20000 in
theorem ggX7_readsDeed_X7_codeAt : GoodIn wsX7_readsDeed wsX7_codeAt := goodIn_r _ [10, 2, 11, 19, 20, 21, 22, 23, 24, 25, 26, 27, 28, 29, 30, 31, 32, 33, 34, 35, 36, 37, 38, 39, 40, 41, 42, 43, 44, 45, 46, 47, 48] (by decide +kernel) (by decide +kernel)
set_option maxRecDepth 20000 in
theorem gX7_readsDeed_X7_codeAt : GoodIn wsX7_readsDeed (wsV RX7 92 RX7 yX7_codeAt wsX7_codeAt) := goodIn_app (goodIn_of _ (by decide +kernel)) ggX7_readsDeed_X7_codeAt
set_option maxRecDepth 20000 in
theorem ggX7_readsDeed_X7_figure : GoodIn wsX7_readsDeed wsX7_figure := goodIn_r _ [15, 2, 6, 7, 8, 9, 10, 11, 16, 17, 18, 19, 20, 21, 22, 23, 24, 25, 26, 27, 28, 29, 30, 31, 32, 33, 34, 35, 36, 37, 38, 39, 40, 41, 42, 43, 44, 45, 46, 47, 48] (by decide +kernel) (by decide +kernel)
set_option maxRecDepth 20000 in
theorem gX7_readsDeed_X7_figure : GoodIn wsX7_readsDeed (wsV RX7 99 RX7 yX7_figure wsX7_figure) := goodIn_app (goodIn_of _ (by decide +kernel)) ggX7_readsDeed_X7_figure
theorem dX7_readsDeed_0 : decode cX7_readsDeed 0 = .ok (.aload_n 0, 1) := by decide +kernel
theorem dX7_readsDeed_1 : decode cX7_readsDeed 1 = .ok (.getfield 96, 3) := by decide +kernel
theorem dX7_readsDeed_4 : decode cX7_readsDeed 4 = .ok (.iconst 5, 1) := by decide +kernel
theorem dX7_readsDeed_5 : decode cX7_readsDeed 5 = .ok (.if_icmp .eq 14, 3) := by decide +kernel
theorem dX7_readsDeed_8 : decode cX7_readsDeed 8 = .ok (.aload_n 0, 1) := by decide +kernel
theorem dX7_readsDeed_9 : decode cX7_readsDeed 9 = .ok (.iload_n 1, 1) := by decide +kernel
theorem dX7_readsDeed_10 : decode cX7_readsDeed 10 = .ok (.iload_n 2, 1) := by decide +kernel
theorem dX7_readsDeed_11 : decode cX7_readsDeed 11 = .ok (.invokevirtual 92, 3) := by decide +kernel
theorem dX7_readsDeed_14 : decode cX7_readsDeed 14 = .ok (.bipush 47, 2) := by decide +kernel
theorem dX7_readsDeed_16 : decode cX7_readsDeed 16 = .ok (.if_icmp .eq 5, 3) := by decide +kernel
theorem dX7_readsDeed_19 : decode cX7_readsDeed 19 = .ok (.iconst 0, 1) := by decide +kernel
theorem dX7_readsDeed_20 : decode cX7_readsDeed 20 = .ok (.ireturn, 1) := by decide +kernel
theorem dX7_readsDeed_21 : decode cX7_readsDeed 21 = .ok (.aload_n 0, 1) := by decide +kernel
theorem dX7_readsDeed_22 : decode cX7_readsDeed 22 = .ok (.dup, 1) := by decide +kernel
theorem dX7_readsDeed_23 : decode cX7_readsDeed 23 = .ok (.getfield 89, 3) := by decide +kernel
theorem dX7_readsDeed_26 : decode cX7_readsDeed 26 = .ok (.iconst 1, 1) := by decide +kernel
theorem dX7_readsDeed_27 : decode cX7_readsDeed 27 = .ok (.iadd, 1) := by decide +kernel
theorem dX7_readsDeed_28 : decode cX7_readsDeed 28 = .ok (.putfield 89, 3) := by decide +kernel
theorem dX7_readsDeed_31 : decode cX7_readsDeed 31 = .ok (.aload_n 0, 1) := by decide +kernel
theorem dX7_readsDeed_32 : decode cX7_readsDeed 32 = .ok (.iload_n 1, 1) := by decide +kernel
theorem dX7_readsDeed_33 : decode cX7_readsDeed 33 = .ok (.iload_n 2, 1) := by decide +kernel
theorem dX7_readsDeed_34 : decode cX7_readsDeed 34 = .ok (.iconst 0, 1) := by decide +kernel
theorem dX7_readsDeed_35 : decode cX7_readsDeed 35 = .ok (.bipush 9, 2) := by decide +kernel
theorem dX7_readsDeed_37 : decode cX7_readsDeed 37 = .ok (.invokevirtual 99, 3) := by decide +kernel
theorem dX7_readsDeed_40 : decode cX7_readsDeed 40 = .ok (.istore_n 3, 1) := by decide +kernel
theorem dX7_readsDeed_41 : decode cX7_readsDeed 41 = .ok (.iload_n 3, 1) := by decide +kernel
theorem dX7_readsDeed_42 : decode cX7_readsDeed 42 = .ok (.ifCond .ge 8, 3) := by decide +kernel
theorem dX7_readsDeed_45 : decode cX7_readsDeed 45 = .ok (.bipush (-9), 2) := by decide +kernel
theorem dX7_readsDeed_47 : decode cX7_readsDeed 47 = .ok (.goto 12, 3) := by decide +kernel
theorem dX7_readsDeed_50 : decode cX7_readsDeed 50 = .ok (.aload_n 0, 1) := by decide +kernel
theorem dX7_readsDeed_51 : decode cX7_readsDeed 51 = .ok (.iload_n 1, 1) := by decide +kernel
theorem dX7_readsDeed_52 : decode cX7_readsDeed 52 = .ok (.iload_n 2, 1) := by decide +kernel
theorem dX7_readsDeed_53 : decode cX7_readsDeed 53 = .ok (.iconst 0, 1) := by decide +kernel
theorem dX7_readsDeed_54 : decode cX7_readsDeed 54 = .ok (.bipush 9, 2) := by decide +kernel
theorem dX7_readsDeed_56 : decode cX7_readsDeed 56 = .ok (.invokevirtual 99, 3) := by decide +kernel
theorem dX7_readsDeed_59 : decode cX7_readsDeed 59 = .ok (.istore 4, 2) := by decide +kernel
theorem dX7_readsDeed_61 : decode cX7_readsDeed 61 = .ok (.iload 4, 2) := by decide +kernel
theorem dX7_readsDeed_63 : decode cX7_readsDeed 63 = .ok (.ifCond .ge 8, 3) := by decide +kernel
theorem dX7_readsDeed_66 : decode cX7_readsDeed 66 = .ok (.bipush (-9), 2) := by decide +kernel
theorem dX7_readsDeed_68 : decode cX7_readsDeed 68 = .ok (.goto 12, 3) := by decide +kernel
theorem dX7_readsDeed_71 : decode cX7_readsDeed 71 = .ok (.aload_n 0, 1) := by decide +kernel
theorem dX7_readsDeed_72 : decode cX7_readsDeed 72 = .ok (.iload_n 1, 1) := by decide +kernel
theorem dX7_readsDeed_73 : decode cX7_readsDeed 73 = .ok (.iload_n 2, 1) := by decide +kernel
theorem dX7_readsDeed_74 : decode cX7_readsDeed 74 = .ok (.iconst 0, 1) := by decide +kernel
theorem dX7_readsDeed_75 : decode cX7_readsDeed 75 = .ok (.bipush 9, 2) := by decide +kernel
theorem dX7_readsDeed_77 : decode cX7_readsDeed 77 = .ok (.invokevirtual 99, 3) := by decide +kernel
theorem dX7_readsDeed_80 : decode cX7_readsDeed 80 = .ok (.istore 5, 2) := by decide +kernel
theorem dX7_readsDeed_82 : decode cX7_readsDeed 82 = .ok (.iload 5, 2) := by decide +kernel
theorem dX7_readsDeed_84 : decode cX7_readsDeed 84 = .ok (.ifCond .ge 5, 3) := by decide +kernel
theorem dX7_readsDeed_87 : decode cX7_readsDeed 87 = .ok (.iconst 0, 1) := by decide +kernel
theorem dX7_readsDeed_88 : decode cX7_readsDeed 88 = .ok (.ireturn, 1) := by decide +kernel
theorem dX7_readsDeed_89 : decode cX7_readsDeed 89 = .ok (.aload_n 0, 1) := by decide +kernel
theorem dX7_readsDeed_90 : decode cX7_readsDeed 90 = .ok (.getfield 25, 3) := by decide +kernel
theorem dX7_readsDeed_93 : decode cX7_readsDeed 93 = .ok (.aload_n 0, 1) := by decide +kernel
theorem dX7_readsDeed_94 : decode cX7_readsDeed 94 = .ok (.getfield 96, 3) := by decide +kernel
theorem dX7_readsDeed_97 : decode cX7_readsDeed 97 = .ok (.iload_n 3, 1) := by decide +kernel
theorem dX7_readsDeed_98 : decode cX7_readsDeed 98 = .ok (.iastore, 1) := by decide +kernel
theorem dX7_readsDeed_99 : decode cX7_readsDeed 99 = .ok (.aload_n 0, 1) := by decide +kernel
theorem dX7_readsDeed_100 : decode cX7_readsDeed 100 = .ok (.getfield 28, 3) := by decide +kernel
theorem dX7_readsDeed_103 : decode cX7_readsDeed 103 = .ok (.aload_n 0, 1) := by decide +kernel
theorem dX7_readsDeed_104 : decode cX7_readsDeed 104 = .ok (.getfield 96, 3) := by decide +kernel
theorem dX7_readsDeed_107 : decode cX7_readsDeed 107 = .ok (.iload 4, 2) := by decide +kernel
theorem dX7_readsDeed_109 : decode cX7_readsDeed 109 = .ok (.iastore, 1) := by decide +kernel
theorem dX7_readsDeed_110 : decode cX7_readsDeed 110 = .ok (.aload_n 0, 1) := by decide +kernel
theorem dX7_readsDeed_111 : decode cX7_readsDeed 111 = .ok (.getfield 31, 3) := by decide +kernel
theorem dX7_readsDeed_114 : decode cX7_readsDeed 114 = .ok (.aload_n 0, 1) := by decide +kernel
theorem dX7_readsDeed_115 : decode cX7_readsDeed 115 = .ok (.getfield 96, 3) := by decide +kernel
theorem dX7_readsDeed_118 : decode cX7_readsDeed 118 = .ok (.iload 5, 2) := by decide +kernel
theorem dX7_readsDeed_120 : decode cX7_readsDeed 120 = .ok (.iastore, 1) := by decide +kernel
theorem dX7_readsDeed_121 : decode cX7_readsDeed 121 = .ok (.aload_n 0, 1) := by decide +kernel
theorem dX7_readsDeed_122 : decode cX7_readsDeed 122 = .ok (.dup, 1) := by decide +kernel
theorem dX7_readsDeed_123 : decode cX7_readsDeed 123 = .ok (.getfield 96, 3) := by decide +kernel
theorem dX7_readsDeed_126 : decode cX7_readsDeed 126 = .ok (.iconst 1, 1) := by decide +kernel
theorem dX7_readsDeed_127 : decode cX7_readsDeed 127 = .ok (.iadd, 1) := by decide +kernel
theorem dX7_readsDeed_128 : decode cX7_readsDeed 128 = .ok (.putfield 96, 3) := by decide +kernel
theorem dX7_readsDeed_131 : decode cX7_readsDeed 131 = .ok (.iconst 1, 1) := by decide +kernel
theorem dX7_readsDeed_132 : decode cX7_readsDeed 132 = .ok (.ireturn, 1) := by decide +kernel
set_option maxRecDepth 20000 in
theorem ggX7_readsSubject_X7_codeAt : GoodIn wsX7_readsSubject wsX7_codeAt := goodIn_r _ [9, 2, 10, 18, 19, 20, 21, 22, 23, 24, 25, 26, 27, 28, 29, 30, 31, 32, 33, 34, 35, 36, 37, 38, 39, 40, 41, 42, 43, 44, 45, 46, 47] (by decide +kernel) (by decide +kernel)
set_option maxRecDepth 20000 in
theorem gX7_readsSubject_X7_codeAt : GoodIn wsX7_readsSubject (wsV RX7 92 RX7 yX7_codeAt wsX7_codeAt) := goodIn_app (goodIn_of _ (by decide +kernel)) ggX7_readsSubject_X7_codeAt
set_option maxRecDepth 20000 in
theorem ggX7_readsSubject_X7_figure : GoodIn wsX7_readsSubject wsX7_figure := goodIn_r _ [14, 2, 5, 6, 7, 8, 9, 10, 15, 16, 17, 18, 19, 20, 21, 22, 23, 24, 25, 26, 27, 28, 29, 30, 31, 32, 33, 34, 35, 36, 37, 38, 39, 40, 41, 42, 43, 44, 45, 46, 47] (by decide +kernel) (by decide +kernel)
set_option maxRecDepth 20000 in
theorem gX7_readsSubject_X7_figure : GoodIn wsX7_readsSubject (wsV RX7 99 RX7 yX7_figure wsX7_figure) := goodIn_app (goodIn_of _ (by decide +kernel)) ggX7_readsSubject_X7_figure
theorem dX7_readsSubject_0 : decode cX7_readsSubject 0 = .ok (.aload_n 0, 1) := by decide +kernel
theorem dX7_readsSubject_1 : decode cX7_readsSubject 1 = .ok (.getfield 103, 3) := by decide +kernel
theorem dX7_readsSubject_4 : decode cX7_readsSubject 4 = .ok (.iconst 4, 1) := by decide +kernel
theorem dX7_readsSubject_5 : decode cX7_readsSubject 5 = .ok (.if_icmp .eq 14, 3) := by decide +kernel
theorem dX7_readsSubject_8 : decode cX7_readsSubject 8 = .ok (.aload_n 0, 1) := by decide +kernel
theorem dX7_readsSubject_9 : decode cX7_readsSubject 9 = .ok (.iload_n 1, 1) := by decide +kernel
theorem dX7_readsSubject_10 : decode cX7_readsSubject 10 = .ok (.iload_n 2, 1) := by decide +kernel
theorem dX7_readsSubject_11 : decode cX7_readsSubject 11 = .ok (.invokevirtual 92, 3) := by decide +kernel
theorem dX7_readsSubject_14 : decode cX7_readsSubject 14 = .ok (.bipush 59, 2) := by decide +kernel
theorem dX7_readsSubject_16 : decode cX7_readsSubject 16 = .ok (.if_icmp .eq 5, 3) := by decide +kernel
theorem dX7_readsSubject_19 : decode cX7_readsSubject 19 = .ok (.iconst 0, 1) := by decide +kernel
theorem dX7_readsSubject_20 : decode cX7_readsSubject 20 = .ok (.ireturn, 1) := by decide +kernel
theorem dX7_readsSubject_21 : decode cX7_readsSubject 21 = .ok (.aload_n 0, 1) := by decide +kernel
theorem dX7_readsSubject_22 : decode cX7_readsSubject 22 = .ok (.dup, 1) := by decide +kernel
theorem dX7_readsSubject_23 : decode cX7_readsSubject 23 = .ok (.getfield 89, 3) := by decide +kernel
theorem dX7_readsSubject_26 : decode cX7_readsSubject 26 = .ok (.iconst 1, 1) := by decide +kernel
theorem dX7_readsSubject_27 : decode cX7_readsSubject 27 = .ok (.iadd, 1) := by decide +kernel
theorem dX7_readsSubject_28 : decode cX7_readsSubject 28 = .ok (.putfield 89, 3) := by decide +kernel
theorem dX7_readsSubject_31 : decode cX7_readsSubject 31 = .ok (.aload_n 0, 1) := by decide +kernel
theorem dX7_readsSubject_32 : decode cX7_readsSubject 32 = .ok (.iload_n 1, 1) := by decide +kernel
theorem dX7_readsSubject_33 : decode cX7_readsSubject 33 = .ok (.iload_n 2, 1) := by decide +kernel
theorem dX7_readsSubject_34 : decode cX7_readsSubject 34 = .ok (.invokevirtual 92, 3) := by decide +kernel
theorem dX7_readsSubject_37 : decode cX7_readsSubject 37 = .ok (.istore_n 3, 1) := by decide +kernel
theorem dX7_readsSubject_38 : decode cX7_readsSubject 38 = .ok (.iload_n 3, 1) := by decide +kernel
theorem dX7_readsSubject_39 : decode cX7_readsSubject 39 = .ok (.bipush 115, 2) := by decide +kernel
theorem dX7_readsSubject_41 : decode cX7_readsSubject 41 = .ok (.if_icmp .eq 17, 3) := by decide +kernel
theorem dX7_readsSubject_44 : decode cX7_readsSubject 44 = .ok (.iload_n 3, 1) := by decide +kernel
theorem dX7_readsSubject_45 : decode cX7_readsSubject 45 = .ok (.bipush 109, 2) := by decide +kernel
theorem dX7_readsSubject_47 : decode cX7_readsSubject 47 = .ok (.if_icmp .eq 11, 3) := by decide +kernel
theorem dX7_readsSubject_50 : decode cX7_readsSubject 50 = .ok (.iload_n 3, 1) := by decide +kernel
theorem dX7_readsSubject_51 : decode cX7_readsSubject 51 = .ok (.bipush 104, 2) := by decide +kernel
theorem dX7_readsSubject_53 : decode cX7_readsSubject 53 = .ok (.if_icmp .eq 5, 3) := by decide +kernel
theorem dX7_readsSubject_56 : decode cX7_readsSubject 56 = .ok (.iconst 0, 1) := by decide +kernel
theorem dX7_readsSubject_57 : decode cX7_readsSubject 57 = .ok (.ireturn, 1) := by decide +kernel
theorem dX7_readsSubject_58 : decode cX7_readsSubject 58 = .ok (.aload_n 0, 1) := by decide +kernel
theorem dX7_readsSubject_59 : decode cX7_readsSubject 59 = .ok (.dup, 1) := by decide +kernel
theorem dX7_readsSubject_60 : decode cX7_readsSubject 60 = .ok (.getfield 89, 3) := by decide +kernel
theorem dX7_readsSubject_63 : decode cX7_readsSubject 63 = .ok (.iconst 1, 1) := by decide +kernel
theorem dX7_readsSubject_64 : decode cX7_readsSubject 64 = .ok (.iadd, 1) := by decide +kernel
theorem dX7_readsSubject_65 : decode cX7_readsSubject 65 = .ok (.putfield 89, 3) := by decide +kernel
theorem dX7_readsSubject_68 : decode cX7_readsSubject 68 = .ok (.aload_n 0, 1) := by decide +kernel
theorem dX7_readsSubject_69 : decode cX7_readsSubject 69 = .ok (.iload_n 1, 1) := by decide +kernel
theorem dX7_readsSubject_70 : decode cX7_readsSubject 70 = .ok (.iload_n 2, 1) := by decide +kernel
theorem dX7_readsSubject_71 : decode cX7_readsSubject 71 = .ok (.iconst 0, 1) := by decide +kernel
theorem dX7_readsSubject_72 : decode cX7_readsSubject 72 = .ok (.iconst 3, 1) := by decide +kernel
theorem dX7_readsSubject_73 : decode cX7_readsSubject 73 = .ok (.invokevirtual 99, 3) := by decide +kernel
theorem dX7_readsSubject_76 : decode cX7_readsSubject 76 = .ok (.istore 4, 2) := by decide +kernel
theorem dX7_readsSubject_78 : decode cX7_readsSubject 78 = .ok (.iload 4, 2) := by decide +kernel
theorem dX7_readsSubject_80 : decode cX7_readsSubject 80 = .ok (.ifCond .ge 5, 3) := by decide +kernel
theorem dX7_readsSubject_83 : decode cX7_readsSubject 83 = .ok (.iconst 0, 1) := by decide +kernel
theorem dX7_readsSubject_84 : decode cX7_readsSubject 84 = .ok (.ireturn, 1) := by decide +kernel
theorem dX7_readsSubject_85 : decode cX7_readsSubject 85 = .ok (.aload_n 0, 1) := by decide +kernel
theorem dX7_readsSubject_86 : decode cX7_readsSubject 86 = .ok (.getfield 34, 3) := by decide +kernel
theorem dX7_readsSubject_89 : decode cX7_readsSubject 89 = .ok (.aload_n 0, 1) := by decide +kernel
theorem dX7_readsSubject_90 : decode cX7_readsSubject 90 = .ok (.getfield 103, 3) := by decide +kernel
theorem dX7_readsSubject_93 : decode cX7_readsSubject 93 = .ok (.iload_n 3, 1) := by decide +kernel
theorem dX7_readsSubject_94 : decode cX7_readsSubject 94 = .ok (.bipush 115, 2) := by decide +kernel
theorem dX7_readsSubject_96 : decode cX7_readsSubject 96 = .ok (.if_icmp .ne 7, 3) := by decide +kernel
theorem dX7_readsSubject_99 : decode cX7_readsSubject 99 = .ok (.iconst 0, 1) := by decide +kernel
theorem dX7_readsSubject_100 : decode cX7_readsSubject 100 = .ok (.goto 14, 3) := by decide +kernel
theorem dX7_readsSubject_103 : decode cX7_readsSubject 103 = .ok (.iload_n 3, 1) := by decide +kernel
theorem dX7_readsSubject_104 : decode cX7_readsSubject 104 = .ok (.bipush 109, 2) := by decide +kernel
theorem dX7_readsSubject_106 : decode cX7_readsSubject 106 = .ok (.if_icmp .ne 7, 3) := by decide +kernel
theorem dX7_readsSubject_109 : decode cX7_readsSubject 109 = .ok (.iconst 1, 1) := by decide +kernel
theorem dX7_readsSubject_110 : decode cX7_readsSubject 110 = .ok (.goto 4, 3) := by decide +kernel
theorem dX7_readsSubject_113 : decode cX7_readsSubject 113 = .ok (.iconst 2, 1) := by decide +kernel
theorem dX7_readsSubject_114 : decode cX7_readsSubject 114 = .ok (.iastore, 1) := by decide +kernel
theorem dX7_readsSubject_115 : decode cX7_readsSubject 115 = .ok (.aload_n 0, 1) := by decide +kernel
theorem dX7_readsSubject_116 : decode cX7_readsSubject 116 = .ok (.getfield 37, 3) := by decide +kernel
theorem dX7_readsSubject_119 : decode cX7_readsSubject 119 = .ok (.aload_n 0, 1) := by decide +kernel
theorem dX7_readsSubject_120 : decode cX7_readsSubject 120 = .ok (.getfield 103, 3) := by decide +kernel
theorem dX7_readsSubject_123 : decode cX7_readsSubject 123 = .ok (.iload 4, 2) := by decide +kernel
theorem dX7_readsSubject_125 : decode cX7_readsSubject 125 = .ok (.iastore, 1) := by decide +kernel
theorem dX7_readsSubject_126 : decode cX7_readsSubject 126 = .ok (.aload_n 0, 1) := by decide +kernel
theorem dX7_readsSubject_127 : decode cX7_readsSubject 127 = .ok (.dup, 1) := by decide +kernel
theorem dX7_readsSubject_128 : decode cX7_readsSubject 128 = .ok (.getfield 103, 3) := by decide +kernel
theorem dX7_readsSubject_131 : decode cX7_readsSubject 131 = .ok (.iconst 1, 1) := by decide +kernel
theorem dX7_readsSubject_132 : decode cX7_readsSubject 132 = .ok (.iadd, 1) := by decide +kernel
theorem dX7_readsSubject_133 : decode cX7_readsSubject 133 = .ok (.putfield 103, 3) := by decide +kernel
theorem dX7_readsSubject_136 : decode cX7_readsSubject 136 = .ok (.iconst 1, 1) := by decide +kernel
theorem dX7_readsSubject_137 : decode cX7_readsSubject 137 = .ok (.ireturn, 1) := by decide +kernel
set_option maxRecDepth 20000 in
theorem ggX7_readsKingdom_X7_codeAt : GoodIn wsX7_readsKingdom wsX7_codeAt := goodIn_r _ [8, 1, 9, 30, 31, 32, 33, 34, 35, 36, 37, 38, 39, 40, 41, 42, 43, 44, 45, 46, 47, 48, 49, 50, 51, 52, 53, 54, 55, 56, 57, 58, 59] (by decide +kernel) (by decide +kernel)
set_option maxRecDepth 20000 in
theorem gX7_readsKingdom_X7_codeAt : GoodIn wsX7_readsKingdom (wsV RX7 92 RX7 yX7_codeAt wsX7_codeAt) := goodIn_app (goodIn_of _ (by decide +kernel)) ggX7_readsKingdom_X7_codeAt
set_option maxRecDepth 20000 in
theorem ggX7_readsKingdom_X7_readsDeed : GoodIn wsX7_readsKingdom wsX7_readsDeed := goodIn_r _ [13, 2, 1, 14, 15, 16, 4, 5, 6, 7, 8, 9, 17, 18, 19, 20, 21, 22, 23, 30, 31, 32, 33, 34, 35, 36, 37, 38, 39, 40, 41, 42, 43, 44, 45, 46, 47, 48, 49, 50, 51, 52, 53, 54, 55, 56, 57, 58, 59] (by decide +kernel) (by decide +kernel)
set_option maxRecDepth 20000 in
theorem gX7_readsKingdom_X7_readsDeed : GoodIn wsX7_readsKingdom (wsV RX7 106 RX7 yX7_readsDeed wsX7_readsDeed) := goodIn_app (goodIn_of _ (by decide +kernel)) ggX7_readsKingdom_X7_readsDeed
set_option maxRecDepth 20000 in
theorem ggX7_readsKingdom_X7_readsSubject : GoodIn wsX7_readsKingdom wsX7_readsSubject := goodIn_r _ [27, 3, 1, 28, 29, 4, 5, 6, 7, 8, 9, 17, 18, 19, 20, 21, 22, 23, 30, 31, 32, 33, 34, 35, 36, 37, 38, 39, 40, 41, 42, 43, 44, 45, 46, 47, 48, 49, 50, 51, 52, 53, 54, 55, 56, 57, 58, 59] (by decide +kernel) (by decide +kernel)
set_option maxRecDepth 20000 in
theorem gX7_readsKingdom_X7_readsSubject : GoodIn wsX7_readsKingdom (wsV RX7 110 RX7 yX7_readsSubject wsX7_readsSubject) := goodIn_app (goodIn_of _ (by decide +kernel)) ggX7_readsKingdom_X7_readsSubject
theorem dX7_readsKingdom_0 : decode cX7_readsKingdom 0 = .ok (.aload_n 0, 1) := by decide +kernel
theorem dX7_readsKingdom_1 : decode cX7_readsKingdom 1 = .ok (.iconst 0, 1) := by decide +kernel
theorem dX7_readsKingdom_2 : decode cX7_readsKingdom 2 = .ok (.putfield 89, 3) := by decide +kernel
theorem dX7_readsKingdom_5 : decode cX7_readsKingdom 5 = .ok (.aload_n 0, 1) := by decide +kernel
theorem dX7_readsKingdom_6 : decode cX7_readsKingdom 6 = .ok (.iconst 0, 1) := by decide +kernel
theorem dX7_readsKingdom_7 : decode cX7_readsKingdom 7 = .ok (.putfield 96, 3) := by decide +kernel
theorem dX7_readsKingdom_10 : decode cX7_readsKingdom 10 = .ok (.aload_n 0, 1) := by decide +kernel
theorem dX7_readsKingdom_11 : decode cX7_readsKingdom 11 = .ok (.iconst 0, 1) := by decide +kernel
theorem dX7_readsKingdom_12 : decode cX7_readsKingdom 12 = .ok (.putfield 103, 3) := by decide +kernel
theorem dX7_readsKingdom_15 : decode cX7_readsKingdom 15 = .ok (.aload_n 0, 1) := by decide +kernel
theorem dX7_readsKingdom_16 : decode cX7_readsKingdom 16 = .ok (.iload_n 1, 1) := by decide +kernel
theorem dX7_readsKingdom_17 : decode cX7_readsKingdom 17 = .ok (.iload_n 2, 1) := by decide +kernel
theorem dX7_readsKingdom_18 : decode cX7_readsKingdom 18 = .ok (.invokevirtual 92, 3) := by decide +kernel
theorem dX7_readsKingdom_21 : decode cX7_readsKingdom 21 = .ok (.bipush 112, 2) := by decide +kernel
theorem dX7_readsKingdom_23 : decode cX7_readsKingdom 23 = .ok (.if_icmp .ne 7, 3) := by decide +kernel
theorem dX7_readsKingdom_26 : decode cX7_readsKingdom 26 = .ok (.iconst 1, 1) := by decide +kernel
theorem dX7_readsKingdom_27 : decode cX7_readsKingdom 27 = .ok (.goto 4, 3) := by decide +kernel
theorem dX7_readsKingdom_30 : decode cX7_readsKingdom 30 = .ok (.iconst 0, 1) := by decide +kernel
theorem dX7_readsKingdom_31 : decode cX7_readsKingdom 31 = .ok (.istore_n 3, 1) := by decide +kernel
theorem dX7_readsKingdom_32 : decode cX7_readsKingdom 32 = .ok (.aload_n 0, 1) := by decide +kernel
theorem dX7_readsKingdom_33 : decode cX7_readsKingdom 33 = .ok (.dup, 1) := by decide +kernel
theorem dX7_readsKingdom_34 : decode cX7_readsKingdom 34 = .ok (.getfield 89, 3) := by decide +kernel
theorem dX7_readsKingdom_37 : decode cX7_readsKingdom 37 = .ok (.iload_n 3, 1) := by decide +kernel
theorem dX7_readsKingdom_38 : decode cX7_readsKingdom 38 = .ok (.ifCond .eq 7, 3) := by decide +kernel
theorem dX7_readsKingdom_41 : decode cX7_readsKingdom 41 = .ok (.iconst 1, 1) := by decide +kernel
theorem dX7_readsKingdom_42 : decode cX7_readsKingdom 42 = .ok (.goto 4, 3) := by decide +kernel
theorem dX7_readsKingdom_45 : decode cX7_readsKingdom 45 = .ok (.iconst 0, 1) := by decide +kernel
theorem dX7_readsKingdom_46 : decode cX7_readsKingdom 46 = .ok (.iadd, 1) := by decide +kernel
theorem dX7_readsKingdom_47 : decode cX7_readsKingdom 47 = .ok (.putfield 89, 3) := by decide +kernel
theorem dX7_readsKingdom_50 : decode cX7_readsKingdom 50 = .ok (.iload_n 3, 1) := by decide +kernel
theorem dX7_readsKingdom_51 : decode cX7_readsKingdom 51 = .ok (.ifCond .eq 31, 3) := by decide +kernel
theorem dX7_readsKingdom_54 : decode cX7_readsKingdom 54 = .ok (.aload_n 0, 1) := by decide +kernel
theorem dX7_readsKingdom_55 : decode cX7_readsKingdom 55 = .ok (.getfield 96, 3) := by decide +kernel
theorem dX7_readsKingdom_58 : decode cX7_readsKingdom 58 = .ok (.ifCond .eq 14, 3) := by decide +kernel
theorem dX7_readsKingdom_61 : decode cX7_readsKingdom 61 = .ok (.aload_n 0, 1) := by decide +kernel
theorem dX7_readsKingdom_62 : decode cX7_readsKingdom 62 = .ok (.iload_n 1, 1) := by decide +kernel
theorem dX7_readsKingdom_63 : decode cX7_readsKingdom 63 = .ok (.iload_n 2, 1) := by decide +kernel
theorem dX7_readsKingdom_64 : decode cX7_readsKingdom 64 = .ok (.invokevirtual 92, 3) := by decide +kernel
theorem dX7_readsKingdom_67 : decode cX7_readsKingdom 67 = .ok (.bipush 47, 2) := by decide +kernel
theorem dX7_readsKingdom_69 : decode cX7_readsKingdom 69 = .ok (.if_icmp .ne 13, 3) := by decide +kernel
theorem dX7_readsKingdom_72 : decode cX7_readsKingdom 72 = .ok (.aload_n 0, 1) := by decide +kernel
theorem dX7_readsKingdom_73 : decode cX7_readsKingdom 73 = .ok (.iload_n 1, 1) := by decide +kernel
theorem dX7_readsKingdom_74 : decode cX7_readsKingdom 74 = .ok (.iload_n 2, 1) := by decide +kernel
theorem dX7_readsKingdom_75 : decode cX7_readsKingdom 75 = .ok (.invokevirtual 106, 3) := by decide +kernel
theorem dX7_readsKingdom_78 : decode cX7_readsKingdom 78 = .ok (.istore_n 3, 1) := by decide +kernel
theorem dX7_readsKingdom_79 : decode cX7_readsKingdom 79 = .ok (.goto (-29), 3) := by decide +kernel
theorem dX7_readsKingdom_82 : decode cX7_readsKingdom 82 = .ok (.iload_n 3, 1) := by decide +kernel
theorem dX7_readsKingdom_83 : decode cX7_readsKingdom 83 = .ok (.ifCond .eq 28, 3) := by decide +kernel
theorem dX7_readsKingdom_86 : decode cX7_readsKingdom 86 = .ok (.aload_n 0, 1) := by decide +kernel
theorem dX7_readsKingdom_87 : decode cX7_readsKingdom 87 = .ok (.getfield 103, 3) := by decide +kernel
theorem dX7_readsKingdom_90 : decode cX7_readsKingdom 90 = .ok (.ifCond .eq 11, 3) := by decide +kernel
theorem dX7_readsKingdom_93 : decode cX7_readsKingdom 93 = .ok (.aload_n 0, 1) := by decide +kernel
theorem dX7_readsKingdom_94 : decode cX7_readsKingdom 94 = .ok (.getfield 89, 3) := by decide +kernel
theorem dX7_readsKingdom_97 : decode cX7_readsKingdom 97 = .ok (.iload_n 2, 1) := by decide +kernel
theorem dX7_readsKingdom_98 : decode cX7_readsKingdom 98 = .ok (.if_icmp .ge 13, 3) := by decide +kernel
theorem dX7_readsKingdom_101 : decode cX7_readsKingdom 101 = .ok (.aload_n 0, 1) := by decide +kernel
theorem dX7_readsKingdom_102 : decode cX7_readsKingdom 102 = .ok (.iload_n 1, 1) := by decide +kernel
theorem dX7_readsKingdom_103 : decode cX7_readsKingdom 103 = .ok (.iload_n 2, 1) := by decide +kernel
theorem dX7_readsKingdom_104 : decode cX7_readsKingdom 104 = .ok (.invokevirtual 110, 3) := by decide +kernel
theorem dX7_readsKingdom_107 : decode cX7_readsKingdom 107 = .ok (.istore_n 3, 1) := by decide +kernel
theorem dX7_readsKingdom_108 : decode cX7_readsKingdom 108 = .ok (.goto (-26), 3) := by decide +kernel
theorem dX7_readsKingdom_111 : decode cX7_readsKingdom 111 = .ok (.iload_n 3, 1) := by decide +kernel
theorem dX7_readsKingdom_112 : decode cX7_readsKingdom 112 = .ok (.ireturn, 1) := by decide +kernel
set_option maxRecDepth 20000 in
theorem ggX7_cellsBarred_X7_failed : GoodIn wsX7_cellsBarred wsX7_failed := goodIn_r _ [7, 8, 12, 13, 14, 15, 16, 17, 18, 19, 20, 21, 22, 23, 24, 25, 26, 27, 28, 29, 30, 31, 32, 33, 34, 35, 36, 37, 38, 39, 40, 41] (by decide +kernel) (by decide +kernel)
set_option maxRecDepth 20000 in
theorem gX7_cellsBarred_X7_failed : GoodIn wsX7_cellsBarred (wsV RX7 113 RX7 yX7_failed wsX7_failed) := goodIn_app (goodIn_of _ (by decide +kernel)) ggX7_cellsBarred_X7_failed
set_option maxRecDepth 20000 in
theorem ggX7_cellsBarred_X7_isBeyond : GoodIn wsX7_cellsBarred wsX7_isBeyond := goodIn_r _ [11] (by decide +kernel) (by decide +kernel)
set_option maxRecDepth 20000 in
theorem gX7_cellsBarred_X7_isBeyond : GoodIn wsX7_cellsBarred (va_wsS RX7 117 yX7_isBeyond wsX7_isBeyond) := goodIn_app (goodIn_of _ (by decide +kernel)) ggX7_cellsBarred_X7_isBeyond
theorem dX7_cellsBarred_0 : decode cX7_cellsBarred 0 = .ok (.aload_n 0, 1) := by decide +kernel
theorem dX7_cellsBarred_1 : decode cX7_cellsBarred 1 = .ok (.getfield 57, 3) := by decide +kernel
theorem dX7_cellsBarred_4 : decode cX7_cellsBarred 4 = .ok (.iload_n 1, 1) := by decide +kernel
theorem dX7_cellsBarred_5 : decode cX7_cellsBarred 5 = .ok (.iaload, 1) := by decide +kernel
theorem dX7_cellsBarred_6 : decode cX7_cellsBarred 6 = .ok (.ifCond .lt 19, 3) := by decide +kernel
theorem dX7_cellsBarred_9 : decode cX7_cellsBarred 9 = .ok (.aload_n 0, 1) := by decide +kernel
theorem dX7_cellsBarred_10 : decode cX7_cellsBarred 10 = .ok (.getfield 60, 3) := by decide +kernel
theorem dX7_cellsBarred_13 : decode cX7_cellsBarred 13 = .ok (.iload_n 1, 1) := by decide +kernel
theorem dX7_cellsBarred_14 : decode cX7_cellsBarred 14 = .ok (.iaload, 1) := by decide +kernel
theorem dX7_cellsBarred_15 : decode cX7_cellsBarred 15 = .ok (.iload_n 2, 1) := by decide +kernel
theorem dX7_cellsBarred_16 : decode cX7_cellsBarred 16 = .ok (.if_icmp .eq 9, 3) := by decide +kernel
theorem dX7_cellsBarred_19 : decode cX7_cellsBarred 19 = .ok (.aload_n 0, 1) := by decide +kernel
theorem dX7_cellsBarred_20 : decode cX7_cellsBarred 20 = .ok (.iconst 2, 1) := by decide +kernel
theorem dX7_cellsBarred_21 : decode cX7_cellsBarred 21 = .ok (.invokevirtual 113, 3) := by decide +kernel
theorem dX7_cellsBarred_24 : decode cX7_cellsBarred 24 = .ok (.ireturn, 1) := by decide +kernel
theorem dX7_cellsBarred_25 : decode cX7_cellsBarred 25 = .ok (.aload_n 0, 1) := by decide +kernel
theorem dX7_cellsBarred_26 : decode cX7_cellsBarred 26 = .ok (.getfield 57, 3) := by decide +kernel
theorem dX7_cellsBarred_29 : decode cX7_cellsBarred 29 = .ok (.iload_n 1, 1) := by decide +kernel
theorem dX7_cellsBarred_30 : decode cX7_cellsBarred 30 = .ok (.iaload, 1) := by decide +kernel
theorem dX7_cellsBarred_31 : decode cX7_cellsBarred 31 = .ok (.ifCond .ge 9, 3) := by decide +kernel
theorem dX7_cellsBarred_34 : decode cX7_cellsBarred 34 = .ok (.aload_n 0, 1) := by decide +kernel
theorem dX7_cellsBarred_35 : decode cX7_cellsBarred 35 = .ok (.iconst 1, 1) := by decide +kernel
theorem dX7_cellsBarred_36 : decode cX7_cellsBarred 36 = .ok (.invokevirtual 113, 3) := by decide +kernel
theorem dX7_cellsBarred_39 : decode cX7_cellsBarred 39 = .ok (.ireturn, 1) := by decide +kernel
theorem dX7_cellsBarred_40 : decode cX7_cellsBarred 40 = .ok (.lload 4, 2) := by decide +kernel
theorem dX7_cellsBarred_42 : decode cX7_cellsBarred 42 = .ok (.lconst 0, 1) := by decide +kernel
theorem dX7_cellsBarred_43 : decode cX7_cellsBarred 43 = .ok (.lcmp, 1) := by decide +kernel
theorem dX7_cellsBarred_44 : decode cX7_cellsBarred 44 = .ok (.ifCond .ge 9, 3) := by decide +kernel
theorem dX7_cellsBarred_47 : decode cX7_cellsBarred 47 = .ok (.aload_n 0, 1) := by decide +kernel
theorem dX7_cellsBarred_48 : decode cX7_cellsBarred 48 = .ok (.iconst 4, 1) := by decide +kernel
theorem dX7_cellsBarred_49 : decode cX7_cellsBarred 49 = .ok (.invokevirtual 113, 3) := by decide +kernel
theorem dX7_cellsBarred_52 : decode cX7_cellsBarred 52 = .ok (.ireturn, 1) := by decide +kernel
theorem dX7_cellsBarred_53 : decode cX7_cellsBarred 53 = .ok (.iload_n 3, 1) := by decide +kernel
theorem dX7_cellsBarred_54 : decode cX7_cellsBarred 54 = .ok (.lload 4, 2) := by decide +kernel
theorem dX7_cellsBarred_56 : decode cX7_cellsBarred 56 = .ok (.aload_n 0, 1) := by decide +kernel
theorem dX7_cellsBarred_57 : decode cX7_cellsBarred 57 = .ok (.getfield 57, 3) := by decide +kernel
theorem dX7_cellsBarred_60 : decode cX7_cellsBarred 60 = .ok (.iload_n 1, 1) := by decide +kernel
theorem dX7_cellsBarred_61 : decode cX7_cellsBarred 61 = .ok (.iaload, 1) := by decide +kernel
theorem dX7_cellsBarred_62 : decode cX7_cellsBarred 62 = .ok (.invokestatic 117, 3) := by decide +kernel
theorem dX7_cellsBarred_65 : decode cX7_cellsBarred 65 = .ok (.ifCond .eq 11, 3) := by decide +kernel
theorem dX7_cellsBarred_68 : decode cX7_cellsBarred 68 = .ok (.aload_n 0, 1) := by decide +kernel
theorem dX7_cellsBarred_69 : decode cX7_cellsBarred 69 = .ok (.iconst 3, 1) := by decide +kernel
theorem dX7_cellsBarred_70 : decode cX7_cellsBarred 70 = .ok (.invokevirtual 113, 3) := by decide +kernel
theorem dX7_cellsBarred_73 : decode cX7_cellsBarred 73 = .ok (.goto 4, 3) := by decide +kernel
theorem dX7_cellsBarred_76 : decode cX7_cellsBarred 76 = .ok (.iconst 0, 1) := by decide +kernel
theorem dX7_cellsBarred_77 : decode cX7_cellsBarred 77 = .ok (.ireturn, 1) := by decide +kernel
set_option maxRecDepth 20000 in
theorem ggX7_kingdom_X7_noSheet : GoodIn wsX7_kingdom wsX7_noSheet := goodIn_r _ [21, 22, 23, 24, 20, 25] (by decide +kernel) (by decide +kernel)
set_option maxRecDepth 20000 in
theorem gX7_kingdom_X7_noSheet : GoodIn wsX7_kingdom (va_wsS RX7 121 yX7_noSheet wsX7_noSheet) := goodIn_app (goodIn_of _ (by decide +kernel)) ggX7_kingdom_X7_noSheet
set_option maxRecDepth 20000 in
theorem ggX7_kingdom_X7_refused : GoodIn wsX7_kingdom wsX7_refused := goodIn_r _ [29, 30, 65, 66, 67, 68, 69, 70, 71, 72, 73, 74, 75, 76, 77, 78, 79, 80, 81, 82, 83, 84, 85, 86, 87, 88, 89, 90, 91, 92, 93, 94] (by decide +kernel) (by decide +kernel)
set_option maxRecDepth 20000 in
theorem gX7_kingdom_X7_refused : GoodIn wsX7_kingdom (wsV RX7 125 RX7 yX7_refused wsX7_refused) := goodIn_app (goodIn_of _ (by decide +kernel)) ggX7_kingdom_X7_refused
set_option maxRecDepth 20000 in
theorem ggX7_kingdom_X7_in : GoodIn wsX7_kingdom wsX7_in := goodIn_r _ [25] (by decide +kernel) (by decide +kernel)
set_option maxRecDepth 20000 in
theorem gX7_kingdom_X7_in : GoodIn wsX7_kingdom (va_wsS RX7 82 yX7_in wsX7_in) := goodIn_app (goodIn_of _ (by decide +kernel)) ggX7_kingdom_X7_in
set_option maxRecDepth 20000 in
theorem ggX7_kingdom_X7_cellsBarred : GoodIn wsX7_kingdom wsX7_cellsBarred := goodIn_r _ [34, 35, 36, 37, 38, 39, 20, 40, 30, 41, 42, 43, 65, 66, 67, 68, 69, 70, 71, 72, 73, 74, 75, 76, 77, 78, 79, 80, 81, 82, 83, 84, 85, 86, 87, 88, 89, 90, 91, 92, 93, 94] (by decide +kernel) (by decide +kernel)
set_option maxRecDepth 20000 in
theorem gX7_kingdom_X7_cellsBarred : GoodIn wsX7_kingdom (wsV RX7 130 RX7 yX7_cellsBarred wsX7_cellsBarred) := goodIn_app (goodIn_of _ (by decide +kernel)) ggX7_kingdom_X7_cellsBarred
set_option maxRecDepth 20000 in
theorem ggX7_kingdom_X7_readsKingdom : GoodIn wsX7_kingdom wsX7_readsKingdom := goodIn_r _ [47, 2, 3, 5, 48, 49, 50, 20, 51, 52, 53, 54, 55, 56, 8, 10, 12, 57, 58, 59, 60, 23, 24, 25, 61, 62, 63, 64, 14, 16, 65, 66, 67, 68, 69, 70, 71, 72, 73, 74, 75, 76, 77, 78, 79, 80, 81, 82, 83, 84, 85, 86, 87, 88, 89, 90, 91, 92, 93, 94] (by decide +kernel) (by decide +kernel)
set_option maxRecDepth 20000 in
theorem gX7_kingdom_X7_readsKingdom : GoodIn wsX7_kingdom (wsV RX7 134 RX7 yX7_readsKingdom wsX7_readsKingdom) := goodIn_app (goodIn_of _ (by decide +kernel)) ggX7_kingdom_X7_readsKingdom
theorem dX7_kingdom_0 : decode cX7_kingdom 0 = .ok (.iload_n 1, 1) := by decide +kernel
theorem dX7_kingdom_1 : decode cX7_kingdom 1 = .ok (.invokestatic 121, 3) := by decide +kernel
theorem dX7_kingdom_4 : decode cX7_kingdom 4 = .ok (.ifCond .eq 9, 3) := by decide +kernel
theorem dX7_kingdom_7 : decode cX7_kingdom 7 = .ok (.aload_n 0, 1) := by decide +kernel
theorem dX7_kingdom_8 : decode cX7_kingdom 8 = .ok (.iconst (-1), 1) := by decide +kernel
theorem dX7_kingdom_9 : decode cX7_kingdom 9 = .ok (.invokevirtual 125, 3) := by decide +kernel
theorem dX7_kingdom_12 : decode cX7_kingdom 12 = .ok (.ireturn, 1) := by decide +kernel
theorem dX7_kingdom_13 : decode cX7_kingdom 13 = .ok (.iload_n 2, 1) := by decide +kernel
theorem dX7_kingdom_14 : decode cX7_kingdom 14 = .ok (.i2l, 1) := by decide +kernel
theorem dX7_kingdom_15 : decode cX7_kingdom 15 = .ok (.lconst 0, 1) := by decide +kernel
theorem dX7_kingdom_16 : decode cX7_kingdom 16 = .ok (.ldc2_w 128, 3) := by decide +kernel
theorem dX7_kingdom_19 : decode cX7_kingdom 19 = .ok (.invokestatic 82, 3) := by decide +kernel
theorem dX7_kingdom_22 : decode cX7_kingdom 22 = .ok (.ifCond .ne 10, 3) := by decide +kernel
theorem dX7_kingdom_25 : decode cX7_kingdom 25 = .ok (.aload_n 0, 1) := by decide +kernel
theorem dX7_kingdom_26 : decode cX7_kingdom 26 = .ok (.bipush (-2), 2) := by decide +kernel
theorem dX7_kingdom_28 : decode cX7_kingdom 28 = .ok (.invokevirtual 125, 3) := by decide +kernel
theorem dX7_kingdom_31 : decode cX7_kingdom 31 = .ok (.ireturn, 1) := by decide +kernel
theorem dX7_kingdom_32 : decode cX7_kingdom 32 = .ok (.aload_n 0, 1) := by decide +kernel
theorem dX7_kingdom_33 : decode cX7_kingdom 33 = .ok (.iload_n 1, 1) := by decide +kernel
theorem dX7_kingdom_34 : decode cX7_kingdom 34 = .ok (.iload_n 2, 1) := by decide +kernel
theorem dX7_kingdom_35 : decode cX7_kingdom 35 = .ok (.iload_n 3, 1) := by decide +kernel
theorem dX7_kingdom_36 : decode cX7_kingdom 36 = .ok (.iload 4, 2) := by decide +kernel
theorem dX7_kingdom_38 : decode cX7_kingdom 38 = .ok (.i2l, 1) := by decide +kernel
theorem dX7_kingdom_39 : decode cX7_kingdom 39 = .ok (.invokevirtual 130, 3) := by decide +kernel
theorem dX7_kingdom_42 : decode cX7_kingdom 42 = .ok (.istore 5, 2) := by decide +kernel
theorem dX7_kingdom_44 : decode cX7_kingdom 44 = .ok (.iload 5, 2) := by decide +kernel
theorem dX7_kingdom_46 : decode cX7_kingdom 46 = .ok (.ifCond .ge 6, 3) := by decide +kernel
theorem dX7_kingdom_49 : decode cX7_kingdom 49 = .ok (.iload 5, 2) := by decide +kernel
theorem dX7_kingdom_51 : decode cX7_kingdom 51 = .ok (.ireturn, 1) := by decide +kernel
theorem dX7_kingdom_52 : decode cX7_kingdom 52 = .ok (.aload_n 0, 1) := by decide +kernel
theorem dX7_kingdom_53 : decode cX7_kingdom 53 = .ok (.bipush 60, 2) := by decide +kernel
theorem dX7_kingdom_55 : decode cX7_kingdom 55 = .ok (.iload_n 1, 1) := by decide +kernel
theorem dX7_kingdom_56 : decode cX7_kingdom 56 = .ok (.imul, 1) := by decide +kernel
theorem dX7_kingdom_57 : decode cX7_kingdom 57 = .ok (.iload_n 3, 1) := by decide +kernel
theorem dX7_kingdom_58 : decode cX7_kingdom 58 = .ok (.iadd, 1) := by decide +kernel
theorem dX7_kingdom_59 : decode cX7_kingdom 59 = .ok (.iload 4, 2) := by decide +kernel
theorem dX7_kingdom_61 : decode cX7_kingdom 61 = .ok (.invokevirtual 134, 3) := by decide +kernel
theorem dX7_kingdom_64 : decode cX7_kingdom 64 = .ok (.ifCond .ne 15, 3) := by decide +kernel
theorem dX7_kingdom_67 : decode cX7_kingdom 67 = .ok (.aload_n 0, 1) := by decide +kernel
theorem dX7_kingdom_68 : decode cX7_kingdom 68 = .ok (.bipush (-100), 2) := by decide +kernel
theorem dX7_kingdom_70 : decode cX7_kingdom 70 = .ok (.aload_n 0, 1) := by decide +kernel
theorem dX7_kingdom_71 : decode cX7_kingdom 71 = .ok (.getfield 89, 3) := by decide +kernel
theorem dX7_kingdom_74 : decode cX7_kingdom 74 = .ok (.isub, 1) := by decide +kernel
theorem dX7_kingdom_75 : decode cX7_kingdom 75 = .ok (.invokevirtual 125, 3) := by decide +kernel
theorem dX7_kingdom_78 : decode cX7_kingdom 78 = .ok (.ireturn, 1) := by decide +kernel
theorem dX7_kingdom_79 : decode cX7_kingdom 79 = .ok (.aload_n 0, 1) := by decide +kernel
theorem dX7_kingdom_80 : decode cX7_kingdom 80 = .ok (.aload_n 0, 1) := by decide +kernel
theorem dX7_kingdom_81 : decode cX7_kingdom 81 = .ok (.getfield 96, 3) := by decide +kernel
theorem dX7_kingdom_84 : decode cX7_kingdom 84 = .ok (.putfield 79, 3) := by decide +kernel
theorem dX7_kingdom_87 : decode cX7_kingdom 87 = .ok (.aload_n 0, 1) := by decide +kernel
theorem dX7_kingdom_88 : decode cX7_kingdom 88 = .ok (.aload_n 0, 1) := by decide +kernel
theorem dX7_kingdom_89 : decode cX7_kingdom 89 = .ok (.getfield 103, 3) := by decide +kernel
theorem dX7_kingdom_92 : decode cX7_kingdom 92 = .ok (.putfield 86, 3) := by decide +kernel
theorem dX7_kingdom_95 : decode cX7_kingdom 95 = .ok (.iconst 0, 1) := by decide +kernel
theorem dX7_kingdom_96 : decode cX7_kingdom 96 = .ok (.istore 6, 2) := by decide +kernel
theorem dX7_kingdom_98 : decode cX7_kingdom 98 = .ok (.iload 6, 2) := by decide +kernel
theorem dX7_kingdom_100 : decode cX7_kingdom 100 = .ok (.aload_n 0, 1) := by decide +kernel
theorem dX7_kingdom_101 : decode cX7_kingdom 101 = .ok (.getfield 79, 3) := by decide +kernel
theorem dX7_kingdom_104 : decode cX7_kingdom 104 = .ok (.if_icmp .ge 51, 3) := by decide +kernel
theorem dX7_kingdom_107 : decode cX7_kingdom 107 = .ok (.aload_n 0, 1) := by decide +kernel
theorem dX7_kingdom_108 : decode cX7_kingdom 108 = .ok (.getfield 7, 3) := by decide +kernel
theorem dX7_kingdom_111 : decode cX7_kingdom 111 = .ok (.iload 6, 2) := by decide +kernel
theorem dX7_kingdom_113 : decode cX7_kingdom 113 = .ok (.aload_n 0, 1) := by decide +kernel
theorem dX7_kingdom_114 : decode cX7_kingdom 114 = .ok (.getfield 25, 3) := by decide +kernel
theorem dX7_kingdom_117 : decode cX7_kingdom 117 = .ok (.iload 6, 2) := by decide +kernel
theorem dX7_kingdom_119 : decode cX7_kingdom 119 = .ok (.iaload, 1) := by decide +kernel
theorem dX7_kingdom_120 : decode cX7_kingdom 120 = .ok (.iastore, 1) := by decide +kernel
theorem dX7_kingdom_121 : decode cX7_kingdom 121 = .ok (.aload_n 0, 1) := by decide +kernel
theorem dX7_kingdom_122 : decode cX7_kingdom 122 = .ok (.getfield 13, 3) := by decide +kernel
theorem dX7_kingdom_125 : decode cX7_kingdom 125 = .ok (.iload 6, 2) := by decide +kernel
theorem dX7_kingdom_127 : decode cX7_kingdom 127 = .ok (.aload_n 0, 1) := by decide +kernel
theorem dX7_kingdom_128 : decode cX7_kingdom 128 = .ok (.getfield 28, 3) := by decide +kernel
theorem dX7_kingdom_131 : decode cX7_kingdom 131 = .ok (.iload 6, 2) := by decide +kernel
theorem dX7_kingdom_133 : decode cX7_kingdom 133 = .ok (.iaload, 1) := by decide +kernel
theorem dX7_kingdom_134 : decode cX7_kingdom 134 = .ok (.iastore, 1) := by decide +kernel
theorem dX7_kingdom_135 : decode cX7_kingdom 135 = .ok (.aload_n 0, 1) := by decide +kernel
theorem dX7_kingdom_136 : decode cX7_kingdom 136 = .ok (.getfield 16, 3) := by decide +kernel
theorem dX7_kingdom_139 : decode cX7_kingdom 139 = .ok (.iload 6, 2) := by decide +kernel
theorem dX7_kingdom_141 : decode cX7_kingdom 141 = .ok (.aload_n 0, 1) := by decide +kernel
theorem dX7_kingdom_142 : decode cX7_kingdom 142 = .ok (.getfield 31, 3) := by decide +kernel
theorem dX7_kingdom_145 : decode cX7_kingdom 145 = .ok (.iload 6, 2) := by decide +kernel
theorem dX7_kingdom_147 : decode cX7_kingdom 147 = .ok (.iaload, 1) := by decide +kernel
theorem dX7_kingdom_148 : decode cX7_kingdom 148 = .ok (.iastore, 1) := by decide +kernel
theorem dX7_kingdom_149 : decode cX7_kingdom 149 = .ok (.iinc 6 1, 3) := by decide +kernel
theorem dX7_kingdom_152 : decode cX7_kingdom 152 = .ok (.goto (-54), 3) := by decide +kernel
theorem dX7_kingdom_155 : decode cX7_kingdom 155 = .ok (.iconst 0, 1) := by decide +kernel
theorem dX7_kingdom_156 : decode cX7_kingdom 156 = .ok (.istore 6, 2) := by decide +kernel
theorem dX7_kingdom_158 : decode cX7_kingdom 158 = .ok (.iload 6, 2) := by decide +kernel
theorem dX7_kingdom_160 : decode cX7_kingdom 160 = .ok (.aload_n 0, 1) := by decide +kernel
theorem dX7_kingdom_161 : decode cX7_kingdom 161 = .ok (.getfield 86, 3) := by decide +kernel
theorem dX7_kingdom_164 : decode cX7_kingdom 164 = .ok (.if_icmp .ge 37, 3) := by decide +kernel
theorem dX7_kingdom_167 : decode cX7_kingdom 167 = .ok (.aload_n 0, 1) := by decide +kernel
theorem dX7_kingdom_168 : decode cX7_kingdom 168 = .ok (.getfield 19, 3) := by decide +kernel
theorem dX7_kingdom_171 : decode cX7_kingdom 171 = .ok (.iload 6, 2) := by decide +kernel
theorem dX7_kingdom_173 : decode cX7_kingdom 173 = .ok (.aload_n 0, 1) := by decide +kernel
theorem dX7_kingdom_174 : decode cX7_kingdom 174 = .ok (.getfield 34, 3) := by decide +kernel
theorem dX7_kingdom_177 : decode cX7_kingdom 177 = .ok (.iload 6, 2) := by decide +kernel
theorem dX7_kingdom_179 : decode cX7_kingdom 179 = .ok (.iaload, 1) := by decide +kernel
theorem dX7_kingdom_180 : decode cX7_kingdom 180 = .ok (.iastore, 1) := by decide +kernel
theorem dX7_kingdom_181 : decode cX7_kingdom 181 = .ok (.aload_n 0, 1) := by decide +kernel
theorem dX7_kingdom_182 : decode cX7_kingdom 182 = .ok (.getfield 22, 3) := by decide +kernel
theorem dX7_kingdom_185 : decode cX7_kingdom 185 = .ok (.iload 6, 2) := by decide +kernel
theorem dX7_kingdom_187 : decode cX7_kingdom 187 = .ok (.aload_n 0, 1) := by decide +kernel
theorem dX7_kingdom_188 : decode cX7_kingdom 188 = .ok (.getfield 37, 3) := by decide +kernel
theorem dX7_kingdom_191 : decode cX7_kingdom 191 = .ok (.iload 6, 2) := by decide +kernel
theorem dX7_kingdom_193 : decode cX7_kingdom 193 = .ok (.iaload, 1) := by decide +kernel
theorem dX7_kingdom_194 : decode cX7_kingdom 194 = .ok (.iastore, 1) := by decide +kernel
theorem dX7_kingdom_195 : decode cX7_kingdom 195 = .ok (.iinc 6 1, 3) := by decide +kernel
theorem dX7_kingdom_198 : decode cX7_kingdom 198 = .ok (.goto (-40), 3) := by decide +kernel
theorem dX7_kingdom_201 : decode cX7_kingdom 201 = .ok (.aload_n 0, 1) := by decide +kernel
theorem dX7_kingdom_202 : decode cX7_kingdom 202 = .ok (.iconst 0, 1) := by decide +kernel
theorem dX7_kingdom_203 : decode cX7_kingdom 203 = .ok (.putfield 137, 3) := by decide +kernel
theorem dX7_kingdom_206 : decode cX7_kingdom 206 = .ok (.aload_n 0, 1) := by decide +kernel
theorem dX7_kingdom_207 : decode cX7_kingdom 207 = .ok (.aload_n 0, 1) := by decide +kernel
theorem dX7_kingdom_208 : decode cX7_kingdom 208 = .ok (.getfield 86, 3) := by decide +kernel
theorem dX7_kingdom_211 : decode cX7_kingdom 211 = .ok (.invokevirtual 125, 3) := by decide +kernel
theorem dX7_kingdom_214 : decode cX7_kingdom 214 = .ok (.ireturn, 1) := by decide +kernel
theorem dX7_fearOf_0 : decode cX7_fearOf 0 = .ok (.aload_n 0, 1) := by decide +kernel
theorem dX7_fearOf_1 : decode cX7_fearOf 1 = .ok (.getfield 13, 3) := by decide +kernel
theorem dX7_fearOf_4 : decode cX7_fearOf 4 = .ok (.iload_n 2, 1) := by decide +kernel
theorem dX7_fearOf_5 : decode cX7_fearOf 5 = .ok (.iaload, 1) := by decide +kernel
theorem dX7_fearOf_6 : decode cX7_fearOf 6 = .ok (.aload_n 0, 1) := by decide +kernel
theorem dX7_fearOf_7 : decode cX7_fearOf 7 = .ok (.getfield 16, 3) := by decide +kernel
theorem dX7_fearOf_10 : decode cX7_fearOf 10 = .ok (.iload_n 2, 1) := by decide +kernel
theorem dX7_fearOf_11 : decode cX7_fearOf 11 = .ok (.iaload, 1) := by decide +kernel
theorem dX7_fearOf_12 : decode cX7_fearOf 12 = .ok (.imul, 1) := by decide +kernel
theorem dX7_fearOf_13 : decode cX7_fearOf 13 = .ok (.istore_n 3, 1) := by decide +kernel
theorem dX7_fearOf_14 : decode cX7_fearOf 14 = .ok (.aload_n 0, 1) := by decide +kernel
theorem dX7_fearOf_15 : decode cX7_fearOf 15 = .ok (.getfield 19, 3) := by decide +kernel
theorem dX7_fearOf_18 : decode cX7_fearOf 18 = .ok (.iload_n 1, 1) := by decide +kernel
theorem dX7_fearOf_19 : decode cX7_fearOf 19 = .ok (.iaload, 1) := by decide +kernel
theorem dX7_fearOf_20 : decode cX7_fearOf 20 = .ok (.ifCond .ne 7, 3) := by decide +kernel
theorem dX7_fearOf_23 : decode cX7_fearOf 23 = .ok (.iload_n 3, 1) := by decide +kernel
theorem dX7_fearOf_24 : decode cX7_fearOf 24 = .ok (.goto 26, 3) := by decide +kernel
theorem dX7_fearOf_27 : decode cX7_fearOf 27 = .ok (.aload_n 0, 1) := by decide +kernel
theorem dX7_fearOf_28 : decode cX7_fearOf 28 = .ok (.getfield 19, 3) := by decide +kernel
theorem dX7_fearOf_31 : decode cX7_fearOf 31 = .ok (.iload_n 1, 1) := by decide +kernel
theorem dX7_fearOf_32 : decode cX7_fearOf 32 = .ok (.iaload, 1) := by decide +kernel
theorem dX7_fearOf_33 : decode cX7_fearOf 33 = .ok (.iconst 1, 1) := by decide +kernel
theorem dX7_fearOf_34 : decode cX7_fearOf 34 = .ok (.if_icmp .ne 10, 3) := by decide +kernel
theorem dX7_fearOf_37 : decode cX7_fearOf 37 = .ok (.iload_n 3, 1) := by decide +kernel
theorem dX7_fearOf_38 : decode cX7_fearOf 38 = .ok (.bipush 10, 2) := by decide +kernel
theorem dX7_fearOf_40 : decode cX7_fearOf 40 = .ok (.iadd, 1) := by decide +kernel
theorem dX7_fearOf_41 : decode cX7_fearOf 41 = .ok (.goto 9, 3) := by decide +kernel
theorem dX7_fearOf_44 : decode cX7_fearOf 44 = .ok (.iconst 2, 1) := by decide +kernel
theorem dX7_fearOf_45 : decode cX7_fearOf 45 = .ok (.iload_n 3, 1) := by decide +kernel
theorem dX7_fearOf_46 : decode cX7_fearOf 46 = .ok (.bipush 10, 2) := by decide +kernel
theorem dX7_fearOf_48 : decode cX7_fearOf 48 = .ok (.iadd, 1) := by decide +kernel
theorem dX7_fearOf_49 : decode cX7_fearOf 49 = .ok (.imul, 1) := by decide +kernel
theorem dX7_fearOf_50 : decode cX7_fearOf 50 = .ok (.ireturn, 1) := by decide +kernel
set_option maxRecDepth 20000 in
theorem ggX7_valueOf_X7_fearOf : GoodIn wsX7_valueOf wsX7_fearOf := goodIn_r _ [6, 7, 8, 9, 10, 11, 12, 13, 14, 15, 16, 17, 18, 19, 20, 21, 22, 23, 24, 25, 26, 27, 28, 29, 30, 31, 32, 33, 34, 35, 36, 37, 38, 39] (by decide +kernel) (by decide +kernel)
set_option maxRecDepth 20000 in
theorem gX7_valueOf_X7_fearOf : GoodIn wsX7_valueOf (wsV RX7 140 RX7 yX7_fearOf wsX7_fearOf) := goodIn_app (goodIn_of _ (by decide +kernel)) ggX7_valueOf_X7_fearOf
theorem dX7_valueOf_0 : decode cX7_valueOf 0 = .ok (.bipush 10, 2) := by decide +kernel
theorem dX7_valueOf_2 : decode cX7_valueOf 2 = .ok (.aload_n 0, 1) := by decide +kernel
theorem dX7_valueOf_3 : decode cX7_valueOf 3 = .ok (.getfield 7, 3) := by decide +kernel
theorem dX7_valueOf_6 : decode cX7_valueOf 6 = .ok (.iload_n 2, 1) := by decide +kernel
theorem dX7_valueOf_7 : decode cX7_valueOf 7 = .ok (.iaload, 1) := by decide +kernel
theorem dX7_valueOf_8 : decode cX7_valueOf 8 = .ok (.imul, 1) := by decide +kernel
theorem dX7_valueOf_9 : decode cX7_valueOf 9 = .ok (.aload_n 0, 1) := by decide +kernel
theorem dX7_valueOf_10 : decode cX7_valueOf 10 = .ok (.iload_n 1, 1) := by decide +kernel
theorem dX7_valueOf_11 : decode cX7_valueOf 11 = .ok (.iload_n 2, 1) := by decide +kernel
theorem dX7_valueOf_12 : decode cX7_valueOf 12 = .ok (.invokevirtual 140, 3) := by decide +kernel
theorem dX7_valueOf_15 : decode cX7_valueOf 15 = .ok (.isub, 1) := by decide +kernel
theorem dX7_valueOf_16 : decode cX7_valueOf 16 = .ok (.ireturn, 1) := by decide +kernel
set_option maxRecDepth 20000 in
theorem ggX7_doneBy_X7_valueOf : GoodIn wsX7_doneBy wsX7_valueOf := goodIn_r _ [6, 7, 8, 9, 10, 5, 11, 12, 13, 14, 15, 16, 17, 18, 19, 20, 21, 22, 23, 24, 25, 26, 27, 28, 29, 30, 31, 32, 33, 34, 35, 36, 37, 38, 39, 40, 41, 42, 43, 44] (by decide +kernel) (by decide +kernel)
set_option maxRecDepth 20000 in
theorem gX7_doneBy_X7_valueOf : GoodIn wsX7_doneBy (wsV RX7 143 RX7 yX7_valueOf wsX7_valueOf) := goodIn_app (goodIn_of _ (by decide +kernel)) ggX7_doneBy_X7_valueOf
theorem dX7_doneBy_0 : decode cX7_doneBy 0 = .ok (.iconst 0, 1) := by decide +kernel
theorem dX7_doneBy_1 : decode cX7_doneBy 1 = .ok (.istore_n 2, 1) := by decide +kernel
theorem dX7_doneBy_2 : decode cX7_doneBy 2 = .ok (.iconst 0, 1) := by decide +kernel
theorem dX7_doneBy_3 : decode cX7_doneBy 3 = .ok (.istore_n 3, 1) := by decide +kernel
theorem dX7_doneBy_4 : decode cX7_doneBy 4 = .ok (.iload_n 3, 1) := by decide +kernel
theorem dX7_doneBy_5 : decode cX7_doneBy 5 = .ok (.aload_n 0, 1) := by decide +kernel
theorem dX7_doneBy_6 : decode cX7_doneBy 6 = .ok (.getfield 79, 3) := by decide +kernel
theorem dX7_doneBy_9 : decode cX7_doneBy 9 = .ok (.if_icmp .ge 28, 3) := by decide +kernel
theorem dX7_doneBy_12 : decode cX7_doneBy 12 = .ok (.iload_n 2, 1) := by decide +kernel
theorem dX7_doneBy_13 : decode cX7_doneBy 13 = .ok (.aload_n 0, 1) := by decide +kernel
theorem dX7_doneBy_14 : decode cX7_doneBy 14 = .ok (.iload_n 1, 1) := by decide +kernel
theorem dX7_doneBy_15 : decode cX7_doneBy 15 = .ok (.iload_n 3, 1) := by decide +kernel
theorem dX7_doneBy_16 : decode cX7_doneBy 16 = .ok (.invokevirtual 143, 3) := by decide +kernel
theorem dX7_doneBy_19 : decode cX7_doneBy 19 = .ok (.ifCond .le 9, 3) := by decide +kernel
theorem dX7_doneBy_22 : decode cX7_doneBy 22 = .ok (.iconst 1, 1) := by decide +kernel
theorem dX7_doneBy_23 : decode cX7_doneBy 23 = .ok (.iload_n 3, 1) := by decide +kernel
theorem dX7_doneBy_24 : decode cX7_doneBy 24 = .ok (.ishl, 1) := by decide +kernel
theorem dX7_doneBy_25 : decode cX7_doneBy 25 = .ok (.goto 4, 3) := by decide +kernel
theorem dX7_doneBy_28 : decode cX7_doneBy 28 = .ok (.iconst 0, 1) := by decide +kernel
theorem dX7_doneBy_29 : decode cX7_doneBy 29 = .ok (.ior, 1) := by decide +kernel
theorem dX7_doneBy_30 : decode cX7_doneBy 30 = .ok (.istore_n 2, 1) := by decide +kernel
theorem dX7_doneBy_31 : decode cX7_doneBy 31 = .ok (.iinc 3 1, 3) := by decide +kernel
theorem dX7_doneBy_34 : decode cX7_doneBy 34 = .ok (.goto (-30), 3) := by decide +kernel
theorem dX7_doneBy_37 : decode cX7_doneBy 37 = .ok (.iload_n 2, 1) := by decide +kernel
theorem dX7_doneBy_38 : decode cX7_doneBy 38 = .ok (.ireturn, 1) := by decide +kernel
theorem dX7_ofDeedBy_0 : decode cX7_ofDeedBy 0 = .ok (.iload_n 2, 1) := by decide +kernel
theorem dX7_ofDeedBy_1 : decode cX7_ofDeedBy 1 = .ok (.ifCond .ne 12, 3) := by decide +kernel
theorem dX7_ofDeedBy_4 : decode cX7_ofDeedBy 4 = .ok (.aload_n 0, 1) := by decide +kernel
theorem dX7_ofDeedBy_5 : decode cX7_ofDeedBy 5 = .ok (.getfield 7, 3) := by decide +kernel
theorem dX7_ofDeedBy_8 : decode cX7_ofDeedBy 8 = .ok (.iload_n 1, 1) := by decide +kernel
theorem dX7_ofDeedBy_9 : decode cX7_ofDeedBy 9 = .ok (.iaload, 1) := by decide +kernel
theorem dX7_ofDeedBy_10 : decode cX7_ofDeedBy 10 = .ok (.goto 23, 3) := by decide +kernel
theorem dX7_ofDeedBy_13 : decode cX7_ofDeedBy 13 = .ok (.iload_n 2, 1) := by decide +kernel
theorem dX7_ofDeedBy_14 : decode cX7_ofDeedBy 14 = .ok (.iconst 1, 1) := by decide +kernel
theorem dX7_ofDeedBy_15 : decode cX7_ofDeedBy 15 = .ok (.if_icmp .ne 12, 3) := by decide +kernel
theorem dX7_ofDeedBy_18 : decode cX7_ofDeedBy 18 = .ok (.aload_n 0, 1) := by decide +kernel
theorem dX7_ofDeedBy_19 : decode cX7_ofDeedBy 19 = .ok (.getfield 13, 3) := by decide +kernel
theorem dX7_ofDeedBy_22 : decode cX7_ofDeedBy 22 = .ok (.iload_n 1, 1) := by decide +kernel
theorem dX7_ofDeedBy_23 : decode cX7_ofDeedBy 23 = .ok (.iaload, 1) := by decide +kernel
theorem dX7_ofDeedBy_24 : decode cX7_ofDeedBy 24 = .ok (.goto 9, 3) := by decide +kernel
theorem dX7_ofDeedBy_27 : decode cX7_ofDeedBy 27 = .ok (.aload_n 0, 1) := by decide +kernel
theorem dX7_ofDeedBy_28 : decode cX7_ofDeedBy 28 = .ok (.getfield 16, 3) := by decide +kernel
theorem dX7_ofDeedBy_31 : decode cX7_ofDeedBy 31 = .ok (.iload_n 1, 1) := by decide +kernel
theorem dX7_ofDeedBy_32 : decode cX7_ofDeedBy 32 = .ok (.iaload, 1) := by decide +kernel
theorem dX7_ofDeedBy_33 : decode cX7_ofDeedBy 33 = .ok (.ireturn, 1) := by decide +kernel
set_option maxRecDepth 20000 in
theorem ggX7_ofDeed_X7_noDeed : GoodIn wsX7_ofDeed wsX7_noDeed := goodIn_r _ [6, 7, 8, 9, 5, 10, 18, 19, 20, 21, 22, 23, 24, 25, 26, 27, 28, 29, 30, 31, 32, 33, 34, 35, 36, 37, 38, 39, 40, 41, 42, 43, 44, 45, 46, 47] (by decide +kernel) (by decide +kernel)
set_option maxRecDepth 20000 in
theorem gX7_ofDeed_X7_noDeed : GoodIn wsX7_ofDeed (wsV RX7 146 RX7 yX7_noDeed wsX7_noDeed) := goodIn_app (goodIn_of _ (by decide +kernel)) ggX7_ofDeed_X7_noDeed
set_option maxRecDepth 20000 in
theorem ggX7_ofDeed_X7_in : GoodIn wsX7_ofDeed wsX7_in := goodIn_r _ [10] (by decide +kernel) (by decide +kernel)
set_option maxRecDepth 20000 in
theorem gX7_ofDeed_X7_in : GoodIn wsX7_ofDeed (va_wsS RX7 82 yX7_in wsX7_in) := goodIn_app (goodIn_of _ (by decide +kernel)) ggX7_ofDeed_X7_in
set_option maxRecDepth 20000 in
theorem ggX7_ofDeed_X7_ofDeedBy : GoodIn wsX7_ofDeed wsX7_ofDeedBy := goodIn_r _ [14, 15, 16, 17, 18, 19, 20, 21, 22, 23, 24, 25, 26, 27, 28, 29, 30, 31, 32, 33, 34, 35, 36, 37, 38, 39, 40, 41, 42, 43, 44, 45, 46, 47] (by decide +kernel) (by decide +kernel)
set_option maxRecDepth 20000 in
theorem gX7_ofDeed_X7_ofDeedBy : GoodIn wsX7_ofDeed (wsV RX7 149 RX7 yX7_ofDeedBy wsX7_ofDeedBy) := goodIn_app (goodIn_of _ (by decide +kernel)) ggX7_ofDeed_X7_ofDeedBy
theorem dX7_ofDeed_0 : decode cX7_ofDeed 0 = .ok (.aload_n 0, 1) := by decide +kernel
theorem dX7_ofDeed_1 : decode cX7_ofDeed 1 = .ok (.iload_n 1, 1) := by decide +kernel
theorem dX7_ofDeed_2 : decode cX7_ofDeed 2 = .ok (.invokevirtual 146, 3) := by decide +kernel
theorem dX7_ofDeed_5 : decode cX7_ofDeed 5 = .ok (.ifCond .eq 5, 3) := by decide +kernel
theorem dX7_ofDeed_8 : decode cX7_ofDeed 8 = .ok (.iconst (-1), 1) := by decide +kernel
theorem dX7_ofDeed_9 : decode cX7_ofDeed 9 = .ok (.ireturn, 1) := by decide +kernel
theorem dX7_ofDeed_10 : decode cX7_ofDeed 10 = .ok (.iload_n 2, 1) := by decide +kernel
theorem dX7_ofDeed_11 : decode cX7_ofDeed 11 = .ok (.i2l, 1) := by decide +kernel
theorem dX7_ofDeed_12 : decode cX7_ofDeed 12 = .ok (.lconst 0, 1) := by decide +kernel
theorem dX7_ofDeed_13 : decode cX7_ofDeed 13 = .ok (.ldc2_w 128, 3) := by decide +kernel
theorem dX7_ofDeed_16 : decode cX7_ofDeed 16 = .ok (.invokestatic 82, 3) := by decide +kernel
theorem dX7_ofDeed_19 : decode cX7_ofDeed 19 = .ok (.ifCond .eq 12, 3) := by decide +kernel
theorem dX7_ofDeed_22 : decode cX7_ofDeed 22 = .ok (.aload_n 0, 1) := by decide +kernel
theorem dX7_ofDeed_23 : decode cX7_ofDeed 23 = .ok (.iload_n 1, 1) := by decide +kernel
theorem dX7_ofDeed_24 : decode cX7_ofDeed 24 = .ok (.iload_n 2, 1) := by decide +kernel
theorem dX7_ofDeed_25 : decode cX7_ofDeed 25 = .ok (.invokevirtual 149, 3) := by decide +kernel
theorem dX7_ofDeed_28 : decode cX7_ofDeed 28 = .ok (.goto 5, 3) := by decide +kernel
theorem dX7_ofDeed_31 : decode cX7_ofDeed 31 = .ok (.bipush (-2), 2) := by decide +kernel
theorem dX7_ofDeed_33 : decode cX7_ofDeed 33 = .ok (.ireturn, 1) := by decide +kernel
set_option maxRecDepth 20000 in
theorem ggX7_ofSubject_X7_noSubject : GoodIn wsX7_ofSubject wsX7_noSubject := goodIn_r _ [7, 8, 9, 10, 6, 11, 28, 29, 30, 31, 32, 33, 34, 35, 36, 37, 38, 39, 40, 41, 42, 43, 44, 45, 46, 47, 48, 49, 50, 51, 52, 53, 54, 55, 56, 57] (by decide +kernel) (by decide +kernel)
set_option maxRecDepth 20000 in
theorem gX7_ofSubject_X7_noSubject : GoodIn wsX7_ofSubject (wsV RX7 152 RX7 yX7_noSubject wsX7_noSubject) := goodIn_app (goodIn_of _ (by decide +kernel)) ggX7_ofSubject_X7_noSubject
set_option maxRecDepth 20000 in
theorem ggX7_ofSubject_X7_doneBy : GoodIn wsX7_ofSubject wsX7_doneBy := goodIn_r _ [15, 16, 17, 18, 19, 6, 20, 21, 22, 23, 24, 25, 26, 27, 1, 28, 29, 30, 31, 32, 33, 34, 35, 36, 37, 38, 39, 40, 41, 42, 43, 44, 45, 46, 47, 48, 49, 50, 51, 52, 53, 54, 55, 56, 57] (by decide +kernel) (by decide +kernel)
set_option maxRecDepth 20000 in
theorem gX7_ofSubject_X7_doneBy : GoodIn wsX7_ofSubject (wsV RX7 155 RX7 yX7_doneBy wsX7_doneBy) := goodIn_app (goodIn_of _ (by decide +kernel)) ggX7_ofSubject_X7_doneBy
theorem dX7_ofSubject_0 : decode cX7_ofSubject 0 = .ok (.aload_n 0, 1) := by decide +kernel
theorem dX7_ofSubject_1 : decode cX7_ofSubject 1 = .ok (.iload_n 1, 1) := by decide +kernel
theorem dX7_ofSubject_2 : decode cX7_ofSubject 2 = .ok (.invokevirtual 152, 3) := by decide +kernel
theorem dX7_ofSubject_5 : decode cX7_ofSubject 5 = .ok (.ifCond .eq 5, 3) := by decide +kernel
theorem dX7_ofSubject_8 : decode cX7_ofSubject 8 = .ok (.iconst (-1), 1) := by decide +kernel
theorem dX7_ofSubject_9 : decode cX7_ofSubject 9 = .ok (.ireturn, 1) := by decide +kernel
theorem dX7_ofSubject_10 : decode cX7_ofSubject 10 = .ok (.iload_n 2, 1) := by decide +kernel
theorem dX7_ofSubject_11 : decode cX7_ofSubject 11 = .ok (.ifCond .ne 12, 3) := by decide +kernel
theorem dX7_ofSubject_14 : decode cX7_ofSubject 14 = .ok (.aload_n 0, 1) := by decide +kernel
theorem dX7_ofSubject_15 : decode cX7_ofSubject 15 = .ok (.getfield 19, 3) := by decide +kernel
theorem dX7_ofSubject_18 : decode cX7_ofSubject 18 = .ok (.iload_n 1, 1) := by decide +kernel
theorem dX7_ofSubject_19 : decode cX7_ofSubject 19 = .ok (.iaload, 1) := by decide +kernel
theorem dX7_ofSubject_20 : decode cX7_ofSubject 20 = .ok (.goto 32, 3) := by decide +kernel
theorem dX7_ofSubject_23 : decode cX7_ofSubject 23 = .ok (.iload_n 2, 1) := by decide +kernel
theorem dX7_ofSubject_24 : decode cX7_ofSubject 24 = .ok (.iconst 1, 1) := by decide +kernel
theorem dX7_ofSubject_25 : decode cX7_ofSubject 25 = .ok (.if_icmp .ne 12, 3) := by decide +kernel
theorem dX7_ofSubject_28 : decode cX7_ofSubject 28 = .ok (.aload_n 0, 1) := by decide +kernel
theorem dX7_ofSubject_29 : decode cX7_ofSubject 29 = .ok (.getfield 22, 3) := by decide +kernel
theorem dX7_ofSubject_32 : decode cX7_ofSubject 32 = .ok (.iload_n 1, 1) := by decide +kernel
theorem dX7_ofSubject_33 : decode cX7_ofSubject 33 = .ok (.iaload, 1) := by decide +kernel
theorem dX7_ofSubject_34 : decode cX7_ofSubject 34 = .ok (.goto 18, 3) := by decide +kernel
theorem dX7_ofSubject_37 : decode cX7_ofSubject 37 = .ok (.iload_n 2, 1) := by decide +kernel
theorem dX7_ofSubject_38 : decode cX7_ofSubject 38 = .ok (.iconst 2, 1) := by decide +kernel
theorem dX7_ofSubject_39 : decode cX7_ofSubject 39 = .ok (.if_icmp .ne 11, 3) := by decide +kernel
theorem dX7_ofSubject_42 : decode cX7_ofSubject 42 = .ok (.aload_n 0, 1) := by decide +kernel
theorem dX7_ofSubject_43 : decode cX7_ofSubject 43 = .ok (.iload_n 1, 1) := by decide +kernel
theorem dX7_ofSubject_44 : decode cX7_ofSubject 44 = .ok (.invokevirtual 155, 3) := by decide +kernel
theorem dX7_ofSubject_47 : decode cX7_ofSubject 47 = .ok (.goto 5, 3) := by decide +kernel
theorem dX7_ofSubject_50 : decode cX7_ofSubject 50 = .ok (.bipush (-2), 2) := by decide +kernel
theorem dX7_ofSubject_52 : decode cX7_ofSubject 52 = .ok (.ireturn, 1) := by decide +kernel
set_option maxRecDepth 20000 in
theorem ggX7_fear_X7_noSubject : GoodIn wsX7_fear wsX7_noSubject := goodIn_r _ [5, 6, 7, 8, 4, 9, 22, 23, 24, 25, 26, 27, 28, 29, 30, 31, 32, 33, 34, 35, 36, 37, 38, 39, 40, 41, 42, 43, 44, 45, 46, 47, 48, 49, 50, 51] (by decide +kernel) (by decide +kernel)
set_option maxRecDepth 20000 in
theorem gX7_fear_X7_noSubject : GoodIn wsX7_fear (wsV RX7 152 RX7 yX7_noSubject wsX7_noSubject) := goodIn_app (goodIn_of _ (by decide +kernel)) ggX7_fear_X7_noSubject
set_option maxRecDepth 20000 in
theorem ggX7_fear_X7_noDeed : GoodIn wsX7_fear wsX7_noDeed := goodIn_r _ [13, 14, 7, 8, 4, 9, 22, 23, 24, 25, 26, 27, 28, 29, 30, 31, 32, 33, 34, 35, 36, 37, 38, 39, 40, 41, 42, 43, 44, 45, 46, 47, 48, 49, 50, 51] (by decide +kernel) (by decide +kernel)
set_option maxRecDepth 20000 in
theorem gX7_fear_X7_noDeed : GoodIn wsX7_fear (wsV RX7 146 RX7 yX7_noDeed wsX7_noDeed) := goodIn_app (goodIn_of _ (by decide +kernel)) ggX7_fear_X7_noDeed
set_option maxRecDepth 20000 in
theorem ggX7_fear_X7_fearOf : GoodIn wsX7_fear wsX7_fearOf := goodIn_r _ [18, 19, 20, 21, 22, 23, 24, 25, 26, 27, 28, 29, 30, 31, 32, 33, 34, 35, 36, 37, 38, 39, 40, 41, 42, 43, 44, 45, 46, 47, 48, 49, 50, 51] (by decide +kernel) (by decide +kernel)
set_option maxRecDepth 20000 in
theorem gX7_fear_X7_fearOf : GoodIn wsX7_fear (wsV RX7 140 RX7 yX7_fearOf wsX7_fearOf) := goodIn_app (goodIn_of _ (by decide +kernel)) ggX7_fear_X7_fearOf
theorem dX7_fear_0 : decode cX7_fear 0 = .ok (.aload_n 0, 1) := by decide +kernel
theorem dX7_fear_1 : decode cX7_fear 1 = .ok (.iload_n 1, 1) := by decide +kernel
theorem dX7_fear_2 : decode cX7_fear 2 = .ok (.invokevirtual 152, 3) := by decide +kernel
theorem dX7_fear_5 : decode cX7_fear 5 = .ok (.ifCond .ne 11, 3) := by decide +kernel
theorem dX7_fear_8 : decode cX7_fear 8 = .ok (.aload_n 0, 1) := by decide +kernel
theorem dX7_fear_9 : decode cX7_fear 9 = .ok (.iload_n 2, 1) := by decide +kernel
theorem dX7_fear_10 : decode cX7_fear 10 = .ok (.invokevirtual 146, 3) := by decide +kernel
theorem dX7_fear_13 : decode cX7_fear 13 = .ok (.ifCond .eq 7, 3) := by decide +kernel
theorem dX7_fear_16 : decode cX7_fear 16 = .ok (.iconst (-1), 1) := by decide +kernel
theorem dX7_fear_17 : decode cX7_fear 17 = .ok (.goto 9, 3) := by decide +kernel
theorem dX7_fear_20 : decode cX7_fear 20 = .ok (.aload_n 0, 1) := by decide +kernel
theorem dX7_fear_21 : decode cX7_fear 21 = .ok (.iload_n 1, 1) := by decide +kernel
theorem dX7_fear_22 : decode cX7_fear 22 = .ok (.iload_n 2, 1) := by decide +kernel
theorem dX7_fear_23 : decode cX7_fear 23 = .ok (.invokevirtual 140, 3) := by decide +kernel
theorem dX7_fear_26 : decode cX7_fear 26 = .ok (.ireturn, 1) := by decide +kernel
set_option maxRecDepth 20000 in
theorem ggX7_alter_X7_noDeed : GoodIn wsX7_alter wsX7_noDeed := goodIn_r _ [10, 11, 12, 13, 9, 14, 19, 20, 21, 22, 23, 24, 25, 26, 27, 28, 29, 30, 31, 32, 33, 34, 35, 36, 37, 38, 39, 40, 41, 42, 43, 44, 45, 46, 47, 48] (by decide +kernel) (by decide +kernel)
set_option maxRecDepth 20000 in
theorem gX7_alter_X7_noDeed : GoodIn wsX7_alter (wsV RX7 146 RX7 yX7_noDeed wsX7_noDeed) := goodIn_app (goodIn_of _ (by decide +kernel)) ggX7_alter_X7_noDeed
set_option maxRecDepth 20000 in
theorem ggX7_alter_X7_in : GoodIn wsX7_alter wsX7_in := goodIn_r _ [14] (by decide +kernel) (by decide +kernel)
set_option maxRecDepth 20000 in
theorem gX7_alter_X7_in : GoodIn wsX7_alter (va_wsS RX7 82 yX7_in wsX7_in) := goodIn_app (goodIn_of _ (by decide +kernel)) ggX7_alter_X7_in
set_option maxRecDepth 20000 in
theorem ggX7_alter_X7_ofDeedBy : GoodIn wsX7_alter wsX7_ofDeedBy := goodIn_r _ [18, 3, 4, 5, 19, 20, 21, 22, 23, 24, 25, 26, 27, 28, 29, 30, 31, 32, 33, 34, 35, 36, 37, 38, 39, 40, 41, 42, 43, 44, 45, 46, 47, 48] (by decide +kernel) (by decide +kernel)
set_option maxRecDepth 20000 in
theorem gX7_alter_X7_ofDeedBy : GoodIn wsX7_alter (wsV RX7 149 RX7 yX7_ofDeedBy wsX7_ofDeedBy) := goodIn_app (goodIn_of _ (by decide +kernel)) ggX7_alter_X7_ofDeedBy
theorem dX7_alter_0 : decode cX7_alter 0 = .ok (.aload_n 0, 1) := by decide +kernel
theorem dX7_alter_1 : decode cX7_alter 1 = .ok (.iload_n 1, 1) := by decide +kernel
theorem dX7_alter_2 : decode cX7_alter 2 = .ok (.invokevirtual 146, 3) := by decide +kernel
theorem dX7_alter_5 : decode cX7_alter 5 = .ok (.ifCond .eq 5, 3) := by decide +kernel
theorem dX7_alter_8 : decode cX7_alter 8 = .ok (.iconst (-1), 1) := by decide +kernel
theorem dX7_alter_9 : decode cX7_alter 9 = .ok (.ireturn, 1) := by decide +kernel
theorem dX7_alter_10 : decode cX7_alter 10 = .ok (.iload_n 2, 1) := by decide +kernel
theorem dX7_alter_11 : decode cX7_alter 11 = .ok (.i2l, 1) := by decide +kernel
theorem dX7_alter_12 : decode cX7_alter 12 = .ok (.lconst 0, 1) := by decide +kernel
theorem dX7_alter_13 : decode cX7_alter 13 = .ok (.ldc2_w 128, 3) := by decide +kernel
theorem dX7_alter_16 : decode cX7_alter 16 = .ok (.invokestatic 82, 3) := by decide +kernel
theorem dX7_alter_19 : decode cX7_alter 19 = .ok (.ifCond .eq 15, 3) := by decide +kernel
theorem dX7_alter_22 : decode cX7_alter 22 = .ok (.iload_n 3, 1) := by decide +kernel
theorem dX7_alter_23 : decode cX7_alter 23 = .ok (.i2l, 1) := by decide +kernel
theorem dX7_alter_24 : decode cX7_alter 24 = .ok (.lconst 0, 1) := by decide +kernel
theorem dX7_alter_25 : decode cX7_alter 25 = .ok (.ldc2_w 158, 3) := by decide +kernel
theorem dX7_alter_28 : decode cX7_alter 28 = .ok (.invokestatic 82, 3) := by decide +kernel
theorem dX7_alter_31 : decode cX7_alter 31 = .ok (.ifCond .ne 6, 3) := by decide +kernel
theorem dX7_alter_34 : decode cX7_alter 34 = .ok (.bipush (-2), 2) := by decide +kernel
