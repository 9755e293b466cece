theorem dX7_alter_36 : decode cX7_alter 36 = .ok (.ireturn, 1) := by decide +kernel
theorem dX7_alter_37 : decode cX7_alter 37 = .ok (.aload_n 0, 1) := by decide +kernel
theorem dX7_alter_38 : decode cX7_alter 38 = .ok (.iload_n 1, 1) := by decide +kernel
theorem dX7_alter_39 : decode cX7_alter 39 = .ok (.iload_n 2, 1) := by decide +kernel
theorem dX7_alter_40 : decode cX7_alter 40 = .ok (.invokevirtual 149, 3) := by decide +kernel
theorem dX7_alter_43 : decode cX7_alter 43 = .ok (.istore 4, 2) := by decide +kernel
theorem dX7_alter_45 : decode cX7_alter 45 = .ok (.aload_n 0, 1) := by decide +kernel
theorem dX7_alter_46 : decode cX7_alter 46 = .ok (.getfield 7, 3) := by decide +kernel
theorem dX7_alter_49 : decode cX7_alter 49 = .ok (.iload_n 1, 1) := by decide +kernel
theorem dX7_alter_50 : decode cX7_alter 50 = .ok (.iload_n 2, 1) := by decide +kernel
theorem dX7_alter_51 : decode cX7_alter 51 = .ok (.ifCond .ne 7, 3) := by decide +kernel
theorem dX7_alter_54 : decode cX7_alter 54 = .ok (.iload_n 3, 1) := by decide +kernel
theorem dX7_alter_55 : decode cX7_alter 55 = .ok (.goto 9, 3) := by decide +kernel
theorem dX7_alter_58 : decode cX7_alter 58 = .ok (.aload_n 0, 1) := by decide +kernel
theorem dX7_alter_59 : decode cX7_alter 59 = .ok (.getfield 7, 3) := by decide +kernel
theorem dX7_alter_62 : decode cX7_alter 62 = .ok (.iload_n 1, 1) := by decide +kernel
theorem dX7_alter_63 : decode cX7_alter 63 = .ok (.iaload, 1) := by decide +kernel
theorem dX7_alter_64 : decode cX7_alter 64 = .ok (.iastore, 1) := by decide +kernel
theorem dX7_alter_65 : decode cX7_alter 65 = .ok (.aload_n 0, 1) := by decide +kernel
theorem dX7_alter_66 : decode cX7_alter 66 = .ok (.getfield 13, 3) := by decide +kernel
theorem dX7_alter_69 : decode cX7_alter 69 = .ok (.iload_n 1, 1) := by decide +kernel
theorem dX7_alter_70 : decode cX7_alter 70 = .ok (.iload_n 2, 1) := by decide +kernel
theorem dX7_alter_71 : decode cX7_alter 71 = .ok (.iconst 1, 1) := by decide +kernel
theorem dX7_alter_72 : decode cX7_alter 72 = .ok (.if_icmp .ne 7, 3) := by decide +kernel
theorem dX7_alter_75 : decode cX7_alter 75 = .ok (.iload_n 3, 1) := by decide +kernel
theorem dX7_alter_76 : decode cX7_alter 76 = .ok (.goto 9, 3) := by decide +kernel
theorem dX7_alter_79 : decode cX7_alter 79 = .ok (.aload_n 0, 1) := by decide +kernel
theorem dX7_alter_80 : decode cX7_alter 80 = .ok (.getfield 13, 3) := by decide +kernel
theorem dX7_alter_83 : decode cX7_alter 83 = .ok (.iload_n 1, 1) := by decide +kernel
theorem dX7_alter_84 : decode cX7_alter 84 = .ok (.iaload, 1) := by decide +kernel
theorem dX7_alter_85 : decode cX7_alter 85 = .ok (.iastore, 1) := by decide +kernel
theorem dX7_alter_86 : decode cX7_alter 86 = .ok (.aload_n 0, 1) := by decide +kernel
theorem dX7_alter_87 : decode cX7_alter 87 = .ok (.getfield 16, 3) := by decide +kernel
theorem dX7_alter_90 : decode cX7_alter 90 = .ok (.iload_n 1, 1) := by decide +kernel
theorem dX7_alter_91 : decode cX7_alter 91 = .ok (.iload_n 2, 1) := by decide +kernel
theorem dX7_alter_92 : decode cX7_alter 92 = .ok (.iconst 2, 1) := by decide +kernel
theorem dX7_alter_93 : decode cX7_alter 93 = .ok (.if_icmp .ne 7, 3) := by decide +kernel
theorem dX7_alter_96 : decode cX7_alter 96 = .ok (.iload_n 3, 1) := by decide +kernel
theorem dX7_alter_97 : decode cX7_alter 97 = .ok (.goto 9, 3) := by decide +kernel
theorem dX7_alter_100 : decode cX7_alter 100 = .ok (.aload_n 0, 1) := by decide +kernel
theorem dX7_alter_101 : decode cX7_alter 101 = .ok (.getfield 16, 3) := by decide +kernel
theorem dX7_alter_104 : decode cX7_alter 104 = .ok (.iload_n 1, 1) := by decide +kernel
theorem dX7_alter_105 : decode cX7_alter 105 = .ok (.iaload, 1) := by decide +kernel
theorem dX7_alter_106 : decode cX7_alter 106 = .ok (.iastore, 1) := by decide +kernel
theorem dX7_alter_107 : decode cX7_alter 107 = .ok (.iload 4, 2) := by decide +kernel
theorem dX7_alter_109 : decode cX7_alter 109 = .ok (.ireturn, 1) := by decide +kernel
set_option maxRecDepth 20000 in
theorem ggX7_grant_X7_noSubject : GoodIn wsX7_grant wsX7_noSubject := goodIn_r _ [7, 8, 9, 10, 6, 11, 12, 13, 14, 15, 16, 17, 18, 19, 20, 21, 22, 23, 24, 25, 26, 27, 28, 29, 30, 31, 32, 33, 34, 35, 36, 37, 38, 39, 40, 41] (by decide +kernel) (by decide +kernel)
set_option maxRecDepth 20000 in
theorem gX7_grant_X7_noSubject : GoodIn wsX7_grant (wsV RX7 152 RX7 yX7_noSubject wsX7_noSubject) := goodIn_app (goodIn_of _ (by decide +kernel)) ggX7_grant_X7_noSubject
set_option maxRecDepth 20000 in
theorem ggX7_grant_X7_in : GoodIn wsX7_grant wsX7_in := goodIn_r _ [11] (by decide +kernel) (by decide +kernel)
set_option maxRecDepth 20000 in
theorem gX7_grant_X7_in : GoodIn wsX7_grant (va_wsS RX7 82 yX7_in wsX7_in) := goodIn_app (goodIn_of _ (by decide +kernel)) ggX7_grant_X7_in
theorem dX7_grant_0 : decode cX7_grant 0 = .ok (.aload_n 0, 1) := by decide +kernel
theorem dX7_grant_1 : decode cX7_grant 1 = .ok (.iload_n 1, 1) := by decide +kernel
theorem dX7_grant_2 : decode cX7_grant 2 = .ok (.invokevirtual 152, 3) := by decide +kernel
theorem dX7_grant_5 : decode cX7_grant 5 = .ok (.ifCond .eq 5, 3) := by decide +kernel
theorem dX7_grant_8 : decode cX7_grant 8 = .ok (.iconst (-1), 1) := by decide +kernel
theorem dX7_grant_9 : decode cX7_grant 9 = .ok (.ireturn, 1) := by decide +kernel
theorem dX7_grant_10 : decode cX7_grant 10 = .ok (.iload_n 2, 1) := by decide +kernel
theorem dX7_grant_11 : decode cX7_grant 11 = .ok (.i2l, 1) := by decide +kernel
theorem dX7_grant_12 : decode cX7_grant 12 = .ok (.lconst 0, 1) := by decide +kernel
theorem dX7_grant_13 : decode cX7_grant 13 = .ok (.ldc2_w 160, 3) := by decide +kernel
theorem dX7_grant_16 : decode cX7_grant 16 = .ok (.invokestatic 82, 3) := by decide +kernel
theorem dX7_grant_19 : decode cX7_grant 19 = .ok (.ifCond .ne 6, 3) := by decide +kernel
theorem dX7_grant_22 : decode cX7_grant 22 = .ok (.bipush (-2), 2) := by decide +kernel
theorem dX7_grant_24 : decode cX7_grant 24 = .ok (.ireturn, 1) := by decide +kernel
theorem dX7_grant_25 : decode cX7_grant 25 = .ok (.aload_n 0, 1) := by decide +kernel
theorem dX7_grant_26 : decode cX7_grant 26 = .ok (.getfield 22, 3) := by decide +kernel
theorem dX7_grant_29 : decode cX7_grant 29 = .ok (.iload_n 1, 1) := by decide +kernel
theorem dX7_grant_30 : decode cX7_grant 30 = .ok (.iaload, 1) := by decide +kernel
theorem dX7_grant_31 : decode cX7_grant 31 = .ok (.istore_n 3, 1) := by decide +kernel
theorem dX7_grant_32 : decode cX7_grant 32 = .ok (.aload_n 0, 1) := by decide +kernel
theorem dX7_grant_33 : decode cX7_grant 33 = .ok (.getfield 22, 3) := by decide +kernel
theorem dX7_grant_36 : decode cX7_grant 36 = .ok (.iload_n 1, 1) := by decide +kernel
theorem dX7_grant_37 : decode cX7_grant 37 = .ok (.iload_n 2, 1) := by decide +kernel
theorem dX7_grant_38 : decode cX7_grant 38 = .ok (.iastore, 1) := by decide +kernel
theorem dX7_grant_39 : decode cX7_grant 39 = .ok (.iload_n 3, 1) := by decide +kernel
theorem dX7_grant_40 : decode cX7_grant 40 = .ok (.ireturn, 1) := by decide +kernel
set_option maxRecDepth 20000 in
theorem ggX7_goYear_X7_valueOf : GoodIn wsX7_goYear wsX7_valueOf := goodIn_r _ [13, 8, 14, 15, 16, 12, 17, 18, 19, 20, 21, 22, 23, 24, 25, 26, 27, 28, 29, 30, 31, 32, 33, 34, 35, 36, 37, 38, 39, 40, 41, 42, 43, 44, 45, 46, 47, 48, 49, 50] (by decide +kernel) (by decide +kernel)
set_option maxRecDepth 20000 in
theorem gX7_goYear_X7_valueOf : GoodIn wsX7_goYear (wsV RX7 143 RX7 yX7_valueOf wsX7_valueOf) := goodIn_app (goodIn_of _ (by decide +kernel)) ggX7_goYear_X7_valueOf
theorem dX7_goYear_0 : decode cX7_goYear 0 = .ok (.aload_n 0, 1) := by decide +kernel
theorem dX7_goYear_1 : decode cX7_goYear 1 = .ok (.bipush (-9), 2) := by decide +kernel
theorem dX7_goYear_3 : decode cX7_goYear 3 = .ok (.putfield 162, 3) := by decide +kernel
theorem dX7_goYear_6 : decode cX7_goYear 6 = .ok (.aload_n 0, 1) := by decide +kernel
theorem dX7_goYear_7 : decode cX7_goYear 7 = .ok (.iconst 0, 1) := by decide +kernel
theorem dX7_goYear_8 : decode cX7_goYear 8 = .ok (.putfield 165, 3) := by decide +kernel
theorem dX7_goYear_11 : decode cX7_goYear 11 = .ok (.aload_n 0, 1) := by decide +kernel
theorem dX7_goYear_12 : decode cX7_goYear 12 = .ok (.iconst 0, 1) := by decide +kernel
theorem dX7_goYear_13 : decode cX7_goYear 13 = .ok (.putfield 168, 3) := by decide +kernel
theorem dX7_goYear_16 : decode cX7_goYear 16 = .ok (.iconst 0, 1) := by decide +kernel
theorem dX7_goYear_17 : decode cX7_goYear 17 = .ok (.istore_n 3, 1) := by decide +kernel
theorem dX7_goYear_18 : decode cX7_goYear 18 = .ok (.iload_n 3, 1) := by decide +kernel
theorem dX7_goYear_19 : decode cX7_goYear 19 = .ok (.aload_n 0, 1) := by decide +kernel
theorem dX7_goYear_20 : decode cX7_goYear 20 = .ok (.getfield 86, 3) := by decide +kernel
theorem dX7_goYear_23 : decode cX7_goYear 23 = .ok (.if_icmp .ge 21, 3) := by decide +kernel
theorem dX7_goYear_26 : decode cX7_goYear 26 = .ok (.aload_n 0, 1) := by decide +kernel
theorem dX7_goYear_27 : decode cX7_goYear 27 = .ok (.getfield 40, 3) := by decide +kernel
theorem dX7_goYear_30 : decode cX7_goYear 30 = .ok (.iload_n 3, 1) := by decide +kernel
theorem dX7_goYear_31 : decode cX7_goYear 31 = .ok (.aload_n 0, 1) := by decide +kernel
theorem dX7_goYear_32 : decode cX7_goYear 32 = .ok (.getfield 22, 3) := by decide +kernel
theorem dX7_goYear_35 : decode cX7_goYear 35 = .ok (.iload_n 3, 1) := by decide +kernel
theorem dX7_goYear_36 : decode cX7_goYear 36 = .ok (.iaload, 1) := by decide +kernel
theorem dX7_goYear_37 : decode cX7_goYear 37 = .ok (.iastore, 1) := by decide +kernel
theorem dX7_goYear_38 : decode cX7_goYear 38 = .ok (.iinc 3 1, 3) := by decide +kernel
theorem dX7_goYear_41 : decode cX7_goYear 41 = .ok (.goto (-23), 3) := by decide +kernel
theorem dX7_goYear_44 : decode cX7_goYear 44 = .ok (.iconst 0, 1) := by decide +kernel
theorem dX7_goYear_45 : decode cX7_goYear 45 = .ok (.istore_n 3, 1) := by decide +kernel
theorem dX7_goYear_46 : decode cX7_goYear 46 = .ok (.iload_n 3, 1) := by decide +kernel
theorem dX7_goYear_47 : decode cX7_goYear 47 = .ok (.iload_n 2, 1) := by decide +kernel
theorem dX7_goYear_48 : decode cX7_goYear 48 = .ok (.if_icmp .ge 212, 3) := by decide +kernel
theorem dX7_goYear_51 : decode cX7_goYear 51 = .ok (.aload_n 0, 1) := by decide +kernel
theorem dX7_goYear_52 : decode cX7_goYear 52 = .ok (.getfield 162, 3) := by decide +kernel
theorem dX7_goYear_55 : decode cX7_goYear 55 = .ok (.ifCond .ge 205, 3) := by decide +kernel
theorem dX7_goYear_58 : decode cX7_goYear 58 = .ok (.aload_n 0, 1) := by decide +kernel
theorem dX7_goYear_59 : decode cX7_goYear 59 = .ok (.getfield 63, 3) := by decide +kernel
theorem dX7_goYear_62 : decode cX7_goYear 62 = .ok (.iload_n 1, 1) := by decide +kernel
theorem dX7_goYear_63 : decode cX7_goYear 63 = .ok (.iconst 3, 1) := by decide +kernel
theorem dX7_goYear_64 : decode cX7_goYear 64 = .ok (.iload_n 3, 1) := by decide +kernel
theorem dX7_goYear_65 : decode cX7_goYear 65 = .ok (.imul, 1) := by decide +kernel
theorem dX7_goYear_66 : decode cX7_goYear 66 = .ok (.iadd, 1) := by decide +kernel
theorem dX7_goYear_67 : decode cX7_goYear 67 = .ok (.iaload, 1) := by decide +kernel
theorem dX7_goYear_68 : decode cX7_goYear 68 = .ok (.istore 4, 2) := by decide +kernel
theorem dX7_goYear_70 : decode cX7_goYear 70 = .ok (.aload_n 0, 1) := by decide +kernel
theorem dX7_goYear_71 : decode cX7_goYear 71 = .ok (.getfield 63, 3) := by decide +kernel
theorem dX7_goYear_74 : decode cX7_goYear 74 = .ok (.iload_n 1, 1) := by decide +kernel
theorem dX7_goYear_75 : decode cX7_goYear 75 = .ok (.iconst 3, 1) := by decide +kernel
theorem dX7_goYear_76 : decode cX7_goYear 76 = .ok (.iload_n 3, 1) := by decide +kernel
theorem dX7_goYear_77 : decode cX7_goYear 77 = .ok (.imul, 1) := by decide +kernel
theorem dX7_goYear_78 : decode cX7_goYear 78 = .ok (.iadd, 1) := by decide +kernel
theorem dX7_goYear_79 : decode cX7_goYear 79 = .ok (.iconst 1, 1) := by decide +kernel
theorem dX7_goYear_80 : decode cX7_goYear 80 = .ok (.iadd, 1) := by decide +kernel
theorem dX7_goYear_81 : decode cX7_goYear 81 = .ok (.iaload, 1) := by decide +kernel
theorem dX7_goYear_82 : decode cX7_goYear 82 = .ok (.istore 5, 2) := by decide +kernel
theorem dX7_goYear_84 : decode cX7_goYear 84 = .ok (.aload_n 0, 1) := by decide +kernel
theorem dX7_goYear_85 : decode cX7_goYear 85 = .ok (.getfield 63, 3) := by decide +kernel
theorem dX7_goYear_88 : decode cX7_goYear 88 = .ok (.iload_n 1, 1) := by decide +kernel
theorem dX7_goYear_89 : decode cX7_goYear 89 = .ok (.iconst 3, 1) := by decide +kernel
theorem dX7_goYear_90 : decode cX7_goYear 90 = .ok (.iload_n 3, 1) := by decide +kernel
theorem dX7_goYear_91 : decode cX7_goYear 91 = .ok (.imul, 1) := by decide +kernel
theorem dX7_goYear_92 : decode cX7_goYear 92 = .ok (.iadd, 1) := by decide +kernel
theorem dX7_goYear_93 : decode cX7_goYear 93 = .ok (.iconst 2, 1) := by decide +kernel
theorem dX7_goYear_94 : decode cX7_goYear 94 = .ok (.iadd, 1) := by decide +kernel
theorem dX7_goYear_95 : decode cX7_goYear 95 = .ok (.iaload, 1) := by decide +kernel
theorem dX7_goYear_96 : decode cX7_goYear 96 = .ok (.istore 6, 2) := by decide +kernel
theorem dX7_goYear_98 : decode cX7_goYear 98 = .ok (.iload 6, 2) := by decide +kernel
theorem dX7_goYear_100 : decode cX7_goYear 100 = .ok (.iconst 1, 1) := by decide +kernel
theorem dX7_goYear_101 : decode cX7_goYear 101 = .ok (.if_icmp .ne 14, 3) := by decide +kernel
theorem dX7_goYear_104 : decode cX7_goYear 104 = .ok (.aload_n 0, 1) := by decide +kernel
theorem dX7_goYear_105 : decode cX7_goYear 105 = .ok (.iload 4, 2) := by decide +kernel
theorem dX7_goYear_107 : decode cX7_goYear 107 = .ok (.iload 5, 2) := by decide +kernel
theorem dX7_goYear_109 : decode cX7_goYear 109 = .ok (.invokevirtual 143, 3) := by decide +kernel
theorem dX7_goYear_112 : decode cX7_goYear 112 = .ok (.ifCond .le 19, 3) := by decide +kernel
theorem dX7_goYear_115 : decode cX7_goYear 115 = .ok (.iload 6, 2) := by decide +kernel
theorem dX7_goYear_117 : decode cX7_goYear 117 = .ok (.iconst 2, 1) := by decide +kernel
theorem dX7_goYear_118 : decode cX7_goYear 118 = .ok (.if_icmp .ne 17, 3) := by decide +kernel
theorem dX7_goYear_121 : decode cX7_goYear 121 = .ok (.aload_n 0, 1) := by decide +kernel
theorem dX7_goYear_122 : decode cX7_goYear 122 = .ok (.getfield 40, 3) := by decide +kernel
theorem dX7_goYear_125 : decode cX7_goYear 125 = .ok (.iload 4, 2) := by decide +kernel
theorem dX7_goYear_127 : decode cX7_goYear 127 = .ok (.iaload, 1) := by decide +kernel
theorem dX7_goYear_128 : decode cX7_goYear 128 = .ok (.ifCond .ne 7, 3) := by decide +kernel
theorem dX7_goYear_131 : decode cX7_goYear 131 = .ok (.iconst 1, 1) := by decide +kernel
theorem dX7_goYear_132 : decode cX7_goYear 132 = .ok (.goto 4, 3) := by decide +kernel
theorem dX7_goYear_135 : decode cX7_goYear 135 = .ok (.iconst 0, 1) := by decide +kernel
theorem dX7_goYear_136 : decode cX7_goYear 136 = .ok (.istore 7, 2) := by decide +kernel
theorem dX7_goYear_138 : decode cX7_goYear 138 = .ok (.aload_n 0, 1) := by decide +kernel
theorem dX7_goYear_139 : decode cX7_goYear 139 = .ok (.iload 7, 2) := by decide +kernel
theorem dX7_goYear_141 : decode cX7_goYear 141 = .ok (.ifCond .eq 7, 3) := by decide +kernel
theorem dX7_goYear_144 : decode cX7_goYear 144 = .ok (.iload_n 3, 1) := by decide +kernel
theorem dX7_goYear_145 : decode cX7_goYear 145 = .ok (.goto 5, 3) := by decide +kernel
theorem dX7_goYear_148 : decode cX7_goYear 148 = .ok (.bipush (-9), 2) := by decide +kernel
theorem dX7_goYear_150 : decode cX7_goYear 150 = .ok (.putfield 162, 3) := by decide +kernel
theorem dX7_goYear_153 : decode cX7_goYear 153 = .ok (.aload_n 0, 1) := by decide +kernel
theorem dX7_goYear_154 : decode cX7_goYear 154 = .ok (.dup, 1) := by decide +kernel
theorem dX7_goYear_155 : decode cX7_goYear 155 = .ok (.getfield 165, 3) := by decide +kernel
theorem dX7_goYear_158 : decode cX7_goYear 158 = .ok (.iload 7, 2) := by decide +kernel
theorem dX7_goYear_160 : decode cX7_goYear 160 = .ok (.ifCond .ne 8, 3) := by decide +kernel
theorem dX7_goYear_163 : decode cX7_goYear 163 = .ok (.iload 6, 2) := by decide +kernel
theorem dX7_goYear_165 : decode cX7_goYear 165 = .ok (.ifCond .ne 7, 3) := by decide +kernel
theorem dX7_goYear_168 : decode cX7_goYear 168 = .ok (.iconst 0, 1) := by decide +kernel
theorem dX7_goYear_169 : decode cX7_goYear 169 = .ok (.goto 30, 3) := by decide +kernel
theorem dX7_goYear_172 : decode cX7_goYear 172 = .ok (.iload 6, 2) := by decide +kernel
theorem dX7_goYear_174 : decode cX7_goYear 174 = .ok (.iconst 1, 1) := by decide +kernel
theorem dX7_goYear_175 : decode cX7_goYear 175 = .ok (.if_icmp .ne 14, 3) := by decide +kernel
theorem dX7_goYear_178 : decode cX7_goYear 178 = .ok (.aload_n 0, 1) := by decide +kernel
theorem dX7_goYear_179 : decode cX7_goYear 179 = .ok (.iload 4, 2) := by decide +kernel
theorem dX7_goYear_181 : decode cX7_goYear 181 = .ok (.iload 5, 2) := by decide +kernel
theorem dX7_goYear_183 : decode cX7_goYear 183 = .ok (.invokevirtual 143, 3) := by decide +kernel
theorem dX7_goYear_186 : decode cX7_goYear 186 = .ok (.goto 13, 3) := by decide +kernel
theorem dX7_goYear_189 : decode cX7_goYear 189 = .ok (.bipush 10, 2) := by decide +kernel
theorem dX7_goYear_191 : decode cX7_goYear 191 = .ok (.aload_n 0, 1) := by decide +kernel
theorem dX7_goYear_192 : decode cX7_goYear 192 = .ok (.getfield 7, 3) := by decide +kernel
theorem dX7_goYear_195 : decode cX7_goYear 195 = .ok (.iload 5, 2) := by decide +kernel
theorem dX7_goYear_197 : decode cX7_goYear 197 = .ok (.iaload, 1) := by decide +kernel
theorem dX7_goYear_198 : decode cX7_goYear 198 = .ok (.imul, 1) := by decide +kernel
theorem dX7_goYear_199 : decode cX7_goYear 199 = .ok (.iadd, 1) := by decide +kernel
theorem dX7_goYear_200 : decode cX7_goYear 200 = .ok (.putfield 165, 3) := by decide +kernel
theorem dX7_goYear_203 : decode cX7_goYear 203 = .ok (.aload_n 0, 1) := by decide +kernel
theorem dX7_goYear_204 : decode cX7_goYear 204 = .ok (.dup, 1) := by decide +kernel
theorem dX7_goYear_205 : decode cX7_goYear 205 = .ok (.getfield 168, 3) := by decide +kernel
theorem dX7_goYear_208 : decode cX7_goYear 208 = .ok (.iload 7, 2) := by decide +kernel
theorem dX7_goYear_210 : decode cX7_goYear 210 = .ok (.ifCond .ne 13, 3) := by decide +kernel
theorem dX7_goYear_213 : decode cX7_goYear 213 = .ok (.iload 6, 2) := by decide +kernel
theorem dX7_goYear_215 : decode cX7_goYear 215 = .ok (.iconst 2, 1) := by decide +kernel
theorem dX7_goYear_216 : decode cX7_goYear 216 = .ok (.if_icmp .ne 7, 3) := by decide +kernel
theorem dX7_goYear_219 : decode cX7_goYear 219 = .ok (.iconst 1, 1) := by decide +kernel
theorem dX7_goYear_220 : decode cX7_goYear 220 = .ok (.goto 4, 3) := by decide +kernel
theorem dX7_goYear_223 : decode cX7_goYear 223 = .ok (.iconst 0, 1) := by decide +kernel
theorem dX7_goYear_224 : decode cX7_goYear 224 = .ok (.iadd, 1) := by decide +kernel
theorem dX7_goYear_225 : decode cX7_goYear 225 = .ok (.putfield 168, 3) := by decide +kernel
theorem dX7_goYear_228 : decode cX7_goYear 228 = .ok (.aload_n 0, 1) := by decide +kernel
theorem dX7_goYear_229 : decode cX7_goYear 229 = .ok (.getfield 40, 3) := by decide +kernel
theorem dX7_goYear_232 : decode cX7_goYear 232 = .ok (.iload 4, 2) := by decide +kernel
theorem dX7_goYear_234 : decode cX7_goYear 234 = .ok (.dup2, 1) := by decide +kernel
theorem dX7_goYear_235 : decode cX7_goYear 235 = .ok (.iaload, 1) := by decide +kernel
theorem dX7_goYear_236 : decode cX7_goYear 236 = .ok (.iload 7, 2) := by decide +kernel
theorem dX7_goYear_238 : decode cX7_goYear 238 = .ok (.ifCond .ne 13, 3) := by decide +kernel
theorem dX7_goYear_241 : decode cX7_goYear 241 = .ok (.iload 6, 2) := by decide +kernel
theorem dX7_goYear_243 : decode cX7_goYear 243 = .ok (.iconst 2, 1) := by decide +kernel
theorem dX7_goYear_244 : decode cX7_goYear 244 = .ok (.if_icmp .ne 7, 3) := by decide +kernel
theorem dX7_goYear_247 : decode cX7_goYear 247 = .ok (.iconst 1, 1) := by decide +kernel
theorem dX7_goYear_248 : decode cX7_goYear 248 = .ok (.goto 4, 3) := by decide +kernel
theorem dX7_goYear_251 : decode cX7_goYear 251 = .ok (.iconst 0, 1) := by decide +kernel
theorem dX7_goYear_252 : decode cX7_goYear 252 = .ok (.isub, 1) := by decide +kernel
theorem dX7_goYear_253 : decode cX7_goYear 253 = .ok (.iastore, 1) := by decide +kernel
theorem dX7_goYear_254 : decode cX7_goYear 254 = .ok (.iinc 3 1, 3) := by decide +kernel
theorem dX7_goYear_257 : decode cX7_goYear 257 = .ok (.goto (-211), 3) := by decide +kernel
theorem dX7_goYear_260 : decode cX7_goYear 260 = .ok (.return_, 1) := by decide +kernel
set_option maxRecDepth 20000 in
theorem ggX7_year_X7_noSheet : GoodIn wsX7_year wsX7_noSheet := goodIn_r _ [16, 6, 17, 18, 15, 19] (by decide +kernel) (by decide +kernel)
set_option maxRecDepth 20000 in
theorem gX7_year_X7_noSheet : GoodIn wsX7_year (va_wsS RX7 121 yX7_noSheet wsX7_noSheet) := goodIn_app (goodIn_of _ (by decide +kernel)) ggX7_year_X7_noSheet
set_option maxRecDepth 20000 in
theorem ggX7_year_X7_refused : GoodIn wsX7_year wsX7_refused := goodIn_r _ [23, 24, 64, 65, 66, 67, 68, 69, 70, 71, 72, 73, 74, 75, 76, 77, 78, 79, 80, 81, 82, 83, 84, 85, 86, 87, 88, 89, 90, 91, 92, 93] (by decide +kernel) (by decide +kernel)
set_option maxRecDepth 20000 in
theorem gX7_year_X7_refused : GoodIn wsX7_year (wsV RX7 125 RX7 yX7_refused wsX7_refused) := goodIn_app (goodIn_of _ (by decide +kernel)) ggX7_year_X7_refused
set_option maxRecDepth 20000 in
theorem ggX7_year_X7_in : GoodIn wsX7_year wsX7_in := goodIn_r _ [19] (by decide +kernel) (by decide +kernel)
set_option maxRecDepth 20000 in
theorem gX7_year_X7_in : GoodIn wsX7_year (va_wsS RX7 82 yX7_in wsX7_in) := goodIn_app (goodIn_of _ (by decide +kernel)) ggX7_year_X7_in
set_option maxRecDepth 20000 in
theorem ggX7_year_X7_cellsBarred : GoodIn wsX7_year wsX7_cellsBarred := goodIn_r _ [28, 29, 30, 31, 32, 33, 15, 34, 24, 35, 36, 37, 64, 65, 66, 67, 68, 69, 70, 71, 72, 73, 74, 75, 76, 77, 78, 79, 80, 81, 82, 83, 84, 85, 86, 87, 88, 89, 90, 91, 92, 93] (by decide +kernel) (by decide +kernel)
set_option maxRecDepth 20000 in
theorem gX7_year_X7_cellsBarred : GoodIn wsX7_year (wsV RX7 130 RX7 yX7_cellsBarred wsX7_cellsBarred) := goodIn_app (goodIn_of _ (by decide +kernel)) ggX7_year_X7_cellsBarred
set_option maxRecDepth 20000 in
theorem ggX7_year_X7_noSubject : GoodIn wsX7_year wsX7_noSubject := goodIn_r _ [41, 5, 17, 18, 15, 19, 64, 65, 66, 67, 68, 69, 70, 71, 72, 73, 74, 75, 76, 77, 78, 79, 80, 81, 82, 83, 84, 85, 86, 87, 88, 89, 90, 91, 92, 93] (by decide +kernel) (by decide +kernel)
set_option maxRecDepth 20000 in
theorem gX7_year_X7_noSubject : GoodIn wsX7_year (wsV RX7 152 RX7 yX7_noSubject wsX7_noSubject) := goodIn_app (goodIn_of _ (by decide +kernel)) ggX7_year_X7_noSubject
set_option maxRecDepth 20000 in
theorem ggX7_year_X7_noDeed : GoodIn wsX7_year wsX7_noDeed := goodIn_r _ [45, 46, 17, 18, 15, 19, 64, 65, 66, 67, 68, 69, 70, 71, 72, 73, 74, 75, 76, 77, 78, 79, 80, 81, 82, 83, 84, 85, 86, 87, 88, 89, 90, 91, 92, 93] (by decide +kernel) (by decide +kernel)
set_option maxRecDepth 20000 in
theorem gX7_year_X7_noDeed : GoodIn wsX7_year (wsV RX7 146 RX7 yX7_noDeed wsX7_noDeed) := goodIn_app (goodIn_of _ (by decide +kernel)) ggX7_year_X7_noDeed
set_option maxRecDepth 20000 in
theorem ggX7_year_X7_goYear : GoodIn wsX7_year wsX7_goYear := goodIn_r _ [50, 8, 11, 12, 5, 10, 51, 7, 52, 53, 54, 55, 15, 56, 57, 58, 59, 60, 61, 62, 63, 64, 65, 66, 67, 68, 69, 70, 71, 72, 73, 74, 75, 76, 77, 78, 79, 80, 81, 82, 83, 84, 85, 86, 87, 88, 89, 90, 91, 92, 93] (by decide +kernel) (by decide +kernel)
set_option maxRecDepth 20000 in
theorem gX7_year_X7_goYear : GoodIn wsX7_year (wsV RX7 177 RX7 yX7_goYear wsX7_goYear) := goodIn_app (goodIn_of _ (by decide +kernel)) ggX7_year_X7_goYear
theorem dX7_year_0 : decode cX7_year 0 = .ok (.iload_n 1, 1) := by decide +kernel
theorem dX7_year_1 : decode cX7_year 1 = .ok (.invokestatic 121, 3) := by decide +kernel
theorem dX7_year_4 : decode cX7_year 4 = .ok (.ifCond .eq 9, 3) := by decide +kernel
theorem dX7_year_7 : decode cX7_year 7 = .ok (.aload_n 0, 1) := by decide +kernel
theorem dX7_year_8 : decode cX7_year 8 = .ok (.iconst (-1), 1) := by decide +kernel
theorem dX7_year_9 : decode cX7_year 9 = .ok (.invokevirtual 125, 3) := by decide +kernel
theorem dX7_year_12 : decode cX7_year 12 = .ok (.ireturn, 1) := by decide +kernel
theorem dX7_year_13 : decode cX7_year 13 = .ok (.iload 5, 2) := by decide +kernel
theorem dX7_year_15 : decode cX7_year 15 = .ok (.i2l, 1) := by decide +kernel
theorem dX7_year_16 : decode cX7_year 16 = .ok (.lconst 0, 1) := by decide +kernel
theorem dX7_year_17 : decode cX7_year 17 = .ok (.ldc2_w 128, 3) := by decide +kernel
theorem dX7_year_20 : decode cX7_year 20 = .ok (.invokestatic 82, 3) := by decide +kernel
theorem dX7_year_23 : decode cX7_year 23 = .ok (.ifCond .ne 18, 3) := by decide +kernel
theorem dX7_year_26 : decode cX7_year 26 = .ok (.iload 5, 2) := by decide +kernel
theorem dX7_year_28 : decode cX7_year 28 = .ok (.i2l, 1) := by decide +kernel
theorem dX7_year_29 : decode cX7_year 29 = .ok (.ldc2_w 171, 3) := by decide +kernel
theorem dX7_year_32 : decode cX7_year 32 = .ok (.ldc2_w 173, 3) := by decide +kernel
theorem dX7_year_35 : decode cX7_year 35 = .ok (.invokestatic 82, 3) := by decide +kernel
theorem dX7_year_38 : decode cX7_year 38 = .ok (.ifCond .eq 7, 3) := by decide +kernel
theorem dX7_year_41 : decode cX7_year 41 = .ok (.iconst 1, 1) := by decide +kernel
theorem dX7_year_42 : decode cX7_year 42 = .ok (.goto 4, 3) := by decide +kernel
theorem dX7_year_45 : decode cX7_year 45 = .ok (.iconst 0, 1) := by decide +kernel
theorem dX7_year_46 : decode cX7_year 46 = .ok (.istore 6, 2) := by decide +kernel
theorem dX7_year_48 : decode cX7_year 48 = .ok (.iload_n 2, 1) := by decide +kernel
theorem dX7_year_49 : decode cX7_year 49 = .ok (.i2l, 1) := by decide +kernel
theorem dX7_year_50 : decode cX7_year 50 = .ok (.lconst 0, 1) := by decide +kernel
theorem dX7_year_51 : decode cX7_year 51 = .ok (.ldc2_w 128, 3) := by decide +kernel
theorem dX7_year_54 : decode cX7_year 54 = .ok (.invokestatic 82, 3) := by decide +kernel
theorem dX7_year_57 : decode cX7_year 57 = .ok (.ifCond .eq 21, 3) := by decide +kernel
theorem dX7_year_60 : decode cX7_year 60 = .ok (.iload 4, 2) := by decide +kernel
theorem dX7_year_62 : decode cX7_year 62 = .ok (.i2l, 1) := by decide +kernel
theorem dX7_year_63 : decode cX7_year 63 = .ok (.lconst 0, 1) := by decide +kernel
theorem dX7_year_64 : decode cX7_year 64 = .ok (.ldc2_w 175, 3) := by decide +kernel
theorem dX7_year_67 : decode cX7_year 67 = .ok (.invokestatic 82, 3) := by decide +kernel
theorem dX7_year_70 : decode cX7_year 70 = .ok (.ifCond .eq 8, 3) := by decide +kernel
theorem dX7_year_73 : decode cX7_year 73 = .ok (.iload 6, 2) := by decide +kernel
theorem dX7_year_75 : decode cX7_year 75 = .ok (.ifCond .ne 10, 3) := by decide +kernel
theorem dX7_year_78 : decode cX7_year 78 = .ok (.aload_n 0, 1) := by decide +kernel
theorem dX7_year_79 : decode cX7_year 79 = .ok (.bipush (-2), 2) := by decide +kernel
theorem dX7_year_81 : decode cX7_year 81 = .ok (.invokevirtual 125, 3) := by decide +kernel
theorem dX7_year_84 : decode cX7_year 84 = .ok (.ireturn, 1) := by decide +kernel
theorem dX7_year_85 : decode cX7_year 85 = .ok (.aload_n 0, 1) := by decide +kernel
theorem dX7_year_86 : decode cX7_year 86 = .ok (.getfield 86, 3) := by decide +kernel
theorem dX7_year_89 : decode cX7_year 89 = .ok (.ifCond .ne 10, 3) := by decide +kernel
theorem dX7_year_92 : decode cX7_year 92 = .ok (.aload_n 0, 1) := by decide +kernel
theorem dX7_year_93 : decode cX7_year 93 = .ok (.bipush (-3), 2) := by decide +kernel
theorem dX7_year_95 : decode cX7_year 95 = .ok (.invokevirtual 125, 3) := by decide +kernel
theorem dX7_year_98 : decode cX7_year 98 = .ok (.ireturn, 1) := by decide +kernel
theorem dX7_year_99 : decode cX7_year 99 = .ok (.aload_n 0, 1) := by decide +kernel
theorem dX7_year_100 : decode cX7_year 100 = .ok (.iload_n 1, 1) := by decide +kernel
theorem dX7_year_101 : decode cX7_year 101 = .ok (.iload_n 2, 1) := by decide +kernel
theorem dX7_year_102 : decode cX7_year 102 = .ok (.iload_n 3, 1) := by decide +kernel
theorem dX7_year_103 : decode cX7_year 103 = .ok (.ldc2_w 160, 3) := by decide +kernel
theorem dX7_year_106 : decode cX7_year 106 = .ok (.iload 4, 2) := by decide +kernel
theorem dX7_year_108 : decode cX7_year 108 = .ok (.i2l, 1) := by decide +kernel
theorem dX7_year_109 : decode cX7_year 109 = .ok (.lmul, 1) := by decide +kernel
theorem dX7_year_110 : decode cX7_year 110 = .ok (.invokevirtual 130, 3) := by decide +kernel
theorem dX7_year_113 : decode cX7_year 113 = .ok (.istore 7, 2) := by decide +kernel
theorem dX7_year_115 : decode cX7_year 115 = .ok (.iload 7, 2) := by decide +kernel
theorem dX7_year_117 : decode cX7_year 117 = .ok (.ifCond .ge 6, 3) := by decide +kernel
theorem dX7_year_120 : decode cX7_year 120 = .ok (.iload 7, 2) := by decide +kernel
theorem dX7_year_122 : decode cX7_year 122 = .ok (.ireturn, 1) := by decide +kernel
theorem dX7_year_123 : decode cX7_year 123 = .ok (.iconst 0, 1) := by decide +kernel
theorem dX7_year_124 : decode cX7_year 124 = .ok (.istore 8, 2) := by decide +kernel
theorem dX7_year_126 : decode cX7_year 126 = .ok (.iload 8, 2) := by decide +kernel
theorem dX7_year_128 : decode cX7_year 128 = .ok (.iload 4, 2) := by decide +kernel
theorem dX7_year_130 : decode cX7_year 130 = .ok (.if_icmp .ge 78, 3) := by decide +kernel
theorem dX7_year_133 : decode cX7_year 133 = .ok (.bipush 60, 2) := by decide +kernel
theorem dX7_year_135 : decode cX7_year 135 = .ok (.iload_n 1, 1) := by decide +kernel
theorem dX7_year_136 : decode cX7_year 136 = .ok (.imul, 1) := by decide +kernel
theorem dX7_year_137 : decode cX7_year 137 = .ok (.iload_n 3, 1) := by decide +kernel
theorem dX7_year_138 : decode cX7_year 138 = .ok (.iadd, 1) := by decide +kernel
theorem dX7_year_139 : decode cX7_year 139 = .ok (.iconst 3, 1) := by decide +kernel
theorem dX7_year_140 : decode cX7_year 140 = .ok (.iload 8, 2) := by decide +kernel
theorem dX7_year_142 : decode cX7_year 142 = .ok (.imul, 1) := by decide +kernel
theorem dX7_year_143 : decode cX7_year 143 = .ok (.iadd, 1) := by decide +kernel
theorem dX7_year_144 : decode cX7_year 144 = .ok (.istore 9, 2) := by decide +kernel
theorem dX7_year_146 : decode cX7_year 146 = .ok (.aload_n 0, 1) := by decide +kernel
theorem dX7_year_147 : decode cX7_year 147 = .ok (.aload_n 0, 1) := by decide +kernel
theorem dX7_year_148 : decode cX7_year 148 = .ok (.getfield 63, 3) := by decide +kernel
theorem dX7_year_151 : decode cX7_year 151 = .ok (.iload 9, 2) := by decide +kernel
theorem dX7_year_153 : decode cX7_year 153 = .ok (.iaload, 1) := by decide +kernel
theorem dX7_year_154 : decode cX7_year 154 = .ok (.invokevirtual 152, 3) := by decide +kernel
theorem dX7_year_157 : decode cX7_year 157 = .ok (.ifCond .ne 39, 3) := by decide +kernel
theorem dX7_year_160 : decode cX7_year 160 = .ok (.aload_n 0, 1) := by decide +kernel
theorem dX7_year_161 : decode cX7_year 161 = .ok (.aload_n 0, 1) := by decide +kernel
theorem dX7_year_162 : decode cX7_year 162 = .ok (.getfield 63, 3) := by decide +kernel
theorem dX7_year_165 : decode cX7_year 165 = .ok (.iload 9, 2) := by decide +kernel
theorem dX7_year_167 : decode cX7_year 167 = .ok (.iconst 1, 1) := by decide +kernel
theorem dX7_year_168 : decode cX7_year 168 = .ok (.iadd, 1) := by decide +kernel
theorem dX7_year_169 : decode cX7_year 169 = .ok (.iaload, 1) := by decide +kernel
theorem dX7_year_170 : decode cX7_year 170 = .ok (.invokevirtual 146, 3) := by decide +kernel
theorem dX7_year_173 : decode cX7_year 173 = .ok (.ifCond .ne 23, 3) := by decide +kernel
theorem dX7_year_176 : decode cX7_year 176 = .ok (.aload_n 0, 1) := by decide +kernel
theorem dX7_year_177 : decode cX7_year 177 = .ok (.getfield 63, 3) := by decide +kernel
theorem dX7_year_180 : decode cX7_year 180 = .ok (.iload 9, 2) := by decide +kernel
theorem dX7_year_182 : decode cX7_year 182 = .ok (.iconst 2, 1) := by decide +kernel
theorem dX7_year_183 : decode cX7_year 183 = .ok (.iadd, 1) := by decide +kernel
theorem dX7_year_184 : decode cX7_year 184 = .ok (.iaload, 1) := by decide +kernel
theorem dX7_year_185 : decode cX7_year 185 = .ok (.i2l, 1) := by decide +kernel
theorem dX7_year_186 : decode cX7_year 186 = .ok (.lconst 0, 1) := by decide +kernel
theorem dX7_year_187 : decode cX7_year 187 = .ok (.ldc2_w 128, 3) := by decide +kernel
theorem dX7_year_190 : decode cX7_year 190 = .ok (.invokestatic 82, 3) := by decide +kernel
theorem dX7_year_193 : decode cX7_year 193 = .ok (.ifCond .ne 9, 3) := by decide +kernel
theorem dX7_year_196 : decode cX7_year 196 = .ok (.aload_n 0, 1) := by decide +kernel
theorem dX7_year_197 : decode cX7_year 197 = .ok (.iconst (-1), 1) := by decide +kernel
theorem dX7_year_198 : decode cX7_year 198 = .ok (.invokevirtual 125, 3) := by decide +kernel
theorem dX7_year_201 : decode cX7_year 201 = .ok (.ireturn, 1) := by decide +kernel
theorem dX7_year_202 : decode cX7_year 202 = .ok (.iinc 8 1, 3) := by decide +kernel
theorem dX7_year_205 : decode cX7_year 205 = .ok (.goto (-79), 3) := by decide +kernel
theorem dX7_year_208 : decode cX7_year 208 = .ok (.aload_n 0, 1) := by decide +kernel
theorem dX7_year_209 : decode cX7_year 209 = .ok (.bipush 60, 2) := by decide +kernel
theorem dX7_year_211 : decode cX7_year 211 = .ok (.iload_n 1, 1) := by decide +kernel
theorem dX7_year_212 : decode cX7_year 212 = .ok (.imul, 1) := by decide +kernel
theorem dX7_year_213 : decode cX7_year 213 = .ok (.iload_n 3, 1) := by decide +kernel
theorem dX7_year_214 : decode cX7_year 214 = .ok (.iadd, 1) := by decide +kernel
theorem dX7_year_215 : decode cX7_year 215 = .ok (.iload 4, 2) := by decide +kernel
theorem dX7_year_217 : decode cX7_year 217 = .ok (.invokevirtual 177, 3) := by decide +kernel
theorem dX7_year_220 : decode cX7_year 220 = .ok (.iload 5, 2) := by decide +kernel
theorem dX7_year_222 : decode cX7_year 222 = .ok (.iconst 1, 1) := by decide +kernel
theorem dX7_year_223 : decode cX7_year 223 = .ok (.if_icmp .ne 12, 3) := by decide +kernel
theorem dX7_year_226 : decode cX7_year 226 = .ok (.aload_n 0, 1) := by decide +kernel
theorem dX7_year_227 : decode cX7_year 227 = .ok (.aload_n 0, 1) := by decide +kernel
theorem dX7_year_228 : decode cX7_year 228 = .ok (.getfield 162, 3) := by decide +kernel
theorem dX7_year_231 : decode cX7_year 231 = .ok (.invokevirtual 125, 3) := by decide +kernel
theorem dX7_year_234 : decode cX7_year 234 = .ok (.ireturn, 1) := by decide +kernel
theorem dX7_year_235 : decode cX7_year 235 = .ok (.aload_n 0, 1) := by decide +kernel
theorem dX7_year_236 : decode cX7_year 236 = .ok (.getfield 162, 3) := by decide +kernel
theorem dX7_year_239 : decode cX7_year 239 = .ok (.ifCond .lt 15, 3) := by decide +kernel
theorem dX7_year_242 : decode cX7_year 242 = .ok (.aload_n 0, 1) := by decide +kernel
theorem dX7_year_243 : decode cX7_year 243 = .ok (.ldc 181, 2) := by decide +kernel
theorem dX7_year_245 : decode cX7_year 245 = .ok (.aload_n 0, 1) := by decide +kernel
theorem dX7_year_246 : decode cX7_year 246 = .ok (.getfield 162, 3) := by decide +kernel
theorem dX7_year_249 : decode cX7_year 249 = .ok (.isub, 1) := by decide +kernel
theorem dX7_year_250 : decode cX7_year 250 = .ok (.invokevirtual 125, 3) := by decide +kernel
theorem dX7_year_253 : decode cX7_year 253 = .ok (.ireturn, 1) := by decide +kernel
theorem dX7_year_254 : decode cX7_year 254 = .ok (.iload 5, 2) := by decide +kernel
theorem dX7_year_256 : decode cX7_year 256 = .ok (.bipush 9, 2) := by decide +kernel
theorem dX7_year_258 : decode cX7_year 258 = .ok (.if_icmp .le 35, 3) := by decide +kernel
theorem dX7_year_261 : decode cX7_year 261 = .ok (.aload_n 0, 1) := by decide +kernel
theorem dX7_year_262 : decode cX7_year 262 = .ok (.aload_n 0, 1) := by decide +kernel
theorem dX7_year_263 : decode cX7_year 263 = .ok (.iload 5, 2) := by decide +kernel
theorem dX7_year_265 : decode cX7_year 265 = .ok (.bipush 10, 2) := by decide +kernel
theorem dX7_year_267 : decode cX7_year 267 = .ok (.isub, 1) := by decide +kernel
theorem dX7_year_268 : decode cX7_year 268 = .ok (.invokevirtual 152, 3) := by decide +kernel
theorem dX7_year_271 : decode cX7_year 271 = .ok (.ifCond .eq 8, 3) := by decide +kernel
theorem dX7_year_274 : decode cX7_year 274 = .ok (.bipush (-9), 2) := by decide +kernel
theorem dX7_year_276 : decode cX7_year 276 = .ok (.goto 13, 3) := by decide +kernel
theorem dX7_year_279 : decode cX7_year 279 = .ok (.aload_n 0, 1) := by decide +kernel
theorem dX7_year_280 : decode cX7_year 280 = .ok (.getfield 40, 3) := by decide +kernel
theorem dX7_year_283 : decode cX7_year 283 = .ok (.iload 5, 2) := by decide +kernel
theorem dX7_year_285 : decode cX7_year 285 = .ok (.bipush 10, 2) := by decide +kernel
theorem dX7_year_287 : decode cX7_year 287 = .ok (.isub, 1) := by decide +kernel
theorem dX7_year_288 : decode cX7_year 288 = .ok (.iaload, 1) := by decide +kernel
theorem dX7_year_289 : decode cX7_year 289 = .ok (.invokevirtual 125, 3) := by decide +kernel
theorem dX7_year_292 : decode cX7_year 292 = .ok (.ireturn, 1) := by decide +kernel
theorem dX7_year_293 : decode cX7_year 293 = .ok (.aload_n 0, 1) := by decide +kernel
theorem dX7_year_294 : decode cX7_year 294 = .ok (.iload 5, 2) := by decide +kernel
theorem dX7_year_296 : decode cX7_year 296 = .ok (.ifCond .ne 10, 3) := by decide +kernel
theorem dX7_year_299 : decode cX7_year 299 = .ok (.aload_n 0, 1) := by decide +kernel
theorem dX7_year_300 : decode cX7_year 300 = .ok (.getfield 165, 3) := by decide +kernel
theorem dX7_year_303 : decode cX7_year 303 = .ok (.goto 7, 3) := by decide +kernel
theorem dX7_year_306 : decode cX7_year 306 = .ok (.aload_n 0, 1) := by decide +kernel
theorem dX7_year_307 : decode cX7_year 307 = .ok (.getfield 168, 3) := by decide +kernel
theorem dX7_year_310 : decode cX7_year 310 = .ok (.invokevirtual 125, 3) := by decide +kernel
theorem dX7_year_313 : decode cX7_year 313 = .ok (.ireturn, 1) := by decide +kernel
theorem dX7_timesOf_0 : decode cX7_timesOf 0 = .ok (.lconst 1, 1) := by decide +kernel
theorem dX7_timesOf_1 : decode cX7_timesOf 1 = .ok (.lstore_n 2, 1) := by decide +kernel
theorem dX7_timesOf_2 : decode cX7_timesOf 2 = .ok (.iconst 0, 1) := by decide +kernel
theorem dX7_timesOf_3 : decode cX7_timesOf 3 = .ok (.istore 4, 2) := by decide +kernel
theorem dX7_timesOf_5 : decode cX7_timesOf 5 = .ok (.iload 4, 2) := by decide +kernel
theorem dX7_timesOf_7 : decode cX7_timesOf 7 = .ok (.iload_n 1, 1) := by decide +kernel
theorem dX7_timesOf_8 : decode cX7_timesOf 8 = .ok (.if_icmp .ge 17, 3) := by decide +kernel
theorem dX7_timesOf_11 : decode cX7_timesOf 11 = .ok (.lload_n 2, 1) := by decide +kernel
theorem dX7_timesOf_12 : decode cX7_timesOf 12 = .ok (.aload_n 0, 1) := by decide +kernel
theorem dX7_timesOf_13 : decode cX7_timesOf 13 = .ok (.getfield 79, 3) := by decide +kernel
theorem dX7_timesOf_16 : decode cX7_timesOf 16 = .ok (.i2l, 1) := by decide +kernel
theorem dX7_timesOf_17 : decode cX7_timesOf 17 = .ok (.lmul, 1) := by decide +kernel
theorem dX7_timesOf_18 : decode cX7_timesOf 18 = .ok (.lstore_n 2, 1) := by decide +kernel
theorem dX7_timesOf_19 : decode cX7_timesOf 19 = .ok (.iinc 4 1, 3) := by decide +kernel
theorem dX7_timesOf_22 : decode cX7_timesOf 22 = .ok (.goto (-17), 3) := by decide +kernel
theorem dX7_timesOf_25 : decode cX7_timesOf 25 = .ok (.lload_n 2, 1) := by decide +kernel
theorem dX7_timesOf_26 : decode cX7_timesOf 26 = .ok (.lreturn, 1) := by decide +kernel
theorem dX7_greater_0 : decode cX7_greater 0 = .ok (.lload_n 1, 1) := by decide +kernel
theorem dX7_greater_1 : decode cX7_greater 1 = .ok (.lload_n 3, 1) := by decide +kernel
theorem dX7_greater_2 : decode cX7_greater 2 = .ok (.lcmp, 1) := by decide +kernel
theorem dX7_greater_3 : decode cX7_greater 3 = .ok (.ifCond .le 7, 3) := by decide +kernel
theorem dX7_greater_6 : decode cX7_greater 6 = .ok (.lload_n 1, 1) := by decide +kernel
theorem dX7_greater_7 : decode cX7_greater 7 = .ok (.goto 4, 3) := by decide +kernel
theorem dX7_greater_10 : decode cX7_greater 10 = .ok (.lload_n 3, 1) := by decide +kernel
theorem dX7_greater_11 : decode cX7_greater 11 = .ok (.lreturn, 1) := by decide +kernel
set_option maxRecDepth 20000 in
theorem ggX7_bestBy_X7_timesOf : GoodIn wsX7_bestBy wsX7_timesOf := goodIn_r _ [8, 9, 25, 26, 27, 28, 29, 30, 31, 32, 33, 34, 35, 36, 37, 38, 39, 40, 41, 42, 43, 44, 45, 46, 47, 48, 49, 50, 51, 52, 53, 54] (by decide +kernel) (by decide +kernel)
set_option maxRecDepth 20000 in
theorem gX7_bestBy_X7_timesOf : GoodIn wsX7_bestBy (wsV RX7 182 RX7 yX7_timesOf wsX7_timesOf) := goodIn_app (goodIn_of _ (by decide +kernel)) ggX7_bestBy_X7_timesOf
set_option maxRecDepth 20000 in
theorem ggX7_bestBy_X7_valueOf : GoodIn wsX7_bestBy wsX7_valueOf := goodIn_r _ [13, 3, 14, 15, 16, 7, 17, 18, 19, 20, 25, 26, 27, 28, 29, 30, 31, 32, 33, 34, 35, 36, 37, 38, 39, 40, 41, 42, 43, 44, 45, 46, 47, 48, 49, 50, 51, 52, 53, 54] (by decide +kernel) (by decide +kernel)
set_option maxRecDepth 20000 in
theorem gX7_bestBy_X7_valueOf : GoodIn wsX7_bestBy (wsV RX7 143 RX7 yX7_valueOf wsX7_valueOf) := goodIn_app (goodIn_of _ (by decide +kernel)) ggX7_bestBy_X7_valueOf
set_option maxRecDepth 20000 in
theorem ggX7_bestBy_X7_greater : GoodIn wsX7_bestBy wsX7_greater := goodIn_r _ [24] (by decide +kernel) (by decide +kernel)
set_option maxRecDepth 20000 in
theorem gX7_bestBy_X7_greater : GoodIn wsX7_bestBy (wsV RX7 186 RX7 yX7_greater wsX7_greater) := goodIn_app (goodIn_of _ (by decide +kernel)) ggX7_bestBy_X7_greater
theorem dX7_bestBy_0 : decode cX7_bestBy 0 = .ok (.aload_n 0, 1) := by decide +kernel
theorem dX7_bestBy_1 : decode cX7_bestBy 1 = .ok (.iload_n 3, 1) := by decide +kernel
theorem dX7_bestBy_2 : decode cX7_bestBy 2 = .ok (.invokevirtual 182, 3) := by decide +kernel
theorem dX7_bestBy_5 : decode cX7_bestBy 5 = .ok (.lstore 5, 2) := by decide +kernel
theorem dX7_bestBy_7 : decode cX7_bestBy 7 = .ok (.aload_n 0, 1) := by decide +kernel
theorem dX7_bestBy_8 : decode cX7_bestBy 8 = .ok (.getfield 43, 3) := by decide +kernel
theorem dX7_bestBy_11 : decode cX7_bestBy 11 = .ok (.iconst 4, 1) := by decide +kernel
theorem dX7_bestBy_12 : decode cX7_bestBy 12 = .ok (.iload_n 3, 1) := by decide +kernel
theorem dX7_bestBy_13 : decode cX7_bestBy 13 = .ok (.imul, 1) := by decide +kernel
theorem dX7_bestBy_14 : decode cX7_bestBy 14 = .ok (.iload 4, 2) := by decide +kernel
theorem dX7_bestBy_16 : decode cX7_bestBy 16 = .ok (.iadd, 1) := by decide +kernel
theorem dX7_bestBy_17 : decode cX7_bestBy 17 = .ok (.laload, 1) := by decide +kernel
theorem dX7_bestBy_18 : decode cX7_bestBy 18 = .ok (.lstore 7, 2) := by decide +kernel
theorem dX7_bestBy_20 : decode cX7_bestBy 20 = .ok (.lload 7, 2) := by decide +kernel
theorem dX7_bestBy_22 : decode cX7_bestBy 22 = .ok (.aload_n 0, 1) := by decide +kernel
theorem dX7_bestBy_23 : decode cX7_bestBy 23 = .ok (.lconst 0, 1) := by decide +kernel
theorem dX7_bestBy_24 : decode cX7_bestBy 24 = .ok (.aload_n 0, 1) := by decide +kernel
theorem dX7_bestBy_25 : decode cX7_bestBy 25 = .ok (.iload_n 1, 1) := by decide +kernel
theorem dX7_bestBy_26 : decode cX7_bestBy 26 = .ok (.iload_n 2, 1) := by decide +kernel
theorem dX7_bestBy_27 : decode cX7_bestBy 27 = .ok (.invokevirtual 143, 3) := by decide +kernel
theorem dX7_bestBy_30 : decode cX7_bestBy 30 = .ok (.i2l, 1) := by decide +kernel
theorem dX7_bestBy_31 : decode cX7_bestBy 31 = .ok (.lload 5, 2) := by decide +kernel
theorem dX7_bestBy_33 : decode cX7_bestBy 33 = .ok (.lmul, 1) := by decide +kernel
theorem dX7_bestBy_34 : decode cX7_bestBy 34 = .ok (.invokevirtual 186, 3) := by decide +kernel
theorem dX7_bestBy_37 : decode cX7_bestBy 37 = .ok (.ladd, 1) := by decide +kernel
theorem dX7_bestBy_38 : decode cX7_bestBy 38 = .ok (.lstore 9, 2) := by decide +kernel
theorem dX7_bestBy_40 : decode cX7_bestBy 40 = .ok (.iload 4, 2) := by decide +kernel
theorem dX7_bestBy_42 : decode cX7_bestBy 42 = .ok (.ifCond .ne 8, 3) := by decide +kernel
theorem dX7_bestBy_45 : decode cX7_bestBy 45 = .ok (.lload 9, 2) := by decide +kernel
theorem dX7_bestBy_47 : decode cX7_bestBy 47 = .ok (.goto 37, 3) := by decide +kernel
theorem dX7_bestBy_50 : decode cX7_bestBy 50 = .ok (.aload_n 0, 1) := by decide +kernel
theorem dX7_bestBy_51 : decode cX7_bestBy 51 = .ok (.lload 9, 2) := by decide +kernel
theorem dX7_bestBy_53 : decode cX7_bestBy 53 = .ok (.aload_n 0, 1) := by decide +kernel
theorem dX7_bestBy_54 : decode cX7_bestBy 54 = .ok (.getfield 43, 3) := by decide +kernel
theorem dX7_bestBy_57 : decode cX7_bestBy 57 = .ok (.iconst 4, 1) := by decide +kernel
theorem dX7_bestBy_58 : decode cX7_bestBy 58 = .ok (.iload_n 3, 1) := by decide +kernel
theorem dX7_bestBy_59 : decode cX7_bestBy 59 = .ok (.imul, 1) := by decide +kernel
theorem dX7_bestBy_60 : decode cX7_bestBy 60 = .ok (.iload 4, 2) := by decide +kernel
theorem dX7_bestBy_62 : decode cX7_bestBy 62 = .ok (.iadd, 1) := by decide +kernel
theorem dX7_bestBy_63 : decode cX7_bestBy 63 = .ok (.iconst 1, 1) := by decide +kernel
theorem dX7_bestBy_64 : decode cX7_bestBy 64 = .ok (.isub, 1) := by decide +kernel
theorem dX7_bestBy_65 : decode cX7_bestBy 65 = .ok (.laload, 1) := by decide +kernel
theorem dX7_bestBy_66 : decode cX7_bestBy 66 = .ok (.ldc2_w 171, 3) := by decide +kernel
theorem dX7_bestBy_69 : decode cX7_bestBy 69 = .ok (.aload_n 0, 1) := by decide +kernel
theorem dX7_bestBy_70 : decode cX7_bestBy 70 = .ok (.getfield 7, 3) := by decide +kernel
theorem dX7_bestBy_73 : decode cX7_bestBy 73 = .ok (.iload_n 2, 1) := by decide +kernel
theorem dX7_bestBy_74 : decode cX7_bestBy 74 = .ok (.iaload, 1) := by decide +kernel
theorem dX7_bestBy_75 : decode cX7_bestBy 75 = .ok (.i2l, 1) := by decide +kernel
theorem dX7_bestBy_76 : decode cX7_bestBy 76 = .ok (.lmul, 1) := by decide +kernel
theorem dX7_bestBy_77 : decode cX7_bestBy 77 = .ok (.lload 5, 2) := by decide +kernel
theorem dX7_bestBy_79 : decode cX7_bestBy 79 = .ok (.lmul, 1) := by decide +kernel
theorem dX7_bestBy_80 : decode cX7_bestBy 80 = .ok (.ladd, 1) := by decide +kernel
theorem dX7_bestBy_81 : decode cX7_bestBy 81 = .ok (.invokevirtual 186, 3) := by decide +kernel
theorem dX7_bestBy_84 : decode cX7_bestBy 84 = .ok (.lreturn, 1) := by decide +kernel
set_option maxRecDepth 20000 in
theorem ggX7_goHope_X7_bestBy : GoodIn wsX7_goHope wsX7_bestBy := goodIn_r _ [7, 1, 8, 9, 10, 11, 12, 6, 13, 2, 14, 15, 16, 17, 18, 19, 20, 21, 22, 23, 24, 25, 26, 27, 28, 29, 30, 31, 32, 33, 34, 35, 36, 37, 38, 39, 40, 41, 42, 43, 44, 45, 46, 47, 48, 49, 50, 51, 52, 53, 54, 55, 56, 57, 58] (by decide +kernel) (by decide +kernel)
set_option maxRecDepth 20000 in
theorem gX7_goHope_X7_bestBy : GoodIn wsX7_goHope (wsV RX7 190 RX7 yX7_bestBy wsX7_bestBy) := goodIn_app (goodIn_of _ (by decide +kernel)) ggX7_goHope_X7_bestBy
theorem dX7_goHope_0 : decode cX7_goHope 0 = .ok (.iconst 0, 1) := by decide +kernel
theorem dX7_goHope_1 : decode cX7_goHope 1 = .ok (.istore_n 3, 1) := by decide +kernel
theorem dX7_goHope_2 : decode cX7_goHope 2 = .ok (.iload_n 3, 1) := by decide +kernel
theorem dX7_goHope_3 : decode cX7_goHope 3 = .ok (.iconst 4, 1) := by decide +kernel
theorem dX7_goHope_4 : decode cX7_goHope 4 = .ok (.if_icmp .ge 16, 3) := by decide +kernel
theorem dX7_goHope_7 : decode cX7_goHope 7 = .ok (.aload_n 0, 1) := by decide +kernel
theorem dX7_goHope_8 : decode cX7_goHope 8 = .ok (.getfield 43, 3) := by decide +kernel
theorem dX7_goHope_11 : decode cX7_goHope 11 = .ok (.iload_n 3, 1) := by decide +kernel
theorem dX7_goHope_12 : decode cX7_goHope 12 = .ok (.lconst 0, 1) := by decide +kernel
theorem dX7_goHope_13 : decode cX7_goHope 13 = .ok (.lastore, 1) := by decide +kernel
theorem dX7_goHope_14 : decode cX7_goHope 14 = .ok (.iinc 3 1, 3) := by decide +kernel
theorem dX7_goHope_17 : decode cX7_goHope 17 = .ok (.goto (-15), 3) := by decide +kernel
theorem dX7_goHope_20 : decode cX7_goHope 20 = .ok (.iconst 1, 1) := by decide +kernel
theorem dX7_goHope_21 : decode cX7_goHope 21 = .ok (.istore_n 3, 1) := by decide +kernel
theorem dX7_goHope_22 : decode cX7_goHope 22 = .ok (.iload_n 3, 1) := by decide +kernel
theorem dX7_goHope_23 : decode cX7_goHope 23 = .ok (.iload_n 2, 1) := by decide +kernel
theorem dX7_goHope_24 : decode cX7_goHope 24 = .ok (.if_icmp .gt 75, 3) := by decide +kernel
theorem dX7_goHope_27 : decode cX7_goHope 27 = .ok (.iconst 0, 1) := by decide +kernel
theorem dX7_goHope_28 : decode cX7_goHope 28 = .ok (.istore 4, 2) := by decide +kernel
theorem dX7_goHope_30 : decode cX7_goHope 30 = .ok (.iload 4, 2) := by decide +kernel
theorem dX7_goHope_32 : decode cX7_goHope 32 = .ok (.iconst 4, 1) := by decide +kernel
theorem dX7_goHope_33 : decode cX7_goHope 33 = .ok (.if_icmp .ge 60, 3) := by decide +kernel
theorem dX7_goHope_36 : decode cX7_goHope 36 = .ok (.lconst 0, 1) := by decide +kernel
theorem dX7_goHope_37 : decode cX7_goHope 37 = .ok (.lstore 5, 2) := by decide +kernel
theorem dX7_goHope_39 : decode cX7_goHope 39 = .ok (.iconst 0, 1) := by decide +kernel
theorem dX7_goHope_40 : decode cX7_goHope 40 = .ok (.istore 7, 2) := by decide +kernel
theorem dX7_goHope_42 : decode cX7_goHope 42 = .ok (.iload 7, 2) := by decide +kernel
theorem dX7_goHope_44 : decode cX7_goHope 44 = .ok (.aload_n 0, 1) := by decide +kernel
theorem dX7_goHope_45 : decode cX7_goHope 45 = .ok (.getfield 79, 3) := by decide +kernel
theorem dX7_goHope_48 : decode cX7_goHope 48 = .ok (.if_icmp .ge 26, 3) := by decide +kernel
theorem dX7_goHope_51 : decode cX7_goHope 51 = .ok (.lload 5, 2) := by decide +kernel
theorem dX7_goHope_53 : decode cX7_goHope 53 = .ok (.aload_n 0, 1) := by decide +kernel
theorem dX7_goHope_54 : decode cX7_goHope 54 = .ok (.iload_n 1, 1) := by decide +kernel
theorem dX7_goHope_55 : decode cX7_goHope 55 = .ok (.iload 7, 2) := by decide +kernel
theorem dX7_goHope_57 : decode cX7_goHope 57 = .ok (.iload_n 3, 1) := by decide +kernel
theorem dX7_goHope_58 : decode cX7_goHope 58 = .ok (.iconst 1, 1) := by decide +kernel
theorem dX7_goHope_59 : decode cX7_goHope 59 = .ok (.isub, 1) := by decide +kernel
theorem dX7_goHope_60 : decode cX7_goHope 60 = .ok (.iload 4, 2) := by decide +kernel
theorem dX7_goHope_62 : decode cX7_goHope 62 = .ok (.invokevirtual 190, 3) := by decide +kernel
theorem dX7_goHope_65 : decode cX7_goHope 65 = .ok (.ladd, 1) := by decide +kernel
theorem dX7_goHope_66 : decode cX7_goHope 66 = .ok (.lstore 5, 2) := by decide +kernel
theorem dX7_goHope_68 : decode cX7_goHope 68 = .ok (.iinc 7 1, 3) := by decide +kernel
theorem dX7_goHope_71 : decode cX7_goHope 71 = .ok (.goto (-29), 3) := by decide +kernel
theorem dX7_goHope_74 : decode cX7_goHope 74 = .ok (.aload_n 0, 1) := by decide +kernel
theorem dX7_goHope_75 : decode cX7_goHope 75 = .ok (.getfield 43, 3) := by decide +kernel
theorem dX7_goHope_78 : decode cX7_goHope 78 = .ok (.iconst 4, 1) := by decide +kernel
theorem dX7_goHope_79 : decode cX7_goHope 79 = .ok (.iload_n 3, 1) := by decide +kernel
theorem dX7_goHope_80 : decode cX7_goHope 80 = .ok (.imul, 1) := by decide +kernel
theorem dX7_goHope_81 : decode cX7_goHope 81 = .ok (.iload 4, 2) := by decide +kernel
theorem dX7_goHope_83 : decode cX7_goHope 83 = .ok (.iadd, 1) := by decide +kernel
theorem dX7_goHope_84 : decode cX7_goHope 84 = .ok (.lload 5, 2) := by decide +kernel
theorem dX7_goHope_86 : decode cX7_goHope 86 = .ok (.lastore, 1) := by decide +kernel
theorem dX7_goHope_87 : decode cX7_goHope 87 = .ok (.iinc 4 1, 3) := by decide +kernel
theorem dX7_goHope_90 : decode cX7_goHope 90 = .ok (.goto (-60), 3) := by decide +kernel
theorem dX7_goHope_93 : decode cX7_goHope 93 = .ok (.iinc 3 1, 3) := by decide +kernel
theorem dX7_goHope_96 : decode cX7_goHope 96 = .ok (.goto (-74), 3) := by decide +kernel
theorem dX7_goHope_99 : decode cX7_goHope 99 = .ok (.return_, 1) := by decide +kernel
set_option maxRecDepth 20000 in
theorem ggX7_hope_X7_noSubject : GoodIn wsX7_hope wsX7_noSubject := goodIn_r _ [8, 9, 10, 11, 7, 12, 50, 51, 52, 53, 54, 55, 56, 57, 58, 59, 60, 61, 62, 63, 64, 65, 66, 67, 68, 69, 70, 71, 72, 73, 74, 75, 76, 77, 78, 79] (by decide +kernel) (by decide +kernel)
set_option maxRecDepth 20000 in
theorem gX7_hope_X7_noSubject : GoodIn wsX7_hope (wsV RX7 152 RX7 yX7_noSubject wsX7_noSubject) := goodIn_app (goodIn_of _ (by decide +kernel)) ggX7_hope_X7_noSubject
set_option maxRecDepth 20000 in
theorem ggX7_hope_X7_in : GoodIn wsX7_hope wsX7_in := goodIn_r _ [12] (by decide +kernel) (by decide +kernel)
set_option maxRecDepth 20000 in
theorem gX7_hope_X7_in : GoodIn wsX7_hope (va_wsS RX7 82 yX7_in wsX7_in) := goodIn_app (goodIn_of _ (by decide +kernel)) ggX7_hope_X7_in
set_option maxRecDepth 20000 in
theorem ggX7_hope_X7_lost : GoodIn wsX7_hope wsX7_lost := goodIn_r _ [15, 16] (by decide +kernel) (by decide +kernel)
set_option maxRecDepth 20000 in
theorem gX7_hope_X7_lost : GoodIn wsX7_hope (va_wsS RX7 75 yX7_lost wsX7_lost) := goodIn_app (goodIn_of _ (by decide +kernel)) ggX7_hope_X7_lost
set_option maxRecDepth 20000 in
theorem ggX7_hope_X7_goHope : GoodIn wsX7_hope wsX7_goHope := goodIn_r _ [20, 3, 21, 22, 23, 24, 7, 25, 26, 27, 28, 29, 30, 31, 32, 33, 34, 35, 36, 37, 38, 39, 40, 41, 42, 43, 44, 45, 46, 50, 51, 52, 53, 54, 55, 56, 57, 58, 59, 60, 61, 62, 63, 64, 65, 66, 67, 68, 69, 70, 71, 72, 73, 74, 75, 76, 77, 78, 79] (by decide +kernel) (by decide +kernel)
set_option maxRecDepth 20000 in
theorem gX7_hope_X7_goHope : GoodIn wsX7_hope (wsV RX7 196 RX7 yX7_goHope wsX7_goHope) := goodIn_app (goodIn_of _ (by decide +kernel)) ggX7_hope_X7_goHope
set_option maxRecDepth 20000 in
theorem ggX7_hope_X7_timesOf : GoodIn wsX7_hope wsX7_timesOf := goodIn_r _ [31, 21, 50, 51, 52, 53, 54, 55, 56, 57, 58, 59, 60, 61, 62, 63, 64, 65, 66, 67, 68, 69, 70, 71, 72, 73, 74, 75, 76, 77, 78, 79] (by decide +kernel) (by decide +kernel)
set_option maxRecDepth 20000 in
theorem gX7_hope_X7_timesOf : GoodIn wsX7_hope (wsV RX7 182 RX7 yX7_timesOf wsX7_timesOf) := goodIn_app (goodIn_of _ (by decide +kernel)) ggX7_hope_X7_timesOf
set_option maxRecDepth 20000 in
theorem ggX7_hope_X7_share : GoodIn wsX7_hope wsX7_share := goodIn_r _ [49] (by decide +kernel) (by decide +kernel)
set_option maxRecDepth 20000 in
theorem gX7_hope_X7_share : GoodIn wsX7_hope (va_wsS RX7 199 yX7_share wsX7_share) := goodIn_app (goodIn_of _ (by decide +kernel)) ggX7_hope_X7_share
theorem dX7_hope_0 : decode cX7_hope 0 = .ok (.aload_n 0, 1) := by decide +kernel
theorem dX7_hope_1 : decode cX7_hope 1 = .ok (.iload_n 1, 1) := by decide +kernel
theorem dX7_hope_2 : decode cX7_hope 2 = .ok (.invokevirtual 152, 3) := by decide +kernel
theorem dX7_hope_5 : decode cX7_hope 5 = .ok (.ifCond .ne 38, 3) := by decide +kernel
theorem dX7_hope_8 : decode cX7_hope 8 = .ok (.iload_n 2, 1) := by decide +kernel
theorem dX7_hope_9 : decode cX7_hope 9 = .ok (.i2l, 1) := by decide +kernel
theorem dX7_hope_10 : decode cX7_hope 10 = .ok (.lconst 0, 1) := by decide +kernel
theorem dX7_hope_11 : decode cX7_hope 11 = .ok (.ldc2_w 194, 3) := by decide +kernel
theorem dX7_hope_14 : decode cX7_hope 14 = .ok (.invokestatic 82, 3) := by decide +kernel
theorem dX7_hope_17 : decode cX7_hope 17 = .ok (.ifCond .eq 26, 3) := by decide +kernel
theorem dX7_hope_20 : decode cX7_hope 20 = .ok (.iload_n 3, 1) := by decide +kernel
theorem dX7_hope_21 : decode cX7_hope 21 = .ok (.i2l, 1) := by decide +kernel
theorem dX7_hope_22 : decode cX7_hope 22 = .ok (.lconst 0, 1) := by decide +kernel
theorem dX7_hope_23 : decode cX7_hope 23 = .ok (.ldc2_w 160, 3) := by decide +kernel
theorem dX7_hope_26 : decode cX7_hope 26 = .ok (.invokestatic 82, 3) := by decide +kernel
theorem dX7_hope_29 : decode cX7_hope 29 = .ok (.ifCond .eq 14, 3) := by decide +kernel
theorem dX7_hope_32 : decode cX7_hope 32 = .ok (.iload 4, 2) := by decide +kernel
theorem dX7_hope_34 : decode cX7_hope 34 = .ok (.i2l, 1) := by decide +kernel
theorem dX7_hope_35 : decode cX7_hope 35 = .ok (.lconst 0, 1) := by decide +kernel
theorem dX7_hope_36 : decode cX7_hope 36 = .ok (.lconst 1, 1) := by decide +kernel
theorem dX7_hope_37 : decode cX7_hope 37 = .ok (.invokestatic 82, 3) := by decide +kernel
theorem dX7_hope_40 : decode cX7_hope 40 = .ok (.ifCond .ne 7, 3) := by decide +kernel
theorem dX7_hope_43 : decode cX7_hope 43 = .ok (.invokestatic 75, 3) := by decide +kernel
theorem dX7_hope_46 : decode cX7_hope 46 = .ok (.lreturn, 1) := by decide +kernel
theorem dX7_hope_47 : decode cX7_hope 47 = .ok (.aload_n 0, 1) := by decide +kernel
theorem dX7_hope_48 : decode cX7_hope 48 = .ok (.iload_n 1, 1) := by decide +kernel
theorem dX7_hope_49 : decode cX7_hope 49 = .ok (.iload_n 2, 1) := by decide +kernel
theorem dX7_hope_50 : decode cX7_hope 50 = .ok (.invokevirtual 196, 3) := by decide +kernel
theorem dX7_hope_53 : decode cX7_hope 53 = .ok (.aload_n 0, 1) := by decide +kernel
theorem dX7_hope_54 : decode cX7_hope 54 = .ok (.getfield 43, 3) := by decide +kernel
theorem dX7_hope_57 : decode cX7_hope 57 = .ok (.iconst 4, 1) := by decide +kernel
theorem dX7_hope_58 : decode cX7_hope 58 = .ok (.iload_n 2, 1) := by decide +kernel
theorem dX7_hope_59 : decode cX7_hope 59 = .ok (.imul, 1) := by decide +kernel
theorem dX7_hope_60 : decode cX7_hope 60 = .ok (.iload_n 3, 1) := by decide +kernel
theorem dX7_hope_61 : decode cX7_hope 61 = .ok (.iadd, 1) := by decide +kernel
theorem dX7_hope_62 : decode cX7_hope 62 = .ok (.laload, 1) := by decide +kernel
theorem dX7_hope_63 : decode cX7_hope 63 = .ok (.aload_n 0, 1) := by decide +kernel
theorem dX7_hope_64 : decode cX7_hope 64 = .ok (.iload_n 2, 1) := by decide +kernel
theorem dX7_hope_65 : decode cX7_hope 65 = .ok (.invokevirtual 182, 3) := by decide +kernel
theorem dX7_hope_68 : decode cX7_hope 68 = .ok (.iload 4, 2) := by decide +kernel
theorem dX7_hope_70 : decode cX7_hope 70 = .ok (.invokestatic 199, 3) := by decide +kernel
theorem dX7_hope_73 : decode cX7_hope 73 = .ok (.lreturn, 1) := by decide +kernel
set_option maxRecDepth 20000 in
theorem ggX7_uses_X7_noSubject : GoodIn wsX7_uses wsX7_noSubject := goodIn_r _ [11, 12, 13, 14, 10, 15, 43, 44, 45, 46, 47, 48, 49, 50, 51, 52, 53, 54, 55, 56, 57, 58, 59, 60, 61, 62, 63, 64, 65, 66, 67, 68, 69, 70, 71, 72] (by decide +kernel) (by decide +kernel)
set_option maxRecDepth 20000 in
theorem gX7_uses_X7_noSubject : GoodIn wsX7_uses (wsV RX7 152 RX7 yX7_noSubject wsX7_noSubject) := goodIn_app (goodIn_of _ (by decide +kernel)) ggX7_uses_X7_noSubject
set_option maxRecDepth 20000 in
theorem ggX7_uses_X7_in : GoodIn wsX7_uses wsX7_in := goodIn_r _ [15] (by decide +kernel) (by decide +kernel)
set_option maxRecDepth 20000 in
theorem gX7_uses_X7_in : GoodIn wsX7_uses (va_wsS RX7 82 yX7_in wsX7_in) := goodIn_app (goodIn_of _ (by decide +kernel)) ggX7_uses_X7_in
set_option maxRecDepth 20000 in
theorem ggX7_uses_X7_goHope : GoodIn wsX7_uses wsX7_goHope := goodIn_r _ [19, 3, 4, 20, 21, 22, 10, 23, 5, 6, 24, 25, 26, 27, 28, 29, 30, 31, 32, 33, 34, 35, 36, 37, 38, 39, 40, 41, 42, 43, 44, 45, 46, 47, 48, 49, 50, 51, 52, 53, 54, 55, 56, 57, 58, 59, 60, 61, 62, 63, 64, 65, 66, 67, 68, 69, 70, 71, 72] (by decide +kernel) (by decide +kernel)
set_option maxRecDepth 20000 in
theorem gX7_uses_X7_goHope : GoodIn wsX7_uses (wsV RX7 196 RX7 yX7_goHope wsX7_goHope) := goodIn_app (goodIn_of _ (by decide +kernel)) ggX7_uses_X7_goHope
set_option maxRecDepth 20000 in
theorem ggX7_uses_X7_timesOf : GoodIn wsX7_uses wsX7_timesOf := goodIn_r _ [27, 4, 43, 44, 45, 46, 47, 48, 49, 50, 51, 52, 53, 54, 55, 56, 57, 58, 59, 60, 61, 62, 63, 64, 65, 66, 67, 68, 69, 70, 71, 72] (by decide +kernel) (by decide +kernel)
set_option maxRecDepth 20000 in
theorem gX7_uses_X7_timesOf : GoodIn wsX7_uses (wsV RX7 182 RX7 yX7_timesOf wsX7_timesOf) := goodIn_app (goodIn_of _ (by decide +kernel)) ggX7_uses_X7_timesOf
set_option maxRecDepth 20000 in
theorem ggX7_uses_X7_valueOf : GoodIn wsX7_uses wsX7_valueOf := goodIn_r _ [31, 6, 32, 33, 34, 10, 35, 36, 37, 38, 43, 44, 45, 46, 47, 48, 49, 50, 51, 52, 53, 54, 55, 56, 57, 58, 59, 60, 61, 62, 63, 64, 65, 66, 67, 68, 69, 70, 71, 72] (by decide +kernel) (by decide +kernel)
set_option maxRecDepth 20000 in
theorem gX7_uses_X7_valueOf : GoodIn wsX7_uses (wsV RX7 143 RX7 yX7_valueOf wsX7_valueOf) := goodIn_app (goodIn_of _ (by decide +kernel)) ggX7_uses_X7_valueOf
set_option maxRecDepth 20000 in
theorem ggX7_uses_X7_greater : GoodIn wsX7_uses wsX7_greater := goodIn_r _ [42] (by decide +kernel) (by decide +kernel)
set_option maxRecDepth 20000 in
theorem gX7_uses_X7_greater : GoodIn wsX7_uses (wsV RX7 186 RX7 yX7_greater wsX7_greater) := goodIn_app (goodIn_of _ (by decide +kernel)) ggX7_uses_X7_greater
theorem dX7_uses_0 : decode cX7_uses 0 = .ok (.aload_n 0, 1) := by decide +kernel
theorem dX7_uses_1 : decode cX7_uses 1 = .ok (.iload_n 1, 1) := by decide +kernel
theorem dX7_uses_2 : decode cX7_uses 2 = .ok (.invokevirtual 152, 3) := by decide +kernel
theorem dX7_uses_5 : decode cX7_uses 5 = .ok (.ifCond .eq 5, 3) := by decide +kernel
theorem dX7_uses_8 : decode cX7_uses 8 = .ok (.iconst (-1), 1) := by decide +kernel
theorem dX7_uses_9 : decode cX7_uses 9 = .ok (.ireturn, 1) := by decide +kernel
theorem dX7_uses_10 : decode cX7_uses 10 = .ok (.iload_n 2, 1) := by decide +kernel
theorem dX7_uses_11 : decode cX7_uses 11 = .ok (.i2l, 1) := by decide +kernel
theorem dX7_uses_12 : decode cX7_uses 12 = .ok (.lconst 1, 1) := by decide +kernel
theorem dX7_uses_13 : decode cX7_uses 13 = .ok (.ldc2_w 194, 3) := by decide +kernel
theorem dX7_uses_16 : decode cX7_uses 16 = .ok (.invokestatic 82, 3) := by decide +kernel
theorem dX7_uses_19 : decode cX7_uses 19 = .ok (.ifCond .eq 15, 3) := by decide +kernel
theorem dX7_uses_22 : decode cX7_uses 22 = .ok (.iload_n 3, 1) := by decide +kernel
theorem dX7_uses_23 : decode cX7_uses 23 = .ok (.i2l, 1) := by decide +kernel
theorem dX7_uses_24 : decode cX7_uses 24 = .ok (.lconst 1, 1) := by decide +kernel
theorem dX7_uses_25 : decode cX7_uses 25 = .ok (.ldc2_w 160, 3) := by decide +kernel
theorem dX7_uses_28 : decode cX7_uses 28 = .ok (.invokestatic 82, 3) := by decide +kernel
theorem dX7_uses_31 : decode cX7_uses 31 = .ok (.ifCond .ne 6, 3) := by decide +kernel
theorem dX7_uses_34 : decode cX7_uses 34 = .ok (.bipush (-2), 2) := by decide +kernel
theorem dX7_uses_36 : decode cX7_uses 36 = .ok (.ireturn, 1) := by decide +kernel
theorem dX7_uses_37 : decode cX7_uses 37 = .ok (.aload_n 0, 1) := by decide +kernel
theorem dX7_uses_38 : decode cX7_uses 38 = .ok (.iload_n 1, 1) := by decide +kernel
theorem dX7_uses_39 : decode cX7_uses 39 = .ok (.iload_n 2, 1) := by decide +kernel
theorem dX7_uses_40 : decode cX7_uses 40 = .ok (.invokevirtual 196, 3) := by decide +kernel
theorem dX7_uses_43 : decode cX7_uses 43 = .ok (.iconst 0, 1) := by decide +kernel
theorem dX7_uses_44 : decode cX7_uses 44 = .ok (.istore 4, 2) := by decide +kernel
theorem dX7_uses_46 : decode cX7_uses 46 = .ok (.aload_n 0, 1) := by decide +kernel
theorem dX7_uses_47 : decode cX7_uses 47 = .ok (.iload_n 2, 1) := by decide +kernel
theorem dX7_uses_48 : decode cX7_uses 48 = .ok (.iconst 1, 1) := by decide +kernel
theorem dX7_uses_49 : decode cX7_uses 49 = .ok (.isub, 1) := by decide +kernel
theorem dX7_uses_50 : decode cX7_uses 50 = .ok (.invokevirtual 182, 3) := by decide +kernel
theorem dX7_uses_53 : decode cX7_uses 53 = .ok (.lstore 5, 2) := by decide +kernel
theorem dX7_uses_55 : decode cX7_uses 55 = .ok (.aload_n 0, 1) := by decide +kernel
theorem dX7_uses_56 : decode cX7_uses 56 = .ok (.getfield 43, 3) := by decide +kernel
theorem dX7_uses_59 : decode cX7_uses 59 = .ok (.iconst 4, 1) := by decide +kernel
theorem dX7_uses_60 : decode cX7_uses 60 = .ok (.iload_n 2, 1) := by decide +kernel
theorem dX7_uses_61 : decode cX7_uses 61 = .ok (.iconst 1, 1) := by decide +kernel
theorem dX7_uses_62 : decode cX7_uses 62 = .ok (.isub, 1) := by decide +kernel
theorem dX7_uses_63 : decode cX7_uses 63 = .ok (.imul, 1) := by decide +kernel
theorem dX7_uses_64 : decode cX7_uses 64 = .ok (.iload_n 3, 1) := by decide +kernel
theorem dX7_uses_65 : decode cX7_uses 65 = .ok (.iadd, 1) := by decide +kernel
theorem dX7_uses_66 : decode cX7_uses 66 = .ok (.laload, 1) := by decide +kernel
theorem dX7_uses_67 : decode cX7_uses 67 = .ok (.lstore 7, 2) := by decide +kernel
theorem dX7_uses_69 : decode cX7_uses 69 = .ok (.aload_n 0, 1) := by decide +kernel
theorem dX7_uses_70 : decode cX7_uses 70 = .ok (.getfield 43, 3) := by decide +kernel
theorem dX7_uses_73 : decode cX7_uses 73 = .ok (.iconst 4, 1) := by decide +kernel
theorem dX7_uses_74 : decode cX7_uses 74 = .ok (.iload_n 2, 1) := by decide +kernel
theorem dX7_uses_75 : decode cX7_uses 75 = .ok (.iconst 1, 1) := by decide +kernel
theorem dX7_uses_76 : decode cX7_uses 76 = .ok (.isub, 1) := by decide +kernel
theorem dX7_uses_77 : decode cX7_uses 77 = .ok (.imul, 1) := by decide +kernel
theorem dX7_uses_78 : decode cX7_uses 78 = .ok (.iload_n 3, 1) := by decide +kernel
theorem dX7_uses_79 : decode cX7_uses 79 = .ok (.iadd, 1) := by decide +kernel
theorem dX7_uses_80 : decode cX7_uses 80 = .ok (.iconst 1, 1) := by decide +kernel
theorem dX7_uses_81 : decode cX7_uses 81 = .ok (.isub, 1) := by decide +kernel
theorem dX7_uses_82 : decode cX7_uses 82 = .ok (.laload, 1) := by decide +kernel
theorem dX7_uses_83 : decode cX7_uses 83 = .ok (.lstore 9, 2) := by decide +kernel
theorem dX7_uses_85 : decode cX7_uses 85 = .ok (.iconst 0, 1) := by decide +kernel
theorem dX7_uses_86 : decode cX7_uses 86 = .ok (.istore 11, 2) := by decide +kernel
theorem dX7_uses_88 : decode cX7_uses 88 = .ok (.iload 11, 2) := by decide +kernel
theorem dX7_uses_90 : decode cX7_uses 90 = .ok (.aload_n 0, 1) := by decide +kernel
theorem dX7_uses_91 : decode cX7_uses 91 = .ok (.getfield 79, 3) := by decide +kernel
theorem dX7_uses_94 : decode cX7_uses 94 = .ok (.if_icmp .ge 67, 3) := by decide +kernel
theorem dX7_uses_97 : decode cX7_uses 97 = .ok (.lload 7, 2) := by decide +kernel
theorem dX7_uses_99 : decode cX7_uses 99 = .ok (.aload_n 0, 1) := by decide +kernel
theorem dX7_uses_100 : decode cX7_uses 100 = .ok (.lconst 0, 1) := by decide +kernel
theorem dX7_uses_101 : decode cX7_uses 101 = .ok (.aload_n 0, 1) := by decide +kernel
theorem dX7_uses_102 : decode cX7_uses 102 = .ok (.iload_n 1, 1) := by decide +kernel
theorem dX7_uses_103 : decode cX7_uses 103 = .ok (.iload 11, 2) := by decide +kernel
theorem dX7_uses_105 : decode cX7_uses 105 = .ok (.invokevirtual 143, 3) := by decide +kernel
theorem dX7_uses_108 : decode cX7_uses 108 = .ok (.i2l, 1) := by decide +kernel
theorem dX7_uses_109 : decode cX7_uses 109 = .ok (.lload 5, 2) := by decide +kernel
theorem dX7_uses_111 : decode cX7_uses 111 = .ok (.lmul, 1) := by decide +kernel
theorem dX7_uses_112 : decode cX7_uses 112 = .ok (.invokevirtual 186, 3) := by decide +kernel
theorem dX7_uses_115 : decode cX7_uses 115 = .ok (.ladd, 1) := by decide +kernel
theorem dX7_uses_116 : decode cX7_uses 116 = .ok (.lstore 12, 2) := by decide +kernel
theorem dX7_uses_118 : decode cX7_uses 118 = .ok (.iload 4, 2) := by decide +kernel
theorem dX7_uses_120 : decode cX7_uses 120 = .ok (.lload 9, 2) := by decide +kernel
theorem dX7_uses_122 : decode cX7_uses 122 = .ok (.ldc2_w 171, 3) := by decide +kernel
theorem dX7_uses_125 : decode cX7_uses 125 = .ok (.aload_n 0, 1) := by decide +kernel
theorem dX7_uses_126 : decode cX7_uses 126 = .ok (.getfield 7, 3) := by decide +kernel
theorem dX7_uses_129 : decode cX7_uses 129 = .ok (.iload 11, 2) := by decide +kernel
theorem dX7_uses_131 : decode cX7_uses 131 = .ok (.iaload, 1) := by decide +kernel
theorem dX7_uses_132 : decode cX7_uses 132 = .ok (.i2l, 1) := by decide +kernel
theorem dX7_uses_133 : decode cX7_uses 133 = .ok (.lmul, 1) := by decide +kernel
theorem dX7_uses_134 : decode cX7_uses 134 = .ok (.lload 5, 2) := by decide +kernel
theorem dX7_uses_136 : decode cX7_uses 136 = .ok (.lmul, 1) := by decide +kernel
theorem dX7_uses_137 : decode cX7_uses 137 = .ok (.ladd, 1) := by decide +kernel
theorem dX7_uses_138 : decode cX7_uses 138 = .ok (.lload 12, 2) := by decide +kernel
theorem dX7_uses_140 : decode cX7_uses 140 = .ok (.lcmp, 1) := by decide +kernel
theorem dX7_uses_141 : decode cX7_uses 141 = .ok (.ifCond .le 10, 3) := by decide +kernel
theorem dX7_uses_144 : decode cX7_uses 144 = .ok (.iconst 1, 1) := by decide +kernel
theorem dX7_uses_145 : decode cX7_uses 145 = .ok (.iload 11, 2) := by decide +kernel
theorem dX7_uses_147 : decode cX7_uses 147 = .ok (.ishl, 1) := by decide +kernel
theorem dX7_uses_148 : decode cX7_uses 148 = .ok (.goto 4, 3) := by decide +kernel
theorem dX7_uses_151 : decode cX7_uses 151 = .ok (.iconst 0, 1) := by decide +kernel
theorem dX7_uses_152 : decode cX7_uses 152 = .ok (.ior, 1) := by decide +kernel
theorem dX7_uses_153 : decode cX7_uses 153 = .ok (.istore 4, 2) := by decide +kernel
theorem dX7_uses_155 : decode cX7_uses 155 = .ok (.iinc 11 1, 3) := by decide +kernel
theorem dX7_uses_158 : decode cX7_uses 158 = .ok (.goto (-70), 3) := by decide +kernel
theorem dX7_uses_161 : decode cX7_uses 161 = .ok (.iload 4, 2) := by decide +kernel
theorem dX7_uses_163 : decode cX7_uses 163 = .ok (.ireturn, 1) := by decide +kernel
set_option maxRecDepth 20000 in
theorem ggX7_buyersAt_X7_goHope : GoodIn wsX7_buyersAt wsX7_goHope := goodIn_r _ [7, 2, 8, 9, 10, 11, 6, 12, 13, 14, 15, 16, 17, 18, 19, 20, 21, 22, 23, 24, 25, 26, 27, 28, 29, 30, 31, 32, 33, 34, 35, 36, 37, 38, 39, 40, 41, 42, 43, 44, 45, 46, 47, 48, 49, 50, 51, 52, 53, 54, 55, 56, 57, 58, 59, 60, 61, 62, 63] (by decide +kernel) (by decide +kernel)
set_option maxRecDepth 20000 in
theorem gX7_buyersAt_X7_goHope : GoodIn wsX7_buyersAt (wsV RX7 196 RX7 yX7_goHope wsX7_goHope) := goodIn_app (goodIn_of _ (by decide +kernel)) ggX7_buyersAt_X7_goHope
set_option maxRecDepth 20000 in
theorem ggX7_buyersAt_X7_timesOf : GoodIn wsX7_buyersAt wsX7_timesOf := goodIn_r _ [18, 8, 34, 35, 36, 37, 38, 39, 40, 41, 42, 43, 44, 45, 46, 47, 48, 49, 50, 51, 52, 53, 54, 55, 56, 57, 58, 59, 60, 61, 62, 63] (by decide +kernel) (by decide +kernel)
set_option maxRecDepth 20000 in
theorem gX7_buyersAt_X7_timesOf : GoodIn wsX7_buyersAt (wsV RX7 182 RX7 yX7_timesOf wsX7_timesOf) := goodIn_app (goodIn_of _ (by decide +kernel)) ggX7_buyersAt_X7_timesOf
theorem dX7_buyersAt_0 : decode cX7_buyersAt 0 = .ok (.iconst 0, 1) := by decide +kernel
theorem dX7_buyersAt_1 : decode cX7_buyersAt 1 = .ok (.istore_n 3, 1) := by decide +kernel
theorem dX7_buyersAt_2 : decode cX7_buyersAt 2 = .ok (.iconst 0, 1) := by decide +kernel
theorem dX7_buyersAt_3 : decode cX7_buyersAt 3 = .ok (.istore 4, 2) := by decide +kernel
theorem dX7_buyersAt_5 : decode cX7_buyersAt 5 = .ok (.iload 4, 2) := by decide +kernel
theorem dX7_buyersAt_7 : decode cX7_buyersAt 7 = .ok (.aload_n 0, 1) := by decide +kernel
theorem dX7_buyersAt_8 : decode cX7_buyersAt 8 = .ok (.getfield 86, 3) := by decide +kernel
theorem dX7_buyersAt_11 : decode cX7_buyersAt 11 = .ok (.if_icmp .ge 58, 3) := by decide +kernel
theorem dX7_buyersAt_14 : decode cX7_buyersAt 14 = .ok (.aload_n 0, 1) := by decide +kernel
theorem dX7_buyersAt_15 : decode cX7_buyersAt 15 = .ok (.iload 4, 2) := by decide +kernel
theorem dX7_buyersAt_17 : decode cX7_buyersAt 17 = .ok (.iload_n 2, 1) := by decide +kernel
theorem dX7_buyersAt_18 : decode cX7_buyersAt 18 = .ok (.invokevirtual 196, 3) := by decide +kernel
theorem dX7_buyersAt_21 : decode cX7_buyersAt 21 = .ok (.iload_n 3, 1) := by decide +kernel
theorem dX7_buyersAt_22 : decode cX7_buyersAt 22 = .ok (.aload_n 0, 1) := by decide +kernel
theorem dX7_buyersAt_23 : decode cX7_buyersAt 23 = .ok (.getfield 43, 3) := by decide +kernel
theorem dX7_buyersAt_26 : decode cX7_buyersAt 26 = .ok (.iconst 4, 1) := by decide +kernel
theorem dX7_buyersAt_27 : decode cX7_buyersAt 27 = .ok (.iload_n 2, 1) := by decide +kernel
theorem dX7_buyersAt_28 : decode cX7_buyersAt 28 = .ok (.imul, 1) := by decide +kernel
theorem dX7_buyersAt_29 : decode cX7_buyersAt 29 = .ok (.iconst 1, 1) := by decide +kernel
theorem dX7_buyersAt_30 : decode cX7_buyersAt 30 = .ok (.iadd, 1) := by decide +kernel
theorem dX7_buyersAt_31 : decode cX7_buyersAt 31 = .ok (.laload, 1) := by decide +kernel
theorem dX7_buyersAt_32 : decode cX7_buyersAt 32 = .ok (.aload_n 0, 1) := by decide +kernel
theorem dX7_buyersAt_33 : decode cX7_buyersAt 33 = .ok (.getfield 43, 3) := by decide +kernel
theorem dX7_buyersAt_36 : decode cX7_buyersAt 36 = .ok (.iconst 4, 1) := by decide +kernel
theorem dX7_buyersAt_37 : decode cX7_buyersAt 37 = .ok (.iload_n 2, 1) := by decide +kernel
theorem dX7_buyersAt_38 : decode cX7_buyersAt 38 = .ok (.imul, 1) := by decide +kernel
theorem dX7_buyersAt_39 : decode cX7_buyersAt 39 = .ok (.laload, 1) := by decide +kernel
theorem dX7_buyersAt_40 : decode cX7_buyersAt 40 = .ok (.lsub, 1) := by decide +kernel
theorem dX7_buyersAt_41 : decode cX7_buyersAt 41 = .ok (.iload_n 1, 1) := by decide +kernel
theorem dX7_buyersAt_42 : decode cX7_buyersAt 42 = .ok (.i2l, 1) := by decide +kernel
theorem dX7_buyersAt_43 : decode cX7_buyersAt 43 = .ok (.aload_n 0, 1) := by decide +kernel
theorem dX7_buyersAt_44 : decode cX7_buyersAt 44 = .ok (.iload_n 2, 1) := by decide +kernel
theorem dX7_buyersAt_45 : decode cX7_buyersAt 45 = .ok (.invokevirtual 182, 3) := by decide +kernel
theorem dX7_buyersAt_48 : decode cX7_buyersAt 48 = .ok (.lmul, 1) := by decide +kernel
theorem dX7_buyersAt_49 : decode cX7_buyersAt 49 = .ok (.lcmp, 1) := by decide +kernel
theorem dX7_buyersAt_50 : decode cX7_buyersAt 50 = .ok (.ifCond .lt 10, 3) := by decide +kernel
theorem dX7_buyersAt_53 : decode cX7_buyersAt 53 = .ok (.iconst 1, 1) := by decide +kernel
theorem dX7_buyersAt_54 : decode cX7_buyersAt 54 = .ok (.iload 4, 2) := by decide +kernel
theorem dX7_buyersAt_56 : decode cX7_buyersAt 56 = .ok (.ishl, 1) := by decide +kernel
theorem dX7_buyersAt_57 : decode cX7_buyersAt 57 = .ok (.goto 4, 3) := by decide +kernel
theorem dX7_buyersAt_60 : decode cX7_buyersAt 60 = .ok (.iconst 0, 1) := by decide +kernel
theorem dX7_buyersAt_61 : decode cX7_buyersAt 61 = .ok (.ior, 1) := by decide +kernel
theorem dX7_buyersAt_62 : decode cX7_buyersAt 62 = .ok (.istore_n 3, 1) := by decide +kernel
theorem dX7_buyersAt_63 : decode cX7_buyersAt 63 = .ok (.iinc 4 1, 3) := by decide +kernel
theorem dX7_buyersAt_66 : decode cX7_buyersAt 66 = .ok (.goto (-61), 3) := by decide +kernel
theorem dX7_buyersAt_69 : decode cX7_buyersAt 69 = .ok (.iload_n 3, 1) := by decide +kernel
theorem dX7_buyersAt_70 : decode cX7_buyersAt 70 = .ok (.ireturn, 1) := by decide +kernel
set_option maxRecDepth 20000 in
theorem ggX7_buyers_X7_in : GoodIn wsX7_buyers wsX7_in := goodIn_r _ [7] (by decide +kernel) (by decide +kernel)
set_option maxRecDepth 20000 in
theorem gX7_buyers_X7_in : GoodIn wsX7_buyers (va_wsS RX7 82 yX7_in wsX7_in) := goodIn_app (goodIn_of _ (by decide +kernel)) ggX7_buyers_X7_in
set_option maxRecDepth 20000 in
theorem ggX7_buyers_X7_buyersAt : GoodIn wsX7_buyers wsX7_buyersAt := goodIn_r _ [11, 3, 12, 13, 14, 15, 6, 16, 17, 18, 19, 20, 21, 22, 23, 24, 25, 26, 27, 28, 29, 30, 31, 32, 33, 34, 35, 36, 37, 38, 39, 40, 41, 42, 43, 44, 45, 46, 47, 48, 49, 50, 51, 52, 53, 54, 55, 56, 57, 58, 59, 60, 61, 62, 63, 64, 65, 66, 67, 68, 69, 70, 71, 72] (by decide +kernel) (by decide +kernel)
set_option maxRecDepth 20000 in
theorem gX7_buyers_X7_buyersAt : GoodIn wsX7_buyers (wsV RX7 205 RX7 yX7_buyersAt wsX7_buyersAt) := goodIn_app (goodIn_of _ (by decide +kernel)) ggX7_buyers_X7_buyersAt
theorem dX7_buyers_0 : decode cX7_buyers 0 = .ok (.iload_n 1, 1) := by decide +kernel
theorem dX7_buyers_1 : decode cX7_buyers 1 = .ok (.i2l, 1) := by decide +kernel
theorem dX7_buyers_2 : decode cX7_buyers 2 = .ok (.lconst 0, 1) := by decide +kernel
theorem dX7_buyers_3 : decode cX7_buyers 3 = .ok (.ldc2_w 203, 3) := by decide +kernel
theorem dX7_buyers_6 : decode cX7_buyers 6 = .ok (.invokestatic 82, 3) := by decide +kernel
theorem dX7_buyers_9 : decode cX7_buyers 9 = .ok (.ifCond .eq 15, 3) := by decide +kernel
theorem dX7_buyers_12 : decode cX7_buyers 12 = .ok (.iload_n 2, 1) := by decide +kernel
theorem dX7_buyers_13 : decode cX7_buyers 13 = .ok (.i2l, 1) := by decide +kernel
theorem dX7_buyers_14 : decode cX7_buyers 14 = .ok (.lconst 0, 1) := by decide +kernel
theorem dX7_buyers_15 : decode cX7_buyers 15 = .ok (.ldc2_w 194, 3) := by decide +kernel
theorem dX7_buyers_18 : decode cX7_buyers 18 = .ok (.invokestatic 82, 3) := by decide +kernel
theorem dX7_buyers_21 : decode cX7_buyers 21 = .ok (.ifCond .ne 6, 3) := by decide +kernel
theorem dX7_buyers_24 : decode cX7_buyers 24 = .ok (.bipush (-2), 2) := by decide +kernel
theorem dX7_buyers_26 : decode cX7_buyers 26 = .ok (.ireturn, 1) := by decide +kernel
theorem dX7_buyers_27 : decode cX7_buyers 27 = .ok (.aload_n 0, 1) := by decide +kernel
theorem dX7_buyers_28 : decode cX7_buyers 28 = .ok (.getfield 86, 3) := by decide +kernel
theorem dX7_buyers_31 : decode cX7_buyers 31 = .ok (.ifCond .ne 8, 3) := by decide +kernel
theorem dX7_buyers_34 : decode cX7_buyers 34 = .ok (.bipush (-3), 2) := by decide +kernel
theorem dX7_buyers_36 : decode cX7_buyers 36 = .ok (.goto 9, 3) := by decide +kernel
theorem dX7_buyers_39 : decode cX7_buyers 39 = .ok (.aload_n 0, 1) := by decide +kernel
theorem dX7_buyers_40 : decode cX7_buyers 40 = .ok (.iload_n 1, 1) := by decide +kernel
theorem dX7_buyers_41 : decode cX7_buyers 41 = .ok (.iload_n 2, 1) := by decide +kernel
theorem dX7_buyers_42 : decode cX7_buyers 42 = .ok (.invokevirtual 205, 3) := by decide +kernel
theorem dX7_buyers_45 : decode cX7_buyers 45 = .ok (.ireturn, 1) := by decide +kernel
set_option maxRecDepth 20000 in
theorem ggX7_best_X7_in : GoodIn wsX7_best wsX7_in := goodIn_r _ [6] (by decide +kernel) (by decide +kernel)
set_option maxRecDepth 20000 in
theorem gX7_best_X7_in : GoodIn wsX7_best (va_wsS RX7 82 yX7_in wsX7_in) := goodIn_app (goodIn_of _ (by decide +kernel)) ggX7_best_X7_in
set_option maxRecDepth 20000 in
theorem ggX7_best_X7_buyersAt : GoodIn wsX7_best wsX7_buyersAt := goodIn_r _ [10, 2, 11, 12, 13, 14, 5, 15, 16, 17, 18, 19, 20, 21, 22, 23, 24, 25, 26, 27, 28, 29, 30, 31, 32, 33, 34, 35, 36, 37, 38, 39, 40, 41, 45, 46, 47, 48, 49, 50, 51, 52, 53, 54, 55, 56, 57, 58, 59, 60, 61, 62, 63, 64, 65, 66, 67, 68, 69, 70, 71, 72, 73, 74] (by decide +kernel) (by decide +kernel)
set_option maxRecDepth 20000 in
theorem gX7_best_X7_buyersAt : GoodIn wsX7_best (wsV RX7 205 RX7 yX7_buyersAt wsX7_buyersAt) := goodIn_app (goodIn_of _ (by decide +kernel)) ggX7_best_X7_buyersAt
set_option maxRecDepth 20000 in
theorem ggX7_best_X7_bits : GoodIn wsX7_best wsX7_bits := goodIn_r _ [44] (by decide +kernel) (by decide +kernel)
set_option maxRecDepth 20000 in
theorem gX7_best_X7_bits : GoodIn wsX7_best (va_wsS RX7 208 yX7_bits wsX7_bits) := goodIn_app (goodIn_of _ (by decide +kernel)) ggX7_best_X7_bits
theorem dX7_best_0 : decode cX7_best 0 = .ok (.iload_n 1, 1) := by decide +kernel
theorem dX7_best_1 : decode cX7_best 1 = .ok (.i2l, 1) := by decide +kernel
theorem dX7_best_2 : decode cX7_best 2 = .ok (.lconst 0, 1) := by decide +kernel
theorem dX7_best_3 : decode cX7_best 3 = .ok (.ldc2_w 194, 3) := by decide +kernel
theorem dX7_best_6 : decode cX7_best 6 = .ok (.invokestatic 82, 3) := by decide +kernel
theorem dX7_best_9 : decode cX7_best 9 = .ok (.ifCond .ne 6, 3) := by decide +kernel
theorem dX7_best_12 : decode cX7_best 12 = .ok (.bipush (-2), 2) := by decide +kernel
theorem dX7_best_14 : decode cX7_best 14 = .ok (.ireturn, 1) := by decide +kernel
theorem dX7_best_15 : decode cX7_best 15 = .ok (.aload_n 0, 1) := by decide +kernel
theorem dX7_best_16 : decode cX7_best 16 = .ok (.getfield 86, 3) := by decide +kernel
theorem dX7_best_19 : decode cX7_best 19 = .ok (.ifCond .ne 6, 3) := by decide +kernel
theorem dX7_best_22 : decode cX7_best 22 = .ok (.bipush (-3), 2) := by decide +kernel
theorem dX7_best_24 : decode cX7_best 24 = .ok (.ireturn, 1) := by decide +kernel
theorem dX7_best_25 : decode cX7_best 25 = .ok (.bipush (-9), 2) := by decide +kernel
theorem dX7_best_27 : decode cX7_best 27 = .ok (.istore_n 2, 1) := by decide +kernel
theorem dX7_best_28 : decode cX7_best 28 = .ok (.iconst 0, 1) := by decide +kernel
theorem dX7_best_29 : decode cX7_best 29 = .ok (.istore_n 3, 1) := by decide +kernel
theorem dX7_best_30 : decode cX7_best 30 = .ok (.iconst 1, 1) := by decide +kernel
theorem dX7_best_31 : decode cX7_best 31 = .ok (.istore 4, 2) := by decide +kernel
theorem dX7_best_33 : decode cX7_best 33 = .ok (.iload 4, 2) := by decide +kernel
theorem dX7_best_35 : decode cX7_best 35 = .ok (.bipush 100, 2) := by decide +kernel
theorem dX7_best_37 : decode cX7_best 37 = .ok (.if_icmp .ge 50, 3) := by decide +kernel
theorem dX7_best_40 : decode cX7_best 40 = .ok (.iload 4, 2) := by decide +kernel
theorem dX7_best_42 : decode cX7_best 42 = .ok (.aload_n 0, 1) := by decide +kernel
theorem dX7_best_43 : decode cX7_best 43 = .ok (.iload 4, 2) := by decide +kernel
theorem dX7_best_45 : decode cX7_best 45 = .ok (.iload_n 1, 1) := by decide +kernel
theorem dX7_best_46 : decode cX7_best 46 = .ok (.invokevirtual 205, 3) := by decide +kernel
theorem dX7_best_49 : decode cX7_best 49 = .ok (.invokestatic 208, 3) := by decide +kernel
theorem dX7_best_52 : decode cX7_best 52 = .ok (.imul, 1) := by decide +kernel
theorem dX7_best_53 : decode cX7_best 53 = .ok (.istore 5, 2) := by decide +kernel
theorem dX7_best_55 : decode cX7_best 55 = .ok (.iload 5, 2) := by decide +kernel
theorem dX7_best_57 : decode cX7_best 57 = .ok (.iload_n 3, 1) := by decide +kernel
theorem dX7_best_58 : decode cX7_best 58 = .ok (.if_icmp .le 8, 3) := by decide +kernel
theorem dX7_best_61 : decode cX7_best 61 = .ok (.iload 4, 2) := by decide +kernel
theorem dX7_best_63 : decode cX7_best 63 = .ok (.goto 4, 3) := by decide +kernel
theorem dX7_best_66 : decode cX7_best 66 = .ok (.iload_n 2, 1) := by decide +kernel
theorem dX7_best_67 : decode cX7_best 67 = .ok (.istore_n 2, 1) := by decide +kernel
theorem dX7_best_68 : decode cX7_best 68 = .ok (.iload 5, 2) := by decide +kernel
theorem dX7_best_70 : decode cX7_best 70 = .ok (.iload_n 3, 1) := by decide +kernel
theorem dX7_best_71 : decode cX7_best 71 = .ok (.if_icmp .le 8, 3) := by decide +kernel
theorem dX7_best_74 : decode cX7_best 74 = .ok (.iload 5, 2) := by decide +kernel
theorem dX7_best_76 : decode cX7_best 76 = .ok (.goto 4, 3) := by decide +kernel
theorem dX7_best_79 : decode cX7_best 79 = .ok (.iload_n 3, 1) := by decide +kernel
theorem dX7_best_80 : decode cX7_best 80 = .ok (.istore_n 3, 1) := by decide +kernel
theorem dX7_best_81 : decode cX7_best 81 = .ok (.iinc 4 1, 3) := by decide +kernel
theorem dX7_best_84 : decode cX7_best 84 = .ok (.goto (-51), 3) := by decide +kernel
theorem dX7_best_87 : decode cX7_best 87 = .ok (.iload_n 2, 1) := by decide +kernel
theorem dX7_best_88 : decode cX7_best 88 = .ok (.ireturn, 1) := by decide +kernel
set_option maxRecDepth 20000 in
theorem ggX7_reading_X7_noSubject : GoodIn wsX7_reading wsX7_noSubject := goodIn_r _ [9, 10, 11, 12, 8, 13, 19, 20, 21, 22, 23, 24, 25, 26, 27, 28, 29, 30, 31, 32, 33, 34, 35, 36, 37, 38, 39, 40, 41, 42, 43, 44, 45, 46, 47, 48] (by decide +kernel) (by decide +kernel)
set_option maxRecDepth 20000 in
theorem gX7_reading_X7_noSubject : GoodIn wsX7_reading (wsV RX7 152 RX7 yX7_noSubject wsX7_noSubject) := goodIn_app (goodIn_of _ (by decide +kernel)) ggX7_reading_X7_noSubject
set_option maxRecDepth 20000 in
theorem ggX7_reading_X7_noDeed : GoodIn wsX7_reading wsX7_noDeed := goodIn_r _ [17, 18, 11, 12, 8, 13, 19, 20, 21, 22, 23, 24, 25, 26, 27, 28, 29, 30, 31, 32, 33, 34, 35, 36, 37, 38, 39, 40, 41, 42, 43, 44, 45, 46, 47, 48] (by decide +kernel) (by decide +kernel)
set_option maxRecDepth 20000 in
theorem gX7_reading_X7_noDeed : GoodIn wsX7_reading (wsV RX7 146 RX7 yX7_noDeed wsX7_noDeed) := goodIn_app (goodIn_of _ (by decide +kernel)) ggX7_reading_X7_noDeed
theorem dX7_reading_0 : decode cX7_reading 0 = .ok (.aload_n 0, 1) := by decide +kernel
theorem dX7_reading_1 : decode cX7_reading 1 = .ok (.iload_n 1, 1) := by decide +kernel
theorem dX7_reading_2 : decode cX7_reading 2 = .ok (.invokevirtual 152, 3) := by decide +kernel
theorem dX7_reading_5 : decode cX7_reading 5 = .ok (.ifCond .ne 11, 3) := by decide +kernel
theorem dX7_reading_8 : decode cX7_reading 8 = .ok (.aload_n 0, 1) := by decide +kernel
theorem dX7_reading_9 : decode cX7_reading 9 = .ok (.iload_n 2, 1) := by decide +kernel
theorem dX7_reading_10 : decode cX7_reading 10 = .ok (.invokevirtual 146, 3) := by decide +kernel
theorem dX7_reading_13 : decode cX7_reading 13 = .ok (.ifCond .eq 5, 3) := by decide +kernel
theorem dX7_reading_16 : decode cX7_reading 16 = .ok (.iconst (-1), 1) := by decide +kernel
theorem dX7_reading_17 : decode cX7_reading 17 = .ok (.ireturn, 1) := by decide +kernel
theorem dX7_reading_18 : decode cX7_reading 18 = .ok (.aload_n 0, 1) := by decide +kernel
theorem dX7_reading_19 : decode cX7_reading 19 = .ok (.getfield 137, 3) := by decide +kernel
theorem dX7_reading_22 : decode cX7_reading 22 = .ok (.bipush 8, 2) := by decide +kernel
theorem dX7_reading_24 : decode cX7_reading 24 = .ok (.if_icmp .ne 6, 3) := by decide +kernel
theorem dX7_reading_27 : decode cX7_reading 27 = .ok (.bipush (-4), 2) := by decide +kernel
theorem dX7_reading_29 : decode cX7_reading 29 = .ok (.ireturn, 1) := by decide +kernel
theorem dX7_reading_30 : decode cX7_reading 30 = .ok (.aload_n 0, 1) := by decide +kernel
theorem dX7_reading_31 : decode cX7_reading 31 = .ok (.getfield 47, 3) := by decide +kernel
