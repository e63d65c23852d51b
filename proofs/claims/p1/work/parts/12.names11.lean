theorem dX4_makeLevels_0 : decode cX4_makeLevels 0 = .ok (.iconst 0, 1) := by decide +kernel
theorem dX4_makeLevels_1 : decode cX4_makeLevels 1 = .ok (.istore_n 1, 1) := by decide +kernel
theorem dX4_makeLevels_2 : decode cX4_makeLevels 2 = .ok (.iload_n 1, 1) := by decide +kernel
theorem dX4_makeLevels_3 : decode cX4_makeLevels 3 = .ok (.aload_n 0, 1) := by decide +kernel
theorem dX4_makeLevels_4 : decode cX4_makeLevels 4 = .ok (.getfield 10, 3) := by decide +kernel
theorem dX4_makeLevels_7 : decode cX4_makeLevels 7 = .ok (.getfield 121, 3) := by decide +kernel
theorem dX4_makeLevels_10 : decode cX4_makeLevels 10 = .ok (.if_icmp .ge 16, 3) := by decide +kernel
theorem dX4_makeLevels_13 : decode cX4_makeLevels 13 = .ok (.aload_n 0, 1) := by decide +kernel
theorem dX4_makeLevels_14 : decode cX4_makeLevels 14 = .ok (.getfield 43, 3) := by decide +kernel
theorem dX4_makeLevels_17 : decode cX4_makeLevels 17 = .ok (.iload_n 1, 1) := by decide +kernel
theorem dX4_makeLevels_18 : decode cX4_makeLevels 18 = .ok (.iload_n 1, 1) := by decide +kernel
theorem dX4_makeLevels_19 : decode cX4_makeLevels 19 = .ok (.iastore, 1) := by decide +kernel
theorem dX4_makeLevels_20 : decode cX4_makeLevels 20 = .ok (.iinc 1 1, 3) := by decide +kernel
theorem dX4_makeLevels_23 : decode cX4_makeLevels 23 = .ok (.goto (-21), 3) := by decide +kernel
theorem dX4_makeLevels_26 : decode cX4_makeLevels 26 = .ok (.aload_n 0, 1) := by decide +kernel
theorem dX4_makeLevels_27 : decode cX4_makeLevels 27 = .ok (.getfield 37, 3) := by decide +kernel
theorem dX4_makeLevels_30 : decode cX4_makeLevels 30 = .ok (.aload_n 0, 1) := by decide +kernel
theorem dX4_makeLevels_31 : decode cX4_makeLevels 31 = .ok (.getfield 10, 3) := by decide +kernel
theorem dX4_makeLevels_34 : decode cX4_makeLevels 34 = .ok (.aload_n 0, 1) := by decide +kernel
theorem dX4_makeLevels_35 : decode cX4_makeLevels 35 = .ok (.getfield 43, 3) := by decide +kernel
theorem dX4_makeLevels_38 : decode cX4_makeLevels 38 = .ok (.aload_n 0, 1) := by decide +kernel
theorem dX4_makeLevels_39 : decode cX4_makeLevels 39 = .ok (.getfield 10, 3) := by decide +kernel
theorem dX4_makeLevels_42 : decode cX4_makeLevels 42 = .ok (.getfield 121, 3) := by decide +kernel
theorem dX4_makeLevels_45 : decode cX4_makeLevels 45 = .ok (.invokevirtual 162, 3) := by decide +kernel
theorem dX4_makeLevels_48 : decode cX4_makeLevels 48 = .ok (.iconst 1, 1) := by decide +kernel
theorem dX4_makeLevels_49 : decode cX4_makeLevels 49 = .ok (.istore_n 1, 1) := by decide +kernel
theorem dX4_makeLevels_50 : decode cX4_makeLevels 50 = .ok (.iconst 0, 1) := by decide +kernel
theorem dX4_makeLevels_51 : decode cX4_makeLevels 51 = .ok (.istore_n 2, 1) := by decide +kernel
theorem dX4_makeLevels_52 : decode cX4_makeLevels 52 = .ok (.iload_n 1, 1) := by decide +kernel
theorem dX4_makeLevels_53 : decode cX4_makeLevels 53 = .ok (.ifCond .eq 21, 3) := by decide +kernel
theorem dX4_makeLevels_56 : decode cX4_makeLevels 56 = .ok (.iload_n 2, 1) := by decide +kernel
theorem dX4_makeLevels_57 : decode cX4_makeLevels 57 = .ok (.bipush 40, 2) := by decide +kernel
theorem dX4_makeLevels_59 : decode cX4_makeLevels 59 = .ok (.if_icmp .ge 15, 3) := by decide +kernel
theorem dX4_makeLevels_62 : decode cX4_makeLevels 62 = .ok (.aload_n 0, 1) := by decide +kernel
theorem dX4_makeLevels_63 : decode cX4_makeLevels 63 = .ok (.iload_n 2, 1) := by decide +kernel
theorem dX4_makeLevels_64 : decode cX4_makeLevels 64 = .ok (.invokevirtual 166, 3) := by decide +kernel
theorem dX4_makeLevels_67 : decode cX4_makeLevels 67 = .ok (.istore_n 1, 1) := by decide +kernel
theorem dX4_makeLevels_68 : decode cX4_makeLevels 68 = .ok (.iinc 2 1, 3) := by decide +kernel
theorem dX4_makeLevels_71 : decode cX4_makeLevels 71 = .ok (.goto (-19), 3) := by decide +kernel
theorem dX4_makeLevels_74 : decode cX4_makeLevels 74 = .ok (.return_, 1) := by decide +kernel
set_option maxRecDepth 20000 in
theorem ggX4_makeLevel_X1_separate : GoodIn wsX4_makeLevel wsX1_separate := goodIn_r _ [15, 16, 126, 127, 128, 129, 130] (by decide +kernel) (by decide +kernel)
set_option maxRecDepth 20000 in
theorem gX4_makeLevel_X1_separate : GoodIn wsX4_makeLevel (wsV RX4 58 RX1 yX1_separate wsX1_separate) := goodIn_app (goodIn_of _ (by decide +kernel)) ggX4_makeLevel_X1_separate
set_option maxRecDepth 20000 in
theorem ggX4_makeLevel_X1_tally : GoodIn wsX4_makeLevel wsX1_tally := goodIn_r _ [20, 21, 22, 23, 16, 24, 25, 26, 27, 28, 126, 127, 128, 129, 130, 119, 120, 121, 122] (by decide +kernel) (by decide +kernel)
set_option maxRecDepth 20000 in
theorem gX4_makeLevel_X1_tally : GoodIn wsX4_makeLevel (wsV RX4 128 RX1 yX1_tally wsX1_tally) := goodIn_app (goodIn_of _ (by decide +kernel)) ggX4_makeLevel_X1_tally
set_option maxRecDepth 20000 in
theorem ggX4_makeLevel_X4_makePass : GoodIn wsX4_makeLevel wsX4_makePass := goodIn_r _ [33, 2, 3, 1, 4, 9, 34, 35, 36, 14, 37, 38, 23, 16, 25, 26, 27, 28, 39, 40, 41, 42, 43, 44, 45, 46, 47, 48, 21, 49, 50, 51, 52, 24, 22, 53, 54, 55, 56, 57, 58, 59, 60, 61, 62, 63, 64, 65, 66, 67, 68, 69, 70, 71, 72, 112, 113, 114, 115, 116, 117, 118, 119, 120, 121, 122, 126, 127, 128, 129, 130, 123, 124, 125] (by decide +kernel) (by decide +kernel)
set_option maxRecDepth 20000 in
theorem gX4_makeLevel_X4_makePass : GoodIn wsX4_makeLevel (wsV RX4 171 RX4 yX4_makePass wsX4_makePass) := goodIn_app (goodIn_of _ (by decide +kernel)) ggX4_makeLevel_X4_makePass
set_option maxRecDepth 20000 in
theorem ggX4_makeLevel_X1_score : GoodIn wsX4_makeLevel wsX1_score := goodIn_r _ [76, 23, 16, 53, 54, 22, 39, 40, 41, 42, 43, 44, 119, 120, 121, 122, 126, 127, 128, 129, 130] (by decide +kernel) (by decide +kernel)
set_option maxRecDepth 20000 in
theorem gX4_makeLevel_X1_score : GoodIn wsX4_makeLevel (wsV RX4 132 RX1 yX1_score wsX1_score) := goodIn_app (goodIn_of _ (by decide +kernel)) ggX4_makeLevel_X1_score
set_option maxRecDepth 20000 in
theorem ggX4_makeLevel_X1_renumber : GoodIn wsX4_makeLevel wsX1_renumber := goodIn_r _ [80, 81, 16, 25, 26, 27, 28, 126, 127, 128, 129, 130] (by decide +kernel) (by decide +kernel)
set_option maxRecDepth 20000 in
theorem gX4_makeLevel_X1_renumber : GoodIn wsX4_makeLevel (wsV RX4 174 RX1 yX1_renumber wsX1_renumber) := goodIn_app (goodIn_of _ (by decide +kernel)) ggX4_makeLevel_X1_renumber
set_option maxRecDepth 20000 in
theorem ggX4_makeLevel_X2_append : GoodIn wsX4_makeLevel wsX2_append := goodIn_r _ [86, 87, 88, 89, 90, 91, 92, 93, 94, 131, 132, 133, 134] (by decide +kernel) (by decide +kernel)
set_option maxRecDepth 20000 in
theorem gX4_makeLevel_X2_append : GoodIn wsX4_makeLevel (wsV RX4 178 RX2 yX2_append wsX2_append) := goodIn_app (goodIn_of _ (by decide +kernel)) ggX4_makeLevel_X2_append
set_option maxRecDepth 20000 in
theorem ggX4_makeLevel_X0_contract : GoodIn wsX4_makeLevel wsX0_contract := goodIn_r _ [98, 99, 100, 101, 102, 42, 103, 44, 104, 105, 106, 26, 27, 28, 107, 40, 41, 43, 108, 109, 110, 111, 119, 120, 121, 122] (by decide +kernel) (by decide +kernel)
set_option maxRecDepth 20000 in
theorem gX4_makeLevel_X0_contract : GoodIn wsX4_makeLevel (wsV RX4 162 RX0 yX0_contract wsX0_contract) := goodIn_app (goodIn_of _ (by decide +kernel)) ggX4_makeLevel_X0_contract
theorem dX4_makeLevel_0 : decode cX4_makeLevel 0 = .ok (.aload_n 0, 1) := by decide +kernel
theorem dX4_makeLevel_1 : decode cX4_makeLevel 1 = .ok (.getfield 40, 3) := by decide +kernel
theorem dX4_makeLevel_4 : decode cX4_makeLevel 4 = .ok (.aload_n 0, 1) := by decide +kernel
theorem dX4_makeLevel_5 : decode cX4_makeLevel 5 = .ok (.getfield 37, 3) := by decide +kernel
theorem dX4_makeLevel_8 : decode cX4_makeLevel 8 = .ok (.getfield 121, 3) := by decide +kernel
theorem dX4_makeLevel_11 : decode cX4_makeLevel 11 = .ok (.invokevirtual 58, 3) := by decide +kernel
theorem dX4_makeLevel_14 : decode cX4_makeLevel 14 = .ok (.aload_n 0, 1) := by decide +kernel
theorem dX4_makeLevel_15 : decode cX4_makeLevel 15 = .ok (.getfield 40, 3) := by decide +kernel
theorem dX4_makeLevel_18 : decode cX4_makeLevel 18 = .ok (.aload_n 0, 1) := by decide +kernel
theorem dX4_makeLevel_19 : decode cX4_makeLevel 19 = .ok (.getfield 37, 3) := by decide +kernel
theorem dX4_makeLevel_22 : decode cX4_makeLevel 22 = .ok (.invokevirtual 128, 3) := by decide +kernel
theorem dX4_makeLevel_25 : decode cX4_makeLevel 25 = .ok (.aload_n 0, 1) := by decide +kernel
theorem dX4_makeLevel_26 : decode cX4_makeLevel 26 = .ok (.getfield 33, 3) := by decide +kernel
theorem dX4_makeLevel_29 : decode cX4_makeLevel 29 = .ok (.getfield 107, 3) := by decide +kernel
theorem dX4_makeLevel_32 : decode cX4_makeLevel 32 = .ok (.istore_n 2, 1) := by decide +kernel
theorem dX4_makeLevel_33 : decode cX4_makeLevel 33 = .ok (.iconst 0, 1) := by decide +kernel
theorem dX4_makeLevel_34 : decode cX4_makeLevel 34 = .ok (.istore_n 3, 1) := by decide +kernel
theorem dX4_makeLevel_35 : decode cX4_makeLevel 35 = .ok (.iconst 1, 1) := by decide +kernel
theorem dX4_makeLevel_36 : decode cX4_makeLevel 36 = .ok (.istore 4, 2) := by decide +kernel
theorem dX4_makeLevel_38 : decode cX4_makeLevel 38 = .ok (.iload 4, 2) := by decide +kernel
theorem dX4_makeLevel_40 : decode cX4_makeLevel 40 = .ok (.ifCond .eq 22, 3) := by decide +kernel
theorem dX4_makeLevel_43 : decode cX4_makeLevel 43 = .ok (.iload_n 3, 1) := by decide +kernel
theorem dX4_makeLevel_44 : decode cX4_makeLevel 44 = .ok (.ldc 170, 2) := by decide +kernel
theorem dX4_makeLevel_46 : decode cX4_makeLevel 46 = .ok (.if_icmp .ge 16, 3) := by decide +kernel
theorem dX4_makeLevel_49 : decode cX4_makeLevel 49 = .ok (.aload_n 0, 1) := by decide +kernel
theorem dX4_makeLevel_50 : decode cX4_makeLevel 50 = .ok (.iload_n 1, 1) := by decide +kernel
theorem dX4_makeLevel_51 : decode cX4_makeLevel 51 = .ok (.invokevirtual 171, 3) := by decide +kernel
theorem dX4_makeLevel_54 : decode cX4_makeLevel 54 = .ok (.istore 4, 2) := by decide +kernel
theorem dX4_makeLevel_56 : decode cX4_makeLevel 56 = .ok (.iinc 3 1, 3) := by decide +kernel
theorem dX4_makeLevel_59 : decode cX4_makeLevel 59 = .ok (.goto (-21), 3) := by decide +kernel
theorem dX4_makeLevel_62 : decode cX4_makeLevel 62 = .ok (.aload_n 0, 1) := by decide +kernel
theorem dX4_makeLevel_63 : decode cX4_makeLevel 63 = .ok (.getfield 33, 3) := by decide +kernel
theorem dX4_makeLevel_66 : decode cX4_makeLevel 66 = .ok (.getfield 107, 3) := by decide +kernel
theorem dX4_makeLevel_69 : decode cX4_makeLevel 69 = .ok (.iload_n 2, 1) := by decide +kernel
theorem dX4_makeLevel_70 : decode cX4_makeLevel 70 = .ok (.isub, 1) := by decide +kernel
theorem dX4_makeLevel_71 : decode cX4_makeLevel 71 = .ok (.istore 5, 2) := by decide +kernel
theorem dX4_makeLevel_73 : decode cX4_makeLevel 73 = .ok (.aload_n 0, 1) := by decide +kernel
theorem dX4_makeLevel_74 : decode cX4_makeLevel 74 = .ok (.getfield 40, 3) := by decide +kernel
theorem dX4_makeLevel_77 : decode cX4_makeLevel 77 = .ok (.aload_n 0, 1) := by decide +kernel
theorem dX4_makeLevel_78 : decode cX4_makeLevel 78 = .ok (.getfield 37, 3) := by decide +kernel
theorem dX4_makeLevel_81 : decode cX4_makeLevel 81 = .ok (.invokevirtual 132, 3) := by decide +kernel
theorem dX4_makeLevel_84 : decode cX4_makeLevel 84 = .ok (.lstore 6, 2) := by decide +kernel
theorem dX4_makeLevel_86 : decode cX4_makeLevel 86 = .ok (.aload_n 0, 1) := by decide +kernel
theorem dX4_makeLevel_87 : decode cX4_makeLevel 87 = .ok (.getfield 40, 3) := by decide +kernel
theorem dX4_makeLevel_90 : decode cX4_makeLevel 90 = .ok (.aload_n 0, 1) := by decide +kernel
theorem dX4_makeLevel_91 : decode cX4_makeLevel 91 = .ok (.getfield 37, 3) := by decide +kernel
theorem dX4_makeLevel_94 : decode cX4_makeLevel 94 = .ok (.getfield 121, 3) := by decide +kernel
theorem dX4_makeLevel_97 : decode cX4_makeLevel 97 = .ok (.invokevirtual 174, 3) := by decide +kernel
theorem dX4_makeLevel_100 : decode cX4_makeLevel 100 = .ok (.istore 8, 2) := by decide +kernel
theorem dX4_makeLevel_102 : decode cX4_makeLevel 102 = .ok (.iconst 0, 1) := by decide +kernel
theorem dX4_makeLevel_103 : decode cX4_makeLevel 103 = .ok (.istore 9, 2) := by decide +kernel
theorem dX4_makeLevel_105 : decode cX4_makeLevel 105 = .ok (.iload 9, 2) := by decide +kernel
theorem dX4_makeLevel_107 : decode cX4_makeLevel 107 = .ok (.aload_n 0, 1) := by decide +kernel
theorem dX4_makeLevel_108 : decode cX4_makeLevel 108 = .ok (.getfield 10, 3) := by decide +kernel
theorem dX4_makeLevel_111 : decode cX4_makeLevel 111 = .ok (.getfield 121, 3) := by decide +kernel
theorem dX4_makeLevel_114 : decode cX4_makeLevel 114 = .ok (.if_icmp .ge 31, 3) := by decide +kernel
theorem dX4_makeLevel_117 : decode cX4_makeLevel 117 = .ok (.aload_n 0, 1) := by decide +kernel
theorem dX4_makeLevel_118 : decode cX4_makeLevel 118 = .ok (.getfield 43, 3) := by decide +kernel
theorem dX4_makeLevel_121 : decode cX4_makeLevel 121 = .ok (.iload 9, 2) := by decide +kernel
theorem dX4_makeLevel_123 : decode cX4_makeLevel 123 = .ok (.aload_n 0, 1) := by decide +kernel
theorem dX4_makeLevel_124 : decode cX4_makeLevel 124 = .ok (.getfield 40, 3) := by decide +kernel
theorem dX4_makeLevel_127 : decode cX4_makeLevel 127 = .ok (.getfield 118, 3) := by decide +kernel
theorem dX4_makeLevel_130 : decode cX4_makeLevel 130 = .ok (.aload_n 0, 1) := by decide +kernel
theorem dX4_makeLevel_131 : decode cX4_makeLevel 131 = .ok (.getfield 43, 3) := by decide +kernel
theorem dX4_makeLevel_134 : decode cX4_makeLevel 134 = .ok (.iload 9, 2) := by decide +kernel
theorem dX4_makeLevel_136 : decode cX4_makeLevel 136 = .ok (.iaload, 1) := by decide +kernel
theorem dX4_makeLevel_137 : decode cX4_makeLevel 137 = .ok (.iaload, 1) := by decide +kernel
theorem dX4_makeLevel_138 : decode cX4_makeLevel 138 = .ok (.iastore, 1) := by decide +kernel
theorem dX4_makeLevel_139 : decode cX4_makeLevel 139 = .ok (.iinc 9 1, 3) := by decide +kernel
theorem dX4_makeLevel_142 : decode cX4_makeLevel 142 = .ok (.goto (-37), 3) := by decide +kernel
theorem dX4_makeLevel_145 : decode cX4_makeLevel 145 = .ok (.aload_n 0, 1) := by decide +kernel
theorem dX4_makeLevel_146 : decode cX4_makeLevel 146 = .ok (.getfield 26, 3) := by decide +kernel
theorem dX4_makeLevel_149 : decode cX4_makeLevel 149 = .ok (.aload_n 0, 1) := by decide +kernel
theorem dX4_makeLevel_150 : decode cX4_makeLevel 150 = .ok (.getfield 43, 3) := by decide +kernel
theorem dX4_makeLevel_153 : decode cX4_makeLevel 153 = .ok (.lload 6, 2) := by decide +kernel
theorem dX4_makeLevel_155 : decode cX4_makeLevel 155 = .ok (.aload_n 0, 1) := by decide +kernel
theorem dX4_makeLevel_156 : decode cX4_makeLevel 156 = .ok (.getfield 37, 3) := by decide +kernel
theorem dX4_makeLevel_159 : decode cX4_makeLevel 159 = .ok (.getfield 121, 3) := by decide +kernel
theorem dX4_makeLevel_162 : decode cX4_makeLevel 162 = .ok (.iload 8, 2) := by decide +kernel
theorem dX4_makeLevel_164 : decode cX4_makeLevel 164 = .ok (.iload_n 3, 1) := by decide +kernel
theorem dX4_makeLevel_165 : decode cX4_makeLevel 165 = .ok (.iload 5, 2) := by decide +kernel
theorem dX4_makeLevel_167 : decode cX4_makeLevel 167 = .ok (.invokevirtual 178, 3) := by decide +kernel
theorem dX4_makeLevel_170 : decode cX4_makeLevel 170 = .ok (.aload_n 0, 1) := by decide +kernel
theorem dX4_makeLevel_171 : decode cX4_makeLevel 171 = .ok (.getfield 37, 3) := by decide +kernel
theorem dX4_makeLevel_174 : decode cX4_makeLevel 174 = .ok (.aload_n 0, 1) := by decide +kernel
theorem dX4_makeLevel_175 : decode cX4_makeLevel 175 = .ok (.getfield 10, 3) := by decide +kernel
theorem dX4_makeLevel_178 : decode cX4_makeLevel 178 = .ok (.aload_n 0, 1) := by decide +kernel
theorem dX4_makeLevel_179 : decode cX4_makeLevel 179 = .ok (.getfield 43, 3) := by decide +kernel
theorem dX4_makeLevel_182 : decode cX4_makeLevel 182 = .ok (.iload 8, 2) := by decide +kernel
theorem dX4_makeLevel_184 : decode cX4_makeLevel 184 = .ok (.invokevirtual 162, 3) := by decide +kernel
theorem dX4_makeLevel_187 : decode cX4_makeLevel 187 = .ok (.iload 5, 2) := by decide +kernel
theorem dX4_makeLevel_189 : decode cX4_makeLevel 189 = .ok (.ifCond .le 7, 3) := by decide +kernel
theorem dX4_makeLevel_192 : decode cX4_makeLevel 192 = .ok (.iconst 1, 1) := by decide +kernel
theorem dX4_makeLevel_193 : decode cX4_makeLevel 193 = .ok (.goto 4, 3) := by decide +kernel
theorem dX4_makeLevel_196 : decode cX4_makeLevel 196 = .ok (.iconst 0, 1) := by decide +kernel
theorem dX4_makeLevel_197 : decode cX4_makeLevel 197 = .ok (.ireturn, 1) := by decide +kernel
set_option maxRecDepth 20000 in
theorem ggX4_makePass_X1_tie : GoodIn wsX4_makePass wsX1_tie := goodIn_r _ [10, 11, 12, 13, 14, 15, 16, 17, 18, 19, 20, 21, 22, 23, 66, 67, 68, 69, 70, 62, 63, 64, 65] (by decide +kernel) (by decide +kernel)
set_option maxRecDepth 20000 in
theorem gX4_makePass_X1_tie : GoodIn wsX4_makePass (wsV RX4 136 RX1 yX1_tie wsX1_tie) := goodIn_app (goodIn_of _ (by decide +kernel)) ggX4_makePass_X1_tie
set_option maxRecDepth 20000 in
theorem ggX4_makePass_X1_choose : GoodIn wsX4_makePass wsX1_choose := goodIn_r _ [27, 13, 12, 11, 28, 29, 30, 31, 9, 32, 33, 34, 35, 36, 37, 38, 39, 40, 41, 66, 67, 68, 69, 70, 62, 63, 64, 65] (by decide +kernel) (by decide +kernel)
set_option maxRecDepth 20000 in
theorem gX4_makePass_X1_choose : GoodIn wsX4_makePass (wsV RX4 182 RX1 yX1_choose wsX1_choose) := goodIn_app (goodIn_of _ (by decide +kernel)) ggX4_makePass_X1_choose
set_option maxRecDepth 20000 in
theorem ggX4_makePass_X1_gainInto : GoodIn wsX4_makePass wsX1_gainInto := goodIn_r _ [32, 13, 33, 34, 11, 35, 36, 37, 66, 67, 68, 69, 70, 62, 63, 64, 65] (by decide +kernel) (by decide +kernel)
set_option maxRecDepth 20000 in
theorem gX4_makePass_X1_gainInto : GoodIn wsX4_makePass (wsV RX4 140 RX1 yX1_gainInto wsX1_gainInto) := goodIn_app (goodIn_of _ (by decide +kernel)) ggX4_makePass_X1_gainInto
set_option maxRecDepth 20000 in
theorem ggX4_makePass_X3_append : GoodIn wsX4_makePass wsX3_append := goodIn_r _ [47, 48, 49, 50, 71, 72, 73] (by decide +kernel) (by decide +kernel)
set_option maxRecDepth 20000 in
theorem gX4_makePass_X3_append : GoodIn wsX4_makePass (wsV RX4 186 RX3 yX3_append wsX3_append) := goodIn_app (goodIn_of _ (by decide +kernel)) ggX4_makePass_X3_append
set_option maxRecDepth 20000 in
theorem ggX4_makePass_X1_shift : GoodIn wsX4_makePass wsX1_shift := goodIn_r _ [54, 13, 28, 34, 33, 66, 67, 68, 69, 70, 62, 63, 64, 65] (by decide +kernel) (by decide +kernel)
set_option maxRecDepth 20000 in
theorem gX4_makePass_X1_shift : GoodIn wsX4_makePass (wsV RX4 189 RX1 yX1_shift wsX1_shift) := goodIn_app (goodIn_of _ (by decide +kernel)) ggX4_makePass_X1_shift
theorem dX4_makePass_0 : decode cX4_makePass 0 = .ok (.iconst 0, 1) := by decide +kernel
theorem dX4_makePass_1 : decode cX4_makePass 1 = .ok (.istore_n 2, 1) := by decide +kernel
theorem dX4_makePass_2 : decode cX4_makePass 2 = .ok (.iconst 0, 1) := by decide +kernel
theorem dX4_makePass_3 : decode cX4_makePass 3 = .ok (.istore_n 3, 1) := by decide +kernel
theorem dX4_makePass_4 : decode cX4_makePass 4 = .ok (.iload_n 3, 1) := by decide +kernel
theorem dX4_makePass_5 : decode cX4_makePass 5 = .ok (.aload_n 0, 1) := by decide +kernel
theorem dX4_makePass_6 : decode cX4_makePass 6 = .ok (.getfield 37, 3) := by decide +kernel
theorem dX4_makePass_9 : decode cX4_makePass 9 = .ok (.getfield 121, 3) := by decide +kernel
theorem dX4_makePass_12 : decode cX4_makePass 12 = .ok (.if_icmp .ge 95, 3) := by decide +kernel
theorem dX4_makePass_15 : decode cX4_makePass 15 = .ok (.aload_n 0, 1) := by decide +kernel
theorem dX4_makePass_16 : decode cX4_makePass 16 = .ok (.getfield 40, 3) := by decide +kernel
theorem dX4_makePass_19 : decode cX4_makePass 19 = .ok (.aload_n 0, 1) := by decide +kernel
theorem dX4_makePass_20 : decode cX4_makePass 20 = .ok (.getfield 37, 3) := by decide +kernel
theorem dX4_makePass_23 : decode cX4_makePass 23 = .ok (.iload_n 3, 1) := by decide +kernel
theorem dX4_makePass_24 : decode cX4_makePass 24 = .ok (.invokevirtual 136, 3) := by decide +kernel
theorem dX4_makePass_27 : decode cX4_makePass 27 = .ok (.aload_n 0, 1) := by decide +kernel
theorem dX4_makePass_28 : decode cX4_makePass 28 = .ok (.getfield 40, 3) := by decide +kernel
theorem dX4_makePass_31 : decode cX4_makePass 31 = .ok (.aload_n 0, 1) := by decide +kernel
theorem dX4_makePass_32 : decode cX4_makePass 32 = .ok (.getfield 37, 3) := by decide +kernel
theorem dX4_makePass_35 : decode cX4_makePass 35 = .ok (.iload_n 3, 1) := by decide +kernel
theorem dX4_makePass_36 : decode cX4_makePass 36 = .ok (.invokevirtual 182, 3) := by decide +kernel
theorem dX4_makePass_39 : decode cX4_makePass 39 = .ok (.istore 4, 2) := by decide +kernel
theorem dX4_makePass_41 : decode cX4_makePass 41 = .ok (.iload 4, 2) := by decide +kernel
theorem dX4_makePass_43 : decode cX4_makePass 43 = .ok (.iconst (-1), 1) := by decide +kernel
theorem dX4_makePass_44 : decode cX4_makePass 44 = .ok (.if_icmp .eq 57, 3) := by decide +kernel
theorem dX4_makePass_47 : decode cX4_makePass 47 = .ok (.aload_n 0, 1) := by decide +kernel
theorem dX4_makePass_48 : decode cX4_makePass 48 = .ok (.getfield 40, 3) := by decide +kernel
theorem dX4_makePass_51 : decode cX4_makePass 51 = .ok (.aload_n 0, 1) := by decide +kernel
theorem dX4_makePass_52 : decode cX4_makePass 52 = .ok (.getfield 37, 3) := by decide +kernel
theorem dX4_makePass_55 : decode cX4_makePass 55 = .ok (.iload_n 3, 1) := by decide +kernel
theorem dX4_makePass_56 : decode cX4_makePass 56 = .ok (.iload 4, 2) := by decide +kernel
theorem dX4_makePass_58 : decode cX4_makePass 58 = .ok (.invokevirtual 140, 3) := by decide +kernel
theorem dX4_makePass_61 : decode cX4_makePass 61 = .ok (.lstore 5, 2) := by decide +kernel
theorem dX4_makePass_63 : decode cX4_makePass 63 = .ok (.aload_n 0, 1) := by decide +kernel
theorem dX4_makePass_64 : decode cX4_makePass 64 = .ok (.getfield 33, 3) := by decide +kernel
theorem dX4_makePass_67 : decode cX4_makePass 67 = .ok (.iload_n 1, 1) := by decide +kernel
theorem dX4_makePass_68 : decode cX4_makePass 68 = .ok (.iload_n 3, 1) := by decide +kernel
theorem dX4_makePass_69 : decode cX4_makePass 69 = .ok (.aload_n 0, 1) := by decide +kernel
theorem dX4_makePass_70 : decode cX4_makePass 70 = .ok (.getfield 40, 3) := by decide +kernel
theorem dX4_makePass_73 : decode cX4_makePass 73 = .ok (.getfield 118, 3) := by decide +kernel
theorem dX4_makePass_76 : decode cX4_makePass 76 = .ok (.iload_n 3, 1) := by decide +kernel
theorem dX4_makePass_77 : decode cX4_makePass 77 = .ok (.iaload, 1) := by decide +kernel
theorem dX4_makePass_78 : decode cX4_makePass 78 = .ok (.iload 4, 2) := by decide +kernel
theorem dX4_makePass_80 : decode cX4_makePass 80 = .ok (.lload 5, 2) := by decide +kernel
theorem dX4_makePass_82 : decode cX4_makePass 82 = .ok (.invokevirtual 186, 3) := by decide +kernel
theorem dX4_makePass_85 : decode cX4_makePass 85 = .ok (.aload_n 0, 1) := by decide +kernel
theorem dX4_makePass_86 : decode cX4_makePass 86 = .ok (.getfield 40, 3) := by decide +kernel
theorem dX4_makePass_89 : decode cX4_makePass 89 = .ok (.aload_n 0, 1) := by decide +kernel
theorem dX4_makePass_90 : decode cX4_makePass 90 = .ok (.getfield 37, 3) := by decide +kernel
theorem dX4_makePass_93 : decode cX4_makePass 93 = .ok (.iload_n 3, 1) := by decide +kernel
theorem dX4_makePass_94 : decode cX4_makePass 94 = .ok (.iload 4, 2) := by decide +kernel
theorem dX4_makePass_96 : decode cX4_makePass 96 = .ok (.invokevirtual 189, 3) := by decide +kernel
theorem dX4_makePass_99 : decode cX4_makePass 99 = .ok (.iconst 1, 1) := by decide +kernel
theorem dX4_makePass_100 : decode cX4_makePass 100 = .ok (.istore_n 2, 1) := by decide +kernel
theorem dX4_makePass_101 : decode cX4_makePass 101 = .ok (.iinc 3 1, 3) := by decide +kernel
theorem dX4_makePass_104 : decode cX4_makePass 104 = .ok (.goto (-100), 3) := by decide +kernel
theorem dX4_makePass_107 : decode cX4_makePass 107 = .ok (.iload_n 2, 1) := by decide +kernel
theorem dX4_makePass_108 : decode cX4_makePass 108 = .ok (.ireturn, 1) := by decide +kernel
theorem dX5_init_0 : decode cX5_init 0 = .ok (.aload_n 0, 1) := by decide +kernel
theorem dX5_init_1 : decode cX5_init 1 = .ok (.invokespecial 1, 3) := by decide +kernel
theorem dX5_init_4 : decode cX5_init 4 = .ok (.aload_n 0, 1) := by decide +kernel
theorem dX5_init_5 : decode cX5_init 5 = .ok (.iconst 1, 1) := by decide +kernel
theorem dX5_init_6 : decode cX5_init 6 = .ok (.putfield 7, 3) := by decide +kernel
theorem dX5_init_9 : decode cX5_init 9 = .ok (.aload_n 0, 1) := by decide +kernel
theorem dX5_init_10 : decode cX5_init 10 = .ok (.sipush 1600, 3) := by decide +kernel
theorem dX5_init_13 : decode cX5_init 13 = .ok (.newarray .int, 2) := by decide +kernel
theorem dX5_init_15 : decode cX5_init 15 = .ok (.putfield 13, 3) := by decide +kernel
theorem dX5_init_18 : decode cX5_init 18 = .ok (.aload_n 0, 1) := by decide +kernel
theorem dX5_init_19 : decode cX5_init 19 = .ok (.bipush 40, 2) := by decide +kernel
theorem dX5_init_21 : decode cX5_init 21 = .ok (.newarray .int, 2) := by decide +kernel
theorem dX5_init_23 : decode cX5_init 23 = .ok (.putfield 17, 3) := by decide +kernel
theorem dX5_init_26 : decode cX5_init 26 = .ok (.aload_n 0, 1) := by decide +kernel
theorem dX5_init_27 : decode cX5_init 27 = .ok (.sipush 1600, 3) := by decide +kernel
theorem dX5_init_30 : decode cX5_init 30 = .ok (.newarray .long, 2) := by decide +kernel
theorem dX5_init_32 : decode cX5_init 32 = .ok (.putfield 20, 3) := by decide +kernel
theorem dX5_init_35 : decode cX5_init 35 = .ok (.aload_n 0, 1) := by decide +kernel
theorem dX5_init_36 : decode cX5_init 36 = .ok (.bipush 40, 2) := by decide +kernel
theorem dX5_init_38 : decode cX5_init 38 = .ok (.newarray .int, 2) := by decide +kernel
theorem dX5_init_40 : decode cX5_init 40 = .ok (.putfield 24, 3) := by decide +kernel
theorem dX5_init_43 : decode cX5_init 43 = .ok (.aload_n 0, 1) := by decide +kernel
theorem dX5_init_44 : decode cX5_init 44 = .ok (.sipush 1600, 3) := by decide +kernel
theorem dX5_init_47 : decode cX5_init 47 = .ok (.newarray .long, 2) := by decide +kernel
theorem dX5_init_49 : decode cX5_init 49 = .ok (.putfield 27, 3) := by decide +kernel
theorem dX5_init_52 : decode cX5_init 52 = .ok (.aload_n 0, 1) := by decide +kernel
theorem dX5_init_53 : decode cX5_init 53 = .ok (.sipush 164, 3) := by decide +kernel
theorem dX5_init_56 : decode cX5_init 56 = .ok (.newarray .int, 2) := by decide +kernel
theorem dX5_init_58 : decode cX5_init 58 = .ok (.putfield 30, 3) := by decide +kernel
theorem dX5_init_61 : decode cX5_init 61 = .ok (.aload_n 0, 1) := by decide +kernel
theorem dX5_init_62 : decode cX5_init 62 = .ok (.bipush 41, 2) := by decide +kernel
theorem dX5_init_64 : decode cX5_init 64 = .ok (.newarray .long, 2) := by decide +kernel
theorem dX5_init_66 : decode cX5_init 66 = .ok (.putfield 33, 3) := by decide +kernel
theorem dX5_init_69 : decode cX5_init 69 = .ok (.aload_n 0, 1) := by decide +kernel
theorem dX5_init_70 : decode cX5_init 70 = .ok (.sipush 1640, 3) := by decide +kernel
theorem dX5_init_73 : decode cX5_init 73 = .ok (.newarray .int, 2) := by decide +kernel
theorem dX5_init_75 : decode cX5_init 75 = .ok (.putfield 36, 3) := by decide +kernel
theorem dX5_init_78 : decode cX5_init 78 = .ok (.aload_n 0, 1) := by decide +kernel
theorem dX5_init_79 : decode cX5_init 79 = .ok (.sipush 1600, 3) := by decide +kernel
theorem dX5_init_82 : decode cX5_init 82 = .ok (.newarray .int, 2) := by decide +kernel
theorem dX5_init_84 : decode cX5_init 84 = .ok (.putfield 39, 3) := by decide +kernel
theorem dX5_init_87 : decode cX5_init 87 = .ok (.aload_n 0, 1) := by decide +kernel
theorem dX5_init_88 : decode cX5_init 88 = .ok (.sipush 400, 3) := by decide +kernel
theorem dX5_init_91 : decode cX5_init 91 = .ok (.newarray .long, 2) := by decide +kernel
theorem dX5_init_93 : decode cX5_init 93 = .ok (.putfield 42, 3) := by decide +kernel
theorem dX5_init_96 : decode cX5_init 96 = .ok (.aload_n 0, 1) := by decide +kernel
theorem dX5_init_97 : decode cX5_init 97 = .ok (.bipush 40, 2) := by decide +kernel
theorem dX5_init_99 : decode cX5_init 99 = .ok (.newarray .long, 2) := by decide +kernel
theorem dX5_init_101 : decode cX5_init 101 = .ok (.putfield 45, 3) := by decide +kernel
theorem dX5_init_104 : decode cX5_init 104 = .ok (.aload_n 0, 1) := by decide +kernel
theorem dX5_init_105 : decode cX5_init 105 = .ok (.getfield 17, 3) := by decide +kernel
theorem dX5_init_108 : decode cX5_init 108 = .ok (.iconst 0, 1) := by decide +kernel
theorem dX5_init_109 : decode cX5_init 109 = .ok (.iconst 0, 1) := by decide +kernel
theorem dX5_init_110 : decode cX5_init 110 = .ok (.iastore, 1) := by decide +kernel
theorem dX5_init_111 : decode cX5_init 111 = .ok (.return_, 1) := by decide +kernel
theorem dX5_thrown_0 : decode cX5_thrown 0 = .ok (.aload_n 0, 1) := by decide +kernel
theorem dX5_thrown_1 : decode cX5_thrown 1 = .ok (.getfield 48, 3) := by decide +kernel
theorem dX5_thrown_4 : decode cX5_thrown 4 = .ok (.ireturn, 1) := by decide +kernel
theorem dX5_forget_0 : decode cX5_forget 0 = .ok (.aload_n 0, 1) := by decide +kernel
theorem dX5_forget_1 : decode cX5_forget 1 = .ok (.iconst 0, 1) := by decide +kernel
theorem dX5_forget_2 : decode cX5_forget 2 = .ok (.putfield 51, 3) := by decide +kernel
theorem dX5_forget_5 : decode cX5_forget 5 = .ok (.aload_n 0, 1) := by decide +kernel
theorem dX5_forget_6 : decode cX5_forget 6 = .ok (.iconst 0, 1) := by decide +kernel
theorem dX5_forget_7 : decode cX5_forget 7 = .ok (.putfield 54, 3) := by decide +kernel
theorem dX5_forget_10 : decode cX5_forget 10 = .ok (.return_, 1) := by decide +kernel
set_option maxRecDepth 20000 in
theorem ggX5_nodes_X5_forget : GoodIn wsX5_nodes wsX5_forget := goodIn_r _ [9, 10, 11, 12, 13, 14, 15, 16, 17, 18, 19, 20, 21, 22, 23, 24, 25, 26, 27, 28] (by decide +kernel) (by decide +kernel)
set_option maxRecDepth 20000 in
theorem gX5_nodes_X5_forget : GoodIn wsX5_nodes (wsV RX5 57 RX5 yX5_forget wsX5_forget) := goodIn_app (goodIn_of _ (by decide +kernel)) ggX5_nodes_X5_forget
theorem dX5_nodes_0 : decode cX5_nodes 0 = .ok (.aload_n 0, 1) := by decide +kernel
theorem dX5_nodes_1 : decode cX5_nodes 1 = .ok (.iload_n 1, 1) := by decide +kernel
theorem dX5_nodes_2 : decode cX5_nodes 2 = .ok (.iconst 1, 1) := by decide +kernel
theorem dX5_nodes_3 : decode cX5_nodes 3 = .ok (.if_icmp .lt 9, 3) := by decide +kernel
theorem dX5_nodes_6 : decode cX5_nodes 6 = .ok (.iload_n 1, 1) := by decide +kernel
theorem dX5_nodes_7 : decode cX5_nodes 7 = .ok (.bipush 40, 2) := by decide +kernel
theorem dX5_nodes_9 : decode cX5_nodes 9 = .ok (.if_icmp .le 7, 3) := by decide +kernel
theorem dX5_nodes_12 : decode cX5_nodes 12 = .ok (.iconst 1, 1) := by decide +kernel
theorem dX5_nodes_13 : decode cX5_nodes 13 = .ok (.goto 4, 3) := by decide +kernel
theorem dX5_nodes_16 : decode cX5_nodes 16 = .ok (.iconst 0, 1) := by decide +kernel
theorem dX5_nodes_17 : decode cX5_nodes 17 = .ok (.putfield 48, 3) := by decide +kernel
theorem dX5_nodes_20 : decode cX5_nodes 20 = .ok (.aload_n 0, 1) := by decide +kernel
theorem dX5_nodes_21 : decode cX5_nodes 21 = .ok (.getfield 48, 3) := by decide +kernel
theorem dX5_nodes_24 : decode cX5_nodes 24 = .ok (.ifCond .ne 57, 3) := by decide +kernel
theorem dX5_nodes_27 : decode cX5_nodes 27 = .ok (.aload_n 0, 1) := by decide +kernel
theorem dX5_nodes_28 : decode cX5_nodes 28 = .ok (.iload_n 1, 1) := by decide +kernel
theorem dX5_nodes_29 : decode cX5_nodes 29 = .ok (.putfield 7, 3) := by decide +kernel
theorem dX5_nodes_32 : decode cX5_nodes 32 = .ok (.iconst 0, 1) := by decide +kernel
theorem dX5_nodes_33 : decode cX5_nodes 33 = .ok (.istore_n 2, 1) := by decide +kernel
theorem dX5_nodes_34 : decode cX5_nodes 34 = .ok (.iload_n 2, 1) := by decide +kernel
theorem dX5_nodes_35 : decode cX5_nodes 35 = .ok (.sipush 1600, 3) := by decide +kernel
theorem dX5_nodes_38 : decode cX5_nodes 38 = .ok (.if_icmp .ge 16, 3) := by decide +kernel
theorem dX5_nodes_41 : decode cX5_nodes 41 = .ok (.aload_n 0, 1) := by decide +kernel
theorem dX5_nodes_42 : decode cX5_nodes 42 = .ok (.getfield 13, 3) := by decide +kernel
theorem dX5_nodes_45 : decode cX5_nodes 45 = .ok (.iload_n 2, 1) := by decide +kernel
theorem dX5_nodes_46 : decode cX5_nodes 46 = .ok (.iconst 0, 1) := by decide +kernel
theorem dX5_nodes_47 : decode cX5_nodes 47 = .ok (.iastore, 1) := by decide +kernel
theorem dX5_nodes_48 : decode cX5_nodes 48 = .ok (.iinc 2 1, 3) := by decide +kernel
theorem dX5_nodes_51 : decode cX5_nodes 51 = .ok (.goto (-17), 3) := by decide +kernel
theorem dX5_nodes_54 : decode cX5_nodes 54 = .ok (.iconst 0, 1) := by decide +kernel
theorem dX5_nodes_55 : decode cX5_nodes 55 = .ok (.istore_n 2, 1) := by decide +kernel
theorem dX5_nodes_56 : decode cX5_nodes 56 = .ok (.iload_n 2, 1) := by decide +kernel
theorem dX5_nodes_57 : decode cX5_nodes 57 = .ok (.aload_n 0, 1) := by decide +kernel
theorem dX5_nodes_58 : decode cX5_nodes 58 = .ok (.getfield 7, 3) := by decide +kernel
theorem dX5_nodes_61 : decode cX5_nodes 61 = .ok (.if_icmp .ge 16, 3) := by decide +kernel
theorem dX5_nodes_64 : decode cX5_nodes 64 = .ok (.aload_n 0, 1) := by decide +kernel
theorem dX5_nodes_65 : decode cX5_nodes 65 = .ok (.getfield 17, 3) := by decide +kernel
theorem dX5_nodes_68 : decode cX5_nodes 68 = .ok (.iload_n 2, 1) := by decide +kernel
theorem dX5_nodes_69 : decode cX5_nodes 69 = .ok (.iload_n 2, 1) := by decide +kernel
theorem dX5_nodes_70 : decode cX5_nodes 70 = .ok (.iastore, 1) := by decide +kernel
theorem dX5_nodes_71 : decode cX5_nodes 71 = .ok (.iinc 2 1, 3) := by decide +kernel
theorem dX5_nodes_74 : decode cX5_nodes 74 = .ok (.goto (-18), 3) := by decide +kernel
theorem dX5_nodes_77 : decode cX5_nodes 77 = .ok (.aload_n 0, 1) := by decide +kernel
theorem dX5_nodes_78 : decode cX5_nodes 78 = .ok (.invokevirtual 57, 3) := by decide +kernel
theorem dX5_nodes_81 : decode cX5_nodes 81 = .ok (.return_, 1) := by decide +kernel
theorem dX5_noNode_0 : decode cX5_noNode 0 = .ok (.iload_n 1, 1) := by decide +kernel
theorem dX5_noNode_1 : decode cX5_noNode 1 = .ok (.ifCond .lt 11, 3) := by decide +kernel
theorem dX5_noNode_4 : decode cX5_noNode 4 = .ok (.iload_n 1, 1) := by decide +kernel
theorem dX5_noNode_5 : decode cX5_noNode 5 = .ok (.aload_n 0, 1) := by decide +kernel
theorem dX5_noNode_6 : decode cX5_noNode 6 = .ok (.getfield 7, 3) := by decide +kernel
theorem dX5_noNode_9 : decode cX5_noNode 9 = .ok (.if_icmp .lt 7, 3) := by decide +kernel
theorem dX5_noNode_12 : decode cX5_noNode 12 = .ok (.iconst 1, 1) := by decide +kernel
theorem dX5_noNode_13 : decode cX5_noNode 13 = .ok (.goto 4, 3) := by decide +kernel
theorem dX5_noNode_16 : decode cX5_noNode 16 = .ok (.iconst 0, 1) := by decide +kernel
theorem dX5_noNode_17 : decode cX5_noNode 17 = .ok (.ireturn, 1) := by decide +kernel
theorem dX5_all_0 : decode cX5_all 0 = .ok (.lconst 0, 1) := by decide +kernel
theorem dX5_all_1 : decode cX5_all 1 = .ok (.lstore_n 1, 1) := by decide +kernel
theorem dX5_all_2 : decode cX5_all 2 = .ok (.iconst 0, 1) := by decide +kernel
theorem dX5_all_3 : decode cX5_all 3 = .ok (.istore_n 3, 1) := by decide +kernel
theorem dX5_all_4 : decode cX5_all 4 = .ok (.iload_n 3, 1) := by decide +kernel
theorem dX5_all_5 : decode cX5_all 5 = .ok (.aload_n 0, 1) := by decide +kernel
theorem dX5_all_6 : decode cX5_all 6 = .ok (.getfield 7, 3) := by decide +kernel
theorem dX5_all_9 : decode cX5_all 9 = .ok (.if_icmp .ge 40, 3) := by decide +kernel
theorem dX5_all_12 : decode cX5_all 12 = .ok (.iconst 0, 1) := by decide +kernel
theorem dX5_all_13 : decode cX5_all 13 = .ok (.istore 4, 2) := by decide +kernel
theorem dX5_all_15 : decode cX5_all 15 = .ok (.iload 4, 2) := by decide +kernel
theorem dX5_all_17 : decode cX5_all 17 = .ok (.iload_n 3, 1) := by decide +kernel
theorem dX5_all_18 : decode cX5_all 18 = .ok (.if_icmp .gt 25, 3) := by decide +kernel
theorem dX5_all_21 : decode cX5_all 21 = .ok (.lload_n 1, 1) := by decide +kernel
theorem dX5_all_22 : decode cX5_all 22 = .ok (.aload_n 0, 1) := by decide +kernel
theorem dX5_all_23 : decode cX5_all 23 = .ok (.getfield 13, 3) := by decide +kernel
theorem dX5_all_26 : decode cX5_all 26 = .ok (.bipush 40, 2) := by decide +kernel
theorem dX5_all_28 : decode cX5_all 28 = .ok (.iload_n 3, 1) := by decide +kernel
theorem dX5_all_29 : decode cX5_all 29 = .ok (.imul, 1) := by decide +kernel
theorem dX5_all_30 : decode cX5_all 30 = .ok (.iload 4, 2) := by decide +kernel
theorem dX5_all_32 : decode cX5_all 32 = .ok (.iadd, 1) := by decide +kernel
theorem dX5_all_33 : decode cX5_all 33 = .ok (.iaload, 1) := by decide +kernel
theorem dX5_all_34 : decode cX5_all 34 = .ok (.i2l, 1) := by decide +kernel
theorem dX5_all_35 : decode cX5_all 35 = .ok (.ladd, 1) := by decide +kernel
theorem dX5_all_36 : decode cX5_all 36 = .ok (.lstore_n 1, 1) := by decide +kernel
theorem dX5_all_37 : decode cX5_all 37 = .ok (.iinc 4 1, 3) := by decide +kernel
theorem dX5_all_40 : decode cX5_all 40 = .ok (.goto (-25), 3) := by decide +kernel
theorem dX5_all_43 : decode cX5_all 43 = .ok (.iinc 3 1, 3) := by decide +kernel
theorem dX5_all_46 : decode cX5_all 46 = .ok (.goto (-42), 3) := by decide +kernel
theorem dX5_all_49 : decode cX5_all 49 = .ok (.lload_n 1, 1) := by decide +kernel
theorem dX5_all_50 : decode cX5_all 50 = .ok (.lreturn, 1) := by decide +kernel
set_option maxRecDepth 20000 in
theorem ggX5_weigh_X5_noNode : GoodIn wsX5_weigh wsX5_noNode := goodIn_r _ [8, 9, 20, 21, 22, 23, 24, 25, 26, 27, 28, 29, 30, 31, 32, 33, 34, 35, 36] (by decide +kernel) (by decide +kernel)
set_option maxRecDepth 20000 in
theorem gX5_weigh_X5_noNode : GoodIn wsX5_weigh (wsV RX5 60 RX5 yX5_noNode wsX5_noNode) := goodIn_app (goodIn_of _ (by decide +kernel)) ggX5_weigh_X5_noNode
set_option maxRecDepth 20000 in
theorem ggX5_weigh_X5_all : GoodIn wsX5_weigh wsX5_all := goodIn_r _ [13, 9, 2, 20, 21, 22, 23, 24, 25, 26, 27, 28, 29, 30, 31, 32, 33, 34, 35, 36] (by decide +kernel) (by decide +kernel)
set_option maxRecDepth 20000 in
theorem gX5_weigh_X5_all : GoodIn wsX5_weigh (wsV RX5 64 RX5 yX5_all wsX5_all) := goodIn_app (goodIn_of _ (by decide +kernel)) ggX5_weigh_X5_all
set_option maxRecDepth 20000 in
theorem ggX5_weigh_X5_forget : GoodIn wsX5_weigh wsX5_forget := goodIn_r _ [17, 18, 19, 20, 21, 22, 23, 24, 25, 26, 27, 28, 29, 30, 31, 32, 33, 34, 35, 36] (by decide +kernel) (by decide +kernel)
set_option maxRecDepth 20000 in
theorem gX5_weigh_X5_forget : GoodIn wsX5_weigh (wsV RX5 57 RX5 yX5_forget wsX5_forget) := goodIn_app (goodIn_of _ (by decide +kernel)) ggX5_weigh_X5_forget
theorem dX5_weigh_0 : decode cX5_weigh 0 = .ok (.aload_n 0, 1) := by decide +kernel
theorem dX5_weigh_1 : decode cX5_weigh 1 = .ok (.aload_n 0, 1) := by decide +kernel
theorem dX5_weigh_2 : decode cX5_weigh 2 = .ok (.iload_n 1, 1) := by decide +kernel
theorem dX5_weigh_3 : decode cX5_weigh 3 = .ok (.invokevirtual 60, 3) := by decide +kernel
theorem dX5_weigh_6 : decode cX5_weigh 6 = .ok (.ifCond .ne 11, 3) := by decide +kernel
theorem dX5_weigh_9 : decode cX5_weigh 9 = .ok (.aload_n 0, 1) := by decide +kernel
theorem dX5_weigh_10 : decode cX5_weigh 10 = .ok (.iload_n 2, 1) := by decide +kernel
theorem dX5_weigh_11 : decode cX5_weigh 11 = .ok (.invokevirtual 60, 3) := by decide +kernel
theorem dX5_weigh_14 : decode cX5_weigh 14 = .ok (.ifCond .eq 7, 3) := by decide +kernel
theorem dX5_weigh_17 : decode cX5_weigh 17 = .ok (.iconst 1, 1) := by decide +kernel
theorem dX5_weigh_18 : decode cX5_weigh 18 = .ok (.goto 4, 3) := by decide +kernel
