theorem dX5_run_68 : decode cX5_run 68 = .ok (.iconst 0, 1) := by decide +kernel
theorem dX5_run_69 : decode cX5_run 69 = .ok (.istore 5, 2) := by decide +kernel
theorem dX5_run_71 : decode cX5_run 71 = .ok (.iload 5, 2) := by decide +kernel
theorem dX5_run_73 : decode cX5_run 73 = .ok (.aload_n 0, 1) := by decide +kernel
theorem dX5_run_74 : decode cX5_run 74 = .ok (.getfield 70, 3) := by decide +kernel
theorem dX5_run_77 : decode cX5_run 77 = .ok (.if_icmp .ge 20, 3) := by decide +kernel
theorem dX5_run_80 : decode cX5_run 80 = .ok (.iload 4, 2) := by decide +kernel
theorem dX5_run_82 : decode cX5_run 82 = .ok (.aload_n 0, 1) := by decide +kernel
theorem dX5_run_83 : decode cX5_run 83 = .ok (.iload 5, 2) := by decide +kernel
theorem dX5_run_85 : decode cX5_run 85 = .ok (.invokevirtual 108, 3) := by decide +kernel
theorem dX5_run_88 : decode cX5_run 88 = .ok (.ior, 1) := by decide +kernel
theorem dX5_run_89 : decode cX5_run 89 = .ok (.istore 4, 2) := by decide +kernel
theorem dX5_run_91 : decode cX5_run 91 = .ok (.iinc 5 1, 3) := by decide +kernel
theorem dX5_run_94 : decode cX5_run 94 = .ok (.goto (-23), 3) := by decide +kernel
theorem dX5_run_97 : decode cX5_run 97 = .ok (.iinc 3 1, 3) := by decide +kernel
theorem dX5_run_100 : decode cX5_run 100 = .ok (.goto (-40), 3) := by decide +kernel
theorem dX5_run_103 : decode cX5_run 103 = .ok (.aload_n 0, 1) := by decide +kernel
theorem dX5_run_104 : decode cX5_run 104 = .ok (.invokevirtual 111, 3) := by decide +kernel
theorem dX5_run_107 : decode cX5_run 107 = .ok (.istore 5, 2) := by decide +kernel
theorem dX5_run_109 : decode cX5_run 109 = .ok (.aload_n 0, 1) := by decide +kernel
theorem dX5_run_110 : decode cX5_run 110 = .ok (.getfield 30, 3) := by decide +kernel
theorem dX5_run_113 : decode cX5_run 113 = .ok (.iconst 4, 1) := by decide +kernel
theorem dX5_run_114 : decode cX5_run 114 = .ok (.aload_n 0, 1) := by decide +kernel
theorem dX5_run_115 : decode cX5_run 115 = .ok (.getfield 51, 3) := by decide +kernel
theorem dX5_run_118 : decode cX5_run 118 = .ok (.imul, 1) := by decide +kernel
theorem dX5_run_119 : decode cX5_run 119 = .ok (.aload_n 0, 1) := by decide +kernel
theorem dX5_run_120 : decode cX5_run 120 = .ok (.getfield 70, 3) := by decide +kernel
theorem dX5_run_123 : decode cX5_run 123 = .ok (.iastore, 1) := by decide +kernel
theorem dX5_run_124 : decode cX5_run 124 = .ok (.aload_n 0, 1) := by decide +kernel
theorem dX5_run_125 : decode cX5_run 125 = .ok (.getfield 30, 3) := by decide +kernel
theorem dX5_run_128 : decode cX5_run 128 = .ok (.iconst 4, 1) := by decide +kernel
theorem dX5_run_129 : decode cX5_run 129 = .ok (.aload_n 0, 1) := by decide +kernel
theorem dX5_run_130 : decode cX5_run 130 = .ok (.getfield 51, 3) := by decide +kernel
theorem dX5_run_133 : decode cX5_run 133 = .ok (.imul, 1) := by decide +kernel
theorem dX5_run_134 : decode cX5_run 134 = .ok (.iconst 1, 1) := by decide +kernel
theorem dX5_run_135 : decode cX5_run 135 = .ok (.iadd, 1) := by decide +kernel
theorem dX5_run_136 : decode cX5_run 136 = .ok (.iload 5, 2) := by decide +kernel
theorem dX5_run_138 : decode cX5_run 138 = .ok (.iastore, 1) := by decide +kernel
theorem dX5_run_139 : decode cX5_run 139 = .ok (.aload_n 0, 1) := by decide +kernel
theorem dX5_run_140 : decode cX5_run 140 = .ok (.getfield 30, 3) := by decide +kernel
theorem dX5_run_143 : decode cX5_run 143 = .ok (.iconst 4, 1) := by decide +kernel
theorem dX5_run_144 : decode cX5_run 144 = .ok (.aload_n 0, 1) := by decide +kernel
theorem dX5_run_145 : decode cX5_run 145 = .ok (.getfield 51, 3) := by decide +kernel
theorem dX5_run_148 : decode cX5_run 148 = .ok (.imul, 1) := by decide +kernel
theorem dX5_run_149 : decode cX5_run 149 = .ok (.iconst 2, 1) := by decide +kernel
theorem dX5_run_150 : decode cX5_run 150 = .ok (.iadd, 1) := by decide +kernel
theorem dX5_run_151 : decode cX5_run 151 = .ok (.iload_n 3, 1) := by decide +kernel
theorem dX5_run_152 : decode cX5_run 152 = .ok (.iastore, 1) := by decide +kernel
theorem dX5_run_153 : decode cX5_run 153 = .ok (.aload_n 0, 1) := by decide +kernel
theorem dX5_run_154 : decode cX5_run 154 = .ok (.getfield 30, 3) := by decide +kernel
theorem dX5_run_157 : decode cX5_run 157 = .ok (.iconst 4, 1) := by decide +kernel
theorem dX5_run_158 : decode cX5_run 158 = .ok (.aload_n 0, 1) := by decide +kernel
theorem dX5_run_159 : decode cX5_run 159 = .ok (.getfield 51, 3) := by decide +kernel
theorem dX5_run_162 : decode cX5_run 162 = .ok (.imul, 1) := by decide +kernel
theorem dX5_run_163 : decode cX5_run 163 = .ok (.iconst 3, 1) := by decide +kernel
theorem dX5_run_164 : decode cX5_run 164 = .ok (.iadd, 1) := by decide +kernel
theorem dX5_run_165 : decode cX5_run 165 = .ok (.aload_n 0, 1) := by decide +kernel
theorem dX5_run_166 : decode cX5_run 166 = .ok (.getfield 54, 3) := by decide +kernel
theorem dX5_run_169 : decode cX5_run 169 = .ok (.iload_n 2, 1) := by decide +kernel
theorem dX5_run_170 : decode cX5_run 170 = .ok (.isub, 1) := by decide +kernel
theorem dX5_run_171 : decode cX5_run 171 = .ok (.iastore, 1) := by decide +kernel
theorem dX5_run_172 : decode cX5_run 172 = .ok (.aload_n 0, 1) := by decide +kernel
theorem dX5_run_173 : decode cX5_run 173 = .ok (.getfield 33, 3) := by decide +kernel
theorem dX5_run_176 : decode cX5_run 176 = .ok (.aload_n 0, 1) := by decide +kernel
theorem dX5_run_177 : decode cX5_run 177 = .ok (.getfield 51, 3) := by decide +kernel
theorem dX5_run_180 : decode cX5_run 180 = .ok (.aload_n 0, 1) := by decide +kernel
theorem dX5_run_181 : decode cX5_run 181 = .ok (.invokevirtual 115, 3) := by decide +kernel
theorem dX5_run_184 : decode cX5_run 184 = .ok (.lastore, 1) := by decide +kernel
theorem dX5_run_185 : decode cX5_run 185 = .ok (.iconst 0, 1) := by decide +kernel
theorem dX5_run_186 : decode cX5_run 186 = .ok (.istore 6, 2) := by decide +kernel
theorem dX5_run_188 : decode cX5_run 188 = .ok (.iload 6, 2) := by decide +kernel
theorem dX5_run_190 : decode cX5_run 190 = .ok (.aload_n 0, 1) := by decide +kernel
theorem dX5_run_191 : decode cX5_run 191 = .ok (.getfield 7, 3) := by decide +kernel
theorem dX5_run_194 : decode cX5_run 194 = .ok (.if_icmp .ge 62, 3) := by decide +kernel
theorem dX5_run_197 : decode cX5_run 197 = .ok (.aload_n 0, 1) := by decide +kernel
theorem dX5_run_198 : decode cX5_run 198 = .ok (.getfield 51, 3) := by decide +kernel
theorem dX5_run_201 : decode cX5_run 201 = .ok (.ifCond .ne 8, 3) := by decide +kernel
theorem dX5_run_204 : decode cX5_run 204 = .ok (.iload 6, 2) := by decide +kernel
theorem dX5_run_206 : decode cX5_run 206 = .ok (.goto 20, 3) := by decide +kernel
theorem dX5_run_209 : decode cX5_run 209 = .ok (.aload_n 0, 1) := by decide +kernel
theorem dX5_run_210 : decode cX5_run 210 = .ok (.getfield 36, 3) := by decide +kernel
theorem dX5_run_213 : decode cX5_run 213 = .ok (.bipush 40, 2) := by decide +kernel
theorem dX5_run_215 : decode cX5_run 215 = .ok (.aload_n 0, 1) := by decide +kernel
theorem dX5_run_216 : decode cX5_run 216 = .ok (.getfield 51, 3) := by decide +kernel
theorem dX5_run_219 : decode cX5_run 219 = .ok (.iconst 1, 1) := by decide +kernel
theorem dX5_run_220 : decode cX5_run 220 = .ok (.isub, 1) := by decide +kernel
theorem dX5_run_221 : decode cX5_run 221 = .ok (.imul, 1) := by decide +kernel
theorem dX5_run_222 : decode cX5_run 222 = .ok (.iload 6, 2) := by decide +kernel
theorem dX5_run_224 : decode cX5_run 224 = .ok (.iadd, 1) := by decide +kernel
theorem dX5_run_225 : decode cX5_run 225 = .ok (.iaload, 1) := by decide +kernel
theorem dX5_run_226 : decode cX5_run 226 = .ok (.istore 7, 2) := by decide +kernel
theorem dX5_run_228 : decode cX5_run 228 = .ok (.aload_n 0, 1) := by decide +kernel
theorem dX5_run_229 : decode cX5_run 229 = .ok (.getfield 36, 3) := by decide +kernel
theorem dX5_run_232 : decode cX5_run 232 = .ok (.bipush 40, 2) := by decide +kernel
theorem dX5_run_234 : decode cX5_run 234 = .ok (.aload_n 0, 1) := by decide +kernel
theorem dX5_run_235 : decode cX5_run 235 = .ok (.getfield 51, 3) := by decide +kernel
theorem dX5_run_238 : decode cX5_run 238 = .ok (.imul, 1) := by decide +kernel
theorem dX5_run_239 : decode cX5_run 239 = .ok (.iload 6, 2) := by decide +kernel
theorem dX5_run_241 : decode cX5_run 241 = .ok (.iadd, 1) := by decide +kernel
theorem dX5_run_242 : decode cX5_run 242 = .ok (.aload_n 0, 1) := by decide +kernel
theorem dX5_run_243 : decode cX5_run 243 = .ok (.getfield 24, 3) := by decide +kernel
theorem dX5_run_246 : decode cX5_run 246 = .ok (.iload 7, 2) := by decide +kernel
theorem dX5_run_248 : decode cX5_run 248 = .ok (.iaload, 1) := by decide +kernel
theorem dX5_run_249 : decode cX5_run 249 = .ok (.iastore, 1) := by decide +kernel
theorem dX5_run_250 : decode cX5_run 250 = .ok (.iinc 6 1, 3) := by decide +kernel
theorem dX5_run_253 : decode cX5_run 253 = .ok (.goto (-65), 3) := by decide +kernel
theorem dX5_run_256 : decode cX5_run 256 = .ok (.aload_n 0, 1) := by decide +kernel
theorem dX5_run_257 : decode cX5_run 257 = .ok (.dup, 1) := by decide +kernel
theorem dX5_run_258 : decode cX5_run 258 = .ok (.getfield 51, 3) := by decide +kernel
theorem dX5_run_261 : decode cX5_run 261 = .ok (.iconst 1, 1) := by decide +kernel
theorem dX5_run_262 : decode cX5_run 262 = .ok (.iadd, 1) := by decide +kernel
theorem dX5_run_263 : decode cX5_run 263 = .ok (.putfield 51, 3) := by decide +kernel
theorem dX5_run_266 : decode cX5_run 266 = .ok (.aload_n 0, 1) := by decide +kernel
theorem dX5_run_267 : decode cX5_run 267 = .ok (.getfield 54, 3) := by decide +kernel
theorem dX5_run_270 : decode cX5_run 270 = .ok (.iload_n 2, 1) := by decide +kernel
theorem dX5_run_271 : decode cX5_run 271 = .ok (.if_icmp .le 7, 3) := by decide +kernel
theorem dX5_run_274 : decode cX5_run 274 = .ok (.iconst 1, 1) := by decide +kernel
theorem dX5_run_275 : decode cX5_run 275 = .ok (.goto 4, 3) := by decide +kernel
theorem dX5_run_278 : decode cX5_run 278 = .ok (.iconst 0, 1) := by decide +kernel
theorem dX5_run_279 : decode cX5_run 279 = .ok (.istore_n 1, 1) := by decide +kernel
theorem dX5_run_280 : decode cX5_run 280 = .ok (.iload_n 1, 1) := by decide +kernel
theorem dX5_run_281 : decode cX5_run 281 = .ok (.ifCond .eq 9, 3) := by decide +kernel
theorem dX5_run_284 : decode cX5_run 284 = .ok (.aload_n 0, 1) := by decide +kernel
theorem dX5_run_285 : decode cX5_run 285 = .ok (.iload 5, 2) := by decide +kernel
theorem dX5_run_287 : decode cX5_run 287 = .ok (.invokevirtual 118, 3) := by decide +kernel
theorem dX5_run_290 : decode cX5_run 290 = .ok (.goto (-275), 3) := by decide +kernel
theorem dX5_run_293 : decode cX5_run 293 = .ok (.aload_n 0, 1) := by decide +kernel
theorem dX5_run_294 : decode cX5_run 294 = .ok (.getfield 51, 3) := by decide +kernel
theorem dX5_run_297 : decode cX5_run 297 = .ok (.ireturn, 1) := by decide +kernel
theorem dX5_levels_0 : decode cX5_levels 0 = .ok (.aload_n 0, 1) := by decide +kernel
theorem dX5_levels_1 : decode cX5_levels 1 = .ok (.iconst 0, 1) := by decide +kernel
theorem dX5_levels_2 : decode cX5_levels 2 = .ok (.putfield 48, 3) := by decide +kernel
theorem dX5_levels_5 : decode cX5_levels 5 = .ok (.aload_n 0, 1) := by decide +kernel
theorem dX5_levels_6 : decode cX5_levels 6 = .ok (.getfield 51, 3) := by decide +kernel
theorem dX5_levels_9 : decode cX5_levels 9 = .ok (.ireturn, 1) := by decide +kernel
theorem dX5_noLevel_0 : decode cX5_noLevel 0 = .ok (.iload_n 1, 1) := by decide +kernel
theorem dX5_noLevel_1 : decode cX5_noLevel 1 = .ok (.ifCond .lt 11, 3) := by decide +kernel
theorem dX5_noLevel_4 : decode cX5_noLevel 4 = .ok (.iload_n 1, 1) := by decide +kernel
theorem dX5_noLevel_5 : decode cX5_noLevel 5 = .ok (.aload_n 0, 1) := by decide +kernel
theorem dX5_noLevel_6 : decode cX5_noLevel 6 = .ok (.getfield 51, 3) := by decide +kernel
theorem dX5_noLevel_9 : decode cX5_noLevel 9 = .ok (.if_icmp .lt 7, 3) := by decide +kernel
theorem dX5_noLevel_12 : decode cX5_noLevel 12 = .ok (.iconst 1, 1) := by decide +kernel
theorem dX5_noLevel_13 : decode cX5_noLevel 13 = .ok (.goto 4, 3) := by decide +kernel
theorem dX5_noLevel_16 : decode cX5_noLevel 16 = .ok (.iconst 0, 1) := by decide +kernel
theorem dX5_noLevel_17 : decode cX5_noLevel 17 = .ok (.ireturn, 1) := by decide +kernel
set_option maxRecDepth 20000 in
theorem ggX5_level_X5_noLevel : GoodIn wsX5_level wsX5_noLevel := goodIn_r _ [7, 8, 9, 10, 11, 12, 13, 14, 15, 16, 17, 18, 19, 20, 21, 22, 23, 24, 25] (by decide +kernel) (by decide +kernel)
set_option maxRecDepth 20000 in
theorem gX5_level_X5_noLevel : GoodIn wsX5_level (wsV RX5 122 RX5 yX5_noLevel wsX5_noLevel) := goodIn_app (goodIn_of _ (by decide +kernel)) ggX5_level_X5_noLevel
theorem dX5_level_0 : decode cX5_level 0 = .ok (.aload_n 0, 1) := by decide +kernel
theorem dX5_level_1 : decode cX5_level 1 = .ok (.aload_n 0, 1) := by decide +kernel
theorem dX5_level_2 : decode cX5_level 2 = .ok (.iload_n 1, 1) := by decide +kernel
theorem dX5_level_3 : decode cX5_level 3 = .ok (.invokevirtual 122, 3) := by decide +kernel
theorem dX5_level_6 : decode cX5_level 6 = .ok (.ifCond .ne 12, 3) := by decide +kernel
theorem dX5_level_9 : decode cX5_level 9 = .ok (.iload_n 2, 1) := by decide +kernel
theorem dX5_level_10 : decode cX5_level 10 = .ok (.ifCond .lt 8, 3) := by decide +kernel
theorem dX5_level_13 : decode cX5_level 13 = .ok (.iload_n 2, 1) := by decide +kernel
theorem dX5_level_14 : decode cX5_level 14 = .ok (.iconst 3, 1) := by decide +kernel
theorem dX5_level_15 : decode cX5_level 15 = .ok (.if_icmp .le 7, 3) := by decide +kernel
theorem dX5_level_18 : decode cX5_level 18 = .ok (.iconst 1, 1) := by decide +kernel
theorem dX5_level_19 : decode cX5_level 19 = .ok (.goto 4, 3) := by decide +kernel
theorem dX5_level_22 : decode cX5_level 22 = .ok (.iconst 0, 1) := by decide +kernel
theorem dX5_level_23 : decode cX5_level 23 = .ok (.putfield 48, 3) := by decide +kernel
theorem dX5_level_26 : decode cX5_level 26 = .ok (.aload_n 0, 1) := by decide +kernel
theorem dX5_level_27 : decode cX5_level 27 = .ok (.getfield 48, 3) := by decide +kernel
theorem dX5_level_30 : decode cX5_level 30 = .ok (.ifCond .le 7, 3) := by decide +kernel
theorem dX5_level_33 : decode cX5_level 33 = .ok (.iconst 0, 1) := by decide +kernel
theorem dX5_level_34 : decode cX5_level 34 = .ok (.goto 13, 3) := by decide +kernel
theorem dX5_level_37 : decode cX5_level 37 = .ok (.aload_n 0, 1) := by decide +kernel
theorem dX5_level_38 : decode cX5_level 38 = .ok (.getfield 30, 3) := by decide +kernel
theorem dX5_level_41 : decode cX5_level 41 = .ok (.iconst 4, 1) := by decide +kernel
theorem dX5_level_42 : decode cX5_level 42 = .ok (.iload_n 1, 1) := by decide +kernel
theorem dX5_level_43 : decode cX5_level 43 = .ok (.imul, 1) := by decide +kernel
theorem dX5_level_44 : decode cX5_level 44 = .ok (.iload_n 2, 1) := by decide +kernel
theorem dX5_level_45 : decode cX5_level 45 = .ok (.iadd, 1) := by decide +kernel
theorem dX5_level_46 : decode cX5_level 46 = .ok (.iaload, 1) := by decide +kernel
theorem dX5_level_47 : decode cX5_level 47 = .ok (.ireturn, 1) := by decide +kernel
set_option maxRecDepth 20000 in
theorem ggX5_community_X5_noLevel : GoodIn wsX5_community wsX5_noLevel := goodIn_r _ [7, 8, 14, 15, 16, 17, 18, 19, 20, 21, 22, 23, 24, 25, 26, 27, 28, 29, 30] (by decide +kernel) (by decide +kernel)
set_option maxRecDepth 20000 in
theorem gX5_community_X5_noLevel : GoodIn wsX5_community (wsV RX5 122 RX5 yX5_noLevel wsX5_noLevel) := goodIn_app (goodIn_of _ (by decide +kernel)) ggX5_community_X5_noLevel
set_option maxRecDepth 20000 in
theorem ggX5_community_X5_noNode : GoodIn wsX5_community wsX5_noNode := goodIn_r _ [12, 13, 14, 15, 16, 17, 18, 19, 20, 21, 22, 23, 24, 25, 26, 27, 28, 29, 30] (by decide +kernel) (by decide +kernel)
set_option maxRecDepth 20000 in
theorem gX5_community_X5_noNode : GoodIn wsX5_community (wsV RX5 60 RX5 yX5_noNode wsX5_noNode) := goodIn_app (goodIn_of _ (by decide +kernel)) ggX5_community_X5_noNode
theorem dX5_community_0 : decode cX5_community 0 = .ok (.aload_n 0, 1) := by decide +kernel
theorem dX5_community_1 : decode cX5_community 1 = .ok (.aload_n 0, 1) := by decide +kernel
theorem dX5_community_2 : decode cX5_community 2 = .ok (.iload_n 1, 1) := by decide +kernel
theorem dX5_community_3 : decode cX5_community 3 = .ok (.invokevirtual 122, 3) := by decide +kernel
theorem dX5_community_6 : decode cX5_community 6 = .ok (.ifCond .ne 11, 3) := by decide +kernel
theorem dX5_community_9 : decode cX5_community 9 = .ok (.aload_n 0, 1) := by decide +kernel
theorem dX5_community_10 : decode cX5_community 10 = .ok (.iload_n 2, 1) := by decide +kernel
theorem dX5_community_11 : decode cX5_community 11 = .ok (.invokevirtual 60, 3) := by decide +kernel
theorem dX5_community_14 : decode cX5_community 14 = .ok (.ifCond .eq 7, 3) := by decide +kernel
theorem dX5_community_17 : decode cX5_community 17 = .ok (.iconst 1, 1) := by decide +kernel
theorem dX5_community_18 : decode cX5_community 18 = .ok (.goto 4, 3) := by decide +kernel
theorem dX5_community_21 : decode cX5_community 21 = .ok (.iconst 0, 1) := by decide +kernel
theorem dX5_community_22 : decode cX5_community 22 = .ok (.putfield 48, 3) := by decide +kernel
theorem dX5_community_25 : decode cX5_community 25 = .ok (.aload_n 0, 1) := by decide +kernel
theorem dX5_community_26 : decode cX5_community 26 = .ok (.getfield 48, 3) := by decide +kernel
theorem dX5_community_29 : decode cX5_community 29 = .ok (.ifCond .le 7, 3) := by decide +kernel
theorem dX5_community_32 : decode cX5_community 32 = .ok (.iconst 0, 1) := by decide +kernel
theorem dX5_community_33 : decode cX5_community 33 = .ok (.goto 14, 3) := by decide +kernel
theorem dX5_community_36 : decode cX5_community 36 = .ok (.aload_n 0, 1) := by decide +kernel
theorem dX5_community_37 : decode cX5_community 37 = .ok (.getfield 36, 3) := by decide +kernel
theorem dX5_community_40 : decode cX5_community 40 = .ok (.bipush 40, 2) := by decide +kernel
theorem dX5_community_42 : decode cX5_community 42 = .ok (.iload_n 1, 1) := by decide +kernel
theorem dX5_community_43 : decode cX5_community 43 = .ok (.imul, 1) := by decide +kernel
theorem dX5_community_44 : decode cX5_community 44 = .ok (.iload_n 2, 1) := by decide +kernel
theorem dX5_community_45 : decode cX5_community 45 = .ok (.iadd, 1) := by decide +kernel
theorem dX5_community_46 : decode cX5_community 46 = .ok (.iaload, 1) := by decide +kernel
theorem dX5_community_47 : decode cX5_community 47 = .ok (.ireturn, 1) := by decide +kernel
set_option maxRecDepth 20000 in
theorem ggX5_modularity_X5_noLevel : GoodIn wsX5_modularity wsX5_noLevel := goodIn_r _ [7, 8, 9, 10, 11, 12, 13, 14, 15, 16, 17, 18, 19, 20, 21, 22, 23, 24, 25] (by decide +kernel) (by decide +kernel)
set_option maxRecDepth 20000 in
theorem gX5_modularity_X5_noLevel : GoodIn wsX5_modularity (wsV RX5 122 RX5 yX5_noLevel wsX5_noLevel) := goodIn_app (goodIn_of _ (by decide +kernel)) ggX5_modularity_X5_noLevel
theorem dX5_modularity_0 : decode cX5_modularity 0 = .ok (.aload_n 0, 1) := by decide +kernel
theorem dX5_modularity_1 : decode cX5_modularity 1 = .ok (.aload_n 0, 1) := by decide +kernel
theorem dX5_modularity_2 : decode cX5_modularity 2 = .ok (.iload_n 1, 1) := by decide +kernel
theorem dX5_modularity_3 : decode cX5_modularity 3 = .ok (.invokevirtual 122, 3) := by decide +kernel
theorem dX5_modularity_6 : decode cX5_modularity 6 = .ok (.ifCond .eq 7, 3) := by decide +kernel
theorem dX5_modularity_9 : decode cX5_modularity 9 = .ok (.iconst 1, 1) := by decide +kernel
theorem dX5_modularity_10 : decode cX5_modularity 10 = .ok (.goto 4, 3) := by decide +kernel
theorem dX5_modularity_13 : decode cX5_modularity 13 = .ok (.iconst 0, 1) := by decide +kernel
theorem dX5_modularity_14 : decode cX5_modularity 14 = .ok (.putfield 48, 3) := by decide +kernel
theorem dX5_modularity_17 : decode cX5_modularity 17 = .ok (.aload_n 0, 1) := by decide +kernel
theorem dX5_modularity_18 : decode cX5_modularity 18 = .ok (.getfield 48, 3) := by decide +kernel
theorem dX5_modularity_21 : decode cX5_modularity 21 = .ok (.ifCond .le 7, 3) := by decide +kernel
theorem dX5_modularity_24 : decode cX5_modularity 24 = .ok (.lconst 0, 1) := by decide +kernel
theorem dX5_modularity_25 : decode cX5_modularity 25 = .ok (.goto 9, 3) := by decide +kernel
theorem dX5_modularity_28 : decode cX5_modularity 28 = .ok (.aload_n 0, 1) := by decide +kernel
theorem dX5_modularity_29 : decode cX5_modularity 29 = .ok (.getfield 33, 3) := by decide +kernel
theorem dX5_modularity_32 : decode cX5_modularity 32 = .ok (.iload_n 1, 1) := by decide +kernel
theorem dX5_modularity_33 : decode cX5_modularity 33 = .ok (.laload, 1) := by decide +kernel
theorem dX5_modularity_34 : decode cX5_modularity 34 = .ok (.lreturn, 1) := by decide +kernel
theorem dX5_moves_0 : decode cX5_moves 0 = .ok (.aload_n 0, 1) := by decide +kernel
theorem dX5_moves_1 : decode cX5_moves 1 = .ok (.iconst 0, 1) := by decide +kernel
theorem dX5_moves_2 : decode cX5_moves 2 = .ok (.putfield 48, 3) := by decide +kernel
theorem dX5_moves_5 : decode cX5_moves 5 = .ok (.aload_n 0, 1) := by decide +kernel
theorem dX5_moves_6 : decode cX5_moves 6 = .ok (.getfield 54, 3) := by decide +kernel
theorem dX5_moves_9 : decode cX5_moves 9 = .ok (.ireturn, 1) := by decide +kernel
theorem dX5_noMove_0 : decode cX5_noMove 0 = .ok (.iload_n 1, 1) := by decide +kernel
theorem dX5_noMove_1 : decode cX5_noMove 1 = .ok (.ifCond .lt 18, 3) := by decide +kernel
theorem dX5_noMove_4 : decode cX5_noMove 4 = .ok (.iload_n 1, 1) := by decide +kernel
theorem dX5_noMove_5 : decode cX5_noMove 5 = .ok (.aload_n 0, 1) := by decide +kernel
theorem dX5_noMove_6 : decode cX5_noMove 6 = .ok (.getfield 54, 3) := by decide +kernel
theorem dX5_noMove_9 : decode cX5_noMove 9 = .ok (.if_icmp .ge 10, 3) := by decide +kernel
theorem dX5_noMove_12 : decode cX5_noMove 12 = .ok (.iload_n 1, 1) := by decide +kernel
theorem dX5_noMove_13 : decode cX5_noMove 13 = .ok (.sipush 400, 3) := by decide +kernel
theorem dX5_noMove_16 : decode cX5_noMove 16 = .ok (.if_icmp .lt 7, 3) := by decide +kernel
theorem dX5_noMove_19 : decode cX5_noMove 19 = .ok (.iconst 1, 1) := by decide +kernel
theorem dX5_noMove_20 : decode cX5_noMove 20 = .ok (.goto 4, 3) := by decide +kernel
theorem dX5_noMove_23 : decode cX5_noMove 23 = .ok (.iconst 0, 1) := by decide +kernel
theorem dX5_noMove_24 : decode cX5_noMove 24 = .ok (.ireturn, 1) := by decide +kernel
set_option maxRecDepth 20000 in
theorem ggX5_move_X5_noMove : GoodIn wsX5_move wsX5_noMove := goodIn_r _ [7, 8, 9, 10, 11, 12, 13, 14, 15, 16, 17, 18, 19, 20, 21, 22, 23, 24, 25] (by decide +kernel) (by decide +kernel)
set_option maxRecDepth 20000 in
theorem gX5_move_X5_noMove : GoodIn wsX5_move (wsV RX5 125 RX5 yX5_noMove wsX5_noMove) := goodIn_app (goodIn_of _ (by decide +kernel)) ggX5_move_X5_noMove
theorem dX5_move_0 : decode cX5_move 0 = .ok (.aload_n 0, 1) := by decide +kernel
theorem dX5_move_1 : decode cX5_move 1 = .ok (.aload_n 0, 1) := by decide +kernel
theorem dX5_move_2 : decode cX5_move 2 = .ok (.iload_n 1, 1) := by decide +kernel
theorem dX5_move_3 : decode cX5_move 3 = .ok (.invokevirtual 125, 3) := by decide +kernel
theorem dX5_move_6 : decode cX5_move 6 = .ok (.ifCond .ne 12, 3) := by decide +kernel
theorem dX5_move_9 : decode cX5_move 9 = .ok (.iload_n 2, 1) := by decide +kernel
theorem dX5_move_10 : decode cX5_move 10 = .ok (.ifCond .lt 8, 3) := by decide +kernel
theorem dX5_move_13 : decode cX5_move 13 = .ok (.iload_n 2, 1) := by decide +kernel
theorem dX5_move_14 : decode cX5_move 14 = .ok (.iconst 3, 1) := by decide +kernel
theorem dX5_move_15 : decode cX5_move 15 = .ok (.if_icmp .le 7, 3) := by decide +kernel
theorem dX5_move_18 : decode cX5_move 18 = .ok (.iconst 1, 1) := by decide +kernel
theorem dX5_move_19 : decode cX5_move 19 = .ok (.goto 4, 3) := by decide +kernel
theorem dX5_move_22 : decode cX5_move 22 = .ok (.iconst 0, 1) := by decide +kernel
theorem dX5_move_23 : decode cX5_move 23 = .ok (.putfield 48, 3) := by decide +kernel
theorem dX5_move_26 : decode cX5_move 26 = .ok (.aload_n 0, 1) := by decide +kernel
theorem dX5_move_27 : decode cX5_move 27 = .ok (.getfield 48, 3) := by decide +kernel
theorem dX5_move_30 : decode cX5_move 30 = .ok (.ifCond .le 7, 3) := by decide +kernel
theorem dX5_move_33 : decode cX5_move 33 = .ok (.iconst 0, 1) := by decide +kernel
theorem dX5_move_34 : decode cX5_move 34 = .ok (.goto 13, 3) := by decide +kernel
theorem dX5_move_37 : decode cX5_move 37 = .ok (.aload_n 0, 1) := by decide +kernel
theorem dX5_move_38 : decode cX5_move 38 = .ok (.getfield 39, 3) := by decide +kernel
theorem dX5_move_41 : decode cX5_move 41 = .ok (.iconst 4, 1) := by decide +kernel
theorem dX5_move_42 : decode cX5_move 42 = .ok (.iload_n 1, 1) := by decide +kernel
theorem dX5_move_43 : decode cX5_move 43 = .ok (.imul, 1) := by decide +kernel
theorem dX5_move_44 : decode cX5_move 44 = .ok (.iload_n 2, 1) := by decide +kernel
theorem dX5_move_45 : decode cX5_move 45 = .ok (.iadd, 1) := by decide +kernel
theorem dX5_move_46 : decode cX5_move 46 = .ok (.iaload, 1) := by decide +kernel
theorem dX5_move_47 : decode cX5_move 47 = .ok (.ireturn, 1) := by decide +kernel
set_option maxRecDepth 20000 in
theorem ggX5_gained_X5_noMove : GoodIn wsX5_gained wsX5_noMove := goodIn_r _ [7, 8, 9, 10, 11, 12, 13, 14, 15, 16, 17, 18, 19, 20, 21, 22, 23, 24, 25] (by decide +kernel) (by decide +kernel)
set_option maxRecDepth 20000 in
theorem gX5_gained_X5_noMove : GoodIn wsX5_gained (wsV RX5 125 RX5 yX5_noMove wsX5_noMove) := goodIn_app (goodIn_of _ (by decide +kernel)) ggX5_gained_X5_noMove
theorem dX5_gained_0 : decode cX5_gained 0 = .ok (.aload_n 0, 1) := by decide +kernel
theorem dX5_gained_1 : decode cX5_gained 1 = .ok (.aload_n 0, 1) := by decide +kernel
theorem dX5_gained_2 : decode cX5_gained 2 = .ok (.iload_n 1, 1) := by decide +kernel
theorem dX5_gained_3 : decode cX5_gained 3 = .ok (.invokevirtual 125, 3) := by decide +kernel
theorem dX5_gained_6 : decode cX5_gained 6 = .ok (.ifCond .eq 7, 3) := by decide +kernel
theorem dX5_gained_9 : decode cX5_gained 9 = .ok (.iconst 1, 1) := by decide +kernel
theorem dX5_gained_10 : decode cX5_gained 10 = .ok (.goto 4, 3) := by decide +kernel
theorem dX5_gained_13 : decode cX5_gained 13 = .ok (.iconst 0, 1) := by decide +kernel
theorem dX5_gained_14 : decode cX5_gained 14 = .ok (.putfield 48, 3) := by decide +kernel
theorem dX5_gained_17 : decode cX5_gained 17 = .ok (.aload_n 0, 1) := by decide +kernel
theorem dX5_gained_18 : decode cX5_gained 18 = .ok (.getfield 48, 3) := by decide +kernel
theorem dX5_gained_21 : decode cX5_gained 21 = .ok (.ifCond .le 7, 3) := by decide +kernel
theorem dX5_gained_24 : decode cX5_gained 24 = .ok (.lconst 0, 1) := by decide +kernel
theorem dX5_gained_25 : decode cX5_gained 25 = .ok (.goto 9, 3) := by decide +kernel
theorem dX5_gained_28 : decode cX5_gained 28 = .ok (.aload_n 0, 1) := by decide +kernel
theorem dX5_gained_29 : decode cX5_gained 29 = .ok (.getfield 42, 3) := by decide +kernel
theorem dX5_gained_32 : decode cX5_gained 32 = .ok (.iload_n 1, 1) := by decide +kernel
theorem dX5_gained_33 : decode cX5_gained 33 = .ok (.laload, 1) := by decide +kernel
theorem dX5_gained_34 : decode cX5_gained 34 = .ok (.lreturn, 1) := by decide +kernel
set_option maxRecDepth 20000 in
theorem ggX5_place_X5_noNode : GoodIn wsX5_place wsX5_noNode := goodIn_r _ [7, 8, 9, 10, 11, 12, 13, 14, 15, 16, 17, 18, 19, 20, 21, 22, 23, 24, 25] (by decide +kernel) (by decide +kernel)
set_option maxRecDepth 20000 in
theorem gX5_place_X5_noNode : GoodIn wsX5_place (wsV RX5 60 RX5 yX5_noNode wsX5_noNode) := goodIn_app (goodIn_of _ (by decide +kernel)) ggX5_place_X5_noNode
theorem dX5_place_0 : decode cX5_place 0 = .ok (.aload_n 0, 1) := by decide +kernel
theorem dX5_place_1 : decode cX5_place 1 = .ok (.aload_n 0, 1) := by decide +kernel
theorem dX5_place_2 : decode cX5_place 2 = .ok (.iload_n 1, 1) := by decide +kernel
theorem dX5_place_3 : decode cX5_place 3 = .ok (.invokevirtual 60, 3) := by decide +kernel
theorem dX5_place_6 : decode cX5_place 6 = .ok (.ifCond .ne 11, 3) := by decide +kernel
theorem dX5_place_9 : decode cX5_place 9 = .ok (.aload_n 0, 1) := by decide +kernel
theorem dX5_place_10 : decode cX5_place 10 = .ok (.iload_n 2, 1) := by decide +kernel
theorem dX5_place_11 : decode cX5_place 11 = .ok (.invokevirtual 60, 3) := by decide +kernel
theorem dX5_place_14 : decode cX5_place 14 = .ok (.ifCond .eq 7, 3) := by decide +kernel
theorem dX5_place_17 : decode cX5_place 17 = .ok (.iconst 1, 1) := by decide +kernel
theorem dX5_place_18 : decode cX5_place 18 = .ok (.goto 4, 3) := by decide +kernel
theorem dX5_place_21 : decode cX5_place 21 = .ok (.iconst 0, 1) := by decide +kernel
theorem dX5_place_22 : decode cX5_place 22 = .ok (.putfield 48, 3) := by decide +kernel
theorem dX5_place_25 : decode cX5_place 25 = .ok (.aload_n 0, 1) := by decide +kernel
theorem dX5_place_26 : decode cX5_place 26 = .ok (.getfield 48, 3) := by decide +kernel
theorem dX5_place_29 : decode cX5_place 29 = .ok (.ifCond .le 5, 3) := by decide +kernel
theorem dX5_place_32 : decode cX5_place 32 = .ok (.iconst 0, 1) := by decide +kernel
theorem dX5_place_33 : decode cX5_place 33 = .ok (.ireturn, 1) := by decide +kernel
theorem dX5_place_34 : decode cX5_place 34 = .ok (.aload_n 0, 1) := by decide +kernel
theorem dX5_place_35 : decode cX5_place 35 = .ok (.getfield 17, 3) := by decide +kernel
theorem dX5_place_38 : decode cX5_place 38 = .ok (.iload_n 1, 1) := by decide +kernel
theorem dX5_place_39 : decode cX5_place 39 = .ok (.iaload, 1) := by decide +kernel
theorem dX5_place_40 : decode cX5_place 40 = .ok (.istore_n 3, 1) := by decide +kernel
theorem dX5_place_41 : decode cX5_place 41 = .ok (.aload_n 0, 1) := by decide +kernel
theorem dX5_place_42 : decode cX5_place 42 = .ok (.getfield 17, 3) := by decide +kernel
theorem dX5_place_45 : decode cX5_place 45 = .ok (.iload_n 1, 1) := by decide +kernel
theorem dX5_place_46 : decode cX5_place 46 = .ok (.iload_n 2, 1) := by decide +kernel
theorem dX5_place_47 : decode cX5_place 47 = .ok (.iastore, 1) := by decide +kernel
theorem dX5_place_48 : decode cX5_place 48 = .ok (.iload_n 3, 1) := by decide +kernel
theorem dX5_place_49 : decode cX5_place 49 = .ok (.ireturn, 1) := by decide +kernel
set_option maxRecDepth 20000 in
theorem ggX5_take_X5_noLevel : GoodIn wsX5_take wsX5_noLevel := goodIn_r _ [9, 10, 11, 12, 13, 14, 15, 16, 17, 18, 19, 20, 21, 22, 23, 24, 25, 26, 27] (by decide +kernel) (by decide +kernel)
set_option maxRecDepth 20000 in
theorem gX5_take_X5_noLevel : GoodIn wsX5_take (wsV RX5 122 RX5 yX5_noLevel wsX5_noLevel) := goodIn_app (goodIn_of _ (by decide +kernel)) ggX5_take_X5_noLevel
theorem dX5_take_0 : decode cX5_take 0 = .ok (.aload_n 0, 1) := by decide +kernel
theorem dX5_take_1 : decode cX5_take 1 = .ok (.aload_n 0, 1) := by decide +kernel
theorem dX5_take_2 : decode cX5_take 2 = .ok (.iload_n 1, 1) := by decide +kernel
theorem dX5_take_3 : decode cX5_take 3 = .ok (.invokevirtual 122, 3) := by decide +kernel
theorem dX5_take_6 : decode cX5_take 6 = .ok (.ifCond .eq 7, 3) := by decide +kernel
theorem dX5_take_9 : decode cX5_take 9 = .ok (.iconst 1, 1) := by decide +kernel
theorem dX5_take_10 : decode cX5_take 10 = .ok (.goto 4, 3) := by decide +kernel
theorem dX5_take_13 : decode cX5_take 13 = .ok (.iconst 0, 1) := by decide +kernel
theorem dX5_take_14 : decode cX5_take 14 = .ok (.putfield 48, 3) := by decide +kernel
theorem dX5_take_17 : decode cX5_take 17 = .ok (.iconst 0, 1) := by decide +kernel
theorem dX5_take_18 : decode cX5_take 18 = .ok (.istore_n 2, 1) := by decide +kernel
theorem dX5_take_19 : decode cX5_take 19 = .ok (.iload_n 2, 1) := by decide +kernel
theorem dX5_take_20 : decode cX5_take 20 = .ok (.aload_n 0, 1) := by decide +kernel
theorem dX5_take_21 : decode cX5_take 21 = .ok (.getfield 7, 3) := by decide +kernel
theorem dX5_take_24 : decode cX5_take 24 = .ok (.if_icmp .ge 33, 3) := by decide +kernel
theorem dX5_take_27 : decode cX5_take 27 = .ok (.aload_n 0, 1) := by decide +kernel
theorem dX5_take_28 : decode cX5_take 28 = .ok (.getfield 48, 3) := by decide +kernel
theorem dX5_take_31 : decode cX5_take 31 = .ok (.ifCond .ne 26, 3) := by decide +kernel
theorem dX5_take_34 : decode cX5_take 34 = .ok (.aload_n 0, 1) := by decide +kernel
theorem dX5_take_35 : decode cX5_take 35 = .ok (.getfield 17, 3) := by decide +kernel
theorem dX5_take_38 : decode cX5_take 38 = .ok (.iload_n 2, 1) := by decide +kernel
theorem dX5_take_39 : decode cX5_take 39 = .ok (.aload_n 0, 1) := by decide +kernel
theorem dX5_take_40 : decode cX5_take 40 = .ok (.getfield 36, 3) := by decide +kernel
theorem dX5_take_43 : decode cX5_take 43 = .ok (.bipush 40, 2) := by decide +kernel
theorem dX5_take_45 : decode cX5_take 45 = .ok (.iload_n 1, 1) := by decide +kernel
theorem dX5_take_46 : decode cX5_take 46 = .ok (.imul, 1) := by decide +kernel
theorem dX5_take_47 : decode cX5_take 47 = .ok (.iload_n 2, 1) := by decide +kernel
theorem dX5_take_48 : decode cX5_take 48 = .ok (.iadd, 1) := by decide +kernel
theorem dX5_take_49 : decode cX5_take 49 = .ok (.iaload, 1) := by decide +kernel
theorem dX5_take_50 : decode cX5_take 50 = .ok (.iastore, 1) := by decide +kernel
theorem dX5_take_51 : decode cX5_take 51 = .ok (.iinc 2 1, 3) := by decide +kernel
theorem dX5_take_54 : decode cX5_take 54 = .ok (.goto (-35), 3) := by decide +kernel
theorem dX5_take_57 : decode cX5_take 57 = .ok (.return_, 1) := by decide +kernel
set_option maxRecDepth 20000 in
theorem ggX5_ownNow_X5_first : GoodIn wsX5_ownNow wsX5_first := goodIn_r _ [8, 1, 9, 10, 11, 26, 27, 28, 29, 30, 31, 32, 33, 34, 35, 36, 37, 38, 39, 40, 41, 42] (by decide +kernel) (by decide +kernel)
set_option maxRecDepth 20000 in
theorem gX5_ownNow_X5_first : GoodIn wsX5_ownNow (wsV RX5 102 RX5 yX5_first wsX5_first) := goodIn_app (goodIn_of _ (by decide +kernel)) ggX5_ownNow_X5_first
set_option maxRecDepth 20000 in
theorem ggX5_ownNow_X5_prepare : GoodIn wsX5_ownNow wsX5_prepare := goodIn_r _ [15, 16, 9, 17, 18, 19, 20, 7, 21, 10, 22, 23, 24, 25, 26, 27, 28, 29, 30, 31, 32, 33, 34, 35, 36, 37, 38, 39, 40, 41, 42] (by decide +kernel) (by decide +kernel)
set_option maxRecDepth 20000 in
theorem gX5_ownNow_X5_prepare : GoodIn wsX5_ownNow (wsV RX5 105 RX5 yX5_prepare wsX5_prepare) := goodIn_app (goodIn_of _ (by decide +kernel)) ggX5_ownNow_X5_prepare
theorem dX5_ownNow_0 : decode cX5_ownNow 0 = .ok (.aload_n 0, 1) := by decide +kernel
theorem dX5_ownNow_1 : decode cX5_ownNow 1 = .ok (.invokevirtual 102, 3) := by decide +kernel
theorem dX5_ownNow_4 : decode cX5_ownNow 4 = .ok (.aload_n 0, 1) := by decide +kernel
theorem dX5_ownNow_5 : decode cX5_ownNow 5 = .ok (.invokevirtual 105, 3) := by decide +kernel
theorem dX5_ownNow_8 : decode cX5_ownNow 8 = .ok (.iconst 0, 1) := by decide +kernel
theorem dX5_ownNow_9 : decode cX5_ownNow 9 = .ok (.istore_n 1, 1) := by decide +kernel
theorem dX5_ownNow_10 : decode cX5_ownNow 10 = .ok (.iload_n 1, 1) := by decide +kernel
theorem dX5_ownNow_11 : decode cX5_ownNow 11 = .ok (.aload_n 0, 1) := by decide +kernel
theorem dX5_ownNow_12 : decode cX5_ownNow 12 = .ok (.getfield 7, 3) := by decide +kernel
theorem dX5_ownNow_15 : decode cX5_ownNow 15 = .ok (.if_icmp .ge 21, 3) := by decide +kernel
theorem dX5_ownNow_18 : decode cX5_ownNow 18 = .ok (.aload_n 0, 1) := by decide +kernel
theorem dX5_ownNow_19 : decode cX5_ownNow 19 = .ok (.getfield 24, 3) := by decide +kernel
theorem dX5_ownNow_22 : decode cX5_ownNow 22 = .ok (.iload_n 1, 1) := by decide +kernel
theorem dX5_ownNow_23 : decode cX5_ownNow 23 = .ok (.aload_n 0, 1) := by decide +kernel
theorem dX5_ownNow_24 : decode cX5_ownNow 24 = .ok (.getfield 17, 3) := by decide +kernel
theorem dX5_ownNow_27 : decode cX5_ownNow 27 = .ok (.iload_n 1, 1) := by decide +kernel
theorem dX5_ownNow_28 : decode cX5_ownNow 28 = .ok (.iaload, 1) := by decide +kernel
theorem dX5_ownNow_29 : decode cX5_ownNow 29 = .ok (.iastore, 1) := by decide +kernel
theorem dX5_ownNow_30 : decode cX5_ownNow 30 = .ok (.iinc 1 1, 3) := by decide +kernel
theorem dX5_ownNow_33 : decode cX5_ownNow 33 = .ok (.goto (-23), 3) := by decide +kernel
theorem dX5_ownNow_36 : decode cX5_ownNow 36 = .ok (.return_, 1) := by decide +kernel
set_option maxRecDepth 20000 in
theorem ggX5_own_X5_ownNow : GoodIn wsX5_own wsX5_ownNow := goodIn_r _ [6, 7, 8, 9, 10, 11, 12, 5, 13, 14, 15, 16, 17, 18, 19, 20, 21, 22, 23, 24, 25, 26, 27, 28, 29, 30, 36, 37, 38, 39, 40, 41, 42, 43, 44, 45, 46, 47, 48, 49, 50, 51, 52] (by decide +kernel) (by decide +kernel)
set_option maxRecDepth 20000 in
theorem gX5_own_X5_ownNow : GoodIn wsX5_own (wsV RX5 128 RX5 yX5_ownNow wsX5_ownNow) := goodIn_app (goodIn_of _ (by decide +kernel)) ggX5_own_X5_ownNow
set_option maxRecDepth 20000 in
theorem ggX5_own_X5_modularityNow : GoodIn wsX5_own wsX5_modularityNow := goodIn_r _ [34, 14, 8, 22, 15, 35, 21, 36, 37, 38, 39, 40, 41, 42, 43, 44, 45, 46, 47, 48, 49, 50, 51, 52] (by decide +kernel) (by decide +kernel)
set_option maxRecDepth 20000 in
theorem gX5_own_X5_modularityNow : GoodIn wsX5_own (wsV RX5 115 RX5 yX5_modularityNow wsX5_modularityNow) := goodIn_app (goodIn_of _ (by decide +kernel)) ggX5_own_X5_modularityNow
theorem dX5_own_0 : decode cX5_own 0 = .ok (.aload_n 0, 1) := by decide +kernel
theorem dX5_own_1 : decode cX5_own 1 = .ok (.iconst 0, 1) := by decide +kernel
theorem dX5_own_2 : decode cX5_own 2 = .ok (.putfield 48, 3) := by decide +kernel
