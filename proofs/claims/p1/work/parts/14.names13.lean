theorem dX5_isEmpty_36 : decode cX5_isEmpty 36 = .ok (.iload_n 2, 1) := by decide +kernel
theorem dX5_isEmpty_37 : decode cX5_isEmpty 37 = .ok (.ireturn, 1) := by decide +kernel
theorem dX5_isAlone_0 : decode cX5_isAlone 0 = .ok (.iconst 1, 1) := by decide +kernel
theorem dX5_isAlone_1 : decode cX5_isAlone 1 = .ok (.istore_n 2, 1) := by decide +kernel
theorem dX5_isAlone_2 : decode cX5_isAlone 2 = .ok (.iconst 0, 1) := by decide +kernel
theorem dX5_isAlone_3 : decode cX5_isAlone 3 = .ok (.istore_n 3, 1) := by decide +kernel
theorem dX5_isAlone_4 : decode cX5_isAlone 4 = .ok (.iload_n 3, 1) := by decide +kernel
theorem dX5_isAlone_5 : decode cX5_isAlone 5 = .ok (.aload_n 0, 1) := by decide +kernel
theorem dX5_isAlone_6 : decode cX5_isAlone 6 = .ok (.getfield 70, 3) := by decide +kernel
theorem dX5_isAlone_9 : decode cX5_isAlone 9 = .ok (.if_icmp .ge 37, 3) := by decide +kernel
theorem dX5_isAlone_12 : decode cX5_isAlone 12 = .ok (.iload_n 2, 1) := by decide +kernel
theorem dX5_isAlone_13 : decode cX5_isAlone 13 = .ok (.iload_n 3, 1) := by decide +kernel
theorem dX5_isAlone_14 : decode cX5_isAlone 14 = .ok (.iload_n 1, 1) := by decide +kernel
theorem dX5_isAlone_15 : decode cX5_isAlone 15 = .ok (.if_icmp .eq 18, 3) := by decide +kernel
theorem dX5_isAlone_18 : decode cX5_isAlone 18 = .ok (.aload_n 0, 1) := by decide +kernel
theorem dX5_isAlone_19 : decode cX5_isAlone 19 = .ok (.getfield 24, 3) := by decide +kernel
theorem dX5_isAlone_22 : decode cX5_isAlone 22 = .ok (.iload_n 3, 1) := by decide +kernel
theorem dX5_isAlone_23 : decode cX5_isAlone 23 = .ok (.iaload, 1) := by decide +kernel
theorem dX5_isAlone_24 : decode cX5_isAlone 24 = .ok (.aload_n 0, 1) := by decide +kernel
theorem dX5_isAlone_25 : decode cX5_isAlone 25 = .ok (.getfield 24, 3) := by decide +kernel
theorem dX5_isAlone_28 : decode cX5_isAlone 28 = .ok (.iload_n 1, 1) := by decide +kernel
theorem dX5_isAlone_29 : decode cX5_isAlone 29 = .ok (.iaload, 1) := by decide +kernel
theorem dX5_isAlone_30 : decode cX5_isAlone 30 = .ok (.if_icmp .eq 7, 3) := by decide +kernel
theorem dX5_isAlone_33 : decode cX5_isAlone 33 = .ok (.iconst 1, 1) := by decide +kernel
theorem dX5_isAlone_34 : decode cX5_isAlone 34 = .ok (.goto 4, 3) := by decide +kernel
theorem dX5_isAlone_37 : decode cX5_isAlone 37 = .ok (.iconst 0, 1) := by decide +kernel
theorem dX5_isAlone_38 : decode cX5_isAlone 38 = .ok (.iand, 1) := by decide +kernel
theorem dX5_isAlone_39 : decode cX5_isAlone 39 = .ok (.istore_n 2, 1) := by decide +kernel
theorem dX5_isAlone_40 : decode cX5_isAlone 40 = .ok (.iinc 3 1, 3) := by decide +kernel
theorem dX5_isAlone_43 : decode cX5_isAlone 43 = .ok (.goto (-39), 3) := by decide +kernel
theorem dX5_isAlone_46 : decode cX5_isAlone 46 = .ok (.iload_n 2, 1) := by decide +kernel
theorem dX5_isAlone_47 : decode cX5_isAlone 47 = .ok (.ireturn, 1) := by decide +kernel
set_option maxRecDepth 20000 in
theorem ggX5_come_X5_isNear : GoodIn wsX5_come wsX5_isNear := goodIn_r _ [10, 11, 1, 12, 29, 30, 31, 32, 33, 34, 35, 36, 37, 38, 39, 40, 41, 42, 43, 44, 45] (by decide +kernel) (by decide +kernel)
set_option maxRecDepth 20000 in
theorem gX5_come_X5_isNear : GoodIn wsX5_come (wsV RX5 88 RX5 yX5_isNear wsX5_isNear) := goodIn_app (goodIn_of _ (by decide +kernel)) ggX5_come_X5_isNear
set_option maxRecDepth 20000 in
theorem ggX5_come_X5_gainOf : GoodIn wsX5_come wsX5_gainOf := goodIn_r _ [16, 1, 11, 12, 17, 18, 19, 20, 29, 30, 31, 32, 33, 34, 35, 36, 37, 38, 39, 40, 41, 42, 43, 44, 45] (by decide +kernel) (by decide +kernel)
set_option maxRecDepth 20000 in
theorem gX5_come_X5_gainOf : GoodIn wsX5_come (wsV RX5 92 RX5 yX5_gainOf wsX5_gainOf) := goodIn_app (goodIn_of _ (by decide +kernel)) ggX5_come_X5_gainOf
set_option maxRecDepth 20000 in
theorem ggX5_come_X5_isAlone : GoodIn wsX5_come wsX5_isAlone := goodIn_r _ [24, 11, 1, 29, 30, 31, 32, 33, 34, 35, 36, 37, 38, 39, 40, 41, 42, 43, 44, 45] (by decide +kernel) (by decide +kernel)
set_option maxRecDepth 20000 in
theorem gX5_come_X5_isAlone : GoodIn wsX5_come (wsV RX5 96 RX5 yX5_isAlone wsX5_isAlone) := goodIn_app (goodIn_of _ (by decide +kernel)) ggX5_come_X5_isAlone
set_option maxRecDepth 20000 in
theorem ggX5_come_X5_isEmpty : GoodIn wsX5_come wsX5_isEmpty := goodIn_r _ [28, 11, 1, 29, 30, 31, 32, 33, 34, 35, 36, 37, 38, 39, 40, 41, 42, 43, 44, 45] (by decide +kernel) (by decide +kernel)
set_option maxRecDepth 20000 in
theorem gX5_come_X5_isEmpty : GoodIn wsX5_come (wsV RX5 99 RX5 yX5_isEmpty wsX5_isEmpty) := goodIn_app (goodIn_of _ (by decide +kernel)) ggX5_come_X5_isEmpty
theorem dX5_come_0 : decode cX5_come 0 = .ok (.iconst (-1), 1) := by decide +kernel
theorem dX5_come_1 : decode cX5_come 1 = .ok (.istore_n 2, 1) := by decide +kernel
theorem dX5_come_2 : decode cX5_come 2 = .ok (.lconst 0, 1) := by decide +kernel
theorem dX5_come_3 : decode cX5_come 3 = .ok (.lstore_n 3, 1) := by decide +kernel
theorem dX5_come_4 : decode cX5_come 4 = .ok (.iconst 0, 1) := by decide +kernel
theorem dX5_come_5 : decode cX5_come 5 = .ok (.istore 5, 2) := by decide +kernel
theorem dX5_come_7 : decode cX5_come 7 = .ok (.iload 5, 2) := by decide +kernel
theorem dX5_come_9 : decode cX5_come 9 = .ok (.bipush 40, 2) := by decide +kernel
theorem dX5_come_11 : decode cX5_come 11 = .ok (.if_icmp .ge 67, 3) := by decide +kernel
theorem dX5_come_14 : decode cX5_come 14 = .ok (.iload 5, 2) := by decide +kernel
theorem dX5_come_16 : decode cX5_come 16 = .ok (.aload_n 0, 1) := by decide +kernel
theorem dX5_come_17 : decode cX5_come 17 = .ok (.getfield 24, 3) := by decide +kernel
theorem dX5_come_20 : decode cX5_come 20 = .ok (.iload_n 1, 1) := by decide +kernel
theorem dX5_come_21 : decode cX5_come 21 = .ok (.iaload, 1) := by decide +kernel
theorem dX5_come_22 : decode cX5_come 22 = .ok (.if_icmp .eq 50, 3) := by decide +kernel
theorem dX5_come_25 : decode cX5_come 25 = .ok (.aload_n 0, 1) := by decide +kernel
theorem dX5_come_26 : decode cX5_come 26 = .ok (.iload_n 1, 1) := by decide +kernel
theorem dX5_come_27 : decode cX5_come 27 = .ok (.iload 5, 2) := by decide +kernel
theorem dX5_come_29 : decode cX5_come 29 = .ok (.invokevirtual 88, 3) := by decide +kernel
theorem dX5_come_32 : decode cX5_come 32 = .ok (.ifCond .eq 40, 3) := by decide +kernel
theorem dX5_come_35 : decode cX5_come 35 = .ok (.aload_n 0, 1) := by decide +kernel
theorem dX5_come_36 : decode cX5_come 36 = .ok (.iload_n 1, 1) := by decide +kernel
theorem dX5_come_37 : decode cX5_come 37 = .ok (.iload 5, 2) := by decide +kernel
theorem dX5_come_39 : decode cX5_come 39 = .ok (.invokevirtual 92, 3) := by decide +kernel
theorem dX5_come_42 : decode cX5_come 42 = .ok (.lstore 6, 2) := by decide +kernel
theorem dX5_come_44 : decode cX5_come 44 = .ok (.lload 6, 2) := by decide +kernel
theorem dX5_come_46 : decode cX5_come 46 = .ok (.lload_n 3, 1) := by decide +kernel
theorem dX5_come_47 : decode cX5_come 47 = .ok (.lcmp, 1) := by decide +kernel
theorem dX5_come_48 : decode cX5_come 48 = .ok (.ifCond .le 8, 3) := by decide +kernel
theorem dX5_come_51 : decode cX5_come 51 = .ok (.iload 5, 2) := by decide +kernel
theorem dX5_come_53 : decode cX5_come 53 = .ok (.goto 4, 3) := by decide +kernel
theorem dX5_come_56 : decode cX5_come 56 = .ok (.iload_n 2, 1) := by decide +kernel
theorem dX5_come_57 : decode cX5_come 57 = .ok (.istore_n 2, 1) := by decide +kernel
theorem dX5_come_58 : decode cX5_come 58 = .ok (.lload 6, 2) := by decide +kernel
theorem dX5_come_60 : decode cX5_come 60 = .ok (.lload_n 3, 1) := by decide +kernel
theorem dX5_come_61 : decode cX5_come 61 = .ok (.lcmp, 1) := by decide +kernel
theorem dX5_come_62 : decode cX5_come 62 = .ok (.ifCond .le 8, 3) := by decide +kernel
theorem dX5_come_65 : decode cX5_come 65 = .ok (.lload 6, 2) := by decide +kernel
theorem dX5_come_67 : decode cX5_come 67 = .ok (.goto 4, 3) := by decide +kernel
theorem dX5_come_70 : decode cX5_come 70 = .ok (.lload_n 3, 1) := by decide +kernel
theorem dX5_come_71 : decode cX5_come 71 = .ok (.lstore_n 3, 1) := by decide +kernel
theorem dX5_come_72 : decode cX5_come 72 = .ok (.iinc 5 1, 3) := by decide +kernel
theorem dX5_come_75 : decode cX5_come 75 = .ok (.goto (-68), 3) := by decide +kernel
theorem dX5_come_78 : decode cX5_come 78 = .ok (.aload_n 0, 1) := by decide +kernel
theorem dX5_come_79 : decode cX5_come 79 = .ok (.iload_n 1, 1) := by decide +kernel
theorem dX5_come_80 : decode cX5_come 80 = .ok (.invokevirtual 96, 3) := by decide +kernel
theorem dX5_come_83 : decode cX5_come 83 = .ok (.ifCond .ne 58, 3) := by decide +kernel
theorem dX5_come_86 : decode cX5_come 86 = .ok (.iconst 0, 1) := by decide +kernel
theorem dX5_come_87 : decode cX5_come 87 = .ok (.istore 5, 2) := by decide +kernel
theorem dX5_come_89 : decode cX5_come 89 = .ok (.aload_n 0, 1) := by decide +kernel
theorem dX5_come_90 : decode cX5_come 90 = .ok (.iload 5, 2) := by decide +kernel
theorem dX5_come_92 : decode cX5_come 92 = .ok (.invokevirtual 99, 3) := by decide +kernel
theorem dX5_come_95 : decode cX5_come 95 = .ok (.ifCond .ne 9, 3) := by decide +kernel
theorem dX5_come_98 : decode cX5_come 98 = .ok (.iinc 5 1, 3) := by decide +kernel
theorem dX5_come_101 : decode cX5_come 101 = .ok (.goto (-12), 3) := by decide +kernel
theorem dX5_come_104 : decode cX5_come 104 = .ok (.aload_n 0, 1) := by decide +kernel
theorem dX5_come_105 : decode cX5_come 105 = .ok (.iload_n 1, 1) := by decide +kernel
theorem dX5_come_106 : decode cX5_come 106 = .ok (.iload 5, 2) := by decide +kernel
theorem dX5_come_108 : decode cX5_come 108 = .ok (.invokevirtual 92, 3) := by decide +kernel
theorem dX5_come_111 : decode cX5_come 111 = .ok (.lstore 6, 2) := by decide +kernel
theorem dX5_come_113 : decode cX5_come 113 = .ok (.lload 6, 2) := by decide +kernel
theorem dX5_come_115 : decode cX5_come 115 = .ok (.lload_n 3, 1) := by decide +kernel
theorem dX5_come_116 : decode cX5_come 116 = .ok (.lcmp, 1) := by decide +kernel
theorem dX5_come_117 : decode cX5_come 117 = .ok (.ifCond .le 8, 3) := by decide +kernel
theorem dX5_come_120 : decode cX5_come 120 = .ok (.iload 5, 2) := by decide +kernel
theorem dX5_come_122 : decode cX5_come 122 = .ok (.goto 4, 3) := by decide +kernel
theorem dX5_come_125 : decode cX5_come 125 = .ok (.iload_n 2, 1) := by decide +kernel
theorem dX5_come_126 : decode cX5_come 126 = .ok (.istore_n 2, 1) := by decide +kernel
theorem dX5_come_127 : decode cX5_come 127 = .ok (.lload 6, 2) := by decide +kernel
theorem dX5_come_129 : decode cX5_come 129 = .ok (.lload_n 3, 1) := by decide +kernel
theorem dX5_come_130 : decode cX5_come 130 = .ok (.lcmp, 1) := by decide +kernel
theorem dX5_come_131 : decode cX5_come 131 = .ok (.ifCond .le 8, 3) := by decide +kernel
theorem dX5_come_134 : decode cX5_come 134 = .ok (.lload 6, 2) := by decide +kernel
theorem dX5_come_136 : decode cX5_come 136 = .ok (.goto 4, 3) := by decide +kernel
theorem dX5_come_139 : decode cX5_come 139 = .ok (.lload_n 3, 1) := by decide +kernel
theorem dX5_come_140 : decode cX5_come 140 = .ok (.lstore_n 3, 1) := by decide +kernel
theorem dX5_come_141 : decode cX5_come 141 = .ok (.iload_n 2, 1) := by decide +kernel
theorem dX5_come_142 : decode cX5_come 142 = .ok (.ifCond .ge 5, 3) := by decide +kernel
theorem dX5_come_145 : decode cX5_come 145 = .ok (.iconst 0, 1) := by decide +kernel
theorem dX5_come_146 : decode cX5_come 146 = .ok (.ireturn, 1) := by decide +kernel
theorem dX5_come_147 : decode cX5_come 147 = .ok (.aload_n 0, 1) := by decide +kernel
theorem dX5_come_148 : decode cX5_come 148 = .ok (.getfield 54, 3) := by decide +kernel
theorem dX5_come_151 : decode cX5_come 151 = .ok (.sipush 400, 3) := by decide +kernel
theorem dX5_come_154 : decode cX5_come 154 = .ok (.if_icmp .ge 75, 3) := by decide +kernel
theorem dX5_come_157 : decode cX5_come 157 = .ok (.aload_n 0, 1) := by decide +kernel
theorem dX5_come_158 : decode cX5_come 158 = .ok (.getfield 39, 3) := by decide +kernel
theorem dX5_come_161 : decode cX5_come 161 = .ok (.iconst 4, 1) := by decide +kernel
theorem dX5_come_162 : decode cX5_come 162 = .ok (.aload_n 0, 1) := by decide +kernel
theorem dX5_come_163 : decode cX5_come 163 = .ok (.getfield 54, 3) := by decide +kernel
theorem dX5_come_166 : decode cX5_come 166 = .ok (.imul, 1) := by decide +kernel
theorem dX5_come_167 : decode cX5_come 167 = .ok (.aload_n 0, 1) := by decide +kernel
theorem dX5_come_168 : decode cX5_come 168 = .ok (.getfield 51, 3) := by decide +kernel
theorem dX5_come_171 : decode cX5_come 171 = .ok (.iastore, 1) := by decide +kernel
theorem dX5_come_172 : decode cX5_come 172 = .ok (.aload_n 0, 1) := by decide +kernel
theorem dX5_come_173 : decode cX5_come 173 = .ok (.getfield 39, 3) := by decide +kernel
theorem dX5_come_176 : decode cX5_come 176 = .ok (.iconst 4, 1) := by decide +kernel
theorem dX5_come_177 : decode cX5_come 177 = .ok (.aload_n 0, 1) := by decide +kernel
theorem dX5_come_178 : decode cX5_come 178 = .ok (.getfield 54, 3) := by decide +kernel
theorem dX5_come_181 : decode cX5_come 181 = .ok (.imul, 1) := by decide +kernel
theorem dX5_come_182 : decode cX5_come 182 = .ok (.iconst 1, 1) := by decide +kernel
theorem dX5_come_183 : decode cX5_come 183 = .ok (.iadd, 1) := by decide +kernel
theorem dX5_come_184 : decode cX5_come 184 = .ok (.iload_n 1, 1) := by decide +kernel
theorem dX5_come_185 : decode cX5_come 185 = .ok (.iastore, 1) := by decide +kernel
theorem dX5_come_186 : decode cX5_come 186 = .ok (.aload_n 0, 1) := by decide +kernel
theorem dX5_come_187 : decode cX5_come 187 = .ok (.getfield 39, 3) := by decide +kernel
theorem dX5_come_190 : decode cX5_come 190 = .ok (.iconst 4, 1) := by decide +kernel
theorem dX5_come_191 : decode cX5_come 191 = .ok (.aload_n 0, 1) := by decide +kernel
theorem dX5_come_192 : decode cX5_come 192 = .ok (.getfield 54, 3) := by decide +kernel
theorem dX5_come_195 : decode cX5_come 195 = .ok (.imul, 1) := by decide +kernel
theorem dX5_come_196 : decode cX5_come 196 = .ok (.iconst 2, 1) := by decide +kernel
theorem dX5_come_197 : decode cX5_come 197 = .ok (.iadd, 1) := by decide +kernel
theorem dX5_come_198 : decode cX5_come 198 = .ok (.aload_n 0, 1) := by decide +kernel
theorem dX5_come_199 : decode cX5_come 199 = .ok (.getfield 24, 3) := by decide +kernel
theorem dX5_come_202 : decode cX5_come 202 = .ok (.iload_n 1, 1) := by decide +kernel
theorem dX5_come_203 : decode cX5_come 203 = .ok (.iaload, 1) := by decide +kernel
theorem dX5_come_204 : decode cX5_come 204 = .ok (.iastore, 1) := by decide +kernel
theorem dX5_come_205 : decode cX5_come 205 = .ok (.aload_n 0, 1) := by decide +kernel
theorem dX5_come_206 : decode cX5_come 206 = .ok (.getfield 39, 3) := by decide +kernel
theorem dX5_come_209 : decode cX5_come 209 = .ok (.iconst 4, 1) := by decide +kernel
theorem dX5_come_210 : decode cX5_come 210 = .ok (.aload_n 0, 1) := by decide +kernel
theorem dX5_come_211 : decode cX5_come 211 = .ok (.getfield 54, 3) := by decide +kernel
theorem dX5_come_214 : decode cX5_come 214 = .ok (.imul, 1) := by decide +kernel
theorem dX5_come_215 : decode cX5_come 215 = .ok (.iconst 3, 1) := by decide +kernel
theorem dX5_come_216 : decode cX5_come 216 = .ok (.iadd, 1) := by decide +kernel
theorem dX5_come_217 : decode cX5_come 217 = .ok (.iload_n 2, 1) := by decide +kernel
theorem dX5_come_218 : decode cX5_come 218 = .ok (.iastore, 1) := by decide +kernel
theorem dX5_come_219 : decode cX5_come 219 = .ok (.aload_n 0, 1) := by decide +kernel
theorem dX5_come_220 : decode cX5_come 220 = .ok (.getfield 42, 3) := by decide +kernel
theorem dX5_come_223 : decode cX5_come 223 = .ok (.aload_n 0, 1) := by decide +kernel
theorem dX5_come_224 : decode cX5_come 224 = .ok (.getfield 54, 3) := by decide +kernel
theorem dX5_come_227 : decode cX5_come 227 = .ok (.lload_n 3, 1) := by decide +kernel
theorem dX5_come_228 : decode cX5_come 228 = .ok (.lastore, 1) := by decide +kernel
theorem dX5_come_229 : decode cX5_come 229 = .ok (.aload_n 0, 1) := by decide +kernel
theorem dX5_come_230 : decode cX5_come 230 = .ok (.dup, 1) := by decide +kernel
theorem dX5_come_231 : decode cX5_come 231 = .ok (.getfield 54, 3) := by decide +kernel
theorem dX5_come_234 : decode cX5_come 234 = .ok (.iconst 1, 1) := by decide +kernel
theorem dX5_come_235 : decode cX5_come 235 = .ok (.iadd, 1) := by decide +kernel
theorem dX5_come_236 : decode cX5_come 236 = .ok (.putfield 54, 3) := by decide +kernel
theorem dX5_come_239 : decode cX5_come 239 = .ok (.aload_n 0, 1) := by decide +kernel
theorem dX5_come_240 : decode cX5_come 240 = .ok (.getfield 24, 3) := by decide +kernel
theorem dX5_come_243 : decode cX5_come 243 = .ok (.iload_n 1, 1) := by decide +kernel
theorem dX5_come_244 : decode cX5_come 244 = .ok (.iload_n 2, 1) := by decide +kernel
theorem dX5_come_245 : decode cX5_come 245 = .ok (.iastore, 1) := by decide +kernel
theorem dX5_come_246 : decode cX5_come 246 = .ok (.iconst 1, 1) := by decide +kernel
theorem dX5_come_247 : decode cX5_come 247 = .ok (.ireturn, 1) := by decide +kernel
theorem dX5_number_0 : decode cX5_number 0 = .ok (.iconst 0, 1) := by decide +kernel
theorem dX5_number_1 : decode cX5_number 1 = .ok (.istore_n 1, 1) := by decide +kernel
theorem dX5_number_2 : decode cX5_number 2 = .ok (.iconst 0, 1) := by decide +kernel
theorem dX5_number_3 : decode cX5_number 3 = .ok (.istore_n 2, 1) := by decide +kernel
theorem dX5_number_4 : decode cX5_number 4 = .ok (.iload_n 2, 1) := by decide +kernel
theorem dX5_number_5 : decode cX5_number 5 = .ok (.aload_n 0, 1) := by decide +kernel
theorem dX5_number_6 : decode cX5_number 6 = .ok (.getfield 70, 3) := by decide +kernel
theorem dX5_number_9 : decode cX5_number 9 = .ok (.if_icmp .ge 75, 3) := by decide +kernel
theorem dX5_number_12 : decode cX5_number 12 = .ok (.aload_n 0, 1) := by decide +kernel
theorem dX5_number_13 : decode cX5_number 13 = .ok (.getfield 24, 3) := by decide +kernel
theorem dX5_number_16 : decode cX5_number 16 = .ok (.iload_n 2, 1) := by decide +kernel
theorem dX5_number_17 : decode cX5_number 17 = .ok (.iaload, 1) := by decide +kernel
theorem dX5_number_18 : decode cX5_number 18 = .ok (.istore_n 3, 1) := by decide +kernel
theorem dX5_number_19 : decode cX5_number 19 = .ok (.iload_n 3, 1) := by decide +kernel
theorem dX5_number_20 : decode cX5_number 20 = .ok (.bipush 40, 2) := by decide +kernel
theorem dX5_number_22 : decode cX5_number 22 = .ok (.if_icmp .ge 56, 3) := by decide +kernel
theorem dX5_number_25 : decode cX5_number 25 = .ok (.iload_n 2, 1) := by decide +kernel
theorem dX5_number_26 : decode cX5_number 26 = .ok (.istore 4, 2) := by decide +kernel
theorem dX5_number_28 : decode cX5_number 28 = .ok (.iload 4, 2) := by decide +kernel
theorem dX5_number_30 : decode cX5_number 30 = .ok (.aload_n 0, 1) := by decide +kernel
theorem dX5_number_31 : decode cX5_number 31 = .ok (.getfield 70, 3) := by decide +kernel
theorem dX5_number_34 : decode cX5_number 34 = .ok (.if_icmp .ge 41, 3) := by decide +kernel
theorem dX5_number_37 : decode cX5_number 37 = .ok (.aload_n 0, 1) := by decide +kernel
theorem dX5_number_38 : decode cX5_number 38 = .ok (.getfield 24, 3) := by decide +kernel
theorem dX5_number_41 : decode cX5_number 41 = .ok (.iload 4, 2) := by decide +kernel
theorem dX5_number_43 : decode cX5_number 43 = .ok (.aload_n 0, 1) := by decide +kernel
theorem dX5_number_44 : decode cX5_number 44 = .ok (.getfield 24, 3) := by decide +kernel
theorem dX5_number_47 : decode cX5_number 47 = .ok (.iload 4, 2) := by decide +kernel
theorem dX5_number_49 : decode cX5_number 49 = .ok (.iaload, 1) := by decide +kernel
theorem dX5_number_50 : decode cX5_number 50 = .ok (.iload_n 3, 1) := by decide +kernel
theorem dX5_number_51 : decode cX5_number 51 = .ok (.if_icmp .ne 10, 3) := by decide +kernel
theorem dX5_number_54 : decode cX5_number 54 = .ok (.bipush 40, 2) := by decide +kernel
theorem dX5_number_56 : decode cX5_number 56 = .ok (.iload_n 1, 1) := by decide +kernel
theorem dX5_number_57 : decode cX5_number 57 = .ok (.iadd, 1) := by decide +kernel
theorem dX5_number_58 : decode cX5_number 58 = .ok (.goto 10, 3) := by decide +kernel
theorem dX5_number_61 : decode cX5_number 61 = .ok (.aload_n 0, 1) := by decide +kernel
theorem dX5_number_62 : decode cX5_number 62 = .ok (.getfield 24, 3) := by decide +kernel
theorem dX5_number_65 : decode cX5_number 65 = .ok (.iload 4, 2) := by decide +kernel
theorem dX5_number_67 : decode cX5_number 67 = .ok (.iaload, 1) := by decide +kernel
theorem dX5_number_68 : decode cX5_number 68 = .ok (.iastore, 1) := by decide +kernel
theorem dX5_number_69 : decode cX5_number 69 = .ok (.iinc 4 1, 3) := by decide +kernel
theorem dX5_number_72 : decode cX5_number 72 = .ok (.goto (-44), 3) := by decide +kernel
theorem dX5_number_75 : decode cX5_number 75 = .ok (.iinc 1 1, 3) := by decide +kernel
theorem dX5_number_78 : decode cX5_number 78 = .ok (.iinc 2 1, 3) := by decide +kernel
theorem dX5_number_81 : decode cX5_number 81 = .ok (.goto (-77), 3) := by decide +kernel
theorem dX5_number_84 : decode cX5_number 84 = .ok (.iconst 0, 1) := by decide +kernel
theorem dX5_number_85 : decode cX5_number 85 = .ok (.istore_n 2, 1) := by decide +kernel
theorem dX5_number_86 : decode cX5_number 86 = .ok (.iload_n 2, 1) := by decide +kernel
theorem dX5_number_87 : decode cX5_number 87 = .ok (.aload_n 0, 1) := by decide +kernel
theorem dX5_number_88 : decode cX5_number 88 = .ok (.getfield 70, 3) := by decide +kernel
theorem dX5_number_91 : decode cX5_number 91 = .ok (.if_icmp .ge 20, 3) := by decide +kernel
theorem dX5_number_94 : decode cX5_number 94 = .ok (.aload_n 0, 1) := by decide +kernel
theorem dX5_number_95 : decode cX5_number 95 = .ok (.getfield 24, 3) := by decide +kernel
theorem dX5_number_98 : decode cX5_number 98 = .ok (.iload_n 2, 1) := by decide +kernel
theorem dX5_number_99 : decode cX5_number 99 = .ok (.dup2, 1) := by decide +kernel
theorem dX5_number_100 : decode cX5_number 100 = .ok (.iaload, 1) := by decide +kernel
theorem dX5_number_101 : decode cX5_number 101 = .ok (.bipush 40, 2) := by decide +kernel
theorem dX5_number_103 : decode cX5_number 103 = .ok (.isub, 1) := by decide +kernel
theorem dX5_number_104 : decode cX5_number 104 = .ok (.iastore, 1) := by decide +kernel
theorem dX5_number_105 : decode cX5_number 105 = .ok (.iinc 2 1, 3) := by decide +kernel
theorem dX5_number_108 : decode cX5_number 108 = .ok (.goto (-22), 3) := by decide +kernel
theorem dX5_number_111 : decode cX5_number 111 = .ok (.iload_n 1, 1) := by decide +kernel
theorem dX5_number_112 : decode cX5_number 112 = .ok (.ireturn, 1) := by decide +kernel
theorem dX5_shrink_0 : decode cX5_shrink 0 = .ok (.iconst 0, 1) := by decide +kernel
theorem dX5_shrink_1 : decode cX5_shrink 1 = .ok (.istore_n 2, 1) := by decide +kernel
theorem dX5_shrink_2 : decode cX5_shrink 2 = .ok (.iload_n 2, 1) := by decide +kernel
theorem dX5_shrink_3 : decode cX5_shrink 3 = .ok (.sipush 1600, 3) := by decide +kernel
theorem dX5_shrink_6 : decode cX5_shrink 6 = .ok (.if_icmp .ge 16, 3) := by decide +kernel
theorem dX5_shrink_9 : decode cX5_shrink 9 = .ok (.aload_n 0, 1) := by decide +kernel
theorem dX5_shrink_10 : decode cX5_shrink 10 = .ok (.getfield 27, 3) := by decide +kernel
theorem dX5_shrink_13 : decode cX5_shrink 13 = .ok (.iload_n 2, 1) := by decide +kernel
theorem dX5_shrink_14 : decode cX5_shrink 14 = .ok (.lconst 0, 1) := by decide +kernel
theorem dX5_shrink_15 : decode cX5_shrink 15 = .ok (.lastore, 1) := by decide +kernel
theorem dX5_shrink_16 : decode cX5_shrink 16 = .ok (.iinc 2 1, 3) := by decide +kernel
theorem dX5_shrink_19 : decode cX5_shrink 19 = .ok (.goto (-17), 3) := by decide +kernel
theorem dX5_shrink_22 : decode cX5_shrink 22 = .ok (.iconst 0, 1) := by decide +kernel
theorem dX5_shrink_23 : decode cX5_shrink 23 = .ok (.istore_n 2, 1) := by decide +kernel
theorem dX5_shrink_24 : decode cX5_shrink 24 = .ok (.iload_n 2, 1) := by decide +kernel
theorem dX5_shrink_25 : decode cX5_shrink 25 = .ok (.aload_n 0, 1) := by decide +kernel
theorem dX5_shrink_26 : decode cX5_shrink 26 = .ok (.getfield 70, 3) := by decide +kernel
theorem dX5_shrink_29 : decode cX5_shrink 29 = .ok (.if_icmp .ge 103, 3) := by decide +kernel
theorem dX5_shrink_32 : decode cX5_shrink 32 = .ok (.iconst 0, 1) := by decide +kernel
theorem dX5_shrink_33 : decode cX5_shrink 33 = .ok (.istore_n 3, 1) := by decide +kernel
theorem dX5_shrink_34 : decode cX5_shrink 34 = .ok (.iload_n 3, 1) := by decide +kernel
theorem dX5_shrink_35 : decode cX5_shrink 35 = .ok (.iload_n 2, 1) := by decide +kernel
theorem dX5_shrink_36 : decode cX5_shrink 36 = .ok (.if_icmp .gt 90, 3) := by decide +kernel
theorem dX5_shrink_39 : decode cX5_shrink 39 = .ok (.aload_n 0, 1) := by decide +kernel
theorem dX5_shrink_40 : decode cX5_shrink 40 = .ok (.getfield 24, 3) := by decide +kernel
theorem dX5_shrink_43 : decode cX5_shrink 43 = .ok (.iload_n 2, 1) := by decide +kernel
theorem dX5_shrink_44 : decode cX5_shrink 44 = .ok (.iaload, 1) := by decide +kernel
theorem dX5_shrink_45 : decode cX5_shrink 45 = .ok (.istore 4, 2) := by decide +kernel
theorem dX5_shrink_47 : decode cX5_shrink 47 = .ok (.aload_n 0, 1) := by decide +kernel
theorem dX5_shrink_48 : decode cX5_shrink 48 = .ok (.getfield 24, 3) := by decide +kernel
theorem dX5_shrink_51 : decode cX5_shrink 51 = .ok (.iload_n 3, 1) := by decide +kernel
theorem dX5_shrink_52 : decode cX5_shrink 52 = .ok (.iaload, 1) := by decide +kernel
theorem dX5_shrink_53 : decode cX5_shrink 53 = .ok (.istore 5, 2) := by decide +kernel
theorem dX5_shrink_55 : decode cX5_shrink 55 = .ok (.aload_n 0, 1) := by decide +kernel
theorem dX5_shrink_56 : decode cX5_shrink 56 = .ok (.getfield 27, 3) := by decide +kernel
theorem dX5_shrink_59 : decode cX5_shrink 59 = .ok (.bipush 40, 2) := by decide +kernel
theorem dX5_shrink_61 : decode cX5_shrink 61 = .ok (.iload 4, 2) := by decide +kernel
theorem dX5_shrink_63 : decode cX5_shrink 63 = .ok (.imul, 1) := by decide +kernel
theorem dX5_shrink_64 : decode cX5_shrink 64 = .ok (.iload 5, 2) := by decide +kernel
theorem dX5_shrink_66 : decode cX5_shrink 66 = .ok (.iadd, 1) := by decide +kernel
theorem dX5_shrink_67 : decode cX5_shrink 67 = .ok (.dup2, 1) := by decide +kernel
theorem dX5_shrink_68 : decode cX5_shrink 68 = .ok (.laload, 1) := by decide +kernel
theorem dX5_shrink_69 : decode cX5_shrink 69 = .ok (.aload_n 0, 1) := by decide +kernel
theorem dX5_shrink_70 : decode cX5_shrink 70 = .ok (.getfield 20, 3) := by decide +kernel
theorem dX5_shrink_73 : decode cX5_shrink 73 = .ok (.bipush 40, 2) := by decide +kernel
theorem dX5_shrink_75 : decode cX5_shrink 75 = .ok (.iload_n 2, 1) := by decide +kernel
theorem dX5_shrink_76 : decode cX5_shrink 76 = .ok (.imul, 1) := by decide +kernel
theorem dX5_shrink_77 : decode cX5_shrink 77 = .ok (.iload_n 3, 1) := by decide +kernel
theorem dX5_shrink_78 : decode cX5_shrink 78 = .ok (.iadd, 1) := by decide +kernel
theorem dX5_shrink_79 : decode cX5_shrink 79 = .ok (.laload, 1) := by decide +kernel
theorem dX5_shrink_80 : decode cX5_shrink 80 = .ok (.ladd, 1) := by decide +kernel
theorem dX5_shrink_81 : decode cX5_shrink 81 = .ok (.lastore, 1) := by decide +kernel
theorem dX5_shrink_82 : decode cX5_shrink 82 = .ok (.aload_n 0, 1) := by decide +kernel
theorem dX5_shrink_83 : decode cX5_shrink 83 = .ok (.getfield 27, 3) := by decide +kernel
theorem dX5_shrink_86 : decode cX5_shrink 86 = .ok (.bipush 40, 2) := by decide +kernel
theorem dX5_shrink_88 : decode cX5_shrink 88 = .ok (.iload 5, 2) := by decide +kernel
theorem dX5_shrink_90 : decode cX5_shrink 90 = .ok (.imul, 1) := by decide +kernel
theorem dX5_shrink_91 : decode cX5_shrink 91 = .ok (.iload 4, 2) := by decide +kernel
theorem dX5_shrink_93 : decode cX5_shrink 93 = .ok (.iadd, 1) := by decide +kernel
theorem dX5_shrink_94 : decode cX5_shrink 94 = .ok (.dup2, 1) := by decide +kernel
theorem dX5_shrink_95 : decode cX5_shrink 95 = .ok (.laload, 1) := by decide +kernel
theorem dX5_shrink_96 : decode cX5_shrink 96 = .ok (.iload 4, 2) := by decide +kernel
theorem dX5_shrink_98 : decode cX5_shrink 98 = .ok (.iload 5, 2) := by decide +kernel
theorem dX5_shrink_100 : decode cX5_shrink 100 = .ok (.if_icmp .eq 17, 3) := by decide +kernel
theorem dX5_shrink_103 : decode cX5_shrink 103 = .ok (.aload_n 0, 1) := by decide +kernel
theorem dX5_shrink_104 : decode cX5_shrink 104 = .ok (.getfield 20, 3) := by decide +kernel
theorem dX5_shrink_107 : decode cX5_shrink 107 = .ok (.bipush 40, 2) := by decide +kernel
theorem dX5_shrink_109 : decode cX5_shrink 109 = .ok (.iload_n 2, 1) := by decide +kernel
theorem dX5_shrink_110 : decode cX5_shrink 110 = .ok (.imul, 1) := by decide +kernel
theorem dX5_shrink_111 : decode cX5_shrink 111 = .ok (.iload_n 3, 1) := by decide +kernel
theorem dX5_shrink_112 : decode cX5_shrink 112 = .ok (.iadd, 1) := by decide +kernel
theorem dX5_shrink_113 : decode cX5_shrink 113 = .ok (.laload, 1) := by decide +kernel
theorem dX5_shrink_114 : decode cX5_shrink 114 = .ok (.goto 4, 3) := by decide +kernel
theorem dX5_shrink_117 : decode cX5_shrink 117 = .ok (.lconst 0, 1) := by decide +kernel
theorem dX5_shrink_118 : decode cX5_shrink 118 = .ok (.ladd, 1) := by decide +kernel
theorem dX5_shrink_119 : decode cX5_shrink 119 = .ok (.lastore, 1) := by decide +kernel
theorem dX5_shrink_120 : decode cX5_shrink 120 = .ok (.iinc 3 1, 3) := by decide +kernel
theorem dX5_shrink_123 : decode cX5_shrink 123 = .ok (.goto (-89), 3) := by decide +kernel
theorem dX5_shrink_126 : decode cX5_shrink 126 = .ok (.iinc 2 1, 3) := by decide +kernel
theorem dX5_shrink_129 : decode cX5_shrink 129 = .ok (.goto (-105), 3) := by decide +kernel
theorem dX5_shrink_132 : decode cX5_shrink 132 = .ok (.iconst 0, 1) := by decide +kernel
theorem dX5_shrink_133 : decode cX5_shrink 133 = .ok (.istore_n 2, 1) := by decide +kernel
theorem dX5_shrink_134 : decode cX5_shrink 134 = .ok (.iload_n 2, 1) := by decide +kernel
theorem dX5_shrink_135 : decode cX5_shrink 135 = .ok (.sipush 1600, 3) := by decide +kernel
theorem dX5_shrink_138 : decode cX5_shrink 138 = .ok (.if_icmp .ge 21, 3) := by decide +kernel
theorem dX5_shrink_141 : decode cX5_shrink 141 = .ok (.aload_n 0, 1) := by decide +kernel
theorem dX5_shrink_142 : decode cX5_shrink 142 = .ok (.getfield 20, 3) := by decide +kernel
theorem dX5_shrink_145 : decode cX5_shrink 145 = .ok (.iload_n 2, 1) := by decide +kernel
theorem dX5_shrink_146 : decode cX5_shrink 146 = .ok (.aload_n 0, 1) := by decide +kernel
theorem dX5_shrink_147 : decode cX5_shrink 147 = .ok (.getfield 27, 3) := by decide +kernel
theorem dX5_shrink_150 : decode cX5_shrink 150 = .ok (.iload_n 2, 1) := by decide +kernel
theorem dX5_shrink_151 : decode cX5_shrink 151 = .ok (.laload, 1) := by decide +kernel
theorem dX5_shrink_152 : decode cX5_shrink 152 = .ok (.lastore, 1) := by decide +kernel
theorem dX5_shrink_153 : decode cX5_shrink 153 = .ok (.iinc 2 1, 3) := by decide +kernel
theorem dX5_shrink_156 : decode cX5_shrink 156 = .ok (.goto (-22), 3) := by decide +kernel
theorem dX5_shrink_159 : decode cX5_shrink 159 = .ok (.aload_n 0, 1) := by decide +kernel
theorem dX5_shrink_160 : decode cX5_shrink 160 = .ok (.iload_n 1, 1) := by decide +kernel
theorem dX5_shrink_161 : decode cX5_shrink 161 = .ok (.putfield 70, 3) := by decide +kernel
theorem dX5_shrink_164 : decode cX5_shrink 164 = .ok (.return_, 1) := by decide +kernel
set_option maxRecDepth 20000 in
theorem ggX5_run_X5_forget : GoodIn wsX5_run wsX5_forget := goodIn_r _ [14, 6, 2, 72, 73, 74, 75, 76, 77, 78, 79, 80, 81, 82, 83, 84, 85, 86, 87, 88] (by decide +kernel) (by decide +kernel)
set_option maxRecDepth 20000 in
theorem gX5_run_X5_forget : GoodIn wsX5_run (wsV RX5 57 RX5 yX5_forget wsX5_forget) := goodIn_app (goodIn_of _ (by decide +kernel)) ggX5_run_X5_forget
set_option maxRecDepth 20000 in
theorem ggX5_run_X5_first : GoodIn wsX5_run wsX5_first := goodIn_r _ [18, 8, 3, 19, 20, 72, 73, 74, 75, 76, 77, 78, 79, 80, 81, 82, 83, 84, 85, 86, 87, 88] (by decide +kernel) (by decide +kernel)
set_option maxRecDepth 20000 in
theorem gX5_run_X5_first : GoodIn wsX5_run (wsV RX5 102 RX5 yX5_first wsX5_first) := goodIn_app (goodIn_of _ (by decide +kernel)) ggX5_run_X5_first
set_option maxRecDepth 20000 in
theorem ggX5_run_X5_prepare : GoodIn wsX5_run wsX5_prepare := goodIn_r _ [24, 25, 3, 26, 27, 28, 29, 13, 30, 19, 31, 32, 33, 34, 72, 73, 74, 75, 76, 77, 78, 79, 80, 81, 82, 83, 84, 85, 86, 87, 88] (by decide +kernel) (by decide +kernel)
set_option maxRecDepth 20000 in
theorem gX5_run_X5_prepare : GoodIn wsX5_run (wsV RX5 105 RX5 yX5_prepare wsX5_prepare) := goodIn_app (goodIn_of _ (by decide +kernel)) ggX5_run_X5_prepare
set_option maxRecDepth 20000 in
theorem ggX5_run_X5_come : GoodIn wsX5_run wsX5_come := goodIn_r _ [38, 4, 2, 39, 6, 40, 41, 42, 43, 13, 44, 3, 19, 45, 46, 47, 48, 26, 49, 25, 50, 51, 52, 53, 54, 55, 56, 57, 58, 72, 73, 74, 75, 76, 77, 78, 79, 80, 81, 82, 83, 84, 85, 86, 87, 88] (by decide +kernel) (by decide +kernel)
set_option maxRecDepth 20000 in
theorem gX5_run_X5_come : GoodIn wsX5_run (wsV RX5 108 RX5 yX5_come wsX5_come) := goodIn_app (goodIn_of _ (by decide +kernel)) ggX5_run_X5_come
set_option maxRecDepth 20000 in
theorem ggX5_run_X5_number : GoodIn wsX5_run wsX5_number := goodIn_r _ [62, 3, 4, 72, 73, 74, 75, 76, 77, 78, 79, 80, 81, 82, 83, 84, 85, 86, 87, 88] (by decide +kernel) (by decide +kernel)
set_option maxRecDepth 20000 in
theorem gX5_run_X5_number : GoodIn wsX5_run (wsV RX5 111 RX5 yX5_number wsX5_number) := goodIn_app (goodIn_of _ (by decide +kernel)) ggX5_run_X5_number
set_option maxRecDepth 20000 in
theorem ggX5_run_X5_modularityNow : GoodIn wsX5_run wsX5_modularityNow := goodIn_r _ [66, 3, 4, 26, 19, 49, 25, 72, 73, 74, 75, 76, 77, 78, 79, 80, 81, 82, 83, 84, 85, 86, 87, 88] (by decide +kernel) (by decide +kernel)
set_option maxRecDepth 20000 in
theorem gX5_run_X5_modularityNow : GoodIn wsX5_run (wsV RX5 115 RX5 yX5_modularityNow wsX5_modularityNow) := goodIn_app (goodIn_of _ (by decide +kernel)) ggX5_run_X5_modularityNow
set_option maxRecDepth 20000 in
theorem ggX5_run_X5_shrink : GoodIn wsX5_run wsX5_shrink := goodIn_r _ [70, 71, 3, 4, 19, 72, 73, 74, 75, 76, 77, 78, 79, 80, 81, 82, 83, 84, 85, 86, 87, 88] (by decide +kernel) (by decide +kernel)
set_option maxRecDepth 20000 in
theorem gX5_run_X5_shrink : GoodIn wsX5_run (wsV RX5 118 RX5 yX5_shrink wsX5_shrink) := goodIn_app (goodIn_of _ (by decide +kernel)) ggX5_run_X5_shrink
theorem dX5_run_0 : decode cX5_run 0 = .ok (.aload_n 0, 1) := by decide +kernel
theorem dX5_run_1 : decode cX5_run 1 = .ok (.iconst 0, 1) := by decide +kernel
theorem dX5_run_2 : decode cX5_run 2 = .ok (.putfield 48, 3) := by decide +kernel
theorem dX5_run_5 : decode cX5_run 5 = .ok (.aload_n 0, 1) := by decide +kernel
theorem dX5_run_6 : decode cX5_run 6 = .ok (.invokevirtual 57, 3) := by decide +kernel
theorem dX5_run_9 : decode cX5_run 9 = .ok (.aload_n 0, 1) := by decide +kernel
theorem dX5_run_10 : decode cX5_run 10 = .ok (.invokevirtual 102, 3) := by decide +kernel
theorem dX5_run_13 : decode cX5_run 13 = .ok (.iconst 1, 1) := by decide +kernel
theorem dX5_run_14 : decode cX5_run 14 = .ok (.istore_n 1, 1) := by decide +kernel
theorem dX5_run_15 : decode cX5_run 15 = .ok (.iload_n 1, 1) := by decide +kernel
theorem dX5_run_16 : decode cX5_run 16 = .ok (.ifCond .eq 277, 3) := by decide +kernel
theorem dX5_run_19 : decode cX5_run 19 = .ok (.aload_n 0, 1) := by decide +kernel
theorem dX5_run_20 : decode cX5_run 20 = .ok (.getfield 54, 3) := by decide +kernel
theorem dX5_run_23 : decode cX5_run 23 = .ok (.istore_n 2, 1) := by decide +kernel
theorem dX5_run_24 : decode cX5_run 24 = .ok (.iconst 0, 1) := by decide +kernel
theorem dX5_run_25 : decode cX5_run 25 = .ok (.istore_n 3, 1) := by decide +kernel
theorem dX5_run_26 : decode cX5_run 26 = .ok (.aload_n 0, 1) := by decide +kernel
theorem dX5_run_27 : decode cX5_run 27 = .ok (.invokevirtual 105, 3) := by decide +kernel
theorem dX5_run_30 : decode cX5_run 30 = .ok (.iconst 0, 1) := by decide +kernel
theorem dX5_run_31 : decode cX5_run 31 = .ok (.istore 4, 2) := by decide +kernel
theorem dX5_run_33 : decode cX5_run 33 = .ok (.iload 4, 2) := by decide +kernel
theorem dX5_run_35 : decode cX5_run 35 = .ok (.aload_n 0, 1) := by decide +kernel
theorem dX5_run_36 : decode cX5_run 36 = .ok (.getfield 70, 3) := by decide +kernel
theorem dX5_run_39 : decode cX5_run 39 = .ok (.if_icmp .ge 18, 3) := by decide +kernel
theorem dX5_run_42 : decode cX5_run 42 = .ok (.aload_n 0, 1) := by decide +kernel
theorem dX5_run_43 : decode cX5_run 43 = .ok (.getfield 24, 3) := by decide +kernel
theorem dX5_run_46 : decode cX5_run 46 = .ok (.iload 4, 2) := by decide +kernel
theorem dX5_run_48 : decode cX5_run 48 = .ok (.iload 4, 2) := by decide +kernel
theorem dX5_run_50 : decode cX5_run 50 = .ok (.iastore, 1) := by decide +kernel
theorem dX5_run_51 : decode cX5_run 51 = .ok (.iinc 4 1, 3) := by decide +kernel
theorem dX5_run_54 : decode cX5_run 54 = .ok (.goto (-21), 3) := by decide +kernel
theorem dX5_run_57 : decode cX5_run 57 = .ok (.iconst 1, 1) := by decide +kernel
theorem dX5_run_58 : decode cX5_run 58 = .ok (.istore 4, 2) := by decide +kernel
theorem dX5_run_60 : decode cX5_run 60 = .ok (.iload 4, 2) := by decide +kernel
theorem dX5_run_62 : decode cX5_run 62 = .ok (.ifCond .eq 41, 3) := by decide +kernel
theorem dX5_run_65 : decode cX5_run 65 = .ok (.iconst 0, 1) := by decide +kernel
theorem dX5_run_66 : decode cX5_run 66 = .ok (.istore 4, 2) := by decide +kernel
