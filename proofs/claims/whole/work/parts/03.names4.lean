theorem dX10_falls_54 : decode cX10_falls 54 = .ok (.istore 6, 2) := by decide +kernel
theorem dX10_falls_56 : decode cX10_falls 56 = .ok (.iconst 0, 1) := by decide +kernel
theorem dX10_falls_57 : decode cX10_falls 57 = .ok (.istore 7, 2) := by decide +kernel
theorem dX10_falls_59 : decode cX10_falls 59 = .ok (.iload 7, 2) := by decide +kernel
theorem dX10_falls_61 : decode cX10_falls 61 = .ok (.aload_n 0, 1) := by decide +kernel
theorem dX10_falls_62 : decode cX10_falls 62 = .ok (.getfield 53, 3) := by decide +kernel
theorem dX10_falls_65 : decode cX10_falls 65 = .ok (.if_icmp .ge 126, 3) := by decide +kernel
theorem dX10_falls_68 : decode cX10_falls 68 = .ok (.aload_n 0, 1) := by decide +kernel
theorem dX10_falls_69 : decode cX10_falls 69 = .ok (.iload 7, 2) := by decide +kernel
theorem dX10_falls_71 : decode cX10_falls 71 = .ok (.iload_n 1, 1) := by decide +kernel
theorem dX10_falls_72 : decode cX10_falls 72 = .ok (.iload_n 2, 1) := by decide +kernel
theorem dX10_falls_73 : decode cX10_falls 73 = .ok (.invokevirtual 60, 3) := by decide +kernel
theorem dX10_falls_76 : decode cX10_falls 76 = .ok (.istore 8, 2) := by decide +kernel
theorem dX10_falls_78 : decode cX10_falls 78 = .ok (.aload_n 0, 1) := by decide +kernel
theorem dX10_falls_79 : decode cX10_falls 79 = .ok (.getfield 19, 3) := by decide +kernel
theorem dX10_falls_82 : decode cX10_falls 82 = .ok (.iload 7, 2) := by decide +kernel
theorem dX10_falls_84 : decode cX10_falls 84 = .ok (.iaload, 1) := by decide +kernel
theorem dX10_falls_85 : decode cX10_falls 85 = .ok (.iload 5, 2) := by decide +kernel
theorem dX10_falls_87 : decode cX10_falls 87 = .ok (.if_icmp .gt 17, 3) := by decide +kernel
theorem dX10_falls_90 : decode cX10_falls 90 = .ok (.iload 8, 2) := by decide +kernel
theorem dX10_falls_92 : decode cX10_falls 92 = .ok (.iload 5, 2) := by decide +kernel
theorem dX10_falls_94 : decode cX10_falls 94 = .ok (.iload 5, 2) := by decide +kernel
theorem dX10_falls_96 : decode cX10_falls 96 = .ok (.imul, 1) := by decide +kernel
theorem dX10_falls_97 : decode cX10_falls 97 = .ok (.if_icmp .gt 7, 3) := by decide +kernel
theorem dX10_falls_100 : decode cX10_falls 100 = .ok (.iconst 1, 1) := by decide +kernel
theorem dX10_falls_101 : decode cX10_falls 101 = .ok (.goto 4, 3) := by decide +kernel
theorem dX10_falls_104 : decode cX10_falls 104 = .ok (.iconst 0, 1) := by decide +kernel
theorem dX10_falls_105 : decode cX10_falls 105 = .ok (.istore 9, 2) := by decide +kernel
theorem dX10_falls_107 : decode cX10_falls 107 = .ok (.iload 8, 2) := by decide +kernel
theorem dX10_falls_109 : decode cX10_falls 109 = .ok (.aload_n 0, 1) := by decide +kernel
theorem dX10_falls_110 : decode cX10_falls 110 = .ok (.getfield 19, 3) := by decide +kernel
theorem dX10_falls_113 : decode cX10_falls 113 = .ok (.iload 7, 2) := by decide +kernel
theorem dX10_falls_115 : decode cX10_falls 115 = .ok (.iaload, 1) := by decide +kernel
theorem dX10_falls_116 : decode cX10_falls 116 = .ok (.iload 5, 2) := by decide +kernel
theorem dX10_falls_118 : decode cX10_falls 118 = .ok (.iadd, 1) := by decide +kernel
theorem dX10_falls_119 : decode cX10_falls 119 = .ok (.aload_n 0, 1) := by decide +kernel
theorem dX10_falls_120 : decode cX10_falls 120 = .ok (.getfield 19, 3) := by decide +kernel
theorem dX10_falls_123 : decode cX10_falls 123 = .ok (.iload 7, 2) := by decide +kernel
theorem dX10_falls_125 : decode cX10_falls 125 = .ok (.iaload, 1) := by decide +kernel
theorem dX10_falls_126 : decode cX10_falls 126 = .ok (.iload 5, 2) := by decide +kernel
theorem dX10_falls_128 : decode cX10_falls 128 = .ok (.iadd, 1) := by decide +kernel
theorem dX10_falls_129 : decode cX10_falls 129 = .ok (.imul, 1) := by decide +kernel
theorem dX10_falls_130 : decode cX10_falls 130 = .ok (.if_icmp .gt 7, 3) := by decide +kernel
theorem dX10_falls_133 : decode cX10_falls 133 = .ok (.iconst 1, 1) := by decide +kernel
theorem dX10_falls_134 : decode cX10_falls 134 = .ok (.goto 4, 3) := by decide +kernel
theorem dX10_falls_137 : decode cX10_falls 137 = .ok (.iconst 0, 1) := by decide +kernel
theorem dX10_falls_138 : decode cX10_falls 138 = .ok (.istore 10, 2) := by decide +kernel
theorem dX10_falls_140 : decode cX10_falls 140 = .ok (.iload 6, 2) := by decide +kernel
theorem dX10_falls_142 : decode cX10_falls 142 = .ok (.iload 9, 2) := by decide +kernel
theorem dX10_falls_144 : decode cX10_falls 144 = .ok (.ifCond .ne 8, 3) := by decide +kernel
theorem dX10_falls_147 : decode cX10_falls 147 = .ok (.iload 10, 2) := by decide +kernel
theorem dX10_falls_149 : decode cX10_falls 149 = .ok (.ifCond .eq 32, 3) := by decide +kernel
theorem dX10_falls_152 : decode cX10_falls 152 = .ok (.aload_n 0, 1) := by decide +kernel
theorem dX10_falls_153 : decode cX10_falls 153 = .ok (.iload 7, 2) := by decide +kernel
theorem dX10_falls_155 : decode cX10_falls 155 = .ok (.iload 9, 2) := by decide +kernel
theorem dX10_falls_157 : decode cX10_falls 157 = .ok (.ifCond .eq 13, 3) := by decide +kernel
theorem dX10_falls_160 : decode cX10_falls 160 = .ok (.aload_n 0, 1) := by decide +kernel
theorem dX10_falls_161 : decode cX10_falls 161 = .ok (.getfield 22, 3) := by decide +kernel
theorem dX10_falls_164 : decode cX10_falls 164 = .ok (.iload 7, 2) := by decide +kernel
theorem dX10_falls_166 : decode cX10_falls 166 = .ok (.iaload, 1) := by decide +kernel
theorem dX10_falls_167 : decode cX10_falls 167 = .ok (.goto 4, 3) := by decide +kernel
theorem dX10_falls_170 : decode cX10_falls 170 = .ok (.iload_n 3, 1) := by decide +kernel
theorem dX10_falls_171 : decode cX10_falls 171 = .ok (.invokevirtual 64, 3) := by decide +kernel
theorem dX10_falls_174 : decode cX10_falls 174 = .ok (.ifCond .eq 7, 3) := by decide +kernel
theorem dX10_falls_177 : decode cX10_falls 177 = .ok (.iconst 1, 1) := by decide +kernel
theorem dX10_falls_178 : decode cX10_falls 178 = .ok (.goto 4, 3) := by decide +kernel
theorem dX10_falls_181 : decode cX10_falls 181 = .ok (.iconst 0, 1) := by decide +kernel
theorem dX10_falls_182 : decode cX10_falls 182 = .ok (.iadd, 1) := by decide +kernel
theorem dX10_falls_183 : decode cX10_falls 183 = .ok (.istore 6, 2) := by decide +kernel
theorem dX10_falls_185 : decode cX10_falls 185 = .ok (.iinc 7 1, 3) := by decide +kernel
theorem dX10_falls_188 : decode cX10_falls 188 = .ok (.goto (-129), 3) := by decide +kernel
theorem dX10_falls_191 : decode cX10_falls 191 = .ok (.aload_n 0, 1) := by decide +kernel
theorem dX10_falls_192 : decode cX10_falls 192 = .ok (.getfield 13, 3) := by decide +kernel
theorem dX10_falls_195 : decode cX10_falls 195 = .ok (.aload_n 0, 1) := by decide +kernel
theorem dX10_falls_196 : decode cX10_falls 196 = .ok (.getfield 53, 3) := by decide +kernel
theorem dX10_falls_199 : decode cX10_falls 199 = .ok (.iload_n 1, 1) := by decide +kernel
theorem dX10_falls_200 : decode cX10_falls 200 = .ok (.iastore, 1) := by decide +kernel
theorem dX10_falls_201 : decode cX10_falls 201 = .ok (.aload_n 0, 1) := by decide +kernel
theorem dX10_falls_202 : decode cX10_falls 202 = .ok (.getfield 16, 3) := by decide +kernel
theorem dX10_falls_205 : decode cX10_falls 205 = .ok (.aload_n 0, 1) := by decide +kernel
theorem dX10_falls_206 : decode cX10_falls 206 = .ok (.getfield 53, 3) := by decide +kernel
theorem dX10_falls_209 : decode cX10_falls 209 = .ok (.iload_n 2, 1) := by decide +kernel
theorem dX10_falls_210 : decode cX10_falls 210 = .ok (.iastore, 1) := by decide +kernel
theorem dX10_falls_211 : decode cX10_falls 211 = .ok (.aload_n 0, 1) := by decide +kernel
theorem dX10_falls_212 : decode cX10_falls 212 = .ok (.getfield 19, 3) := by decide +kernel
theorem dX10_falls_215 : decode cX10_falls 215 = .ok (.aload_n 0, 1) := by decide +kernel
theorem dX10_falls_216 : decode cX10_falls 216 = .ok (.getfield 53, 3) := by decide +kernel
theorem dX10_falls_219 : decode cX10_falls 219 = .ok (.iload 5, 2) := by decide +kernel
theorem dX10_falls_221 : decode cX10_falls 221 = .ok (.iastore, 1) := by decide +kernel
theorem dX10_falls_222 : decode cX10_falls 222 = .ok (.aload_n 0, 1) := by decide +kernel
theorem dX10_falls_223 : decode cX10_falls 223 = .ok (.getfield 22, 3) := by decide +kernel
theorem dX10_falls_226 : decode cX10_falls 226 = .ok (.aload_n 0, 1) := by decide +kernel
theorem dX10_falls_227 : decode cX10_falls 227 = .ok (.getfield 53, 3) := by decide +kernel
theorem dX10_falls_230 : decode cX10_falls 230 = .ok (.iload_n 3, 1) := by decide +kernel
theorem dX10_falls_231 : decode cX10_falls 231 = .ok (.iload 4, 2) := by decide +kernel
theorem dX10_falls_233 : decode cX10_falls 233 = .ok (.ifCond .ne 7, 3) := by decide +kernel
theorem dX10_falls_236 : decode cX10_falls 236 = .ok (.iconst 4, 1) := by decide +kernel
theorem dX10_falls_237 : decode cX10_falls 237 = .ok (.goto 14, 3) := by decide +kernel
theorem dX10_falls_240 : decode cX10_falls 240 = .ok (.iload 4, 2) := by decide +kernel
theorem dX10_falls_242 : decode cX10_falls 242 = .ok (.iconst 1, 1) := by decide +kernel
theorem dX10_falls_243 : decode cX10_falls 243 = .ok (.if_icmp .ne 7, 3) := by decide +kernel
theorem dX10_falls_246 : decode cX10_falls 246 = .ok (.iconst 3, 1) := by decide +kernel
theorem dX10_falls_247 : decode cX10_falls 247 = .ok (.goto 4, 3) := by decide +kernel
theorem dX10_falls_250 : decode cX10_falls 250 = .ok (.iconst 5, 1) := by decide +kernel
theorem dX10_falls_251 : decode cX10_falls 251 = .ok (.imul, 1) := by decide +kernel
theorem dX10_falls_252 : decode cX10_falls 252 = .ok (.iastore, 1) := by decide +kernel
theorem dX10_falls_253 : decode cX10_falls 253 = .ok (.aload_n 0, 1) := by decide +kernel
theorem dX10_falls_254 : decode cX10_falls 254 = .ok (.dup, 1) := by decide +kernel
theorem dX10_falls_255 : decode cX10_falls 255 = .ok (.getfield 53, 3) := by decide +kernel
theorem dX10_falls_258 : decode cX10_falls 258 = .ok (.iconst 1, 1) := by decide +kernel
theorem dX10_falls_259 : decode cX10_falls 259 = .ok (.iadd, 1) := by decide +kernel
theorem dX10_falls_260 : decode cX10_falls 260 = .ok (.putfield 53, 3) := by decide +kernel
theorem dX10_falls_263 : decode cX10_falls 263 = .ok (.iload 6, 2) := by decide +kernel
theorem dX10_falls_265 : decode cX10_falls 265 = .ok (.ireturn, 1) := by decide +kernel
set_option maxRecDepth 20000 in
theorem ggX10_stone_X10_isCell : GoodIn wsX10_stone wsX10_isCell := goodIn_r _ [5, 6, 7, 4, 8] (by decide +kernel) (by decide +kernel)
set_option maxRecDepth 20000 in
theorem gX10_stone_X10_isCell : GoodIn wsX10_stone (va_wsS RX10 46 yX10_isCell wsX10_isCell) := goodIn_app (goodIn_of _ (by decide +kernel)) ggX10_stone_X10_isCell
set_option maxRecDepth 20000 in
theorem ggX10_stone_X10_isIn : GoodIn wsX10_stone wsX10_isIn := goodIn_r _ [8] (by decide +kernel) (by decide +kernel)
set_option maxRecDepth 20000 in
theorem gX10_stone_X10_isIn : GoodIn wsX10_stone (va_wsS RX10 42 yX10_isIn wsX10_isIn) := goodIn_app (goodIn_of _ (by decide +kernel)) ggX10_stone_X10_isIn
set_option maxRecDepth 20000 in
theorem ggX10_stone_X10_can : GoodIn wsX10_stone wsX10_can := goodIn_r _ [12, 13, 31, 32, 33, 34, 35, 36, 37, 38, 39, 40, 41, 42, 43, 44] (by decide +kernel) (by decide +kernel)
set_option maxRecDepth 20000 in
theorem gX10_stone_X10_can : GoodIn wsX10_stone (wsV RX10 56 RX10 yX10_can wsX10_can) := goodIn_app (goodIn_of _ (by decide +kernel)) ggX10_stone_X10_can
set_option maxRecDepth 20000 in
theorem ggX10_stone_X10_falls : GoodIn wsX10_stone wsX10_falls := goodIn_r _ [17, 18, 1, 19, 20, 21, 22, 23, 24, 25, 4, 26, 27, 28, 29, 30, 31, 32, 33, 34, 35, 36, 37, 38, 39, 40, 41, 42, 43, 44] (by decide +kernel) (by decide +kernel)
set_option maxRecDepth 20000 in
theorem gX10_stone_X10_falls : GoodIn wsX10_stone (wsV RX10 67 RX10 yX10_falls wsX10_falls) := goodIn_app (goodIn_of _ (by decide +kernel)) ggX10_stone_X10_falls
theorem dX10_stone_0 : decode cX10_stone 0 = .ok (.iload_n 1, 1) := by decide +kernel
theorem dX10_stone_1 : decode cX10_stone 1 = .ok (.iload_n 2, 1) := by decide +kernel
theorem dX10_stone_2 : decode cX10_stone 2 = .ok (.invokestatic 46, 3) := by decide +kernel
theorem dX10_stone_5 : decode cX10_stone 5 = .ok (.istore 4, 2) := by decide +kernel
theorem dX10_stone_7 : decode cX10_stone 7 = .ok (.iload_n 3, 1) := by decide +kernel
theorem dX10_stone_8 : decode cX10_stone 8 = .ok (.iconst 1, 1) := by decide +kernel
theorem dX10_stone_9 : decode cX10_stone 9 = .ok (.bipush 6, 2) := by decide +kernel
theorem dX10_stone_11 : decode cX10_stone 11 = .ok (.invokestatic 42, 3) := by decide +kernel
theorem dX10_stone_14 : decode cX10_stone 14 = .ok (.istore 5, 2) := by decide +kernel
theorem dX10_stone_16 : decode cX10_stone 16 = .ok (.aload_n 0, 1) := by decide +kernel
theorem dX10_stone_17 : decode cX10_stone 17 = .ok (.iload 4, 2) := by decide +kernel
theorem dX10_stone_19 : decode cX10_stone 19 = .ok (.ifCond .ne 7, 3) := by decide +kernel
theorem dX10_stone_22 : decode cX10_stone 22 = .ok (.iconst 1, 1) := by decide +kernel
theorem dX10_stone_23 : decode cX10_stone 23 = .ok (.goto 27, 3) := by decide +kernel
theorem dX10_stone_26 : decode cX10_stone 26 = .ok (.iload 5, 2) := by decide +kernel
theorem dX10_stone_28 : decode cX10_stone 28 = .ok (.ifCond .ne 7, 3) := by decide +kernel
theorem dX10_stone_31 : decode cX10_stone 31 = .ok (.iconst 2, 1) := by decide +kernel
theorem dX10_stone_32 : decode cX10_stone 32 = .ok (.goto 18, 3) := by decide +kernel
theorem dX10_stone_35 : decode cX10_stone 35 = .ok (.aload_n 0, 1) := by decide +kernel
theorem dX10_stone_36 : decode cX10_stone 36 = .ok (.getfield 53, 3) := by decide +kernel
theorem dX10_stone_39 : decode cX10_stone 39 = .ok (.sipush 200, 3) := by decide +kernel
theorem dX10_stone_42 : decode cX10_stone 42 = .ok (.if_icmp .ne 7, 3) := by decide +kernel
theorem dX10_stone_45 : decode cX10_stone 45 = .ok (.iconst 3, 1) := by decide +kernel
theorem dX10_stone_46 : decode cX10_stone 46 = .ok (.goto 4, 3) := by decide +kernel
theorem dX10_stone_49 : decode cX10_stone 49 = .ok (.iconst 0, 1) := by decide +kernel
theorem dX10_stone_50 : decode cX10_stone 50 = .ok (.invokevirtual 56, 3) := by decide +kernel
theorem dX10_stone_53 : decode cX10_stone 53 = .ok (.ifCond .eq 13, 3) := by decide +kernel
theorem dX10_stone_56 : decode cX10_stone 56 = .ok (.aload_n 0, 1) := by decide +kernel
theorem dX10_stone_57 : decode cX10_stone 57 = .ok (.iload_n 1, 1) := by decide +kernel
theorem dX10_stone_58 : decode cX10_stone 58 = .ok (.iload_n 2, 1) := by decide +kernel
theorem dX10_stone_59 : decode cX10_stone 59 = .ok (.iload_n 3, 1) := by decide +kernel
theorem dX10_stone_60 : decode cX10_stone 60 = .ok (.invokevirtual 67, 3) := by decide +kernel
theorem dX10_stone_63 : decode cX10_stone 63 = .ok (.goto 4, 3) := by decide +kernel
theorem dX10_stone_66 : decode cX10_stone 66 = .ok (.iconst 0, 1) := by decide +kernel
theorem dX10_stone_67 : decode cX10_stone 67 = .ok (.ireturn, 1) := by decide +kernel
set_option maxRecDepth 20000 in
theorem ggX10_draw_X10_isIn : GoodIn wsX10_draw wsX10_isIn := goodIn_r _ [6] (by decide +kernel) (by decide +kernel)
set_option maxRecDepth 20000 in
theorem gX10_draw_X10_isIn : GoodIn wsX10_draw (va_wsS RX10 42 yX10_isIn wsX10_isIn) := goodIn_app (goodIn_of _ (by decide +kernel)) ggX10_draw_X10_isIn
set_option maxRecDepth 20000 in
theorem ggX10_draw_X10_can : GoodIn wsX10_draw wsX10_can := goodIn_r _ [10, 11, 12, 13, 14, 15, 16, 17, 18, 19, 20, 21, 22, 23, 24, 25] (by decide +kernel) (by decide +kernel)
set_option maxRecDepth 20000 in
theorem gX10_draw_X10_can : GoodIn wsX10_draw (wsV RX10 56 RX10 yX10_can wsX10_can) := goodIn_app (goodIn_of _ (by decide +kernel)) ggX10_draw_X10_can
theorem dX10_draw_0 : decode cX10_draw 0 = .ok (.aload_n 0, 1) := by decide +kernel
theorem dX10_draw_1 : decode cX10_draw 1 = .ok (.iload_n 1, 1) := by decide +kernel
theorem dX10_draw_2 : decode cX10_draw 2 = .ok (.iconst 1, 1) := by decide +kernel
theorem dX10_draw_3 : decode cX10_draw 3 = .ok (.ldc 70, 2) := by decide +kernel
theorem dX10_draw_5 : decode cX10_draw 5 = .ok (.invokestatic 42, 3) := by decide +kernel
theorem dX10_draw_8 : decode cX10_draw 8 = .ok (.ifCond .eq 7, 3) := by decide +kernel
theorem dX10_draw_11 : decode cX10_draw 11 = .ok (.iconst 0, 1) := by decide +kernel
theorem dX10_draw_12 : decode cX10_draw 12 = .ok (.goto 4, 3) := by decide +kernel
theorem dX10_draw_15 : decode cX10_draw 15 = .ok (.iconst 1, 1) := by decide +kernel
theorem dX10_draw_16 : decode cX10_draw 16 = .ok (.invokevirtual 56, 3) := by decide +kernel
theorem dX10_draw_19 : decode cX10_draw 19 = .ok (.ifCond .ne 5, 3) := by decide +kernel
theorem dX10_draw_22 : decode cX10_draw 22 = .ok (.iconst 0, 1) := by decide +kernel
theorem dX10_draw_23 : decode cX10_draw 23 = .ok (.ireturn, 1) := by decide +kernel
theorem dX10_draw_24 : decode cX10_draw 24 = .ok (.aload_n 0, 1) := by decide +kernel
theorem dX10_draw_25 : decode cX10_draw 25 = .ok (.getfield 25, 3) := by decide +kernel
theorem dX10_draw_28 : decode cX10_draw 28 = .ok (.istore_n 2, 1) := by decide +kernel
theorem dX10_draw_29 : decode cX10_draw 29 = .ok (.aload_n 0, 1) := by decide +kernel
theorem dX10_draw_30 : decode cX10_draw 30 = .ok (.iload_n 1, 1) := by decide +kernel
theorem dX10_draw_31 : decode cX10_draw 31 = .ok (.putfield 25, 3) := by decide +kernel
theorem dX10_draw_34 : decode cX10_draw 34 = .ok (.iload_n 2, 1) := by decide +kernel
theorem dX10_draw_35 : decode cX10_draw 35 = .ok (.ireturn, 1) := by decide +kernel
theorem dX10_draws_0 : decode cX10_draws 0 = .ok (.aload_n 0, 1) := by decide +kernel
theorem dX10_draws_1 : decode cX10_draws 1 = .ok (.bipush 75, 2) := by decide +kernel
theorem dX10_draws_3 : decode cX10_draws 3 = .ok (.aload_n 0, 1) := by decide +kernel
theorem dX10_draws_4 : decode cX10_draws 4 = .ok (.getfield 25, 3) := by decide +kernel
theorem dX10_draws_7 : decode cX10_draws 7 = .ok (.imul, 1) := by decide +kernel
theorem dX10_draws_8 : decode cX10_draws 8 = .ok (.bipush 74, 2) := by decide +kernel
theorem dX10_draws_10 : decode cX10_draws 10 = .ok (.iadd, 1) := by decide +kernel
theorem dX10_draws_11 : decode cX10_draws 11 = .ok (.ldc 71, 2) := by decide +kernel
theorem dX10_draws_13 : decode cX10_draws 13 = .ok (.irem, 1) := by decide +kernel
theorem dX10_draws_14 : decode cX10_draws 14 = .ok (.putfield 25, 3) := by decide +kernel
theorem dX10_draws_17 : decode cX10_draws 17 = .ok (.aload_n 0, 1) := by decide +kernel
theorem dX10_draws_18 : decode cX10_draws 18 = .ok (.getfield 25, 3) := by decide +kernel
theorem dX10_draws_21 : decode cX10_draws 21 = .ok (.iload_n 1, 1) := by decide +kernel
theorem dX10_draws_22 : decode cX10_draws 22 = .ok (.irem, 1) := by decide +kernel
theorem dX10_draws_23 : decode cX10_draws 23 = .ok (.ireturn, 1) := by decide +kernel
theorem dX10_sizeBy_0 : decode cX10_sizeBy 0 = .ok (.iload_n 0, 1) := by decide +kernel
theorem dX10_sizeBy_1 : decode cX10_sizeBy 1 = .ok (.bipush 40, 2) := by decide +kernel
theorem dX10_sizeBy_3 : decode cX10_sizeBy 3 = .ok (.if_icmp .ge 7, 3) := by decide +kernel
theorem dX10_sizeBy_6 : decode cX10_sizeBy 6 = .ok (.iconst 1, 1) := by decide +kernel
theorem dX10_sizeBy_7 : decode cX10_sizeBy 7 = .ok (.goto 45, 3) := by decide +kernel
theorem dX10_sizeBy_10 : decode cX10_sizeBy 10 = .ok (.iload_n 0, 1) := by decide +kernel
theorem dX10_sizeBy_11 : decode cX10_sizeBy 11 = .ok (.bipush 52, 2) := by decide +kernel
theorem dX10_sizeBy_13 : decode cX10_sizeBy 13 = .ok (.if_icmp .ge 7, 3) := by decide +kernel
theorem dX10_sizeBy_16 : decode cX10_sizeBy 16 = .ok (.iconst 2, 1) := by decide +kernel
theorem dX10_sizeBy_17 : decode cX10_sizeBy 17 = .ok (.goto 35, 3) := by decide +kernel
theorem dX10_sizeBy_20 : decode cX10_sizeBy 20 = .ok (.iload_n 0, 1) := by decide +kernel
theorem dX10_sizeBy_21 : decode cX10_sizeBy 21 = .ok (.bipush 58, 2) := by decide +kernel
theorem dX10_sizeBy_23 : decode cX10_sizeBy 23 = .ok (.if_icmp .ge 7, 3) := by decide +kernel
theorem dX10_sizeBy_26 : decode cX10_sizeBy 26 = .ok (.iconst 3, 1) := by decide +kernel
theorem dX10_sizeBy_27 : decode cX10_sizeBy 27 = .ok (.goto 25, 3) := by decide +kernel
theorem dX10_sizeBy_30 : decode cX10_sizeBy 30 = .ok (.iload_n 0, 1) := by decide +kernel
theorem dX10_sizeBy_31 : decode cX10_sizeBy 31 = .ok (.bipush 61, 2) := by decide +kernel
theorem dX10_sizeBy_33 : decode cX10_sizeBy 33 = .ok (.if_icmp .ge 7, 3) := by decide +kernel
theorem dX10_sizeBy_36 : decode cX10_sizeBy 36 = .ok (.iconst 4, 1) := by decide +kernel
theorem dX10_sizeBy_37 : decode cX10_sizeBy 37 = .ok (.goto 15, 3) := by decide +kernel
theorem dX10_sizeBy_40 : decode cX10_sizeBy 40 = .ok (.iload_n 0, 1) := by decide +kernel
theorem dX10_sizeBy_41 : decode cX10_sizeBy 41 = .ok (.bipush 63, 2) := by decide +kernel
theorem dX10_sizeBy_43 : decode cX10_sizeBy 43 = .ok (.if_icmp .ge 7, 3) := by decide +kernel
theorem dX10_sizeBy_46 : decode cX10_sizeBy 46 = .ok (.iconst 5, 1) := by decide +kernel
theorem dX10_sizeBy_47 : decode cX10_sizeBy 47 = .ok (.goto 5, 3) := by decide +kernel
theorem dX10_sizeBy_50 : decode cX10_sizeBy 50 = .ok (.bipush 6, 2) := by decide +kernel
theorem dX10_sizeBy_52 : decode cX10_sizeBy 52 = .ok (.ireturn, 1) := by decide +kernel
theorem dX10_left_0 : decode cX10_left 0 = .ok (.iconst 0, 1) := by decide +kernel
theorem dX10_left_1 : decode cX10_left 1 = .ok (.istore_n 1, 1) := by decide +kernel
theorem dX10_left_2 : decode cX10_left 2 = .ok (.iconst 0, 1) := by decide +kernel
theorem dX10_left_3 : decode cX10_left 3 = .ok (.istore_n 2, 1) := by decide +kernel
theorem dX10_left_4 : decode cX10_left 4 = .ok (.iload_n 2, 1) := by decide +kernel
theorem dX10_left_5 : decode cX10_left 5 = .ok (.aload_n 0, 1) := by decide +kernel
theorem dX10_left_6 : decode cX10_left 6 = .ok (.getfield 53, 3) := by decide +kernel
theorem dX10_left_9 : decode cX10_left 9 = .ok (.if_icmp .ge 26, 3) := by decide +kernel
theorem dX10_left_12 : decode cX10_left 12 = .ok (.iload_n 1, 1) := by decide +kernel
theorem dX10_left_13 : decode cX10_left 13 = .ok (.aload_n 0, 1) := by decide +kernel
theorem dX10_left_14 : decode cX10_left 14 = .ok (.getfield 22, 3) := by decide +kernel
theorem dX10_left_17 : decode cX10_left 17 = .ok (.iload_n 2, 1) := by decide +kernel
theorem dX10_left_18 : decode cX10_left 18 = .ok (.iaload, 1) := by decide +kernel
theorem dX10_left_19 : decode cX10_left 19 = .ok (.ifCond .le 7, 3) := by decide +kernel
theorem dX10_left_22 : decode cX10_left 22 = .ok (.iconst 1, 1) := by decide +kernel
theorem dX10_left_23 : decode cX10_left 23 = .ok (.goto 4, 3) := by decide +kernel
theorem dX10_left_26 : decode cX10_left 26 = .ok (.iconst 0, 1) := by decide +kernel
theorem dX10_left_27 : decode cX10_left 27 = .ok (.iadd, 1) := by decide +kernel
theorem dX10_left_28 : decode cX10_left 28 = .ok (.istore_n 1, 1) := by decide +kernel
theorem dX10_left_29 : decode cX10_left 29 = .ok (.iinc 2 1, 3) := by decide +kernel
theorem dX10_left_32 : decode cX10_left 32 = .ok (.goto (-28), 3) := by decide +kernel
theorem dX10_left_35 : decode cX10_left 35 = .ok (.iload_n 1, 1) := by decide +kernel
theorem dX10_left_36 : decode cX10_left 36 = .ok (.ireturn, 1) := by decide +kernel
set_option maxRecDepth 20000 in
theorem ggX10_rain_X10_isIn : GoodIn wsX10_rain wsX10_isIn := goodIn_r _ [5] (by decide +kernel) (by decide +kernel)
set_option maxRecDepth 20000 in
theorem gX10_rain_X10_isIn : GoodIn wsX10_rain (va_wsS RX10 42 yX10_isIn wsX10_isIn) := goodIn_app (goodIn_of _ (by decide +kernel)) ggX10_rain_X10_isIn
set_option maxRecDepth 20000 in
theorem ggX10_rain_X10_can : GoodIn wsX10_rain wsX10_can := goodIn_r _ [9, 10, 41, 42, 43, 44, 45, 46, 47, 48, 49, 50, 51, 52, 53, 54] (by decide +kernel) (by decide +kernel)
set_option maxRecDepth 20000 in
theorem gX10_rain_X10_can : GoodIn wsX10_rain (wsV RX10 56 RX10 yX10_can wsX10_can) := goodIn_app (goodIn_of _ (by decide +kernel)) ggX10_rain_X10_can
set_option maxRecDepth 20000 in
theorem ggX10_rain_X10_draws : GoodIn wsX10_rain wsX10_draws := goodIn_r _ [14, 15, 16, 41, 42, 43, 44, 45, 46, 47, 48, 49, 50, 51, 52, 53, 54] (by decide +kernel) (by decide +kernel)
set_option maxRecDepth 20000 in
theorem gX10_rain_X10_draws : GoodIn wsX10_rain (wsV RX10 72 RX10 yX10_draws wsX10_draws) := goodIn_app (goodIn_of _ (by decide +kernel)) ggX10_rain_X10_draws
set_option maxRecDepth 20000 in
theorem ggX10_rain_X10_sizeBy : GoodIn wsX10_rain wsX10_sizeBy := goodIn_r _ [19] (by decide +kernel) (by decide +kernel)
set_option maxRecDepth 20000 in
theorem gX10_rain_X10_sizeBy : GoodIn wsX10_rain (va_wsS RX10 76 yX10_sizeBy wsX10_sizeBy) := goodIn_app (goodIn_of _ (by decide +kernel)) ggX10_rain_X10_sizeBy
set_option maxRecDepth 20000 in
theorem ggX10_rain_X10_falls : GoodIn wsX10_rain wsX10_falls := goodIn_r _ [23, 24, 1, 25, 26, 27, 28, 29, 30, 31, 4, 32, 33, 34, 35, 36, 41, 42, 43, 44, 45, 46, 47, 48, 49, 50, 51, 52, 53, 54] (by decide +kernel) (by decide +kernel)
set_option maxRecDepth 20000 in
theorem gX10_rain_X10_falls : GoodIn wsX10_rain (wsV RX10 67 RX10 yX10_falls wsX10_falls) := goodIn_app (goodIn_of _ (by decide +kernel)) ggX10_rain_X10_falls
set_option maxRecDepth 20000 in
theorem ggX10_rain_X10_left : GoodIn wsX10_rain wsX10_left := goodIn_r _ [40, 1, 26, 41, 42, 43, 44, 45, 46, 47, 48, 49, 50, 51, 52, 53, 54] (by decide +kernel) (by decide +kernel)
set_option maxRecDepth 20000 in
theorem gX10_rain_X10_left : GoodIn wsX10_rain (wsV RX10 79 RX10 yX10_left wsX10_left) := goodIn_app (goodIn_of _ (by decide +kernel)) ggX10_rain_X10_left
theorem dX10_rain_0 : decode cX10_rain 0 = .ok (.aload_n 0, 1) := by decide +kernel
theorem dX10_rain_1 : decode cX10_rain 1 = .ok (.iload_n 1, 1) := by decide +kernel
theorem dX10_rain_2 : decode cX10_rain 2 = .ok (.iconst 1, 1) := by decide +kernel
theorem dX10_rain_3 : decode cX10_rain 3 = .ok (.bipush 30, 2) := by decide +kernel
theorem dX10_rain_5 : decode cX10_rain 5 = .ok (.invokestatic 42, 3) := by decide +kernel
theorem dX10_rain_8 : decode cX10_rain 8 = .ok (.ifCond .ne 7, 3) := by decide +kernel
theorem dX10_rain_11 : decode cX10_rain 11 = .ok (.iconst 1, 1) := by decide +kernel
theorem dX10_rain_12 : decode cX10_rain 12 = .ok (.goto 20, 3) := by decide +kernel
theorem dX10_rain_15 : decode cX10_rain 15 = .ok (.aload_n 0, 1) := by decide +kernel
theorem dX10_rain_16 : decode cX10_rain 16 = .ok (.getfield 53, 3) := by decide +kernel
theorem dX10_rain_19 : decode cX10_rain 19 = .ok (.iload_n 1, 1) := by decide +kernel
theorem dX10_rain_20 : decode cX10_rain 20 = .ok (.iadd, 1) := by decide +kernel
theorem dX10_rain_21 : decode cX10_rain 21 = .ok (.sipush 200, 3) := by decide +kernel
theorem dX10_rain_24 : decode cX10_rain 24 = .ok (.if_icmp .le 7, 3) := by decide +kernel
theorem dX10_rain_27 : decode cX10_rain 27 = .ok (.iconst 2, 1) := by decide +kernel
theorem dX10_rain_28 : decode cX10_rain 28 = .ok (.goto 4, 3) := by decide +kernel
theorem dX10_rain_31 : decode cX10_rain 31 = .ok (.iconst 0, 1) := by decide +kernel
theorem dX10_rain_32 : decode cX10_rain 32 = .ok (.invokevirtual 56, 3) := by decide +kernel
theorem dX10_rain_35 : decode cX10_rain 35 = .ok (.ifCond .ne 5, 3) := by decide +kernel
theorem dX10_rain_38 : decode cX10_rain 38 = .ok (.iconst 0, 1) := by decide +kernel
theorem dX10_rain_39 : decode cX10_rain 39 = .ok (.ireturn, 1) := by decide +kernel
theorem dX10_rain_40 : decode cX10_rain 40 = .ok (.iconst 0, 1) := by decide +kernel
theorem dX10_rain_41 : decode cX10_rain 41 = .ok (.istore_n 2, 1) := by decide +kernel
theorem dX10_rain_42 : decode cX10_rain 42 = .ok (.iload_n 2, 1) := by decide +kernel
theorem dX10_rain_43 : decode cX10_rain 43 = .ok (.iload_n 1, 1) := by decide +kernel
theorem dX10_rain_44 : decode cX10_rain 44 = .ok (.if_icmp .ge 46, 3) := by decide +kernel
theorem dX10_rain_47 : decode cX10_rain 47 = .ok (.aload_n 0, 1) := by decide +kernel
theorem dX10_rain_48 : decode cX10_rain 48 = .ok (.bipush 16, 2) := by decide +kernel
theorem dX10_rain_50 : decode cX10_rain 50 = .ok (.invokevirtual 72, 3) := by decide +kernel
theorem dX10_rain_53 : decode cX10_rain 53 = .ok (.istore_n 3, 1) := by decide +kernel
theorem dX10_rain_54 : decode cX10_rain 54 = .ok (.aload_n 0, 1) := by decide +kernel
theorem dX10_rain_55 : decode cX10_rain 55 = .ok (.bipush 16, 2) := by decide +kernel
theorem dX10_rain_57 : decode cX10_rain 57 = .ok (.invokevirtual 72, 3) := by decide +kernel
theorem dX10_rain_60 : decode cX10_rain 60 = .ok (.istore 4, 2) := by decide +kernel
theorem dX10_rain_62 : decode cX10_rain 62 = .ok (.aload_n 0, 1) := by decide +kernel
theorem dX10_rain_63 : decode cX10_rain 63 = .ok (.bipush 64, 2) := by decide +kernel
theorem dX10_rain_65 : decode cX10_rain 65 = .ok (.invokevirtual 72, 3) := by decide +kernel
theorem dX10_rain_68 : decode cX10_rain 68 = .ok (.istore 5, 2) := by decide +kernel
theorem dX10_rain_70 : decode cX10_rain 70 = .ok (.aload_n 0, 1) := by decide +kernel
theorem dX10_rain_71 : decode cX10_rain 71 = .ok (.iload_n 3, 1) := by decide +kernel
theorem dX10_rain_72 : decode cX10_rain 72 = .ok (.iload 4, 2) := by decide +kernel
theorem dX10_rain_74 : decode cX10_rain 74 = .ok (.iload 5, 2) := by decide +kernel
theorem dX10_rain_76 : decode cX10_rain 76 = .ok (.invokestatic 76, 3) := by decide +kernel
theorem dX10_rain_79 : decode cX10_rain 79 = .ok (.invokevirtual 67, 3) := by decide +kernel
theorem dX10_rain_82 : decode cX10_rain 82 = .ok (.istore 6, 2) := by decide +kernel
theorem dX10_rain_84 : decode cX10_rain 84 = .ok (.iinc 2 1, 3) := by decide +kernel
theorem dX10_rain_87 : decode cX10_rain 87 = .ok (.goto (-45), 3) := by decide +kernel
theorem dX10_rain_90 : decode cX10_rain 90 = .ok (.aload_n 0, 1) := by decide +kernel
theorem dX10_rain_91 : decode cX10_rain 91 = .ok (.invokevirtual 79, 3) := by decide +kernel
theorem dX10_rain_94 : decode cX10_rain 94 = .ok (.ireturn, 1) := by decide +kernel
set_option maxRecDepth 20000 in
theorem ggX10_isWithin_X10_isIn : GoodIn wsX10_isWithin wsX10_isIn := goodIn_r _ [6] (by decide +kernel) (by decide +kernel)
set_option maxRecDepth 20000 in
theorem gX10_isWithin_X10_isIn : GoodIn wsX10_isWithin (va_wsS RX10 42 yX10_isIn wsX10_isIn) := goodIn_app (goodIn_of _ (by decide +kernel)) ggX10_isWithin_X10_isIn
theorem dX10_isWithin_0 : decode cX10_isWithin 0 = .ok (.aload_n 0, 1) := by decide +kernel
theorem dX10_isWithin_1 : decode cX10_isWithin 1 = .ok (.getfield 13, 3) := by decide +kernel
theorem dX10_isWithin_4 : decode cX10_isWithin 4 = .ok (.iload_n 1, 1) := by decide +kernel
theorem dX10_isWithin_5 : decode cX10_isWithin 5 = .ok (.iaload, 1) := by decide +kernel
theorem dX10_isWithin_6 : decode cX10_isWithin 6 = .ok (.iload_n 2, 1) := by decide +kernel
theorem dX10_isWithin_7 : decode cX10_isWithin 7 = .ok (.iload 4, 2) := by decide +kernel
theorem dX10_isWithin_9 : decode cX10_isWithin 9 = .ok (.invokestatic 42, 3) := by decide +kernel
theorem dX10_isWithin_12 : decode cX10_isWithin 12 = .ok (.ifCond .eq 22, 3) := by decide +kernel
theorem dX10_isWithin_15 : decode cX10_isWithin 15 = .ok (.aload_n 0, 1) := by decide +kernel
theorem dX10_isWithin_16 : decode cX10_isWithin 16 = .ok (.getfield 16, 3) := by decide +kernel
theorem dX10_isWithin_19 : decode cX10_isWithin 19 = .ok (.iload_n 1, 1) := by decide +kernel
theorem dX10_isWithin_20 : decode cX10_isWithin 20 = .ok (.iaload, 1) := by decide +kernel
theorem dX10_isWithin_21 : decode cX10_isWithin 21 = .ok (.iload_n 3, 1) := by decide +kernel
theorem dX10_isWithin_22 : decode cX10_isWithin 22 = .ok (.iload 5, 2) := by decide +kernel
theorem dX10_isWithin_24 : decode cX10_isWithin 24 = .ok (.invokestatic 42, 3) := by decide +kernel
theorem dX10_isWithin_27 : decode cX10_isWithin 27 = .ok (.ifCond .eq 7, 3) := by decide +kernel
theorem dX10_isWithin_30 : decode cX10_isWithin 30 = .ok (.iconst 1, 1) := by decide +kernel
theorem dX10_isWithin_31 : decode cX10_isWithin 31 = .ok (.goto 4, 3) := by decide +kernel
theorem dX10_isWithin_34 : decode cX10_isWithin 34 = .ok (.iconst 0, 1) := by decide +kernel
theorem dX10_isWithin_35 : decode cX10_isWithin 35 = .ok (.ireturn, 1) := by decide +kernel
set_option maxRecDepth 20000 in
theorem ggX10_flood_X10_areCells : GoodIn wsX10_flood wsX10_areCells := goodIn_r _ [6, 7, 8, 5, 9, 10, 11, 12] (by decide +kernel) (by decide +kernel)
set_option maxRecDepth 20000 in
theorem gX10_flood_X10_areCells : GoodIn wsX10_flood (va_wsS RX10 83 yX10_areCells wsX10_areCells) := goodIn_app (goodIn_of _ (by decide +kernel)) ggX10_flood_X10_areCells
set_option maxRecDepth 20000 in
theorem ggX10_flood_X10_isIn : GoodIn wsX10_flood wsX10_isIn := goodIn_r _ [12] (by decide +kernel) (by decide +kernel)
set_option maxRecDepth 20000 in
theorem gX10_flood_X10_isIn : GoodIn wsX10_flood (va_wsS RX10 42 yX10_isIn wsX10_isIn) := goodIn_app (goodIn_of _ (by decide +kernel)) ggX10_flood_X10_isIn
set_option maxRecDepth 20000 in
theorem ggX10_flood_X10_can : GoodIn wsX10_flood wsX10_can := goodIn_r _ [16, 17, 29, 30, 31, 32, 33, 34, 35, 36, 37, 38, 39, 40, 41, 42] (by decide +kernel) (by decide +kernel)
set_option maxRecDepth 20000 in
theorem gX10_flood_X10_can : GoodIn wsX10_flood (wsV RX10 56 RX10 yX10_can wsX10_can) := goodIn_app (goodIn_of _ (by decide +kernel)) ggX10_flood_X10_can
set_option maxRecDepth 20000 in
theorem ggX10_flood_X10_isWithin : GoodIn wsX10_flood wsX10_isWithin := goodIn_r _ [21, 22, 23, 10, 11, 5, 12, 29, 30, 31, 32, 33, 34, 35, 36, 37, 38, 39, 40, 41, 42] (by decide +kernel) (by decide +kernel)
set_option maxRecDepth 20000 in
theorem gX10_flood_X10_isWithin : GoodIn wsX10_flood (wsV RX10 90 RX10 yX10_isWithin wsX10_isWithin) := goodIn_app (goodIn_of _ (by decide +kernel)) ggX10_flood_X10_isWithin
set_option maxRecDepth 20000 in
theorem ggX10_flood_X10_lessens : GoodIn wsX10_flood wsX10_lessens := goodIn_r _ [27, 28, 29, 30, 31, 32, 33, 34, 35, 36, 37, 38, 39, 40, 41, 42] (by decide +kernel) (by decide +kernel)
set_option maxRecDepth 20000 in
theorem gX10_flood_X10_lessens : GoodIn wsX10_flood (wsV RX10 64 RX10 yX10_lessens wsX10_lessens) := goodIn_app (goodIn_of _ (by decide +kernel)) ggX10_flood_X10_lessens
theorem dX10_flood_0 : decode cX10_flood 0 = .ok (.iload_n 1, 1) := by decide +kernel
theorem dX10_flood_1 : decode cX10_flood 1 = .ok (.iload_n 2, 1) := by decide +kernel
theorem dX10_flood_2 : decode cX10_flood 2 = .ok (.iload_n 3, 1) := by decide +kernel
theorem dX10_flood_3 : decode cX10_flood 3 = .ok (.iload 4, 2) := by decide +kernel
theorem dX10_flood_5 : decode cX10_flood 5 = .ok (.invokestatic 83, 3) := by decide +kernel
theorem dX10_flood_8 : decode cX10_flood 8 = .ok (.istore 6, 2) := by decide +kernel
theorem dX10_flood_10 : decode cX10_flood 10 = .ok (.iload_n 3, 1) := by decide +kernel
theorem dX10_flood_11 : decode cX10_flood 11 = .ok (.iload_n 1, 1) := by decide +kernel
theorem dX10_flood_12 : decode cX10_flood 12 = .ok (.if_icmp .lt 24, 3) := by decide +kernel
theorem dX10_flood_15 : decode cX10_flood 15 = .ok (.iload 4, 2) := by decide +kernel
theorem dX10_flood_17 : decode cX10_flood 17 = .ok (.iload_n 2, 1) := by decide +kernel
theorem dX10_flood_18 : decode cX10_flood 18 = .ok (.if_icmp .lt 18, 3) := by decide +kernel
theorem dX10_flood_21 : decode cX10_flood 21 = .ok (.iload 5, 2) := by decide +kernel
theorem dX10_flood_23 : decode cX10_flood 23 = .ok (.iconst 1, 1) := by decide +kernel
theorem dX10_flood_24 : decode cX10_flood 24 = .ok (.bipush 40, 2) := by decide +kernel
theorem dX10_flood_26 : decode cX10_flood 26 = .ok (.invokestatic 42, 3) := by decide +kernel
theorem dX10_flood_29 : decode cX10_flood 29 = .ok (.ifCond .eq 7, 3) := by decide +kernel
theorem dX10_flood_32 : decode cX10_flood 32 = .ok (.iconst 1, 1) := by decide +kernel
theorem dX10_flood_33 : decode cX10_flood 33 = .ok (.goto 4, 3) := by decide +kernel
theorem dX10_flood_36 : decode cX10_flood 36 = .ok (.iconst 0, 1) := by decide +kernel
theorem dX10_flood_37 : decode cX10_flood 37 = .ok (.istore 7, 2) := by decide +kernel
theorem dX10_flood_39 : decode cX10_flood 39 = .ok (.aload_n 0, 1) := by decide +kernel
theorem dX10_flood_40 : decode cX10_flood 40 = .ok (.iload 6, 2) := by decide +kernel
theorem dX10_flood_42 : decode cX10_flood 42 = .ok (.ifCond .ne 7, 3) := by decide +kernel
theorem dX10_flood_45 : decode cX10_flood 45 = .ok (.iconst 1, 1) := by decide +kernel
theorem dX10_flood_46 : decode cX10_flood 46 = .ok (.goto 26, 3) := by decide +kernel
theorem dX10_flood_49 : decode cX10_flood 49 = .ok (.iload 7, 2) := by decide +kernel
theorem dX10_flood_51 : decode cX10_flood 51 = .ok (.ifCond .ne 7, 3) := by decide +kernel
theorem dX10_flood_54 : decode cX10_flood 54 = .ok (.iconst 2, 1) := by decide +kernel
theorem dX10_flood_55 : decode cX10_flood 55 = .ok (.goto 17, 3) := by decide +kernel
theorem dX10_flood_58 : decode cX10_flood 58 = .ok (.aload_n 0, 1) := by decide +kernel
theorem dX10_flood_59 : decode cX10_flood 59 = .ok (.getfield 87, 3) := by decide +kernel
theorem dX10_flood_62 : decode cX10_flood 62 = .ok (.bipush 100, 2) := by decide +kernel
theorem dX10_flood_64 : decode cX10_flood 64 = .ok (.if_icmp .ne 7, 3) := by decide +kernel
theorem dX10_flood_67 : decode cX10_flood 67 = .ok (.iconst 3, 1) := by decide +kernel
theorem dX10_flood_68 : decode cX10_flood 68 = .ok (.goto 4, 3) := by decide +kernel
theorem dX10_flood_71 : decode cX10_flood 71 = .ok (.iconst 0, 1) := by decide +kernel
theorem dX10_flood_72 : decode cX10_flood 72 = .ok (.invokevirtual 56, 3) := by decide +kernel
theorem dX10_flood_75 : decode cX10_flood 75 = .ok (.ifCond .ne 5, 3) := by decide +kernel
theorem dX10_flood_78 : decode cX10_flood 78 = .ok (.iconst 0, 1) := by decide +kernel
theorem dX10_flood_79 : decode cX10_flood 79 = .ok (.ireturn, 1) := by decide +kernel
theorem dX10_flood_80 : decode cX10_flood 80 = .ok (.aload_n 0, 1) := by decide +kernel
theorem dX10_flood_81 : decode cX10_flood 81 = .ok (.dup, 1) := by decide +kernel
theorem dX10_flood_82 : decode cX10_flood 82 = .ok (.getfield 87, 3) := by decide +kernel
theorem dX10_flood_85 : decode cX10_flood 85 = .ok (.iconst 1, 1) := by decide +kernel
theorem dX10_flood_86 : decode cX10_flood 86 = .ok (.iadd, 1) := by decide +kernel
theorem dX10_flood_87 : decode cX10_flood 87 = .ok (.putfield 87, 3) := by decide +kernel
theorem dX10_flood_90 : decode cX10_flood 90 = .ok (.iconst 0, 1) := by decide +kernel
theorem dX10_flood_91 : decode cX10_flood 91 = .ok (.istore 8, 2) := by decide +kernel
theorem dX10_flood_93 : decode cX10_flood 93 = .ok (.iconst 0, 1) := by decide +kernel
theorem dX10_flood_94 : decode cX10_flood 94 = .ok (.istore 9, 2) := by decide +kernel
theorem dX10_flood_96 : decode cX10_flood 96 = .ok (.iload 9, 2) := by decide +kernel
theorem dX10_flood_98 : decode cX10_flood 98 = .ok (.aload_n 0, 1) := by decide +kernel
theorem dX10_flood_99 : decode cX10_flood 99 = .ok (.getfield 53, 3) := by decide +kernel
theorem dX10_flood_102 : decode cX10_flood 102 = .ok (.if_icmp .ge 44, 3) := by decide +kernel
theorem dX10_flood_105 : decode cX10_flood 105 = .ok (.iload 8, 2) := by decide +kernel
theorem dX10_flood_107 : decode cX10_flood 107 = .ok (.aload_n 0, 1) := by decide +kernel
theorem dX10_flood_108 : decode cX10_flood 108 = .ok (.iload 9, 2) := by decide +kernel
theorem dX10_flood_110 : decode cX10_flood 110 = .ok (.iload_n 1, 1) := by decide +kernel
theorem dX10_flood_111 : decode cX10_flood 111 = .ok (.iload_n 2, 1) := by decide +kernel
theorem dX10_flood_112 : decode cX10_flood 112 = .ok (.iload_n 3, 1) := by decide +kernel
theorem dX10_flood_113 : decode cX10_flood 113 = .ok (.iload 4, 2) := by decide +kernel
theorem dX10_flood_115 : decode cX10_flood 115 = .ok (.invokevirtual 90, 3) := by decide +kernel
theorem dX10_flood_118 : decode cX10_flood 118 = .ok (.ifCond .eq 18, 3) := by decide +kernel
theorem dX10_flood_121 : decode cX10_flood 121 = .ok (.aload_n 0, 1) := by decide +kernel
theorem dX10_flood_122 : decode cX10_flood 122 = .ok (.iload 9, 2) := by decide +kernel
theorem dX10_flood_124 : decode cX10_flood 124 = .ok (.iload 5, 2) := by decide +kernel
theorem dX10_flood_126 : decode cX10_flood 126 = .ok (.invokevirtual 64, 3) := by decide +kernel
theorem dX10_flood_129 : decode cX10_flood 129 = .ok (.ifCond .eq 7, 3) := by decide +kernel
theorem dX10_flood_132 : decode cX10_flood 132 = .ok (.iconst 1, 1) := by decide +kernel
theorem dX10_flood_133 : decode cX10_flood 133 = .ok (.goto 4, 3) := by decide +kernel
theorem dX10_flood_136 : decode cX10_flood 136 = .ok (.iconst 0, 1) := by decide +kernel
theorem dX10_flood_137 : decode cX10_flood 137 = .ok (.iadd, 1) := by decide +kernel
theorem dX10_flood_138 : decode cX10_flood 138 = .ok (.istore 8, 2) := by decide +kernel
theorem dX10_flood_140 : decode cX10_flood 140 = .ok (.iinc 9 1, 3) := by decide +kernel
theorem dX10_flood_143 : decode cX10_flood 143 = .ok (.goto (-47), 3) := by decide +kernel
theorem dX10_flood_146 : decode cX10_flood 146 = .ok (.iload 8, 2) := by decide +kernel
theorem dX10_flood_148 : decode cX10_flood 148 = .ok (.ireturn, 1) := by decide +kernel
set_option maxRecDepth 20000 in
theorem ggX10_soften_X10_isIn : GoodIn wsX10_soften wsX10_isIn := goodIn_r _ [6] (by decide +kernel) (by decide +kernel)
set_option maxRecDepth 20000 in
theorem gX10_soften_X10_isIn : GoodIn wsX10_soften (va_wsS RX10 42 yX10_isIn wsX10_isIn) := goodIn_app (goodIn_of _ (by decide +kernel)) ggX10_soften_X10_isIn
set_option maxRecDepth 20000 in
theorem ggX10_soften_X10_can : GoodIn wsX10_soften wsX10_can := goodIn_r _ [10, 11, 24, 25, 26, 27, 28, 29, 30, 31, 32, 33, 34, 35, 36, 37] (by decide +kernel) (by decide +kernel)
set_option maxRecDepth 20000 in
theorem gX10_soften_X10_can : GoodIn wsX10_soften (wsV RX10 56 RX10 yX10_can wsX10_can) := goodIn_app (goodIn_of _ (by decide +kernel)) ggX10_soften_X10_can
set_option maxRecDepth 20000 in
theorem ggX10_soften_X10_groundOf : GoodIn wsX10_soften wsX10_groundOf := goodIn_r _ [15, 16, 17, 18, 24, 25, 26, 27, 28, 29, 30, 31, 32, 33, 34, 35, 36, 37] (by decide +kernel) (by decide +kernel)
set_option maxRecDepth 20000 in
theorem gX10_soften_X10_groundOf : GoodIn wsX10_soften (wsV RX10 94 RX10 yX10_groundOf wsX10_groundOf) := goodIn_app (goodIn_of _ (by decide +kernel)) ggX10_soften_X10_groundOf
set_option maxRecDepth 20000 in
theorem ggX10_soften_X10_lessens : GoodIn wsX10_soften wsX10_lessens := goodIn_r _ [22, 23, 24, 25, 26, 27, 28, 29, 30, 31, 32, 33, 34, 35, 36, 37] (by decide +kernel) (by decide +kernel)
set_option maxRecDepth 20000 in
theorem gX10_soften_X10_lessens : GoodIn wsX10_soften (wsV RX10 64 RX10 yX10_lessens wsX10_lessens) := goodIn_app (goodIn_of _ (by decide +kernel)) ggX10_soften_X10_lessens
theorem dX10_soften_0 : decode cX10_soften 0 = .ok (.aload_n 0, 1) := by decide +kernel
theorem dX10_soften_1 : decode cX10_soften 1 = .ok (.iload_n 1, 1) := by decide +kernel
theorem dX10_soften_2 : decode cX10_soften 2 = .ok (.iconst 1, 1) := by decide +kernel
theorem dX10_soften_3 : decode cX10_soften 3 = .ok (.bipush 40, 2) := by decide +kernel
theorem dX10_soften_5 : decode cX10_soften 5 = .ok (.invokestatic 42, 3) := by decide +kernel
theorem dX10_soften_8 : decode cX10_soften 8 = .ok (.ifCond .ne 7, 3) := by decide +kernel
theorem dX10_soften_11 : decode cX10_soften 11 = .ok (.iconst 1, 1) := by decide +kernel
theorem dX10_soften_12 : decode cX10_soften 12 = .ok (.goto 17, 3) := by decide +kernel
theorem dX10_soften_15 : decode cX10_soften 15 = .ok (.aload_n 0, 1) := by decide +kernel
theorem dX10_soften_16 : decode cX10_soften 16 = .ok (.getfield 87, 3) := by decide +kernel
theorem dX10_soften_19 : decode cX10_soften 19 = .ok (.bipush 100, 2) := by decide +kernel
theorem dX10_soften_21 : decode cX10_soften 21 = .ok (.if_icmp .ne 7, 3) := by decide +kernel
theorem dX10_soften_24 : decode cX10_soften 24 = .ok (.iconst 2, 1) := by decide +kernel
theorem dX10_soften_25 : decode cX10_soften 25 = .ok (.goto 4, 3) := by decide +kernel
theorem dX10_soften_28 : decode cX10_soften 28 = .ok (.iconst 0, 1) := by decide +kernel
theorem dX10_soften_29 : decode cX10_soften 29 = .ok (.invokevirtual 56, 3) := by decide +kernel
theorem dX10_soften_32 : decode cX10_soften 32 = .ok (.ifCond .ne 5, 3) := by decide +kernel
theorem dX10_soften_35 : decode cX10_soften 35 = .ok (.iconst 0, 1) := by decide +kernel
theorem dX10_soften_36 : decode cX10_soften 36 = .ok (.ireturn, 1) := by decide +kernel
theorem dX10_soften_37 : decode cX10_soften 37 = .ok (.aload_n 0, 1) := by decide +kernel
theorem dX10_soften_38 : decode cX10_soften 38 = .ok (.dup, 1) := by decide +kernel
theorem dX10_soften_39 : decode cX10_soften 39 = .ok (.getfield 87, 3) := by decide +kernel
theorem dX10_soften_42 : decode cX10_soften 42 = .ok (.iconst 1, 1) := by decide +kernel
theorem dX10_soften_43 : decode cX10_soften 43 = .ok (.iadd, 1) := by decide +kernel
theorem dX10_soften_44 : decode cX10_soften 44 = .ok (.putfield 87, 3) := by decide +kernel
theorem dX10_soften_47 : decode cX10_soften 47 = .ok (.iconst 0, 1) := by decide +kernel
theorem dX10_soften_48 : decode cX10_soften 48 = .ok (.istore_n 2, 1) := by decide +kernel
theorem dX10_soften_49 : decode cX10_soften 49 = .ok (.iconst 0, 1) := by decide +kernel
theorem dX10_soften_50 : decode cX10_soften 50 = .ok (.istore_n 3, 1) := by decide +kernel
theorem dX10_soften_51 : decode cX10_soften 51 = .ok (.iload_n 3, 1) := by decide +kernel
theorem dX10_soften_52 : decode cX10_soften 52 = .ok (.aload_n 0, 1) := by decide +kernel
theorem dX10_soften_53 : decode cX10_soften 53 = .ok (.getfield 53, 3) := by decide +kernel
theorem dX10_soften_56 : decode cX10_soften 56 = .ok (.if_icmp .ge 56, 3) := by decide +kernel
theorem dX10_soften_59 : decode cX10_soften 59 = .ok (.aload_n 0, 1) := by decide +kernel
theorem dX10_soften_60 : decode cX10_soften 60 = .ok (.iload_n 3, 1) := by decide +kernel
theorem dX10_soften_61 : decode cX10_soften 61 = .ok (.invokevirtual 94, 3) := by decide +kernel
theorem dX10_soften_64 : decode cX10_soften 64 = .ok (.istore 4, 2) := by decide +kernel
theorem dX10_soften_66 : decode cX10_soften 66 = .ok (.iload_n 2, 1) := by decide +kernel
theorem dX10_soften_67 : decode cX10_soften 67 = .ok (.aload_n 0, 1) := by decide +kernel
theorem dX10_soften_68 : decode cX10_soften 68 = .ok (.iload_n 3, 1) := by decide +kernel
theorem dX10_soften_69 : decode cX10_soften 69 = .ok (.iload 4, 2) := by decide +kernel
theorem dX10_soften_71 : decode cX10_soften 71 = .ok (.ifCond .ne 9, 3) := by decide +kernel
theorem dX10_soften_74 : decode cX10_soften 74 = .ok (.iload_n 1, 1) := by decide +kernel
theorem dX10_soften_75 : decode cX10_soften 75 = .ok (.iconst 2, 1) := by decide +kernel
theorem dX10_soften_76 : decode cX10_soften 76 = .ok (.idiv, 1) := by decide +kernel
theorem dX10_soften_77 : decode cX10_soften 77 = .ok (.goto 16, 3) := by decide +kernel
theorem dX10_soften_80 : decode cX10_soften 80 = .ok (.iload 4, 2) := by decide +kernel
theorem dX10_soften_82 : decode cX10_soften 82 = .ok (.iconst 1, 1) := by decide +kernel
theorem dX10_soften_83 : decode cX10_soften 83 = .ok (.if_icmp .ne 7, 3) := by decide +kernel
theorem dX10_soften_86 : decode cX10_soften 86 = .ok (.iload_n 1, 1) := by decide +kernel
theorem dX10_soften_87 : decode cX10_soften 87 = .ok (.goto 6, 3) := by decide +kernel
theorem dX10_soften_90 : decode cX10_soften 90 = .ok (.iconst 2, 1) := by decide +kernel
theorem dX10_soften_91 : decode cX10_soften 91 = .ok (.iload_n 1, 1) := by decide +kernel
theorem dX10_soften_92 : decode cX10_soften 92 = .ok (.imul, 1) := by decide +kernel
theorem dX10_soften_93 : decode cX10_soften 93 = .ok (.invokevirtual 64, 3) := by decide +kernel
theorem dX10_soften_96 : decode cX10_soften 96 = .ok (.ifCond .eq 7, 3) := by decide +kernel
theorem dX10_soften_99 : decode cX10_soften 99 = .ok (.iconst 1, 1) := by decide +kernel
theorem dX10_soften_100 : decode cX10_soften 100 = .ok (.goto 4, 3) := by decide +kernel
theorem dX10_soften_103 : decode cX10_soften 103 = .ok (.iconst 0, 1) := by decide +kernel
theorem dX10_soften_104 : decode cX10_soften 104 = .ok (.iadd, 1) := by decide +kernel
theorem dX10_soften_105 : decode cX10_soften 105 = .ok (.istore_n 2, 1) := by decide +kernel
theorem dX10_soften_106 : decode cX10_soften 106 = .ok (.iinc 3 1, 3) := by decide +kernel
theorem dX10_soften_109 : decode cX10_soften 109 = .ok (.goto (-58), 3) := by decide +kernel
theorem dX10_soften_112 : decode cX10_soften 112 = .ok (.iload_n 2, 1) := by decide +kernel
theorem dX10_soften_113 : decode cX10_soften 113 = .ok (.ireturn, 1) := by decide +kernel
set_option maxRecDepth 20000 in
theorem ggX10_eye_X10_isIn : GoodIn wsX10_eye wsX10_isIn := goodIn_r _ [6] (by decide +kernel) (by decide +kernel)
set_option maxRecDepth 20000 in
theorem gX10_eye_X10_isIn : GoodIn wsX10_eye (va_wsS RX10 42 yX10_isIn wsX10_isIn) := goodIn_app (goodIn_of _ (by decide +kernel)) ggX10_eye_X10_isIn
set_option maxRecDepth 20000 in
theorem ggX10_eye_X10_can : GoodIn wsX10_eye wsX10_can := goodIn_r _ [10, 11, 12, 13, 14, 15, 16, 17, 18, 19, 20, 21, 22, 23, 24, 25] (by decide +kernel) (by decide +kernel)
set_option maxRecDepth 20000 in
theorem gX10_eye_X10_can : GoodIn wsX10_eye (wsV RX10 56 RX10 yX10_can wsX10_can) := goodIn_app (goodIn_of _ (by decide +kernel)) ggX10_eye_X10_can
theorem dX10_eye_0 : decode cX10_eye 0 = .ok (.aload_n 0, 1) := by decide +kernel
theorem dX10_eye_1 : decode cX10_eye 1 = .ok (.iload_n 1, 1) := by decide +kernel
theorem dX10_eye_2 : decode cX10_eye 2 = .ok (.iconst 1, 1) := by decide +kernel
theorem dX10_eye_3 : decode cX10_eye 3 = .ok (.bipush 9, 2) := by decide +kernel
theorem dX10_eye_5 : decode cX10_eye 5 = .ok (.invokestatic 42, 3) := by decide +kernel
theorem dX10_eye_8 : decode cX10_eye 8 = .ok (.ifCond .ne 7, 3) := by decide +kernel
theorem dX10_eye_11 : decode cX10_eye 11 = .ok (.iconst 1, 1) := by decide +kernel
theorem dX10_eye_12 : decode cX10_eye 12 = .ok (.goto 17, 3) := by decide +kernel
theorem dX10_eye_15 : decode cX10_eye 15 = .ok (.aload_n 0, 1) := by decide +kernel
theorem dX10_eye_16 : decode cX10_eye 16 = .ok (.getfield 50, 3) := by decide +kernel
theorem dX10_eye_19 : decode cX10_eye 19 = .ok (.bipush 6, 2) := by decide +kernel
theorem dX10_eye_21 : decode cX10_eye 21 = .ok (.if_icmp .ne 7, 3) := by decide +kernel
theorem dX10_eye_24 : decode cX10_eye 24 = .ok (.iconst 2, 1) := by decide +kernel
theorem dX10_eye_25 : decode cX10_eye 25 = .ok (.goto 4, 3) := by decide +kernel
theorem dX10_eye_28 : decode cX10_eye 28 = .ok (.iconst 0, 1) := by decide +kernel
theorem dX10_eye_29 : decode cX10_eye 29 = .ok (.invokevirtual 56, 3) := by decide +kernel
theorem dX10_eye_32 : decode cX10_eye 32 = .ok (.ifCond .ne 5, 3) := by decide +kernel
theorem dX10_eye_35 : decode cX10_eye 35 = .ok (.iconst 0, 1) := by decide +kernel
theorem dX10_eye_36 : decode cX10_eye 36 = .ok (.ireturn, 1) := by decide +kernel
theorem dX10_eye_37 : decode cX10_eye 37 = .ok (.aload_n 0, 1) := by decide +kernel
theorem dX10_eye_38 : decode cX10_eye 38 = .ok (.getfield 29, 3) := by decide +kernel
theorem dX10_eye_41 : decode cX10_eye 41 = .ok (.aload_n 0, 1) := by decide +kernel
theorem dX10_eye_42 : decode cX10_eye 42 = .ok (.getfield 50, 3) := by decide +kernel
theorem dX10_eye_45 : decode cX10_eye 45 = .ok (.iload_n 1, 1) := by decide +kernel
theorem dX10_eye_46 : decode cX10_eye 46 = .ok (.iastore, 1) := by decide +kernel
theorem dX10_eye_47 : decode cX10_eye 47 = .ok (.aload_n 0, 1) := by decide +kernel
theorem dX10_eye_48 : decode cX10_eye 48 = .ok (.dup, 1) := by decide +kernel
theorem dX10_eye_49 : decode cX10_eye 49 = .ok (.getfield 50, 3) := by decide +kernel
theorem dX10_eye_52 : decode cX10_eye 52 = .ok (.iconst 1, 1) := by decide +kernel
theorem dX10_eye_53 : decode cX10_eye 53 = .ok (.iadd, 1) := by decide +kernel
theorem dX10_eye_54 : decode cX10_eye 54 = .ok (.putfield 50, 3) := by decide +kernel
theorem dX10_eye_57 : decode cX10_eye 57 = .ok (.aload_n 0, 1) := by decide +kernel
theorem dX10_eye_58 : decode cX10_eye 58 = .ok (.getfield 50, 3) := by decide +kernel
theorem dX10_eye_61 : decode cX10_eye 61 = .ok (.iconst 1, 1) := by decide +kernel
theorem dX10_eye_62 : decode cX10_eye 62 = .ok (.isub, 1) := by decide +kernel
theorem dX10_eye_63 : decode cX10_eye 63 = .ok (.ireturn, 1) := by decide +kernel
set_option maxRecDepth 20000 in
theorem ggX10_anchor_X10_can : GoodIn wsX10_anchor wsX10_can := goodIn_r _ [10, 11, 12, 13, 14, 15, 16, 17, 18, 19, 20, 21, 22, 23, 24, 25] (by decide +kernel) (by decide +kernel)
set_option maxRecDepth 20000 in
theorem gX10_anchor_X10_can : GoodIn wsX10_anchor (wsV RX10 56 RX10 yX10_can wsX10_can) := goodIn_app (goodIn_of _ (by decide +kernel)) ggX10_anchor_X10_can
theorem dX10_anchor_0 : decode cX10_anchor 0 = .ok (.lload_n 1, 1) := by decide +kernel
theorem dX10_anchor_1 : decode cX10_anchor 1 = .ok (.lconst 1, 1) := by decide +kernel
theorem dX10_anchor_2 : decode cX10_anchor 2 = .ok (.lcmp, 1) := by decide +kernel
theorem dX10_anchor_3 : decode cX10_anchor 3 = .ok (.ifCond .lt 29, 3) := by decide +kernel
theorem dX10_anchor_6 : decode cX10_anchor 6 = .ok (.lload_n 1, 1) := by decide +kernel
theorem dX10_anchor_7 : decode cX10_anchor 7 = .ok (.ldc2_w 97, 3) := by decide +kernel
theorem dX10_anchor_10 : decode cX10_anchor 10 = .ok (.lcmp, 1) := by decide +kernel
theorem dX10_anchor_11 : decode cX10_anchor 11 = .ok (.ifCond .gt 21, 3) := by decide +kernel
theorem dX10_anchor_14 : decode cX10_anchor 14 = .ok (.lload_n 3, 1) := by decide +kernel
theorem dX10_anchor_15 : decode cX10_anchor 15 = .ok (.lconst 1, 1) := by decide +kernel
theorem dX10_anchor_16 : decode cX10_anchor 16 = .ok (.lcmp, 1) := by decide +kernel
theorem dX10_anchor_17 : decode cX10_anchor 17 = .ok (.ifCond .lt 15, 3) := by decide +kernel
theorem dX10_anchor_20 : decode cX10_anchor 20 = .ok (.lload_n 3, 1) := by decide +kernel
theorem dX10_anchor_21 : decode cX10_anchor 21 = .ok (.ldc2_w 99, 3) := by decide +kernel
theorem dX10_anchor_24 : decode cX10_anchor 24 = .ok (.lcmp, 1) := by decide +kernel
theorem dX10_anchor_25 : decode cX10_anchor 25 = .ok (.ifCond .gt 7, 3) := by decide +kernel
theorem dX10_anchor_28 : decode cX10_anchor 28 = .ok (.iconst 1, 1) := by decide +kernel
theorem dX10_anchor_29 : decode cX10_anchor 29 = .ok (.goto 4, 3) := by decide +kernel
theorem dX10_anchor_32 : decode cX10_anchor 32 = .ok (.iconst 0, 1) := by decide +kernel
theorem dX10_anchor_33 : decode cX10_anchor 33 = .ok (.istore 5, 2) := by decide +kernel
theorem dX10_anchor_35 : decode cX10_anchor 35 = .ok (.aload_n 0, 1) := by decide +kernel
theorem dX10_anchor_36 : decode cX10_anchor 36 = .ok (.getfield 101, 3) := by decide +kernel
theorem dX10_anchor_39 : decode cX10_anchor 39 = .ok (.ifCond .eq 44, 3) := by decide +kernel
theorem dX10_anchor_42 : decode cX10_anchor 42 = .ok (.aload_n 0, 1) := by decide +kernel
theorem dX10_anchor_43 : decode cX10_anchor 43 = .ok (.getfield 101, 3) := by decide +kernel
theorem dX10_anchor_46 : decode cX10_anchor 46 = .ok (.bipush 8, 2) := by decide +kernel
theorem dX10_anchor_48 : decode cX10_anchor 48 = .ok (.if_icmp .ge 39, 3) := by decide +kernel
theorem dX10_anchor_51 : decode cX10_anchor 51 = .ok (.lload_n 1, 1) := by decide +kernel
theorem dX10_anchor_52 : decode cX10_anchor 52 = .ok (.aload_n 0, 1) := by decide +kernel
theorem dX10_anchor_53 : decode cX10_anchor 53 = .ok (.getfield 32, 3) := by decide +kernel
theorem dX10_anchor_56 : decode cX10_anchor 56 = .ok (.aload_n 0, 1) := by decide +kernel
theorem dX10_anchor_57 : decode cX10_anchor 57 = .ok (.getfield 101, 3) := by decide +kernel
theorem dX10_anchor_60 : decode cX10_anchor 60 = .ok (.iconst 1, 1) := by decide +kernel
theorem dX10_anchor_61 : decode cX10_anchor 61 = .ok (.isub, 1) := by decide +kernel
theorem dX10_anchor_62 : decode cX10_anchor 62 = .ok (.laload, 1) := by decide +kernel
theorem dX10_anchor_63 : decode cX10_anchor 63 = .ok (.lcmp, 1) := by decide +kernel
theorem dX10_anchor_64 : decode cX10_anchor 64 = .ok (.ifCond .le 23, 3) := by decide +kernel
theorem dX10_anchor_67 : decode cX10_anchor 67 = .ok (.lload_n 3, 1) := by decide +kernel
theorem dX10_anchor_68 : decode cX10_anchor 68 = .ok (.aload_n 0, 1) := by decide +kernel
theorem dX10_anchor_69 : decode cX10_anchor 69 = .ok (.getfield 36, 3) := by decide +kernel
theorem dX10_anchor_72 : decode cX10_anchor 72 = .ok (.aload_n 0, 1) := by decide +kernel
theorem dX10_anchor_73 : decode cX10_anchor 73 = .ok (.getfield 101, 3) := by decide +kernel
theorem dX10_anchor_76 : decode cX10_anchor 76 = .ok (.iconst 1, 1) := by decide +kernel
theorem dX10_anchor_77 : decode cX10_anchor 77 = .ok (.isub, 1) := by decide +kernel
theorem dX10_anchor_78 : decode cX10_anchor 78 = .ok (.laload, 1) := by decide +kernel
theorem dX10_anchor_79 : decode cX10_anchor 79 = .ok (.lcmp, 1) := by decide +kernel
theorem dX10_anchor_80 : decode cX10_anchor 80 = .ok (.ifCond .le 7, 3) := by decide +kernel
theorem dX10_anchor_83 : decode cX10_anchor 83 = .ok (.iconst 1, 1) := by decide +kernel
theorem dX10_anchor_84 : decode cX10_anchor 84 = .ok (.goto 4, 3) := by decide +kernel
theorem dX10_anchor_87 : decode cX10_anchor 87 = .ok (.iconst 0, 1) := by decide +kernel
theorem dX10_anchor_88 : decode cX10_anchor 88 = .ok (.istore 6, 2) := by decide +kernel
theorem dX10_anchor_90 : decode cX10_anchor 90 = .ok (.aload_n 0, 1) := by decide +kernel
theorem dX10_anchor_91 : decode cX10_anchor 91 = .ok (.iload 5, 2) := by decide +kernel
theorem dX10_anchor_93 : decode cX10_anchor 93 = .ok (.ifCond .ne 7, 3) := by decide +kernel
theorem dX10_anchor_96 : decode cX10_anchor 96 = .ok (.iconst 1, 1) := by decide +kernel
theorem dX10_anchor_97 : decode cX10_anchor 97 = .ok (.goto 13, 3) := by decide +kernel
theorem dX10_anchor_100 : decode cX10_anchor 100 = .ok (.iload 6, 2) := by decide +kernel
theorem dX10_anchor_102 : decode cX10_anchor 102 = .ok (.ifCond .eq 7, 3) := by decide +kernel
theorem dX10_anchor_105 : decode cX10_anchor 105 = .ok (.iconst 0, 1) := by decide +kernel
theorem dX10_anchor_106 : decode cX10_anchor 106 = .ok (.goto 4, 3) := by decide +kernel
theorem dX10_anchor_109 : decode cX10_anchor 109 = .ok (.iconst 2, 1) := by decide +kernel
theorem dX10_anchor_110 : decode cX10_anchor 110 = .ok (.invokevirtual 56, 3) := by decide +kernel
theorem dX10_anchor_113 : decode cX10_anchor 113 = .ok (.ifCond .ne 5, 3) := by decide +kernel
theorem dX10_anchor_116 : decode cX10_anchor 116 = .ok (.iconst 0, 1) := by decide +kernel
theorem dX10_anchor_117 : decode cX10_anchor 117 = .ok (.ireturn, 1) := by decide +kernel
theorem dX10_anchor_118 : decode cX10_anchor 118 = .ok (.aload_n 0, 1) := by decide +kernel
theorem dX10_anchor_119 : decode cX10_anchor 119 = .ok (.getfield 32, 3) := by decide +kernel
theorem dX10_anchor_122 : decode cX10_anchor 122 = .ok (.aload_n 0, 1) := by decide +kernel
theorem dX10_anchor_123 : decode cX10_anchor 123 = .ok (.getfield 101, 3) := by decide +kernel
theorem dX10_anchor_126 : decode cX10_anchor 126 = .ok (.lload_n 1, 1) := by decide +kernel
theorem dX10_anchor_127 : decode cX10_anchor 127 = .ok (.lastore, 1) := by decide +kernel
theorem dX10_anchor_128 : decode cX10_anchor 128 = .ok (.aload_n 0, 1) := by decide +kernel
theorem dX10_anchor_129 : decode cX10_anchor 129 = .ok (.getfield 36, 3) := by decide +kernel
theorem dX10_anchor_132 : decode cX10_anchor 132 = .ok (.aload_n 0, 1) := by decide +kernel
theorem dX10_anchor_133 : decode cX10_anchor 133 = .ok (.getfield 101, 3) := by decide +kernel
theorem dX10_anchor_136 : decode cX10_anchor 136 = .ok (.lload_n 3, 1) := by decide +kernel
theorem dX10_anchor_137 : decode cX10_anchor 137 = .ok (.lastore, 1) := by decide +kernel
theorem dX10_anchor_138 : decode cX10_anchor 138 = .ok (.aload_n 0, 1) := by decide +kernel
theorem dX10_anchor_139 : decode cX10_anchor 139 = .ok (.dup, 1) := by decide +kernel
theorem dX10_anchor_140 : decode cX10_anchor 140 = .ok (.getfield 101, 3) := by decide +kernel
theorem dX10_anchor_143 : decode cX10_anchor 143 = .ok (.iconst 1, 1) := by decide +kernel
theorem dX10_anchor_144 : decode cX10_anchor 144 = .ok (.iadd, 1) := by decide +kernel
theorem dX10_anchor_145 : decode cX10_anchor 145 = .ok (.putfield 101, 3) := by decide +kernel
theorem dX10_anchor_148 : decode cX10_anchor 148 = .ok (.aload_n 0, 1) := by decide +kernel
theorem dX10_anchor_149 : decode cX10_anchor 149 = .ok (.getfield 101, 3) := by decide +kernel
theorem dX10_anchor_152 : decode cX10_anchor 152 = .ok (.ireturn, 1) := by decide +kernel
set_option maxRecDepth 20000 in
theorem ggX10_counts_X10_isWithin : GoodIn wsX10_counts wsX10_isWithin := goodIn_r _ [9, 10, 11, 12, 13, 8, 14, 15, 16, 17, 18, 19, 20, 21, 22, 23, 24, 25, 26, 27, 28] (by decide +kernel) (by decide +kernel)
set_option maxRecDepth 20000 in
theorem gX10_counts_X10_isWithin : GoodIn wsX10_counts (wsV RX10 90 RX10 yX10_isWithin wsX10_isWithin) := goodIn_app (goodIn_of _ (by decide +kernel)) ggX10_counts_X10_isWithin
theorem dX10_counts_0 : decode cX10_counts 0 = .ok (.iconst 0, 1) := by decide +kernel
theorem dX10_counts_1 : decode cX10_counts 1 = .ok (.istore 7, 2) := by decide +kernel
theorem dX10_counts_3 : decode cX10_counts 3 = .ok (.iconst 0, 1) := by decide +kernel
theorem dX10_counts_4 : decode cX10_counts 4 = .ok (.istore 8, 2) := by decide +kernel
theorem dX10_counts_6 : decode cX10_counts 6 = .ok (.iload 8, 2) := by decide +kernel
theorem dX10_counts_8 : decode cX10_counts 8 = .ok (.aload_n 0, 1) := by decide +kernel
theorem dX10_counts_9 : decode cX10_counts 9 = .ok (.getfield 53, 3) := by decide +kernel
theorem dX10_counts_12 : decode cX10_counts 12 = .ok (.if_icmp .ge 87, 3) := by decide +kernel
theorem dX10_counts_15 : decode cX10_counts 15 = .ok (.aload_n 0, 1) := by decide +kernel
theorem dX10_counts_16 : decode cX10_counts 16 = .ok (.getfield 22, 3) := by decide +kernel
theorem dX10_counts_19 : decode cX10_counts 19 = .ok (.iload 8, 2) := by decide +kernel
theorem dX10_counts_21 : decode cX10_counts 21 = .ok (.iaload, 1) := by decide +kernel
theorem dX10_counts_22 : decode cX10_counts 22 = .ok (.ifCond .le 26, 3) := by decide +kernel
theorem dX10_counts_25 : decode cX10_counts 25 = .ok (.aload_n 0, 1) := by decide +kernel
theorem dX10_counts_26 : decode cX10_counts 26 = .ok (.getfield 22, 3) := by decide +kernel
theorem dX10_counts_29 : decode cX10_counts 29 = .ok (.iload 8, 2) := by decide +kernel
theorem dX10_counts_31 : decode cX10_counts 31 = .ok (.iaload, 1) := by decide +kernel
theorem dX10_counts_32 : decode cX10_counts 32 = .ok (.bipush 10, 2) := by decide +kernel
theorem dX10_counts_34 : decode cX10_counts 34 = .ok (.aload_n 0, 1) := by decide +kernel
theorem dX10_counts_35 : decode cX10_counts 35 = .ok (.getfield 29, 3) := by decide +kernel
theorem dX10_counts_38 : decode cX10_counts 38 = .ok (.iload_n 1, 1) := by decide +kernel
theorem dX10_counts_39 : decode cX10_counts 39 = .ok (.iaload, 1) := by decide +kernel
theorem dX10_counts_40 : decode cX10_counts 40 = .ok (.isub, 1) := by decide +kernel
theorem dX10_counts_41 : decode cX10_counts 41 = .ok (.if_icmp .lt 7, 3) := by decide +kernel
theorem dX10_counts_44 : decode cX10_counts 44 = .ok (.iconst 1, 1) := by decide +kernel
theorem dX10_counts_45 : decode cX10_counts 45 = .ok (.goto 4, 3) := by decide +kernel
theorem dX10_counts_48 : decode cX10_counts 48 = .ok (.iconst 0, 1) := by decide +kernel
theorem dX10_counts_49 : decode cX10_counts 49 = .ok (.istore 9, 2) := by decide +kernel
theorem dX10_counts_51 : decode cX10_counts 51 = .ok (.iload 7, 2) := by decide +kernel
theorem dX10_counts_53 : decode cX10_counts 53 = .ok (.iload 9, 2) := by decide +kernel
theorem dX10_counts_55 : decode cX10_counts 55 = .ok (.ifCond .eq 34, 3) := by decide +kernel
theorem dX10_counts_58 : decode cX10_counts 58 = .ok (.aload_n 0, 1) := by decide +kernel
theorem dX10_counts_59 : decode cX10_counts 59 = .ok (.getfield 19, 3) := by decide +kernel
theorem dX10_counts_62 : decode cX10_counts 62 = .ok (.iload 8, 2) := by decide +kernel
theorem dX10_counts_64 : decode cX10_counts 64 = .ok (.iaload, 1) := by decide +kernel
theorem dX10_counts_65 : decode cX10_counts 65 = .ok (.iload 6, 2) := by decide +kernel
theorem dX10_counts_67 : decode cX10_counts 67 = .ok (.if_icmp .lt 22, 3) := by decide +kernel
theorem dX10_counts_70 : decode cX10_counts 70 = .ok (.aload_n 0, 1) := by decide +kernel
theorem dX10_counts_71 : decode cX10_counts 71 = .ok (.iload 8, 2) := by decide +kernel
theorem dX10_counts_73 : decode cX10_counts 73 = .ok (.iload_n 2, 1) := by decide +kernel
theorem dX10_counts_74 : decode cX10_counts 74 = .ok (.iload_n 3, 1) := by decide +kernel
theorem dX10_counts_75 : decode cX10_counts 75 = .ok (.iload 4, 2) := by decide +kernel
theorem dX10_counts_77 : decode cX10_counts 77 = .ok (.iload 5, 2) := by decide +kernel
theorem dX10_counts_79 : decode cX10_counts 79 = .ok (.invokevirtual 90, 3) := by decide +kernel
theorem dX10_counts_82 : decode cX10_counts 82 = .ok (.ifCond .eq 7, 3) := by decide +kernel
theorem dX10_counts_85 : decode cX10_counts 85 = .ok (.iconst 1, 1) := by decide +kernel
theorem dX10_counts_86 : decode cX10_counts 86 = .ok (.goto 4, 3) := by decide +kernel
theorem dX10_counts_89 : decode cX10_counts 89 = .ok (.iconst 0, 1) := by decide +kernel
theorem dX10_counts_90 : decode cX10_counts 90 = .ok (.iadd, 1) := by decide +kernel
theorem dX10_counts_91 : decode cX10_counts 91 = .ok (.istore 7, 2) := by decide +kernel
theorem dX10_counts_93 : decode cX10_counts 93 = .ok (.iinc 8 1, 3) := by decide +kernel
theorem dX10_counts_96 : decode cX10_counts 96 = .ok (.goto (-90), 3) := by decide +kernel
theorem dX10_counts_99 : decode cX10_counts 99 = .ok (.iload 7, 2) := by decide +kernel
theorem dX10_counts_101 : decode cX10_counts 101 = .ok (.ireturn, 1) := by decide +kernel
set_option maxRecDepth 20000 in
theorem ggX10_count_X10_isEye : GoodIn wsX10_count wsX10_isEye := goodIn_r _ [5, 6, 7, 8, 4, 9, 35, 36, 37, 38, 39, 40, 41, 42, 43, 44, 45, 46, 47, 48] (by decide +kernel) (by decide +kernel)
set_option maxRecDepth 20000 in
theorem gX10_count_X10_isEye : GoodIn wsX10_count (wsV RX10 104 RX10 yX10_isEye wsX10_isEye) := goodIn_app (goodIn_of _ (by decide +kernel)) ggX10_count_X10_isEye
set_option maxRecDepth 20000 in
theorem ggX10_count_X10_areCells : GoodIn wsX10_count wsX10_areCells := goodIn_r _ [12, 13, 14, 4, 15, 7, 8, 9] (by decide +kernel) (by decide +kernel)
set_option maxRecDepth 20000 in
theorem gX10_count_X10_areCells : GoodIn wsX10_count (va_wsS RX10 83 yX10_areCells wsX10_areCells) := goodIn_app (goodIn_of _ (by decide +kernel)) ggX10_count_X10_areCells
set_option maxRecDepth 20000 in
theorem ggX10_count_X10_isIn : GoodIn wsX10_count wsX10_isIn := goodIn_r _ [9] (by decide +kernel) (by decide +kernel)
set_option maxRecDepth 20000 in
theorem gX10_count_X10_isIn : GoodIn wsX10_count (va_wsS RX10 42 yX10_isIn wsX10_isIn) := goodIn_app (goodIn_of _ (by decide +kernel)) ggX10_count_X10_isIn
set_option maxRecDepth 20000 in
theorem ggX10_count_X10_can : GoodIn wsX10_count wsX10_can := goodIn_r _ [19, 20, 35, 36, 37, 38, 39, 40, 41, 42, 43, 44, 45, 46, 47, 48] (by decide +kernel) (by decide +kernel)
set_option maxRecDepth 20000 in
theorem gX10_count_X10_can : GoodIn wsX10_count (wsV RX10 56 RX10 yX10_can wsX10_can) := goodIn_app (goodIn_of _ (by decide +kernel)) ggX10_count_X10_can
set_option maxRecDepth 20000 in
theorem ggX10_count_X10_counts : GoodIn wsX10_count wsX10_counts := goodIn_r _ [24, 25, 26, 27, 28, 29, 30, 31, 4, 32, 33, 34, 7, 8, 9, 35, 36, 37, 38, 39, 40, 41, 42, 43, 44, 45, 46, 47, 48] (by decide +kernel) (by decide +kernel)
set_option maxRecDepth 20000 in
theorem gX10_count_X10_counts : GoodIn wsX10_count (wsV RX10 107 RX10 yX10_counts wsX10_counts) := goodIn_app (goodIn_of _ (by decide +kernel)) ggX10_count_X10_counts
theorem dX10_count_0 : decode cX10_count 0 = .ok (.aload_n 0, 1) := by decide +kernel
theorem dX10_count_1 : decode cX10_count 1 = .ok (.iload_n 1, 1) := by decide +kernel
theorem dX10_count_2 : decode cX10_count 2 = .ok (.invokevirtual 104, 3) := by decide +kernel
theorem dX10_count_5 : decode cX10_count 5 = .ok (.ifCond .eq 19, 3) := by decide +kernel
theorem dX10_count_8 : decode cX10_count 8 = .ok (.iload_n 2, 1) := by decide +kernel
theorem dX10_count_9 : decode cX10_count 9 = .ok (.iload_n 3, 1) := by decide +kernel
theorem dX10_count_10 : decode cX10_count 10 = .ok (.iload 4, 2) := by decide +kernel
theorem dX10_count_12 : decode cX10_count 12 = .ok (.iload 5, 2) := by decide +kernel
theorem dX10_count_14 : decode cX10_count 14 = .ok (.invokestatic 83, 3) := by decide +kernel
theorem dX10_count_17 : decode cX10_count 17 = .ok (.ifCond .eq 7, 3) := by decide +kernel
theorem dX10_count_20 : decode cX10_count 20 = .ok (.iconst 1, 1) := by decide +kernel
theorem dX10_count_21 : decode cX10_count 21 = .ok (.goto 4, 3) := by decide +kernel
theorem dX10_count_24 : decode cX10_count 24 = .ok (.iconst 0, 1) := by decide +kernel
theorem dX10_count_25 : decode cX10_count 25 = .ok (.istore 7, 2) := by decide +kernel
theorem dX10_count_27 : decode cX10_count 27 = .ok (.iload 4, 2) := by decide +kernel
theorem dX10_count_29 : decode cX10_count 29 = .ok (.iload_n 2, 1) := by decide +kernel
theorem dX10_count_30 : decode cX10_count 30 = .ok (.if_icmp .lt 24, 3) := by decide +kernel
theorem dX10_count_33 : decode cX10_count 33 = .ok (.iload 5, 2) := by decide +kernel
theorem dX10_count_35 : decode cX10_count 35 = .ok (.iload_n 3, 1) := by decide +kernel
theorem dX10_count_36 : decode cX10_count 36 = .ok (.if_icmp .lt 18, 3) := by decide +kernel
theorem dX10_count_39 : decode cX10_count 39 = .ok (.iload 6, 2) := by decide +kernel
theorem dX10_count_41 : decode cX10_count 41 = .ok (.iconst 1, 1) := by decide +kernel
theorem dX10_count_42 : decode cX10_count 42 = .ok (.bipush 7, 2) := by decide +kernel
theorem dX10_count_44 : decode cX10_count 44 = .ok (.invokestatic 42, 3) := by decide +kernel
theorem dX10_count_47 : decode cX10_count 47 = .ok (.ifCond .eq 7, 3) := by decide +kernel
theorem dX10_count_50 : decode cX10_count 50 = .ok (.iconst 1, 1) := by decide +kernel
theorem dX10_count_51 : decode cX10_count 51 = .ok (.goto 4, 3) := by decide +kernel
theorem dX10_count_54 : decode cX10_count 54 = .ok (.iconst 0, 1) := by decide +kernel
theorem dX10_count_55 : decode cX10_count 55 = .ok (.istore 8, 2) := by decide +kernel
theorem dX10_count_57 : decode cX10_count 57 = .ok (.aload_n 0, 1) := by decide +kernel
theorem dX10_count_58 : decode cX10_count 58 = .ok (.iload 7, 2) := by decide +kernel
theorem dX10_count_60 : decode cX10_count 60 = .ok (.ifCond .ne 7, 3) := by decide +kernel
theorem dX10_count_63 : decode cX10_count 63 = .ok (.iconst 1, 1) := by decide +kernel
theorem dX10_count_64 : decode cX10_count 64 = .ok (.goto 13, 3) := by decide +kernel
theorem dX10_count_67 : decode cX10_count 67 = .ok (.iload 8, 2) := by decide +kernel
theorem dX10_count_69 : decode cX10_count 69 = .ok (.ifCond .eq 7, 3) := by decide +kernel
theorem dX10_count_72 : decode cX10_count 72 = .ok (.iconst 0, 1) := by decide +kernel
theorem dX10_count_73 : decode cX10_count 73 = .ok (.goto 4, 3) := by decide +kernel
theorem dX10_count_76 : decode cX10_count 76 = .ok (.iconst 2, 1) := by decide +kernel
theorem dX10_count_77 : decode cX10_count 77 = .ok (.invokevirtual 56, 3) := by decide +kernel
theorem dX10_count_80 : decode cX10_count 80 = .ok (.ifCond .eq 19, 3) := by decide +kernel
theorem dX10_count_83 : decode cX10_count 83 = .ok (.aload_n 0, 1) := by decide +kernel
theorem dX10_count_84 : decode cX10_count 84 = .ok (.iload_n 1, 1) := by decide +kernel
theorem dX10_count_85 : decode cX10_count 85 = .ok (.iload_n 2, 1) := by decide +kernel
theorem dX10_count_86 : decode cX10_count 86 = .ok (.iload_n 3, 1) := by decide +kernel
theorem dX10_count_87 : decode cX10_count 87 = .ok (.iload 4, 2) := by decide +kernel
theorem dX10_count_89 : decode cX10_count 89 = .ok (.iload 5, 2) := by decide +kernel
theorem dX10_count_91 : decode cX10_count 91 = .ok (.iload 6, 2) := by decide +kernel
theorem dX10_count_93 : decode cX10_count 93 = .ok (.invokevirtual 107, 3) := by decide +kernel
theorem dX10_count_96 : decode cX10_count 96 = .ok (.goto 4, 3) := by decide +kernel
theorem dX10_count_99 : decode cX10_count 99 = .ok (.iconst 0, 1) := by decide +kernel
theorem dX10_count_100 : decode cX10_count 100 = .ok (.ireturn, 1) := by decide +kernel
set_option maxRecDepth 20000 in
theorem ggX10_densityOf_X10_counts : GoodIn wsX10_densityOf wsX10_counts := goodIn_r _ [6, 7, 8, 9, 10, 11, 12, 13, 5, 14, 15, 16, 17, 18, 19, 20, 21, 22, 23, 24, 25, 26, 27, 28, 29, 30, 31, 32, 33] (by decide +kernel) (by decide +kernel)
set_option maxRecDepth 20000 in
theorem gX10_densityOf_X10_counts : GoodIn wsX10_densityOf (wsV RX10 107 RX10 yX10_counts wsX10_counts) := goodIn_app (goodIn_of _ (by decide +kernel)) ggX10_densityOf_X10_counts
theorem dX10_densityOf_0 : decode cX10_densityOf 0 = .ok (.aload_n 0, 1) := by decide +kernel
theorem dX10_densityOf_1 : decode cX10_densityOf 1 = .ok (.iload_n 1, 1) := by decide +kernel
theorem dX10_densityOf_2 : decode cX10_densityOf 2 = .ok (.iload_n 2, 1) := by decide +kernel
theorem dX10_densityOf_3 : decode cX10_densityOf 3 = .ok (.iload_n 3, 1) := by decide +kernel
theorem dX10_densityOf_4 : decode cX10_densityOf 4 = .ok (.iload 4, 2) := by decide +kernel
theorem dX10_densityOf_6 : decode cX10_densityOf 6 = .ok (.iload 5, 2) := by decide +kernel
theorem dX10_densityOf_8 : decode cX10_densityOf 8 = .ok (.iconst 1, 1) := by decide +kernel
theorem dX10_densityOf_9 : decode cX10_densityOf 9 = .ok (.invokevirtual 107, 3) := by decide +kernel
theorem dX10_densityOf_12 : decode cX10_densityOf 12 = .ok (.i2l, 1) := by decide +kernel
theorem dX10_densityOf_13 : decode cX10_densityOf 13 = .ok (.ldc2_w 111, 3) := by decide +kernel
theorem dX10_densityOf_16 : decode cX10_densityOf 16 = .ok (.lmul, 1) := by decide +kernel
theorem dX10_densityOf_17 : decode cX10_densityOf 17 = .ok (.iload 4, 2) := by decide +kernel
theorem dX10_densityOf_19 : decode cX10_densityOf 19 = .ok (.iload_n 2, 1) := by decide +kernel
theorem dX10_densityOf_20 : decode cX10_densityOf 20 = .ok (.isub, 1) := by decide +kernel
theorem dX10_densityOf_21 : decode cX10_densityOf 21 = .ok (.iconst 1, 1) := by decide +kernel
theorem dX10_densityOf_22 : decode cX10_densityOf 22 = .ok (.iadd, 1) := by decide +kernel
theorem dX10_densityOf_23 : decode cX10_densityOf 23 = .ok (.iload 5, 2) := by decide +kernel
theorem dX10_densityOf_25 : decode cX10_densityOf 25 = .ok (.iload_n 3, 1) := by decide +kernel
theorem dX10_densityOf_26 : decode cX10_densityOf 26 = .ok (.isub, 1) := by decide +kernel
theorem dX10_densityOf_27 : decode cX10_densityOf 27 = .ok (.iconst 1, 1) := by decide +kernel
theorem dX10_densityOf_28 : decode cX10_densityOf 28 = .ok (.iadd, 1) := by decide +kernel
theorem dX10_densityOf_29 : decode cX10_densityOf 29 = .ok (.imul, 1) := by decide +kernel
theorem dX10_densityOf_30 : decode cX10_densityOf 30 = .ok (.i2l, 1) := by decide +kernel
theorem dX10_densityOf_31 : decode cX10_densityOf 31 = .ok (.ldiv, 1) := by decide +kernel
theorem dX10_densityOf_32 : decode cX10_densityOf 32 = .ok (.lreturn, 1) := by decide +kernel
set_option maxRecDepth 20000 in
theorem ggX10_reason_X10_densityOf : GoodIn wsX10_reason wsX10_densityOf := goodIn_r _ [7, 8, 9, 10, 11, 6, 12, 13, 14, 15, 16, 17, 18, 19, 20, 21, 22, 23, 24, 25, 26, 27, 28, 29, 30, 31, 32, 33, 34, 35, 36, 37, 38, 39] (by decide +kernel) (by decide +kernel)
set_option maxRecDepth 20000 in
theorem gX10_reason_X10_densityOf : GoodIn wsX10_reason (wsV RX10 113 RX10 yX10_densityOf wsX10_densityOf) := goodIn_app (goodIn_of _ (by decide +kernel)) ggX10_reason_X10_densityOf
theorem dX10_reason_0 : decode cX10_reason 0 = .ok (.aload_n 0, 1) := by decide +kernel
theorem dX10_reason_1 : decode cX10_reason 1 = .ok (.getfield 101, 3) := by decide +kernel
theorem dX10_reason_4 : decode cX10_reason 4 = .ok (.iconst 2, 1) := by decide +kernel
theorem dX10_reason_5 : decode cX10_reason 5 = .ok (.if_icmp .ge 7, 3) := by decide +kernel
theorem dX10_reason_8 : decode cX10_reason 8 = .ok (.iconst 1, 1) := by decide +kernel
theorem dX10_reason_9 : decode cX10_reason 9 = .ok (.goto 34, 3) := by decide +kernel
theorem dX10_reason_12 : decode cX10_reason 12 = .ok (.aload_n 0, 1) := by decide +kernel
theorem dX10_reason_13 : decode cX10_reason 13 = .ok (.iload_n 1, 1) := by decide +kernel
theorem dX10_reason_14 : decode cX10_reason 14 = .ok (.iload_n 2, 1) := by decide +kernel
theorem dX10_reason_15 : decode cX10_reason 15 = .ok (.iload_n 3, 1) := by decide +kernel
theorem dX10_reason_16 : decode cX10_reason 16 = .ok (.iload 4, 2) := by decide +kernel
theorem dX10_reason_18 : decode cX10_reason 18 = .ok (.iload 5, 2) := by decide +kernel
theorem dX10_reason_20 : decode cX10_reason 20 = .ok (.invokevirtual 113, 3) := by decide +kernel
theorem dX10_reason_23 : decode cX10_reason 23 = .ok (.aload_n 0, 1) := by decide +kernel
theorem dX10_reason_24 : decode cX10_reason 24 = .ok (.getfield 36, 3) := by decide +kernel
theorem dX10_reason_27 : decode cX10_reason 27 = .ok (.aload_n 0, 1) := by decide +kernel
theorem dX10_reason_28 : decode cX10_reason 28 = .ok (.getfield 101, 3) := by decide +kernel
theorem dX10_reason_31 : decode cX10_reason 31 = .ok (.iconst 1, 1) := by decide +kernel
theorem dX10_reason_32 : decode cX10_reason 32 = .ok (.isub, 1) := by decide +kernel
theorem dX10_reason_33 : decode cX10_reason 33 = .ok (.laload, 1) := by decide +kernel
theorem dX10_reason_34 : decode cX10_reason 34 = .ok (.lcmp, 1) := by decide +kernel
theorem dX10_reason_35 : decode cX10_reason 35 = .ok (.ifCond .le 7, 3) := by decide +kernel
theorem dX10_reason_38 : decode cX10_reason 38 = .ok (.iconst 2, 1) := by decide +kernel
theorem dX10_reason_39 : decode cX10_reason 39 = .ok (.goto 4, 3) := by decide +kernel
theorem dX10_reason_42 : decode cX10_reason 42 = .ok (.iconst 0, 1) := by decide +kernel
theorem dX10_reason_43 : decode cX10_reason 43 = .ok (.ireturn, 1) := by decide +kernel
theorem dX10_ageBy_0 : decode cX10_ageBy 0 = .ok (.lload_n 1, 1) := by decide +kernel
theorem dX10_ageBy_1 : decode cX10_ageBy 1 = .ok (.aload_n 0, 1) := by decide +kernel
theorem dX10_ageBy_2 : decode cX10_ageBy 2 = .ok (.getfield 36, 3) := by decide +kernel
theorem dX10_ageBy_5 : decode cX10_ageBy 5 = .ok (.iconst 0, 1) := by decide +kernel
theorem dX10_ageBy_6 : decode cX10_ageBy 6 = .ok (.laload, 1) := by decide +kernel
theorem dX10_ageBy_7 : decode cX10_ageBy 7 = .ok (.lcmp, 1) := by decide +kernel
theorem dX10_ageBy_8 : decode cX10_ageBy 8 = .ok (.ifCond .gt 19, 3) := by decide +kernel
theorem dX10_ageBy_11 : decode cX10_ageBy 11 = .ok (.aload_n 0, 1) := by decide +kernel
theorem dX10_ageBy_12 : decode cX10_ageBy 12 = .ok (.getfield 32, 3) := by decide +kernel
theorem dX10_ageBy_15 : decode cX10_ageBy 15 = .ok (.iconst 0, 1) := by decide +kernel
theorem dX10_ageBy_16 : decode cX10_ageBy 16 = .ok (.laload, 1) := by decide +kernel
theorem dX10_ageBy_17 : decode cX10_ageBy 17 = .ok (.lload_n 1, 1) := by decide +kernel
theorem dX10_ageBy_18 : decode cX10_ageBy 18 = .ok (.lmul, 1) := by decide +kernel
theorem dX10_ageBy_19 : decode cX10_ageBy 19 = .ok (.aload_n 0, 1) := by decide +kernel
theorem dX10_ageBy_20 : decode cX10_ageBy 20 = .ok (.getfield 36, 3) := by decide +kernel
theorem dX10_ageBy_23 : decode cX10_ageBy 23 = .ok (.iconst 0, 1) := by decide +kernel
theorem dX10_ageBy_24 : decode cX10_ageBy 24 = .ok (.laload, 1) := by decide +kernel
theorem dX10_ageBy_25 : decode cX10_ageBy 25 = .ok (.ldiv, 1) := by decide +kernel
theorem dX10_ageBy_26 : decode cX10_ageBy 26 = .ok (.lreturn, 1) := by decide +kernel
theorem dX10_ageBy_27 : decode cX10_ageBy 27 = .ok (.iconst 1, 1) := by decide +kernel
theorem dX10_ageBy_28 : decode cX10_ageBy 28 = .ok (.istore_n 3, 1) := by decide +kernel
theorem dX10_ageBy_29 : decode cX10_ageBy 29 = .ok (.lload_n 1, 1) := by decide +kernel
theorem dX10_ageBy_30 : decode cX10_ageBy 30 = .ok (.aload_n 0, 1) := by decide +kernel
theorem dX10_ageBy_31 : decode cX10_ageBy 31 = .ok (.getfield 36, 3) := by decide +kernel
theorem dX10_ageBy_34 : decode cX10_ageBy 34 = .ok (.iload_n 3, 1) := by decide +kernel
theorem dX10_ageBy_35 : decode cX10_ageBy 35 = .ok (.laload, 1) := by decide +kernel
theorem dX10_ageBy_36 : decode cX10_ageBy 36 = .ok (.lcmp, 1) := by decide +kernel
theorem dX10_ageBy_37 : decode cX10_ageBy 37 = .ok (.ifCond .le 9, 3) := by decide +kernel
theorem dX10_ageBy_40 : decode cX10_ageBy 40 = .ok (.iinc 3 1, 3) := by decide +kernel
theorem dX10_ageBy_43 : decode cX10_ageBy 43 = .ok (.goto (-14), 3) := by decide +kernel
theorem dX10_ageBy_46 : decode cX10_ageBy 46 = .ok (.aload_n 0, 1) := by decide +kernel
theorem dX10_ageBy_47 : decode cX10_ageBy 47 = .ok (.getfield 32, 3) := by decide +kernel
theorem dX10_ageBy_50 : decode cX10_ageBy 50 = .ok (.iload_n 3, 1) := by decide +kernel
theorem dX10_ageBy_51 : decode cX10_ageBy 51 = .ok (.iconst 1, 1) := by decide +kernel
theorem dX10_ageBy_52 : decode cX10_ageBy 52 = .ok (.isub, 1) := by decide +kernel
theorem dX10_ageBy_53 : decode cX10_ageBy 53 = .ok (.laload, 1) := by decide +kernel
theorem dX10_ageBy_54 : decode cX10_ageBy 54 = .ok (.aload_n 0, 1) := by decide +kernel
theorem dX10_ageBy_55 : decode cX10_ageBy 55 = .ok (.getfield 32, 3) := by decide +kernel
theorem dX10_ageBy_58 : decode cX10_ageBy 58 = .ok (.iload_n 3, 1) := by decide +kernel
theorem dX10_ageBy_59 : decode cX10_ageBy 59 = .ok (.laload, 1) := by decide +kernel
theorem dX10_ageBy_60 : decode cX10_ageBy 60 = .ok (.aload_n 0, 1) := by decide +kernel
theorem dX10_ageBy_61 : decode cX10_ageBy 61 = .ok (.getfield 32, 3) := by decide +kernel
theorem dX10_ageBy_64 : decode cX10_ageBy 64 = .ok (.iload_n 3, 1) := by decide +kernel
theorem dX10_ageBy_65 : decode cX10_ageBy 65 = .ok (.iconst 1, 1) := by decide +kernel
theorem dX10_ageBy_66 : decode cX10_ageBy 66 = .ok (.isub, 1) := by decide +kernel
theorem dX10_ageBy_67 : decode cX10_ageBy 67 = .ok (.laload, 1) := by decide +kernel
theorem dX10_ageBy_68 : decode cX10_ageBy 68 = .ok (.lsub, 1) := by decide +kernel
theorem dX10_ageBy_69 : decode cX10_ageBy 69 = .ok (.lload_n 1, 1) := by decide +kernel
theorem dX10_ageBy_70 : decode cX10_ageBy 70 = .ok (.aload_n 0, 1) := by decide +kernel
theorem dX10_ageBy_71 : decode cX10_ageBy 71 = .ok (.getfield 36, 3) := by decide +kernel
theorem dX10_ageBy_74 : decode cX10_ageBy 74 = .ok (.iload_n 3, 1) := by decide +kernel
theorem dX10_ageBy_75 : decode cX10_ageBy 75 = .ok (.iconst 1, 1) := by decide +kernel
theorem dX10_ageBy_76 : decode cX10_ageBy 76 = .ok (.isub, 1) := by decide +kernel
theorem dX10_ageBy_77 : decode cX10_ageBy 77 = .ok (.laload, 1) := by decide +kernel
theorem dX10_ageBy_78 : decode cX10_ageBy 78 = .ok (.lsub, 1) := by decide +kernel
theorem dX10_ageBy_79 : decode cX10_ageBy 79 = .ok (.lmul, 1) := by decide +kernel
theorem dX10_ageBy_80 : decode cX10_ageBy 80 = .ok (.aload_n 0, 1) := by decide +kernel
theorem dX10_ageBy_81 : decode cX10_ageBy 81 = .ok (.getfield 36, 3) := by decide +kernel
theorem dX10_ageBy_84 : decode cX10_ageBy 84 = .ok (.iload_n 3, 1) := by decide +kernel
theorem dX10_ageBy_85 : decode cX10_ageBy 85 = .ok (.laload, 1) := by decide +kernel
theorem dX10_ageBy_86 : decode cX10_ageBy 86 = .ok (.aload_n 0, 1) := by decide +kernel
theorem dX10_ageBy_87 : decode cX10_ageBy 87 = .ok (.getfield 36, 3) := by decide +kernel
theorem dX10_ageBy_90 : decode cX10_ageBy 90 = .ok (.iload_n 3, 1) := by decide +kernel
theorem dX10_ageBy_91 : decode cX10_ageBy 91 = .ok (.iconst 1, 1) := by decide +kernel
theorem dX10_ageBy_92 : decode cX10_ageBy 92 = .ok (.isub, 1) := by decide +kernel
theorem dX10_ageBy_93 : decode cX10_ageBy 93 = .ok (.laload, 1) := by decide +kernel
theorem dX10_ageBy_94 : decode cX10_ageBy 94 = .ok (.lsub, 1) := by decide +kernel
theorem dX10_ageBy_95 : decode cX10_ageBy 95 = .ok (.ldiv, 1) := by decide +kernel
theorem dX10_ageBy_96 : decode cX10_ageBy 96 = .ok (.ladd, 1) := by decide +kernel
theorem dX10_ageBy_97 : decode cX10_ageBy 97 = .ok (.lreturn, 1) := by decide +kernel
set_option maxRecDepth 20000 in
theorem ggX10_age_X10_isEye : GoodIn wsX10_age wsX10_isEye := goodIn_r _ [5, 6, 7, 8, 4, 9, 51, 52, 53, 54, 55, 56, 57, 58, 59, 60, 61, 62, 63, 64] (by decide +kernel) (by decide +kernel)
set_option maxRecDepth 20000 in
theorem gX10_age_X10_isEye : GoodIn wsX10_age (wsV RX10 104 RX10 yX10_isEye wsX10_isEye) := goodIn_app (goodIn_of _ (by decide +kernel)) ggX10_age_X10_isEye
set_option maxRecDepth 20000 in
theorem ggX10_age_X10_areCells : GoodIn wsX10_age wsX10_areCells := goodIn_r _ [12, 13, 14, 4, 15, 7, 8, 9] (by decide +kernel) (by decide +kernel)
set_option maxRecDepth 20000 in
theorem gX10_age_X10_areCells : GoodIn wsX10_age (va_wsS RX10 83 yX10_areCells wsX10_areCells) := goodIn_app (goodIn_of _ (by decide +kernel)) ggX10_age_X10_areCells
set_option maxRecDepth 20000 in
theorem ggX10_age_X10_reason : GoodIn wsX10_age wsX10_reason := goodIn_r _ [19, 20, 21, 22, 23, 24, 4, 25, 26, 27, 28, 29, 30, 31, 32, 33, 34, 35, 36, 37, 38, 39, 40, 7, 8, 9, 51, 52, 53, 54, 55, 56, 57, 58, 59, 60, 61, 62, 63, 64] (by decide +kernel) (by decide +kernel)
set_option maxRecDepth 20000 in
theorem gX10_age_X10_reason : GoodIn wsX10_age (wsV RX10 117 RX10 yX10_reason wsX10_reason) := goodIn_app (goodIn_of _ (by decide +kernel)) ggX10_age_X10_reason
set_option maxRecDepth 20000 in
theorem ggX10_age_X10_can : GoodIn wsX10_age wsX10_can := goodIn_r _ [44, 45, 51, 52, 53, 54, 55, 56, 57, 58, 59, 60, 61, 62, 63, 64] (by decide +kernel) (by decide +kernel)
set_option maxRecDepth 20000 in
theorem gX10_age_X10_can : GoodIn wsX10_age (wsV RX10 56 RX10 yX10_can wsX10_can) := goodIn_app (goodIn_of _ (by decide +kernel)) ggX10_age_X10_can
set_option maxRecDepth 20000 in
theorem ggX10_age_X10_densityOf : GoodIn wsX10_age wsX10_densityOf := goodIn_r _ [25, 26, 27, 28, 29, 4, 30, 31, 32, 33, 34, 35, 36, 37, 38, 39, 40, 7, 8, 9, 51, 52, 53, 54, 55, 56, 57, 58, 59, 60, 61, 62, 63, 64] (by decide +kernel) (by decide +kernel)
set_option maxRecDepth 20000 in
theorem gX10_age_X10_densityOf : GoodIn wsX10_age (wsV RX10 113 RX10 yX10_densityOf wsX10_densityOf) := goodIn_app (goodIn_of _ (by decide +kernel)) ggX10_age_X10_densityOf
set_option maxRecDepth 20000 in
theorem ggX10_age_X10_ageBy : GoodIn wsX10_age wsX10_ageBy := goodIn_r _ [49, 21, 50, 51, 52, 53, 54, 55, 56, 57, 58, 59, 60, 61, 62, 63, 64] (by decide +kernel) (by decide +kernel)
set_option maxRecDepth 20000 in
theorem gX10_age_X10_ageBy : GoodIn wsX10_age (wsV RX10 121 RX10 yX10_ageBy wsX10_ageBy) := goodIn_app (goodIn_of _ (by decide +kernel)) ggX10_age_X10_ageBy
theorem dX10_age_0 : decode cX10_age 0 = .ok (.aload_n 0, 1) := by decide +kernel
theorem dX10_age_1 : decode cX10_age 1 = .ok (.iload_n 1, 1) := by decide +kernel
theorem dX10_age_2 : decode cX10_age 2 = .ok (.invokevirtual 104, 3) := by decide +kernel
theorem dX10_age_5 : decode cX10_age 5 = .ok (.ifCond .eq 19, 3) := by decide +kernel
theorem dX10_age_8 : decode cX10_age 8 = .ok (.iload_n 2, 1) := by decide +kernel
theorem dX10_age_9 : decode cX10_age 9 = .ok (.iload_n 3, 1) := by decide +kernel
theorem dX10_age_10 : decode cX10_age 10 = .ok (.iload 4, 2) := by decide +kernel
theorem dX10_age_12 : decode cX10_age 12 = .ok (.iload 5, 2) := by decide +kernel
theorem dX10_age_14 : decode cX10_age 14 = .ok (.invokestatic 83, 3) := by decide +kernel
theorem dX10_age_17 : decode cX10_age 17 = .ok (.ifCond .eq 7, 3) := by decide +kernel
theorem dX10_age_20 : decode cX10_age 20 = .ok (.iconst 1, 1) := by decide +kernel
theorem dX10_age_21 : decode cX10_age 21 = .ok (.goto 4, 3) := by decide +kernel
theorem dX10_age_24 : decode cX10_age 24 = .ok (.iconst 0, 1) := by decide +kernel
theorem dX10_age_25 : decode cX10_age 25 = .ok (.istore 6, 2) := by decide +kernel
theorem dX10_age_27 : decode cX10_age 27 = .ok (.iload 4, 2) := by decide +kernel
theorem dX10_age_29 : decode cX10_age 29 = .ok (.iload_n 2, 1) := by decide +kernel
theorem dX10_age_30 : decode cX10_age 30 = .ok (.if_icmp .lt 13, 3) := by decide +kernel
theorem dX10_age_33 : decode cX10_age 33 = .ok (.iload 5, 2) := by decide +kernel
theorem dX10_age_35 : decode cX10_age 35 = .ok (.iload_n 3, 1) := by decide +kernel
theorem dX10_age_36 : decode cX10_age 36 = .ok (.if_icmp .lt 7, 3) := by decide +kernel
theorem dX10_age_39 : decode cX10_age 39 = .ok (.iconst 1, 1) := by decide +kernel
theorem dX10_age_40 : decode cX10_age 40 = .ok (.goto 4, 3) := by decide +kernel
theorem dX10_age_43 : decode cX10_age 43 = .ok (.iconst 0, 1) := by decide +kernel
theorem dX10_age_44 : decode cX10_age 44 = .ok (.istore 7, 2) := by decide +kernel
theorem dX10_age_46 : decode cX10_age 46 = .ok (.aload_n 0, 1) := by decide +kernel
theorem dX10_age_47 : decode cX10_age 47 = .ok (.iload 6, 2) := by decide +kernel
theorem dX10_age_49 : decode cX10_age 49 = .ok (.ifCond .ne 7, 3) := by decide +kernel
theorem dX10_age_52 : decode cX10_age 52 = .ok (.iconst 1, 1) := by decide +kernel
theorem dX10_age_53 : decode cX10_age 53 = .ok (.goto 31, 3) := by decide +kernel
theorem dX10_age_56 : decode cX10_age 56 = .ok (.iload 7, 2) := by decide +kernel
theorem dX10_age_58 : decode cX10_age 58 = .ok (.ifCond .ne 7, 3) := by decide +kernel
theorem dX10_age_61 : decode cX10_age 61 = .ok (.iconst 2, 1) := by decide +kernel
theorem dX10_age_62 : decode cX10_age 62 = .ok (.goto 22, 3) := by decide +kernel
theorem dX10_age_65 : decode cX10_age 65 = .ok (.aload_n 0, 1) := by decide +kernel
theorem dX10_age_66 : decode cX10_age 66 = .ok (.iload_n 1, 1) := by decide +kernel
theorem dX10_age_67 : decode cX10_age 67 = .ok (.iload_n 2, 1) := by decide +kernel
theorem dX10_age_68 : decode cX10_age 68 = .ok (.iload_n 3, 1) := by decide +kernel
theorem dX10_age_69 : decode cX10_age 69 = .ok (.iload 4, 2) := by decide +kernel
theorem dX10_age_71 : decode cX10_age 71 = .ok (.iload 5, 2) := by decide +kernel
theorem dX10_age_73 : decode cX10_age 73 = .ok (.invokevirtual 117, 3) := by decide +kernel
theorem dX10_age_76 : decode cX10_age 76 = .ok (.ifCond .le 7, 3) := by decide +kernel
theorem dX10_age_79 : decode cX10_age 79 = .ok (.iconst 3, 1) := by decide +kernel
theorem dX10_age_80 : decode cX10_age 80 = .ok (.goto 4, 3) := by decide +kernel
theorem dX10_age_83 : decode cX10_age 83 = .ok (.iconst 0, 1) := by decide +kernel
theorem dX10_age_84 : decode cX10_age 84 = .ok (.invokevirtual 56, 3) := by decide +kernel
theorem dX10_age_87 : decode cX10_age 87 = .ok (.ifCond .ne 5, 3) := by decide +kernel
theorem dX10_age_90 : decode cX10_age 90 = .ok (.lconst 0, 1) := by decide +kernel
