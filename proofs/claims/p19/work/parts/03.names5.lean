theorem dL_stones_380 : decode cL_stones 380 = .ok (.if_icmp .ne 7, 3) := by decide +kernel
theorem dL_stones_383 : decode cL_stones 383 = .ok (.iconst 1, 1) := by decide +kernel
theorem dL_stones_384 : decode cL_stones 384 = .ok (.goto 4, 3) := by decide +kernel
theorem dL_stones_387 : decode cL_stones 387 = .ok (.iconst 0, 1) := by decide +kernel
theorem dL_stones_388 : decode cL_stones 388 = .ok (.ireturn, 1) := by decide +kernel
set_option maxRecDepth 20000 in
theorem ggL_rains_X9_rain : GoodIn wsL_rains wsX9_rain := goodIn_ca (goodIn_ca (goodIn_r _ [7, 8, 9, 10, 6, 11, 12, 13, 14, 15, 16, 17, 18, 19, 20, 21, 22, 23, 24, 25, 26, 27, 28, 29, 30, 31, 32, 33, 34, 35, 36, 37, 38, 39, 40, 41, 42, 43, 44, 45, 46, 47, 48, 49, 50, 51, 52, 53, 54, 55, 56, 57, 58, 59, 60, 61, 62, 63, 64, 65, 66, 67, 68, 69, 70, 71, 72, 73, 74, 75, 76, 77, 78, 79, 80, 81, 82, 83, 84, 85, 86, 87, 88, 89, 90, 91, 92, 93, 94, 95, 96, 97, 98, 99, 100, 101, 102, 103, 104, 105, 106, 107, 108, 109, 110, 111, 112, 113, 114, 115, 116, 117, 118, 119, 120, 121, 122, 123, 124, 125, 126, 127, 128, 129, 130, 131, 132, 133, 134, 135, 136, 137, 138, 139, 140, 141, 142, 143, 144, 145, 146, 147, 148, 149, 150, 151, 152, 153, 154, 155, 156, 184, 185, 186, 187, 188, 189, 190, 191, 192, 193, 194, 195, 196, 197, 198, 199] (by decide +kernel) (by decide +kernel)) (goodIn_sub (fun _ h => List.mem_cons_of_mem _ (List.mem_append_left _ (List.mem_append_left _ (List.mem_append_right _ h)))) (by decide +kernel))) (goodIn_sub (fun _ h => List.mem_cons_of_mem _ (List.mem_append_left _ (List.mem_append_right _ h))) (by decide +kernel))
set_option maxRecDepth 20000 in
theorem gL_rains_X9_rain : GoodIn wsL_rains (wsV RL 83 RX9 yX9_rain wsX9_rain) := goodIn_app (goodIn_of _ (by decide +kernel)) ggL_rains_X9_rain
set_option maxRecDepth 20000 in
theorem ggL_rains_X9_craters : GoodIn wsL_rains wsX9_craters := goodIn_r _ [160, 20, 21, 22, 23, 24, 25, 26, 184, 185, 186, 187, 188, 189, 190, 191, 192] (by decide +kernel) (by decide +kernel)
set_option maxRecDepth 20000 in
theorem gL_rains_X9_craters : GoodIn wsL_rains (wsV RL 43 RX9 yX9_craters wsX9_craters) := goodIn_app (goodIn_of _ (by decide +kernel)) ggL_rains_X9_craters
set_option maxRecDepth 20000 in
theorem ggL_rains_L_groundOf : GoodIn wsL_rains wsL_groundOf := goodIn_r _ [164] (by decide +kernel) (by decide +kernel)
set_option maxRecDepth 20000 in
theorem gL_rains_L_groundOf : GoodIn wsL_rains (va_wsS RL 75 yL_groundOf wsL_groundOf) := goodIn_app (goodIn_of _ (by decide +kernel)) ggL_rains_L_groundOf
set_option maxRecDepth 20000 in
theorem ggL_rains_X9_about : GoodIn wsL_rains wsX9_about := goodIn_ca (goodIn_ca (goodIn_r _ [168, 169, 20, 44, 170, 171, 172, 156, 173, 174, 175, 6, 176, 177, 178, 21, 22, 23, 24, 25, 26, 9, 10, 11, 12, 13, 73, 74, 75, 76, 77, 78, 79, 80, 81, 82, 83, 84, 85, 86, 87, 88, 89, 184, 185, 186, 187, 188, 189, 193, 194, 195, 196, 197, 198, 190, 191, 192] (by decide +kernel) (by decide +kernel)) (goodIn_sub (fun _ h => List.mem_cons_of_mem _ (List.mem_append_right _ h)) (by decide +kernel))) (goodIn_sub (fun _ h => List.mem_cons_of_mem _ (List.mem_append_left _ (List.mem_append_left _ (List.mem_append_right _ h)))) (by decide +kernel))
set_option maxRecDepth 20000 in
theorem gL_rains_X9_about : GoodIn wsL_rains (wsV RL 16 RX9 yX9_about wsX9_about) := goodIn_app (goodIn_of _ (by decide +kernel)) ggL_rains_X9_about
set_option maxRecDepth 20000 in
theorem ggL_rains_X9_draw : GoodIn wsL_rains wsX9_draw := goodIn_ca (goodIn_r _ [182, 183, 31, 9, 10, 6, 11, 12, 13, 184, 185, 186, 187, 188, 189] (by decide +kernel) (by decide +kernel)) (goodIn_sub (fun _ h => List.mem_cons_of_mem _ (List.mem_append_left _ (List.mem_append_left _ (List.mem_append_right _ h)))) (by decide +kernel))
set_option maxRecDepth 20000 in
theorem gL_rains_X9_draw : GoodIn wsL_rains (wsV RL 87 RX9 yX9_draw wsX9_draw) := goodIn_app (goodIn_of _ (by decide +kernel)) ggL_rains_X9_draw
theorem dL_rains_0 : decode cL_rains 0 = .ok (.aload_n 0, 1) := by decide +kernel
theorem dL_rains_1 : decode cL_rains 1 = .ok (.iload_n 1, 1) := by decide +kernel
theorem dL_rains_2 : decode cL_rains 2 = .ok (.invokevirtual 83, 3) := by decide +kernel
theorem dL_rains_5 : decode cL_rains 5 = .ok (.istore 4, 2) := by decide +kernel
theorem dL_rains_7 : decode cL_rains 7 = .ok (.iconst 0, 1) := by decide +kernel
theorem dL_rains_8 : decode cL_rains 8 = .ok (.istore 5, 2) := by decide +kernel
theorem dL_rains_10 : decode cL_rains 10 = .ok (.aload_n 0, 1) := by decide +kernel
theorem dL_rains_11 : decode cL_rains 11 = .ok (.invokevirtual 43, 3) := by decide +kernel
theorem dL_rains_14 : decode cL_rains 14 = .ok (.aload_n 2, 1) := by decide +kernel
theorem dL_rains_15 : decode cL_rains 15 = .ok (.iconst 0, 1) := by decide +kernel
theorem dL_rains_16 : decode cL_rains 16 = .ok (.iaload, 1) := by decide +kernel
theorem dL_rains_17 : decode cL_rains 17 = .ok (.iload_n 1, 1) := by decide +kernel
theorem dL_rains_18 : decode cL_rains 18 = .ok (.iadd, 1) := by decide +kernel
theorem dL_rains_19 : decode cL_rains 19 = .ok (.if_icmp .ne 7, 3) := by decide +kernel
theorem dL_rains_22 : decode cL_rains 22 = .ok (.iconst 1, 1) := by decide +kernel
theorem dL_rains_23 : decode cL_rains 23 = .ok (.goto 4, 3) := by decide +kernel
theorem dL_rains_26 : decode cL_rains 26 = .ok (.iconst 0, 1) := by decide +kernel
theorem dL_rains_27 : decode cL_rains 27 = .ok (.istore 6, 2) := by decide +kernel
theorem dL_rains_29 : decode cL_rains 29 = .ok (.iconst 0, 1) := by decide +kernel
theorem dL_rains_30 : decode cL_rains 30 = .ok (.istore 7, 2) := by decide +kernel
theorem dL_rains_32 : decode cL_rains 32 = .ok (.iload 7, 2) := by decide +kernel
theorem dL_rains_34 : decode cL_rains 34 = .ok (.iload_n 1, 1) := by decide +kernel
theorem dL_rains_35 : decode cL_rains 35 = .ok (.if_icmp .ge 250, 3) := by decide +kernel
theorem dL_rains_38 : decode cL_rains 38 = .ok (.iload 6, 2) := by decide +kernel
theorem dL_rains_40 : decode cL_rains 40 = .ok (.ifCond .eq 245, 3) := by decide +kernel
theorem dL_rains_43 : decode cL_rains 43 = .ok (.iconst 3, 1) := by decide +kernel
theorem dL_rains_44 : decode cL_rains 44 = .ok (.newarray .int, 2) := by decide +kernel
theorem dL_rains_46 : decode cL_rains 46 = .ok (.astore 8, 2) := by decide +kernel
theorem dL_rains_48 : decode cL_rains 48 = .ok (.iconst 0, 1) := by decide +kernel
theorem dL_rains_49 : decode cL_rains 49 = .ok (.istore 9, 2) := by decide +kernel
theorem dL_rains_51 : decode cL_rains 51 = .ok (.iload 9, 2) := by decide +kernel
theorem dL_rains_53 : decode cL_rains 53 = .ok (.iconst 3, 1) := by decide +kernel
theorem dL_rains_54 : decode cL_rains 54 = .ok (.if_icmp .ge 46, 3) := by decide +kernel
theorem dL_rains_57 : decode cL_rains 57 = .ok (.aload_n 2, 1) := by decide +kernel
theorem dL_rains_58 : decode cL_rains 58 = .ok (.iconst 1, 1) := by decide +kernel
theorem dL_rains_59 : decode cL_rains 59 = .ok (.bipush 75, 2) := by decide +kernel
theorem dL_rains_61 : decode cL_rains 61 = .ok (.aload_n 2, 1) := by decide +kernel
theorem dL_rains_62 : decode cL_rains 62 = .ok (.iconst 1, 1) := by decide +kernel
theorem dL_rains_63 : decode cL_rains 63 = .ok (.iaload, 1) := by decide +kernel
theorem dL_rains_64 : decode cL_rains 64 = .ok (.imul, 1) := by decide +kernel
theorem dL_rains_65 : decode cL_rains 65 = .ok (.bipush 74, 2) := by decide +kernel
theorem dL_rains_67 : decode cL_rains 67 = .ok (.iadd, 1) := by decide +kernel
theorem dL_rains_68 : decode cL_rains 68 = .ok (.ldc 86, 2) := by decide +kernel
theorem dL_rains_70 : decode cL_rains 70 = .ok (.irem, 1) := by decide +kernel
theorem dL_rains_71 : decode cL_rains 71 = .ok (.iastore, 1) := by decide +kernel
theorem dL_rains_72 : decode cL_rains 72 = .ok (.aload 8, 2) := by decide +kernel
theorem dL_rains_74 : decode cL_rains 74 = .ok (.iload 9, 2) := by decide +kernel
theorem dL_rains_76 : decode cL_rains 76 = .ok (.aload_n 2, 1) := by decide +kernel
theorem dL_rains_77 : decode cL_rains 77 = .ok (.iconst 1, 1) := by decide +kernel
theorem dL_rains_78 : decode cL_rains 78 = .ok (.iaload, 1) := by decide +kernel
theorem dL_rains_79 : decode cL_rains 79 = .ok (.iload 9, 2) := by decide +kernel
theorem dL_rains_81 : decode cL_rains 81 = .ok (.iconst 2, 1) := by decide +kernel
theorem dL_rains_82 : decode cL_rains 82 = .ok (.if_icmp .ne 8, 3) := by decide +kernel
theorem dL_rains_85 : decode cL_rains 85 = .ok (.bipush 64, 2) := by decide +kernel
theorem dL_rains_87 : decode cL_rains 87 = .ok (.goto 5, 3) := by decide +kernel
theorem dL_rains_90 : decode cL_rains 90 = .ok (.bipush 16, 2) := by decide +kernel
theorem dL_rains_92 : decode cL_rains 92 = .ok (.irem, 1) := by decide +kernel
theorem dL_rains_93 : decode cL_rains 93 = .ok (.iastore, 1) := by decide +kernel
theorem dL_rains_94 : decode cL_rains 94 = .ok (.iinc 9 1, 3) := by decide +kernel
theorem dL_rains_97 : decode cL_rains 97 = .ok (.goto (-46), 3) := by decide +kernel
theorem dL_rains_100 : decode cL_rains 100 = .ok (.aload 8, 2) := by decide +kernel
theorem dL_rains_102 : decode cL_rains 102 = .ok (.iconst 2, 1) := by decide +kernel
theorem dL_rains_103 : decode cL_rains 103 = .ok (.iaload, 1) := by decide +kernel
theorem dL_rains_104 : decode cL_rains 104 = .ok (.bipush 62, 2) := by decide +kernel
theorem dL_rains_106 : decode cL_rains 106 = .ok (.if_icmp .le 8, 3) := by decide +kernel
theorem dL_rains_109 : decode cL_rains 109 = .ok (.bipush 6, 2) := by decide +kernel
theorem dL_rains_111 : decode cL_rains 111 = .ok (.goto 56, 3) := by decide +kernel
theorem dL_rains_114 : decode cL_rains 114 = .ok (.aload 8, 2) := by decide +kernel
theorem dL_rains_116 : decode cL_rains 116 = .ok (.iconst 2, 1) := by decide +kernel
theorem dL_rains_117 : decode cL_rains 117 = .ok (.iaload, 1) := by decide +kernel
theorem dL_rains_118 : decode cL_rains 118 = .ok (.bipush 60, 2) := by decide +kernel
theorem dL_rains_120 : decode cL_rains 120 = .ok (.if_icmp .le 7, 3) := by decide +kernel
theorem dL_rains_123 : decode cL_rains 123 = .ok (.iconst 5, 1) := by decide +kernel
theorem dL_rains_124 : decode cL_rains 124 = .ok (.goto 43, 3) := by decide +kernel
theorem dL_rains_127 : decode cL_rains 127 = .ok (.aload 8, 2) := by decide +kernel
theorem dL_rains_129 : decode cL_rains 129 = .ok (.iconst 2, 1) := by decide +kernel
theorem dL_rains_130 : decode cL_rains 130 = .ok (.iaload, 1) := by decide +kernel
theorem dL_rains_131 : decode cL_rains 131 = .ok (.bipush 57, 2) := by decide +kernel
theorem dL_rains_133 : decode cL_rains 133 = .ok (.if_icmp .le 7, 3) := by decide +kernel
theorem dL_rains_136 : decode cL_rains 136 = .ok (.iconst 4, 1) := by decide +kernel
theorem dL_rains_137 : decode cL_rains 137 = .ok (.goto 30, 3) := by decide +kernel
theorem dL_rains_140 : decode cL_rains 140 = .ok (.aload 8, 2) := by decide +kernel
theorem dL_rains_142 : decode cL_rains 142 = .ok (.iconst 2, 1) := by decide +kernel
theorem dL_rains_143 : decode cL_rains 143 = .ok (.iaload, 1) := by decide +kernel
theorem dL_rains_144 : decode cL_rains 144 = .ok (.bipush 51, 2) := by decide +kernel
theorem dL_rains_146 : decode cL_rains 146 = .ok (.if_icmp .le 7, 3) := by decide +kernel
theorem dL_rains_149 : decode cL_rains 149 = .ok (.iconst 3, 1) := by decide +kernel
theorem dL_rains_150 : decode cL_rains 150 = .ok (.goto 17, 3) := by decide +kernel
theorem dL_rains_153 : decode cL_rains 153 = .ok (.aload 8, 2) := by decide +kernel
theorem dL_rains_155 : decode cL_rains 155 = .ok (.iconst 2, 1) := by decide +kernel
theorem dL_rains_156 : decode cL_rains 156 = .ok (.iaload, 1) := by decide +kernel
theorem dL_rains_157 : decode cL_rains 157 = .ok (.bipush 39, 2) := by decide +kernel
theorem dL_rains_159 : decode cL_rains 159 = .ok (.if_icmp .le 7, 3) := by decide +kernel
theorem dL_rains_162 : decode cL_rains 162 = .ok (.iconst 2, 1) := by decide +kernel
theorem dL_rains_163 : decode cL_rains 163 = .ok (.goto 4, 3) := by decide +kernel
theorem dL_rains_166 : decode cL_rains 166 = .ok (.iconst 1, 1) := by decide +kernel
theorem dL_rains_167 : decode cL_rains 167 = .ok (.istore 9, 2) := by decide +kernel
theorem dL_rains_169 : decode cL_rains 169 = .ok (.aload_n 3, 1) := by decide +kernel
theorem dL_rains_170 : decode cL_rains 170 = .ok (.aload 8, 2) := by decide +kernel
theorem dL_rains_172 : decode cL_rains 172 = .ok (.iconst 0, 1) := by decide +kernel
theorem dL_rains_173 : decode cL_rains 173 = .ok (.iaload, 1) := by decide +kernel
theorem dL_rains_174 : decode cL_rains 174 = .ok (.aload 8, 2) := by decide +kernel
theorem dL_rains_176 : decode cL_rains 176 = .ok (.iconst 1, 1) := by decide +kernel
theorem dL_rains_177 : decode cL_rains 177 = .ok (.iaload, 1) := by decide +kernel
theorem dL_rains_178 : decode cL_rains 178 = .ok (.invokestatic 75, 3) := by decide +kernel
theorem dL_rains_181 : decode cL_rains 181 = .ok (.istore 10, 2) := by decide +kernel
theorem dL_rains_183 : decode cL_rains 183 = .ok (.iload 10, 2) := by decide +kernel
theorem dL_rains_185 : decode cL_rains 185 = .ok (.ifCond .ne 8, 3) := by decide +kernel
theorem dL_rains_188 : decode cL_rains 188 = .ok (.iload 9, 2) := by decide +kernel
theorem dL_rains_190 : decode cL_rains 190 = .ok (.goto 30, 3) := by decide +kernel
theorem dL_rains_193 : decode cL_rains 193 = .ok (.iload 10, 2) := by decide +kernel
theorem dL_rains_195 : decode cL_rains 195 = .ok (.iconst 2, 1) := by decide +kernel
theorem dL_rains_196 : decode cL_rains 196 = .ok (.if_icmp .ne 10, 3) := by decide +kernel
theorem dL_rains_199 : decode cL_rains 199 = .ok (.iload 9, 2) := by decide +kernel
theorem dL_rains_201 : decode cL_rains 201 = .ok (.iconst 1, 1) := by decide +kernel
theorem dL_rains_202 : decode cL_rains 202 = .ok (.iadd, 1) := by decide +kernel
theorem dL_rains_203 : decode cL_rains 203 = .ok (.goto 17, 3) := by decide +kernel
theorem dL_rains_206 : decode cL_rains 206 = .ok (.iload 9, 2) := by decide +kernel
theorem dL_rains_208 : decode cL_rains 208 = .ok (.iconst 1, 1) := by decide +kernel
theorem dL_rains_209 : decode cL_rains 209 = .ok (.if_icmp .le 10, 3) := by decide +kernel
theorem dL_rains_212 : decode cL_rains 212 = .ok (.iload 9, 2) := by decide +kernel
theorem dL_rains_214 : decode cL_rains 214 = .ok (.iconst 1, 1) := by decide +kernel
theorem dL_rains_215 : decode cL_rains 215 = .ok (.isub, 1) := by decide +kernel
theorem dL_rains_216 : decode cL_rains 216 = .ok (.goto 4, 3) := by decide +kernel
theorem dL_rains_219 : decode cL_rains 219 = .ok (.iconst 1, 1) := by decide +kernel
theorem dL_rains_220 : decode cL_rains 220 = .ok (.istore 11, 2) := by decide +kernel
theorem dL_rains_222 : decode cL_rains 222 = .ok (.aload_n 0, 1) := by decide +kernel
theorem dL_rains_223 : decode cL_rains 223 = .ok (.aload_n 2, 1) := by decide +kernel
theorem dL_rains_224 : decode cL_rains 224 = .ok (.iconst 0, 1) := by decide +kernel
theorem dL_rains_225 : decode cL_rains 225 = .ok (.iaload, 1) := by decide +kernel
theorem dL_rains_226 : decode cL_rains 226 = .ok (.iconst 0, 1) := by decide +kernel
theorem dL_rains_227 : decode cL_rains 227 = .ok (.invokevirtual 16, 3) := by decide +kernel
theorem dL_rains_230 : decode cL_rains 230 = .ok (.aload 8, 2) := by decide +kernel
theorem dL_rains_232 : decode cL_rains 232 = .ok (.iconst 0, 1) := by decide +kernel
theorem dL_rains_233 : decode cL_rains 233 = .ok (.iaload, 1) := by decide +kernel
theorem dL_rains_234 : decode cL_rains 234 = .ok (.if_icmp .ne 35, 3) := by decide +kernel
theorem dL_rains_237 : decode cL_rains 237 = .ok (.aload_n 0, 1) := by decide +kernel
theorem dL_rains_238 : decode cL_rains 238 = .ok (.aload_n 2, 1) := by decide +kernel
theorem dL_rains_239 : decode cL_rains 239 = .ok (.iconst 0, 1) := by decide +kernel
theorem dL_rains_240 : decode cL_rains 240 = .ok (.iaload, 1) := by decide +kernel
theorem dL_rains_241 : decode cL_rains 241 = .ok (.iconst 1, 1) := by decide +kernel
theorem dL_rains_242 : decode cL_rains 242 = .ok (.invokevirtual 16, 3) := by decide +kernel
theorem dL_rains_245 : decode cL_rains 245 = .ok (.aload 8, 2) := by decide +kernel
theorem dL_rains_247 : decode cL_rains 247 = .ok (.iconst 1, 1) := by decide +kernel
theorem dL_rains_248 : decode cL_rains 248 = .ok (.iaload, 1) := by decide +kernel
theorem dL_rains_249 : decode cL_rains 249 = .ok (.if_icmp .ne 20, 3) := by decide +kernel
theorem dL_rains_252 : decode cL_rains 252 = .ok (.aload_n 0, 1) := by decide +kernel
theorem dL_rains_253 : decode cL_rains 253 = .ok (.aload_n 2, 1) := by decide +kernel
theorem dL_rains_254 : decode cL_rains 254 = .ok (.iconst 0, 1) := by decide +kernel
theorem dL_rains_255 : decode cL_rains 255 = .ok (.iaload, 1) := by decide +kernel
theorem dL_rains_256 : decode cL_rains 256 = .ok (.iconst 2, 1) := by decide +kernel
theorem dL_rains_257 : decode cL_rains 257 = .ok (.invokevirtual 16, 3) := by decide +kernel
theorem dL_rains_260 : decode cL_rains 260 = .ok (.iload 11, 2) := by decide +kernel
theorem dL_rains_262 : decode cL_rains 262 = .ok (.if_icmp .ne 7, 3) := by decide +kernel
theorem dL_rains_265 : decode cL_rains 265 = .ok (.iconst 1, 1) := by decide +kernel
theorem dL_rains_266 : decode cL_rains 266 = .ok (.goto 4, 3) := by decide +kernel
theorem dL_rains_269 : decode cL_rains 269 = .ok (.iconst 0, 1) := by decide +kernel
theorem dL_rains_270 : decode cL_rains 270 = .ok (.istore 6, 2) := by decide +kernel
theorem dL_rains_272 : decode cL_rains 272 = .ok (.aload_n 2, 1) := by decide +kernel
theorem dL_rains_273 : decode cL_rains 273 = .ok (.iconst 0, 1) := by decide +kernel
theorem dL_rains_274 : decode cL_rains 274 = .ok (.dup2, 1) := by decide +kernel
theorem dL_rains_275 : decode cL_rains 275 = .ok (.iaload, 1) := by decide +kernel
theorem dL_rains_276 : decode cL_rains 276 = .ok (.iconst 1, 1) := by decide +kernel
theorem dL_rains_277 : decode cL_rains 277 = .ok (.iadd, 1) := by decide +kernel
theorem dL_rains_278 : decode cL_rains 278 = .ok (.iastore, 1) := by decide +kernel
theorem dL_rains_279 : decode cL_rains 279 = .ok (.iinc 7 1, 3) := by decide +kernel
theorem dL_rains_282 : decode cL_rains 282 = .ok (.goto (-250), 3) := by decide +kernel
theorem dL_rains_285 : decode cL_rains 285 = .ok (.iconst 0, 1) := by decide +kernel
theorem dL_rains_286 : decode cL_rains 286 = .ok (.istore 7, 2) := by decide +kernel
theorem dL_rains_288 : decode cL_rains 288 = .ok (.iload 7, 2) := by decide +kernel
theorem dL_rains_290 : decode cL_rains 290 = .ok (.aload_n 2, 1) := by decide +kernel
theorem dL_rains_291 : decode cL_rains 291 = .ok (.iconst 0, 1) := by decide +kernel
theorem dL_rains_292 : decode cL_rains 292 = .ok (.iaload, 1) := by decide +kernel
theorem dL_rains_293 : decode cL_rains 293 = .ok (.if_icmp .ge 29, 3) := by decide +kernel
theorem dL_rains_296 : decode cL_rains 296 = .ok (.iload 5, 2) := by decide +kernel
theorem dL_rains_298 : decode cL_rains 298 = .ok (.aload_n 0, 1) := by decide +kernel
theorem dL_rains_299 : decode cL_rains 299 = .ok (.iload 7, 2) := by decide +kernel
theorem dL_rains_301 : decode cL_rains 301 = .ok (.iconst 3, 1) := by decide +kernel
theorem dL_rains_302 : decode cL_rains 302 = .ok (.invokevirtual 16, 3) := by decide +kernel
theorem dL_rains_305 : decode cL_rains 305 = .ok (.ifCond .le 7, 3) := by decide +kernel
theorem dL_rains_308 : decode cL_rains 308 = .ok (.iconst 1, 1) := by decide +kernel
theorem dL_rains_309 : decode cL_rains 309 = .ok (.goto 4, 3) := by decide +kernel
theorem dL_rains_312 : decode cL_rains 312 = .ok (.iconst 0, 1) := by decide +kernel
theorem dL_rains_313 : decode cL_rains 313 = .ok (.iadd, 1) := by decide +kernel
theorem dL_rains_314 : decode cL_rains 314 = .ok (.istore 5, 2) := by decide +kernel
theorem dL_rains_316 : decode cL_rains 316 = .ok (.iinc 7 1, 3) := by decide +kernel
theorem dL_rains_319 : decode cL_rains 319 = .ok (.goto (-31), 3) := by decide +kernel
theorem dL_rains_322 : decode cL_rains 322 = .ok (.aload_n 2, 1) := by decide +kernel
theorem dL_rains_323 : decode cL_rains 323 = .ok (.iconst 1, 1) := by decide +kernel
theorem dL_rains_324 : decode cL_rains 324 = .ok (.iaload, 1) := by decide +kernel
theorem dL_rains_325 : decode cL_rains 325 = .ok (.istore 7, 2) := by decide +kernel
theorem dL_rains_327 : decode cL_rains 327 = .ok (.aload_n 2, 1) := by decide +kernel
theorem dL_rains_328 : decode cL_rains 328 = .ok (.iconst 1, 1) := by decide +kernel
theorem dL_rains_329 : decode cL_rains 329 = .ok (.iload 7, 2) := by decide +kernel
theorem dL_rains_331 : decode cL_rains 331 = .ok (.ifCond .ne 7, 3) := by decide +kernel
theorem dL_rains_334 : decode cL_rains 334 = .ok (.iconst 1, 1) := by decide +kernel
theorem dL_rains_335 : decode cL_rains 335 = .ok (.goto 5, 3) := by decide +kernel
theorem dL_rains_338 : decode cL_rains 338 = .ok (.iload 7, 2) := by decide +kernel
theorem dL_rains_340 : decode cL_rains 340 = .ok (.iastore, 1) := by decide +kernel
theorem dL_rains_341 : decode cL_rains 341 = .ok (.iload 6, 2) := by decide +kernel
theorem dL_rains_343 : decode cL_rains 343 = .ok (.ifCond .eq 26, 3) := by decide +kernel
theorem dL_rains_346 : decode cL_rains 346 = .ok (.iload 4, 2) := by decide +kernel
theorem dL_rains_348 : decode cL_rains 348 = .ok (.iload 5, 2) := by decide +kernel
theorem dL_rains_350 : decode cL_rains 350 = .ok (.if_icmp .ne 19, 3) := by decide +kernel
theorem dL_rains_353 : decode cL_rains 353 = .ok (.aload_n 0, 1) := by decide +kernel
theorem dL_rains_354 : decode cL_rains 354 = .ok (.aload_n 2, 1) := by decide +kernel
theorem dL_rains_355 : decode cL_rains 355 = .ok (.iconst 1, 1) := by decide +kernel
theorem dL_rains_356 : decode cL_rains 356 = .ok (.iaload, 1) := by decide +kernel
theorem dL_rains_357 : decode cL_rains 357 = .ok (.invokevirtual 87, 3) := by decide +kernel
theorem dL_rains_360 : decode cL_rains 360 = .ok (.iload 7, 2) := by decide +kernel
theorem dL_rains_362 : decode cL_rains 362 = .ok (.if_icmp .ne 7, 3) := by decide +kernel
theorem dL_rains_365 : decode cL_rains 365 = .ok (.iconst 1, 1) := by decide +kernel
theorem dL_rains_366 : decode cL_rains 366 = .ok (.goto 4, 3) := by decide +kernel
theorem dL_rains_369 : decode cL_rains 369 = .ok (.iconst 0, 1) := by decide +kernel
theorem dL_rains_370 : decode cL_rains 370 = .ok (.ireturn, 1) := by decide +kernel
set_option maxRecDepth 20000 in
theorem ggL_lessens_X9_about : GoodIn wsL_lessens wsX9_about := goodIn_ca (goodIn_ca (goodIn_r _ [5, 6, 7, 8, 9, 10, 11, 12, 13, 14, 15, 4, 16, 17, 18, 19, 20, 21, 22, 23, 24, 25, 26, 27, 28, 29, 30, 31, 32, 33, 34, 35, 36, 37, 38, 39, 40, 41, 42, 43, 44, 45, 46, 283, 284, 285, 286, 287, 288, 289, 290, 291, 292, 293, 294, 295, 296, 297] (by decide +kernel) (by decide +kernel)) (goodIn_sub (fun _ h => List.mem_cons_of_mem _ (List.mem_append_left _ (List.mem_append_left _ (List.mem_append_right _ h)))) (by decide +kernel))) (goodIn_sub (fun _ h => List.mem_cons_of_mem _ (List.mem_append_left _ (List.mem_append_right _ h))) (by decide +kernel))
set_option maxRecDepth 20000 in
theorem gL_lessens_X9_about : GoodIn wsL_lessens (wsV RL 16 RX9 yX9_about wsX9_about) := goodIn_app (goodIn_of _ (by decide +kernel)) ggL_lessens_X9_about
set_option maxRecDepth 20000 in
theorem ggL_lessens_L_asks : GoodIn wsL_lessens wsL_asks := goodIn_ca (goodIn_ca (goodIn_ca (goodIn_r _ [50, 51, 52, 53, 54, 55, 56, 57, 58, 59, 4, 60, 61, 62, 63, 64, 65, 66, 67, 68, 69, 70, 17, 18, 71, 19, 20, 21, 22, 23, 24, 72, 73, 74, 75, 76, 77, 28, 29, 78, 79, 80, 81, 82, 83, 84, 85, 86, 87, 88, 89, 90, 91, 92, 93, 94, 95, 96, 97, 7, 8, 11, 9, 10, 30, 31, 32, 33, 34, 35, 36, 37, 38, 39, 40, 41, 42, 43, 44, 45, 46, 98, 99, 100, 101, 102, 103, 104, 105, 106, 107, 108, 109, 110, 111, 112, 113, 114, 115, 116, 117, 118, 119, 120, 121, 122, 123, 124, 125, 126, 127, 128, 129, 130, 131, 1, 2, 3, 5, 6, 12, 13, 14, 15, 16, 25, 26, 27, 132, 133, 134, 135, 136, 137, 138, 139, 140, 141, 142, 143, 144, 145, 146, 147, 148, 149, 150, 151, 152, 153, 154, 155, 156, 157, 158, 159, 160, 161, 162, 163, 164, 165, 166, 167, 168, 169, 170, 171, 172, 173, 174, 175, 176, 177, 178, 179, 180, 181, 182, 183, 184, 185, 186, 187, 188, 189, 190, 191, 192, 193, 194, 195, 196, 197, 198, 199, 200, 201, 202, 203, 204, 205, 206, 207, 208, 209, 210, 211, 212, 213, 214, 215, 216, 217, 218, 219, 220, 221, 222, 223, 224, 225, 226, 227, 228, 229, 230, 231, 232, 233, 234, 235, 236, 237, 238, 239, 240, 241, 242, 243, 244, 245, 246, 247, 248, 249, 250, 251, 252, 253, 254, 255, 256, 257, 258, 259, 260, 261, 262, 263, 264, 265, 266, 267, 268, 269, 270, 271, 272, 273, 274, 275, 276, 277, 278, 279, 298, 299, 300, 301, 283, 284, 285, 286, 287, 288, 295, 296, 297, 289, 290, 291, 292, 293, 294, 302, 303, 304, 305, 306, 307, 308, 309, 310, 311, 312] (by decide +kernel) (by decide +kernel)) (goodIn_sub (fun _ h => List.mem_cons_of_mem _ (List.mem_append_right _ h)) (by decide +kernel))) (goodIn_sub (fun _ h => List.mem_cons_of_mem _ (List.mem_append_left _ (List.mem_append_left _ (List.mem_append_right _ h)))) (by decide +kernel))) (goodIn_sub (fun _ h => List.mem_cons_of_mem _ (List.mem_append_left _ (List.mem_append_right _ h))) (by decide +kernel))
set_option maxRecDepth 20000 in
theorem gL_lessens_L_asks : GoodIn wsL_lessens (va_wsS RL 47 yL_asks wsL_asks) := goodIn_app (goodIn_of _ (by decide +kernel)) ggL_lessens_L_asks
set_option maxRecDepth 20000 in
theorem ggL_lessens_L_groundOf : GoodIn wsL_lessens wsL_groundOf := goodIn_r _ [282] (by decide +kernel) (by decide +kernel)
set_option maxRecDepth 20000 in
theorem gL_lessens_L_groundOf : GoodIn wsL_lessens (va_wsS RL 75 yL_groundOf wsL_groundOf) := goodIn_app (goodIn_of _ (by decide +kernel)) ggL_lessens_L_groundOf
theorem dL_lessens_0 : decode cL_lessens 0 = .ok (.iload_n 1, 1) := by decide +kernel
theorem dL_lessens_1 : decode cL_lessens 1 = .ok (.bipush 16, 2) := by decide +kernel
theorem dL_lessens_3 : decode cL_lessens 3 = .ok (.irem, 1) := by decide +kernel
theorem dL_lessens_4 : decode cL_lessens 4 = .ok (.istore 6, 2) := by decide +kernel
theorem dL_lessens_6 : decode cL_lessens 6 = .ok (.iload_n 1, 1) := by decide +kernel
theorem dL_lessens_7 : decode cL_lessens 7 = .ok (.bipush 16, 2) := by decide +kernel
theorem dL_lessens_9 : decode cL_lessens 9 = .ok (.idiv, 1) := by decide +kernel
theorem dL_lessens_10 : decode cL_lessens 10 = .ok (.bipush 16, 2) := by decide +kernel
theorem dL_lessens_12 : decode cL_lessens 12 = .ok (.irem, 1) := by decide +kernel
theorem dL_lessens_13 : decode cL_lessens 13 = .ok (.istore 7, 2) := by decide +kernel
theorem dL_lessens_15 : decode cL_lessens 15 = .ok (.iload 6, 2) := by decide +kernel
theorem dL_lessens_17 : decode cL_lessens 17 = .ok (.iload_n 1, 1) := by decide +kernel
theorem dL_lessens_18 : decode cL_lessens 18 = .ok (.sipush 256, 3) := by decide +kernel
theorem dL_lessens_21 : decode cL_lessens 21 = .ok (.idiv, 1) := by decide +kernel
theorem dL_lessens_22 : decode cL_lessens 22 = .ok (.bipush 16, 2) := by decide +kernel
theorem dL_lessens_24 : decode cL_lessens 24 = .ok (.iload 6, 2) := by decide +kernel
theorem dL_lessens_26 : decode cL_lessens 26 = .ok (.isub, 1) := by decide +kernel
theorem dL_lessens_27 : decode cL_lessens 27 = .ok (.irem, 1) := by decide +kernel
theorem dL_lessens_28 : decode cL_lessens 28 = .ok (.iadd, 1) := by decide +kernel
theorem dL_lessens_29 : decode cL_lessens 29 = .ok (.istore 8, 2) := by decide +kernel
theorem dL_lessens_31 : decode cL_lessens 31 = .ok (.iload 7, 2) := by decide +kernel
theorem dL_lessens_33 : decode cL_lessens 33 = .ok (.iload_n 1, 1) := by decide +kernel
theorem dL_lessens_34 : decode cL_lessens 34 = .ok (.sipush 4096, 3) := by decide +kernel
theorem dL_lessens_37 : decode cL_lessens 37 = .ok (.idiv, 1) := by decide +kernel
theorem dL_lessens_38 : decode cL_lessens 38 = .ok (.bipush 16, 2) := by decide +kernel
theorem dL_lessens_40 : decode cL_lessens 40 = .ok (.iload 7, 2) := by decide +kernel
theorem dL_lessens_42 : decode cL_lessens 42 = .ok (.isub, 1) := by decide +kernel
theorem dL_lessens_43 : decode cL_lessens 43 = .ok (.irem, 1) := by decide +kernel
theorem dL_lessens_44 : decode cL_lessens 44 = .ok (.iadd, 1) := by decide +kernel
theorem dL_lessens_45 : decode cL_lessens 45 = .ok (.istore 9, 2) := by decide +kernel
theorem dL_lessens_47 : decode cL_lessens 47 = .ok (.iconst 1, 1) := by decide +kernel
theorem dL_lessens_48 : decode cL_lessens 48 = .ok (.iload_n 2, 1) := by decide +kernel
theorem dL_lessens_49 : decode cL_lessens 49 = .ok (.iconst 2, 1) := by decide +kernel
theorem dL_lessens_50 : decode cL_lessens 50 = .ok (.idiv, 1) := by decide +kernel
theorem dL_lessens_51 : decode cL_lessens 51 = .ok (.bipush 40, 2) := by decide +kernel
theorem dL_lessens_53 : decode cL_lessens 53 = .ok (.irem, 1) := by decide +kernel
theorem dL_lessens_54 : decode cL_lessens 54 = .ok (.iadd, 1) := by decide +kernel
theorem dL_lessens_55 : decode cL_lessens 55 = .ok (.istore 10, 2) := by decide +kernel
theorem dL_lessens_57 : decode cL_lessens 57 = .ok (.iconst 0, 1) := by decide +kernel
theorem dL_lessens_58 : decode cL_lessens 58 = .ok (.istore 11, 2) := by decide +kernel
theorem dL_lessens_60 : decode cL_lessens 60 = .ok (.iload 11, 2) := by decide +kernel
theorem dL_lessens_62 : decode cL_lessens 62 = .ok (.aload_n 3, 1) := by decide +kernel
theorem dL_lessens_63 : decode cL_lessens 63 = .ok (.iconst 0, 1) := by decide +kernel
theorem dL_lessens_64 : decode cL_lessens 64 = .ok (.iaload, 1) := by decide +kernel
theorem dL_lessens_65 : decode cL_lessens 65 = .ok (.if_icmp .ge 21, 3) := by decide +kernel
theorem dL_lessens_68 : decode cL_lessens 68 = .ok (.aload 5, 2) := by decide +kernel
theorem dL_lessens_70 : decode cL_lessens 70 = .ok (.iload 11, 2) := by decide +kernel
theorem dL_lessens_72 : decode cL_lessens 72 = .ok (.aload_n 0, 1) := by decide +kernel
theorem dL_lessens_73 : decode cL_lessens 73 = .ok (.iload 11, 2) := by decide +kernel
theorem dL_lessens_75 : decode cL_lessens 75 = .ok (.iconst 3, 1) := by decide +kernel
theorem dL_lessens_76 : decode cL_lessens 76 = .ok (.invokevirtual 16, 3) := by decide +kernel
theorem dL_lessens_79 : decode cL_lessens 79 = .ok (.iastore, 1) := by decide +kernel
theorem dL_lessens_80 : decode cL_lessens 80 = .ok (.iinc 11 1, 3) := by decide +kernel
theorem dL_lessens_83 : decode cL_lessens 83 = .ok (.goto (-23), 3) := by decide +kernel
theorem dL_lessens_86 : decode cL_lessens 86 = .ok (.iload_n 2, 1) := by decide +kernel
theorem dL_lessens_87 : decode cL_lessens 87 = .ok (.iconst 2, 1) := by decide +kernel
theorem dL_lessens_88 : decode cL_lessens 88 = .ok (.irem, 1) := by decide +kernel
theorem dL_lessens_89 : decode cL_lessens 89 = .ok (.ifCond .ne 21, 3) := by decide +kernel
theorem dL_lessens_92 : decode cL_lessens 92 = .ok (.aload_n 0, 1) := by decide +kernel
theorem dL_lessens_93 : decode cL_lessens 93 = .ok (.iconst 3, 1) := by decide +kernel
theorem dL_lessens_94 : decode cL_lessens 94 = .ok (.iload 6, 2) := by decide +kernel
theorem dL_lessens_96 : decode cL_lessens 96 = .ok (.iload 7, 2) := by decide +kernel
theorem dL_lessens_98 : decode cL_lessens 98 = .ok (.iload 8, 2) := by decide +kernel
theorem dL_lessens_100 : decode cL_lessens 100 = .ok (.iload 9, 2) := by decide +kernel
theorem dL_lessens_102 : decode cL_lessens 102 = .ok (.iload 10, 2) := by decide +kernel
theorem dL_lessens_104 : decode cL_lessens 104 = .ok (.invokestatic 47, 3) := by decide +kernel
theorem dL_lessens_107 : decode cL_lessens 107 = .ok (.goto 14, 3) := by decide +kernel
theorem dL_lessens_110 : decode cL_lessens 110 = .ok (.aload_n 0, 1) := by decide +kernel
theorem dL_lessens_111 : decode cL_lessens 111 = .ok (.iconst 2, 1) := by decide +kernel
theorem dL_lessens_112 : decode cL_lessens 112 = .ok (.iload 10, 2) := by decide +kernel
theorem dL_lessens_114 : decode cL_lessens 114 = .ok (.iconst 0, 1) := by decide +kernel
theorem dL_lessens_115 : decode cL_lessens 115 = .ok (.iconst 0, 1) := by decide +kernel
theorem dL_lessens_116 : decode cL_lessens 116 = .ok (.iconst 0, 1) := by decide +kernel
theorem dL_lessens_117 : decode cL_lessens 117 = .ok (.iconst 0, 1) := by decide +kernel
theorem dL_lessens_118 : decode cL_lessens 118 = .ok (.invokestatic 47, 3) := by decide +kernel
theorem dL_lessens_121 : decode cL_lessens 121 = .ok (.lstore 11, 2) := by decide +kernel
theorem dL_lessens_123 : decode cL_lessens 123 = .ok (.lconst 0, 1) := by decide +kernel
theorem dL_lessens_124 : decode cL_lessens 124 = .ok (.lstore 13, 2) := by decide +kernel
theorem dL_lessens_126 : decode cL_lessens 126 = .ok (.iconst 1, 1) := by decide +kernel
theorem dL_lessens_127 : decode cL_lessens 127 = .ok (.istore 15, 2) := by decide +kernel
theorem dL_lessens_129 : decode cL_lessens 129 = .ok (.iconst 0, 1) := by decide +kernel
theorem dL_lessens_130 : decode cL_lessens 130 = .ok (.istore 16, 2) := by decide +kernel
theorem dL_lessens_132 : decode cL_lessens 132 = .ok (.iload 16, 2) := by decide +kernel
theorem dL_lessens_134 : decode cL_lessens 134 = .ok (.aload_n 3, 1) := by decide +kernel
theorem dL_lessens_135 : decode cL_lessens 135 = .ok (.iconst 0, 1) := by decide +kernel
theorem dL_lessens_136 : decode cL_lessens 136 = .ok (.iaload, 1) := by decide +kernel
theorem dL_lessens_137 : decode cL_lessens 137 = .ok (.if_icmp .ge 181, 3) := by decide +kernel
theorem dL_lessens_140 : decode cL_lessens 140 = .ok (.iload 15, 2) := by decide +kernel
theorem dL_lessens_142 : decode cL_lessens 142 = .ok (.ifCond .eq 176, 3) := by decide +kernel
theorem dL_lessens_145 : decode cL_lessens 145 = .ok (.aload_n 0, 1) := by decide +kernel
theorem dL_lessens_146 : decode cL_lessens 146 = .ok (.iload 16, 2) := by decide +kernel
theorem dL_lessens_148 : decode cL_lessens 148 = .ok (.iconst 0, 1) := by decide +kernel
theorem dL_lessens_149 : decode cL_lessens 149 = .ok (.invokevirtual 16, 3) := by decide +kernel
theorem dL_lessens_152 : decode cL_lessens 152 = .ok (.istore 17, 2) := by decide +kernel
theorem dL_lessens_154 : decode cL_lessens 154 = .ok (.aload_n 0, 1) := by decide +kernel
theorem dL_lessens_155 : decode cL_lessens 155 = .ok (.iload 16, 2) := by decide +kernel
theorem dL_lessens_157 : decode cL_lessens 157 = .ok (.iconst 1, 1) := by decide +kernel
theorem dL_lessens_158 : decode cL_lessens 158 = .ok (.invokevirtual 16, 3) := by decide +kernel
theorem dL_lessens_161 : decode cL_lessens 161 = .ok (.istore 18, 2) := by decide +kernel
theorem dL_lessens_163 : decode cL_lessens 163 = .ok (.aload 4, 2) := by decide +kernel
theorem dL_lessens_165 : decode cL_lessens 165 = .ok (.iload 17, 2) := by decide +kernel
theorem dL_lessens_167 : decode cL_lessens 167 = .ok (.iload 18, 2) := by decide +kernel
theorem dL_lessens_169 : decode cL_lessens 169 = .ok (.invokestatic 75, 3) := by decide +kernel
theorem dL_lessens_172 : decode cL_lessens 172 = .ok (.istore 19, 2) := by decide +kernel
theorem dL_lessens_174 : decode cL_lessens 174 = .ok (.iload_n 2, 1) := by decide +kernel
theorem dL_lessens_175 : decode cL_lessens 175 = .ok (.iconst 2, 1) := by decide +kernel
theorem dL_lessens_176 : decode cL_lessens 176 = .ok (.irem, 1) := by decide +kernel
theorem dL_lessens_177 : decode cL_lessens 177 = .ok (.ifCond .ne 40, 3) := by decide +kernel
theorem dL_lessens_180 : decode cL_lessens 180 = .ok (.iload 17, 2) := by decide +kernel
theorem dL_lessens_182 : decode cL_lessens 182 = .ok (.iload 6, 2) := by decide +kernel
theorem dL_lessens_184 : decode cL_lessens 184 = .ok (.if_icmp .lt 29, 3) := by decide +kernel
theorem dL_lessens_187 : decode cL_lessens 187 = .ok (.iload 17, 2) := by decide +kernel
theorem dL_lessens_189 : decode cL_lessens 189 = .ok (.iload 8, 2) := by decide +kernel
theorem dL_lessens_191 : decode cL_lessens 191 = .ok (.if_icmp .gt 22, 3) := by decide +kernel
theorem dL_lessens_194 : decode cL_lessens 194 = .ok (.iload 18, 2) := by decide +kernel
theorem dL_lessens_196 : decode cL_lessens 196 = .ok (.iload 7, 2) := by decide +kernel
theorem dL_lessens_198 : decode cL_lessens 198 = .ok (.if_icmp .lt 15, 3) := by decide +kernel
theorem dL_lessens_201 : decode cL_lessens 201 = .ok (.iload 18, 2) := by decide +kernel
theorem dL_lessens_203 : decode cL_lessens 203 = .ok (.iload 9, 2) := by decide +kernel
theorem dL_lessens_205 : decode cL_lessens 205 = .ok (.if_icmp .gt 8, 3) := by decide +kernel
theorem dL_lessens_208 : decode cL_lessens 208 = .ok (.iload 10, 2) := by decide +kernel
theorem dL_lessens_210 : decode cL_lessens 210 = .ok (.goto 34, 3) := by decide +kernel
theorem dL_lessens_213 : decode cL_lessens 213 = .ok (.iconst 0, 1) := by decide +kernel
theorem dL_lessens_214 : decode cL_lessens 214 = .ok (.goto 30, 3) := by decide +kernel
theorem dL_lessens_217 : decode cL_lessens 217 = .ok (.iload 19, 2) := by decide +kernel
theorem dL_lessens_219 : decode cL_lessens 219 = .ok (.ifCond .ne 10, 3) := by decide +kernel
theorem dL_lessens_222 : decode cL_lessens 222 = .ok (.iload 10, 2) := by decide +kernel
theorem dL_lessens_224 : decode cL_lessens 224 = .ok (.iconst 2, 1) := by decide +kernel
theorem dL_lessens_225 : decode cL_lessens 225 = .ok (.idiv, 1) := by decide +kernel
theorem dL_lessens_226 : decode cL_lessens 226 = .ok (.goto 18, 3) := by decide +kernel
theorem dL_lessens_229 : decode cL_lessens 229 = .ok (.iload 19, 2) := by decide +kernel
theorem dL_lessens_231 : decode cL_lessens 231 = .ok (.iconst 1, 1) := by decide +kernel
theorem dL_lessens_232 : decode cL_lessens 232 = .ok (.if_icmp .ne 8, 3) := by decide +kernel
theorem dL_lessens_235 : decode cL_lessens 235 = .ok (.iload 10, 2) := by decide +kernel
theorem dL_lessens_237 : decode cL_lessens 237 = .ok (.goto 7, 3) := by decide +kernel
theorem dL_lessens_240 : decode cL_lessens 240 = .ok (.iconst 2, 1) := by decide +kernel
theorem dL_lessens_241 : decode cL_lessens 241 = .ok (.iload 10, 2) := by decide +kernel
theorem dL_lessens_243 : decode cL_lessens 243 = .ok (.imul, 1) := by decide +kernel
theorem dL_lessens_244 : decode cL_lessens 244 = .ok (.istore 20, 2) := by decide +kernel
theorem dL_lessens_246 : decode cL_lessens 246 = .ok (.aload 5, 2) := by decide +kernel
theorem dL_lessens_248 : decode cL_lessens 248 = .ok (.iload 16, 2) := by decide +kernel
theorem dL_lessens_250 : decode cL_lessens 250 = .ok (.iaload, 1) := by decide +kernel
theorem dL_lessens_251 : decode cL_lessens 251 = .ok (.iload 20, 2) := by decide +kernel
theorem dL_lessens_253 : decode cL_lessens 253 = .ok (.if_icmp .le 14, 3) := by decide +kernel
theorem dL_lessens_256 : decode cL_lessens 256 = .ok (.aload 5, 2) := by decide +kernel
theorem dL_lessens_258 : decode cL_lessens 258 = .ok (.iload 16, 2) := by decide +kernel
theorem dL_lessens_260 : decode cL_lessens 260 = .ok (.iaload, 1) := by decide +kernel
theorem dL_lessens_261 : decode cL_lessens 261 = .ok (.iload 20, 2) := by decide +kernel
theorem dL_lessens_263 : decode cL_lessens 263 = .ok (.isub, 1) := by decide +kernel
theorem dL_lessens_264 : decode cL_lessens 264 = .ok (.goto 4, 3) := by decide +kernel
theorem dL_lessens_267 : decode cL_lessens 267 = .ok (.iconst 0, 1) := by decide +kernel
theorem dL_lessens_268 : decode cL_lessens 268 = .ok (.istore 21, 2) := by decide +kernel
theorem dL_lessens_270 : decode cL_lessens 270 = .ok (.lload 13, 2) := by decide +kernel
theorem dL_lessens_272 : decode cL_lessens 272 = .ok (.aload 5, 2) := by decide +kernel
theorem dL_lessens_274 : decode cL_lessens 274 = .ok (.iload 16, 2) := by decide +kernel
theorem dL_lessens_276 : decode cL_lessens 276 = .ok (.iaload, 1) := by decide +kernel
theorem dL_lessens_277 : decode cL_lessens 277 = .ok (.ifCond .le 12, 3) := by decide +kernel
theorem dL_lessens_280 : decode cL_lessens 280 = .ok (.iload 21, 2) := by decide +kernel
theorem dL_lessens_282 : decode cL_lessens 282 = .ok (.ifCond .ne 7, 3) := by decide +kernel
theorem dL_lessens_285 : decode cL_lessens 285 = .ok (.lconst 1, 1) := by decide +kernel
theorem dL_lessens_286 : decode cL_lessens 286 = .ok (.goto 4, 3) := by decide +kernel
theorem dL_lessens_289 : decode cL_lessens 289 = .ok (.lconst 0, 1) := by decide +kernel
theorem dL_lessens_290 : decode cL_lessens 290 = .ok (.ladd, 1) := by decide +kernel
theorem dL_lessens_291 : decode cL_lessens 291 = .ok (.lstore 13, 2) := by decide +kernel
theorem dL_lessens_293 : decode cL_lessens 293 = .ok (.aload_n 0, 1) := by decide +kernel
theorem dL_lessens_294 : decode cL_lessens 294 = .ok (.iload 16, 2) := by decide +kernel
theorem dL_lessens_296 : decode cL_lessens 296 = .ok (.iconst 3, 1) := by decide +kernel
theorem dL_lessens_297 : decode cL_lessens 297 = .ok (.invokevirtual 16, 3) := by decide +kernel
theorem dL_lessens_300 : decode cL_lessens 300 = .ok (.iload 21, 2) := by decide +kernel
theorem dL_lessens_302 : decode cL_lessens 302 = .ok (.if_icmp .ne 7, 3) := by decide +kernel
theorem dL_lessens_305 : decode cL_lessens 305 = .ok (.iconst 1, 1) := by decide +kernel
theorem dL_lessens_306 : decode cL_lessens 306 = .ok (.goto 4, 3) := by decide +kernel
theorem dL_lessens_309 : decode cL_lessens 309 = .ok (.iconst 0, 1) := by decide +kernel
theorem dL_lessens_310 : decode cL_lessens 310 = .ok (.istore 15, 2) := by decide +kernel
theorem dL_lessens_312 : decode cL_lessens 312 = .ok (.iinc 16 1, 3) := by decide +kernel
theorem dL_lessens_315 : decode cL_lessens 315 = .ok (.goto (-183), 3) := by decide +kernel
theorem dL_lessens_318 : decode cL_lessens 318 = .ok (.aload_n 3, 1) := by decide +kernel
theorem dL_lessens_319 : decode cL_lessens 319 = .ok (.iconst 2, 1) := by decide +kernel
theorem dL_lessens_320 : decode cL_lessens 320 = .ok (.dup2, 1) := by decide +kernel
theorem dL_lessens_321 : decode cL_lessens 321 = .ok (.iaload, 1) := by decide +kernel
theorem dL_lessens_322 : decode cL_lessens 322 = .ok (.iconst 1, 1) := by decide +kernel
theorem dL_lessens_323 : decode cL_lessens 323 = .ok (.iadd, 1) := by decide +kernel
theorem dL_lessens_324 : decode cL_lessens 324 = .ok (.iastore, 1) := by decide +kernel
theorem dL_lessens_325 : decode cL_lessens 325 = .ok (.iload 15, 2) := by decide +kernel
theorem dL_lessens_327 : decode cL_lessens 327 = .ok (.ifCond .eq 15, 3) := by decide +kernel
theorem dL_lessens_330 : decode cL_lessens 330 = .ok (.lload 11, 2) := by decide +kernel
theorem dL_lessens_332 : decode cL_lessens 332 = .ok (.lload 13, 2) := by decide +kernel
theorem dL_lessens_334 : decode cL_lessens 334 = .ok (.lcmp, 1) := by decide +kernel
theorem dL_lessens_335 : decode cL_lessens 335 = .ok (.ifCond .ne 7, 3) := by decide +kernel
theorem dL_lessens_338 : decode cL_lessens 338 = .ok (.iconst 1, 1) := by decide +kernel
theorem dL_lessens_339 : decode cL_lessens 339 = .ok (.goto 4, 3) := by decide +kernel
theorem dL_lessens_342 : decode cL_lessens 342 = .ok (.iconst 0, 1) := by decide +kernel
theorem dL_lessens_343 : decode cL_lessens 343 = .ok (.ireturn, 1) := by decide +kernel
set_option maxRecDepth 20000 in
theorem ggL_others_L_groundOf : GoodIn wsL_others wsL_groundOf := goodIn_r _ [8] (by decide +kernel) (by decide +kernel)
set_option maxRecDepth 20000 in
theorem gL_others_L_groundOf : GoodIn wsL_others (va_wsS RL 75 yL_groundOf wsL_groundOf) := goodIn_app (goodIn_of _ (by decide +kernel)) ggL_others_L_groundOf
set_option maxRecDepth 20000 in
theorem ggL_others_X9_ground : GoodIn wsL_others wsX9_ground := goodIn_ca (goodIn_ca (goodIn_r _ [13, 14, 15, 16, 17, 12, 18, 19, 20, 21, 22, 23, 24, 25, 26, 27, 28, 29, 30, 31, 32, 33, 34, 35, 326, 327, 328, 329, 330, 331, 332] (by decide +kernel) (by decide +kernel)) (goodIn_sub (fun _ h => List.mem_cons_of_mem _ (List.mem_append_left _ (List.mem_append_left _ (List.mem_append_right _ h)))) (by decide +kernel))) (goodIn_sub (fun _ h => List.mem_cons_of_mem _ (List.mem_append_left _ (List.mem_append_right _ h))) (by decide +kernel))
set_option maxRecDepth 20000 in
theorem gL_others_X9_ground : GoodIn wsL_others (wsV RL 90 RX9 yX9_ground wsX9_ground) := goodIn_app (goodIn_of _ (by decide +kernel)) ggL_others_X9_ground
set_option maxRecDepth 20000 in
theorem ggL_others_X9_draw : GoodIn wsL_others wsX9_draw := goodIn_ca (goodIn_r _ [39, 40, 41, 21, 22, 12, 23, 24, 25, 326, 327, 328, 329, 330, 331] (by decide +kernel) (by decide +kernel)) (goodIn_sub (fun _ h => List.mem_cons_of_mem _ (List.mem_append_left _ (List.mem_append_right _ h))) (by decide +kernel))
set_option maxRecDepth 20000 in
theorem gL_others_X9_draw : GoodIn wsL_others (wsV RL 87 RX9 yX9_draw wsX9_draw) := goodIn_app (goodIn_of _ (by decide +kernel)) ggL_others_X9_draw
set_option maxRecDepth 20000 in
theorem ggL_others_L_asks : GoodIn wsL_others wsL_asks := goodIn_ca (goodIn_ca (goodIn_ca (goodIn_r _ [44, 45, 46, 47, 48, 49, 2, 50, 51, 52, 12, 53, 54, 55, 56, 57, 58, 59, 60, 61, 62, 63, 19, 20, 64, 65, 66, 67, 68, 69, 70, 16, 17, 18, 71, 72, 73, 24, 25, 74, 75, 76, 77, 78, 79, 80, 81, 82, 83, 84, 85, 86, 87, 88, 89, 90, 91, 92, 93, 94, 95, 96, 97, 98, 99, 100, 101, 102, 103, 104, 105, 106, 107, 108, 109, 110, 111, 112, 113, 114, 115, 116, 117, 118, 119, 120, 121, 122, 123, 124, 125, 126, 127, 128, 129, 130, 131, 132, 133, 134, 135, 136, 137, 138, 139, 140, 141, 142, 143, 144, 145, 146, 147, 148, 149, 150, 151, 152, 153, 154, 155, 156, 157, 158, 159, 21, 22, 23, 160, 161, 162, 163, 164, 165, 166, 167, 15, 168, 169, 170, 171, 172, 173, 174, 175, 29, 176, 177, 178, 31, 179, 180, 181, 182, 183, 184, 185, 186, 187, 188, 189, 190, 191, 192, 193, 194, 195, 196, 197, 198, 199, 200, 201, 202, 203, 204, 205, 206, 207, 208, 209, 210, 211, 212, 213, 214, 215, 216, 217, 218, 219, 220, 221, 222, 223, 224, 225, 226, 227, 228, 229, 230, 231, 232, 233, 234, 235, 236, 237, 238, 239, 240, 241, 242, 243, 244, 245, 246, 247, 248, 249, 250, 251, 252, 253, 254, 255, 256, 257, 258, 259, 260, 261, 262, 263, 264, 265, 266, 267, 268, 269, 270, 271, 272, 273, 27, 28, 30, 274, 275, 276, 277, 278, 279, 280, 281, 282, 283, 284, 285, 286, 287, 288, 289, 290, 291, 292, 293, 294, 295, 296, 297, 298, 299, 300, 301, 333, 334, 335, 336, 326, 327, 328, 329, 330, 331, 337, 338, 339, 340, 341, 342, 343, 344, 345, 346, 347, 348, 349, 350, 351, 352, 332, 353, 354, 355] (by decide +kernel) (by decide +kernel)) (goodIn_sub (fun _ h => List.mem_cons_of_mem _ (List.mem_append_right _ h)) (by decide +kernel))) (goodIn_sub (fun _ h => List.mem_cons_of_mem _ (List.mem_append_left _ (List.mem_append_left _ (List.mem_append_right _ h)))) (by decide +kernel))) (goodIn_sub (fun _ h => List.mem_cons_of_mem _ (List.mem_append_left _ (List.mem_append_right _ h))) (by decide +kernel))
set_option maxRecDepth 20000 in
theorem gL_others_L_asks : GoodIn wsL_others (va_wsS RL 47 yL_asks wsL_asks) := goodIn_app (goodIn_of _ (by decide +kernel)) ggL_others_L_asks
set_option maxRecDepth 20000 in
theorem ggL_others_X9_eye : GoodIn wsL_others wsX9_eye := goodIn_ca (goodIn_ca (goodIn_r _ [294, 54, 55, 295, 64, 296, 297, 123, 21, 22, 12, 23, 24, 25, 65, 66, 67, 68, 69, 70, 298, 299, 300, 301, 78, 79, 126, 204, 205, 206, 207, 208, 209, 115, 210, 211, 212, 213, 214, 215, 216, 217, 218, 219, 220, 221, 222, 223, 224, 225, 226, 227, 228, 229, 230, 231, 232, 233, 234, 235, 236, 237, 238, 239, 240, 241, 242, 243, 244, 245, 246, 247, 248, 249, 250, 251, 252, 253, 254, 255, 256, 326, 327, 328, 329, 330, 331, 346, 337, 338, 339] (by decide +kernel) (by decide +kernel)) (goodIn_sub (fun _ h => List.mem_cons_of_mem _ (List.mem_append_right _ h)) (by decide +kernel))) (goodIn_sub (fun _ h => List.mem_cons_of_mem _ (List.mem_append_left _ (List.mem_append_right _ h))) (by decide +kernel))
set_option maxRecDepth 20000 in
theorem gL_others_X9_eye : GoodIn wsL_others (wsV RL 28 RX9 yX9_eye wsX9_eye) := goodIn_app (goodIn_of _ (by decide +kernel)) ggL_others_X9_eye
set_option maxRecDepth 20000 in
theorem ggL_others_X9_anchor : GoodIn wsL_others wsX9_anchor := goodIn_ca (goodIn_ca (goodIn_r _ [305, 54, 55, 306, 307, 59, 21, 22, 12, 23, 24, 25, 308, 309, 310, 133, 311, 139, 140, 148, 141, 142, 66, 67, 68, 69, 70, 143, 100, 101, 102, 103, 104, 105, 106, 107, 108, 109, 110, 111, 112, 113, 114, 115, 312, 313, 314, 315, 316, 317, 318, 319, 320, 321, 322, 78, 79, 323, 324, 325, 205, 206, 207, 208, 209, 210, 211, 212, 213, 214, 215, 216, 217, 218, 219, 220, 221, 222, 223, 224, 225, 226, 227, 228, 229, 230, 231, 232, 233, 234, 235, 236, 237, 238, 239, 240, 241, 242, 243, 244, 245, 246, 247, 248, 249, 250, 251, 252, 253, 254, 255, 256, 326, 327, 328, 329, 330, 331, 347, 348, 349, 337, 338, 339] (by decide +kernel) (by decide +kernel)) (goodIn_sub (fun _ h => List.mem_cons_of_mem _ (List.mem_append_right _ h)) (by decide +kernel))) (goodIn_sub (fun _ h => List.mem_cons_of_mem _ (List.mem_append_left _ (List.mem_append_right _ h))) (by decide +kernel))
set_option maxRecDepth 20000 in
theorem gL_others_X9_anchor : GoodIn wsL_others (wsV RL 96 RX9 yX9_anchor wsX9_anchor) := goodIn_app (goodIn_of _ (by decide +kernel)) ggL_others_X9_anchor
theorem dL_others_0 : decode cL_others 0 = .ok (.iload_n 1, 1) := by decide +kernel
theorem dL_others_1 : decode cL_others 1 = .ok (.iconst 5, 1) := by decide +kernel
theorem dL_others_2 : decode cL_others 2 = .ok (.irem, 1) := by decide +kernel
theorem dL_others_3 : decode cL_others 3 = .ok (.istore 7, 2) := by decide +kernel
theorem dL_others_5 : decode cL_others 5 = .ok (.iload 7, 2) := by decide +kernel
theorem dL_others_7 : decode cL_others 7 = .ok (.iconst 2, 1) := by decide +kernel
theorem dL_others_8 : decode cL_others 8 = .ok (.if_icmp .ge 106, 3) := by decide +kernel
theorem dL_others_11 : decode cL_others 11 = .ok (.iload_n 2, 1) := by decide +kernel
theorem dL_others_12 : decode cL_others 12 = .ok (.bipush 16, 2) := by decide +kernel
theorem dL_others_14 : decode cL_others 14 = .ok (.irem, 1) := by decide +kernel
theorem dL_others_15 : decode cL_others 15 = .ok (.istore 8, 2) := by decide +kernel
theorem dL_others_17 : decode cL_others 17 = .ok (.iload_n 2, 1) := by decide +kernel
theorem dL_others_18 : decode cL_others 18 = .ok (.bipush 16, 2) := by decide +kernel
theorem dL_others_20 : decode cL_others 20 = .ok (.idiv, 1) := by decide +kernel
theorem dL_others_21 : decode cL_others 21 = .ok (.bipush 16, 2) := by decide +kernel
theorem dL_others_23 : decode cL_others 23 = .ok (.irem, 1) := by decide +kernel
theorem dL_others_24 : decode cL_others 24 = .ok (.istore 9, 2) := by decide +kernel
theorem dL_others_26 : decode cL_others 26 = .ok (.iconst 2, 1) := by decide +kernel
theorem dL_others_27 : decode cL_others 27 = .ok (.iload 9, 2) := by decide +kernel
theorem dL_others_29 : decode cL_others 29 = .ok (.bipush 8, 2) := by decide +kernel
theorem dL_others_31 : decode cL_others 31 = .ok (.irem, 1) := by decide +kernel
theorem dL_others_32 : decode cL_others 32 = .ok (.imul, 1) := by decide +kernel
theorem dL_others_33 : decode cL_others 33 = .ok (.iload 9, 2) := by decide +kernel
theorem dL_others_35 : decode cL_others 35 = .ok (.bipush 7, 2) := by decide +kernel
theorem dL_others_37 : decode cL_others 37 = .ok (.if_icmp .le 8, 3) := by decide +kernel
theorem dL_others_40 : decode cL_others 40 = .ok (.bipush 16, 2) := by decide +kernel
theorem dL_others_42 : decode cL_others 42 = .ok (.goto 4, 3) := by decide +kernel
theorem dL_others_45 : decode cL_others 45 = .ok (.iconst 0, 1) := by decide +kernel
theorem dL_others_46 : decode cL_others 46 = .ok (.iadd, 1) := by decide +kernel
theorem dL_others_47 : decode cL_others 47 = .ok (.istore 10, 2) := by decide +kernel
theorem dL_others_49 : decode cL_others 49 = .ok (.aload 4, 2) := by decide +kernel
theorem dL_others_51 : decode cL_others 51 = .ok (.iload 8, 2) := by decide +kernel
theorem dL_others_53 : decode cL_others 53 = .ok (.iload 9, 2) := by decide +kernel
theorem dL_others_55 : decode cL_others 55 = .ok (.invokestatic 75, 3) := by decide +kernel
theorem dL_others_58 : decode cL_others 58 = .ok (.istore 11, 2) := by decide +kernel
theorem dL_others_60 : decode cL_others 60 = .ok (.aload 4, 2) := by decide +kernel
theorem dL_others_62 : decode cL_others 62 = .ok (.iload 8, 2) := by decide +kernel
theorem dL_others_64 : decode cL_others 64 = .ok (.aload 4, 2) := by decide +kernel
theorem dL_others_66 : decode cL_others 66 = .ok (.iload 8, 2) := by decide +kernel
theorem dL_others_68 : decode cL_others 68 = .ok (.iaload, 1) := by decide +kernel
theorem dL_others_69 : decode cL_others 69 = .ok (.iconst 3, 1) := by decide +kernel
theorem dL_others_70 : decode cL_others 70 = .ok (.iload 10, 2) := by decide +kernel
theorem dL_others_72 : decode cL_others 72 = .ok (.ishl, 1) := by decide +kernel
theorem dL_others_73 : decode cL_others 73 = .ok (.iconst (-1), 1) := by decide +kernel
theorem dL_others_74 : decode cL_others 74 = .ok (.ixor, 1) := by decide +kernel
theorem dL_others_75 : decode cL_others 75 = .ok (.iand, 1) := by decide +kernel
theorem dL_others_76 : decode cL_others 76 = .ok (.iload_n 2, 1) := by decide +kernel
theorem dL_others_77 : decode cL_others 77 = .ok (.sipush 256, 3) := by decide +kernel
theorem dL_others_80 : decode cL_others 80 = .ok (.idiv, 1) := by decide +kernel
theorem dL_others_81 : decode cL_others 81 = .ok (.iconst 3, 1) := by decide +kernel
theorem dL_others_82 : decode cL_others 82 = .ok (.irem, 1) := by decide +kernel
theorem dL_others_83 : decode cL_others 83 = .ok (.iload 10, 2) := by decide +kernel
theorem dL_others_85 : decode cL_others 85 = .ok (.ishl, 1) := by decide +kernel
theorem dL_others_86 : decode cL_others 86 = .ok (.ior, 1) := by decide +kernel
theorem dL_others_87 : decode cL_others 87 = .ok (.iastore, 1) := by decide +kernel
theorem dL_others_88 : decode cL_others 88 = .ok (.aload_n 0, 1) := by decide +kernel
theorem dL_others_89 : decode cL_others 89 = .ok (.iload 8, 2) := by decide +kernel
theorem dL_others_91 : decode cL_others 91 = .ok (.iload 9, 2) := by decide +kernel
theorem dL_others_93 : decode cL_others 93 = .ok (.iload_n 2, 1) := by decide +kernel
theorem dL_others_94 : decode cL_others 94 = .ok (.sipush 256, 3) := by decide +kernel
theorem dL_others_97 : decode cL_others 97 = .ok (.idiv, 1) := by decide +kernel
theorem dL_others_98 : decode cL_others 98 = .ok (.iconst 3, 1) := by decide +kernel
theorem dL_others_99 : decode cL_others 99 = .ok (.irem, 1) := by decide +kernel
theorem dL_others_100 : decode cL_others 100 = .ok (.invokevirtual 90, 3) := by decide +kernel
theorem dL_others_103 : decode cL_others 103 = .ok (.iload 11, 2) := by decide +kernel
theorem dL_others_105 : decode cL_others 105 = .ok (.if_icmp .ne 7, 3) := by decide +kernel
theorem dL_others_108 : decode cL_others 108 = .ok (.iconst 1, 1) := by decide +kernel
theorem dL_others_109 : decode cL_others 109 = .ok (.goto 4, 3) := by decide +kernel
theorem dL_others_112 : decode cL_others 112 = .ok (.iconst 0, 1) := by decide +kernel
theorem dL_others_113 : decode cL_others 113 = .ok (.ireturn, 1) := by decide +kernel
theorem dL_others_114 : decode cL_others 114 = .ok (.iload 7, 2) := by decide +kernel
theorem dL_others_116 : decode cL_others 116 = .ok (.iconst 2, 1) := by decide +kernel
theorem dL_others_117 : decode cL_others 117 = .ok (.if_icmp .ne 35, 3) := by decide +kernel
theorem dL_others_120 : decode cL_others 120 = .ok (.aload_n 3, 1) := by decide +kernel
theorem dL_others_121 : decode cL_others 121 = .ok (.iconst 1, 1) := by decide +kernel
theorem dL_others_122 : decode cL_others 122 = .ok (.iaload, 1) := by decide +kernel
theorem dL_others_123 : decode cL_others 123 = .ok (.istore 8, 2) := by decide +kernel
theorem dL_others_125 : decode cL_others 125 = .ok (.aload_n 3, 1) := by decide +kernel
theorem dL_others_126 : decode cL_others 126 = .ok (.iconst 1, 1) := by decide +kernel
theorem dL_others_127 : decode cL_others 127 = .ok (.iconst 1, 1) := by decide +kernel
theorem dL_others_128 : decode cL_others 128 = .ok (.iload_n 2, 1) := by decide +kernel
theorem dL_others_129 : decode cL_others 129 = .ok (.ldc 93, 2) := by decide +kernel
theorem dL_others_131 : decode cL_others 131 = .ok (.irem, 1) := by decide +kernel
theorem dL_others_132 : decode cL_others 132 = .ok (.iadd, 1) := by decide +kernel
theorem dL_others_133 : decode cL_others 133 = .ok (.iastore, 1) := by decide +kernel
theorem dL_others_134 : decode cL_others 134 = .ok (.aload_n 0, 1) := by decide +kernel
theorem dL_others_135 : decode cL_others 135 = .ok (.aload_n 3, 1) := by decide +kernel
theorem dL_others_136 : decode cL_others 136 = .ok (.iconst 1, 1) := by decide +kernel
theorem dL_others_137 : decode cL_others 137 = .ok (.iaload, 1) := by decide +kernel
theorem dL_others_138 : decode cL_others 138 = .ok (.invokevirtual 87, 3) := by decide +kernel
theorem dL_others_141 : decode cL_others 141 = .ok (.iload 8, 2) := by decide +kernel
theorem dL_others_143 : decode cL_others 143 = .ok (.if_icmp .ne 7, 3) := by decide +kernel
theorem dL_others_146 : decode cL_others 146 = .ok (.iconst 1, 1) := by decide +kernel
theorem dL_others_147 : decode cL_others 147 = .ok (.goto 4, 3) := by decide +kernel
theorem dL_others_150 : decode cL_others 150 = .ok (.iconst 0, 1) := by decide +kernel
theorem dL_others_151 : decode cL_others 151 = .ok (.ireturn, 1) := by decide +kernel
theorem dL_others_152 : decode cL_others 152 = .ok (.iload 7, 2) := by decide +kernel
theorem dL_others_154 : decode cL_others 154 = .ok (.iconst 3, 1) := by decide +kernel
theorem dL_others_155 : decode cL_others 155 = .ok (.if_icmp .ne 77, 3) := by decide +kernel
theorem dL_others_158 : decode cL_others 158 = .ok (.aload_n 3, 1) := by decide +kernel
theorem dL_others_159 : decode cL_others 159 = .ok (.iconst 3, 1) := by decide +kernel
theorem dL_others_160 : decode cL_others 160 = .ok (.iaload, 1) := by decide +kernel
theorem dL_others_161 : decode cL_others 161 = .ok (.bipush 6, 2) := by decide +kernel
theorem dL_others_163 : decode cL_others 163 = .ok (.if_icmp .ne 26, 3) := by decide +kernel
theorem dL_others_166 : decode cL_others 166 = .ok (.aload_n 0, 1) := by decide +kernel
theorem dL_others_167 : decode cL_others 167 = .ok (.iconst 4, 1) := by decide +kernel
theorem dL_others_168 : decode cL_others 168 = .ok (.iconst 5, 1) := by decide +kernel
theorem dL_others_169 : decode cL_others 169 = .ok (.iconst 0, 1) := by decide +kernel
theorem dL_others_170 : decode cL_others 170 = .ok (.iconst 0, 1) := by decide +kernel
theorem dL_others_171 : decode cL_others 171 = .ok (.iconst 0, 1) := by decide +kernel
theorem dL_others_172 : decode cL_others 172 = .ok (.iconst 0, 1) := by decide +kernel
theorem dL_others_173 : decode cL_others 173 = .ok (.invokestatic 47, 3) := by decide +kernel
theorem dL_others_176 : decode cL_others 176 = .ok (.ldc2_w 41, 3) := by decide +kernel
theorem dL_others_179 : decode cL_others 179 = .ok (.lcmp, 1) := by decide +kernel
theorem dL_others_180 : decode cL_others 180 = .ok (.ifCond .ne 7, 3) := by decide +kernel
theorem dL_others_183 : decode cL_others 183 = .ok (.iconst 1, 1) := by decide +kernel
theorem dL_others_184 : decode cL_others 184 = .ok (.goto 4, 3) := by decide +kernel
theorem dL_others_187 : decode cL_others 187 = .ok (.iconst 0, 1) := by decide +kernel
theorem dL_others_188 : decode cL_others 188 = .ok (.ireturn, 1) := by decide +kernel
theorem dL_others_189 : decode cL_others 189 = .ok (.aload 5, 2) := by decide +kernel
theorem dL_others_191 : decode cL_others 191 = .ok (.aload_n 3, 1) := by decide +kernel
theorem dL_others_192 : decode cL_others 192 = .ok (.iconst 3, 1) := by decide +kernel
theorem dL_others_193 : decode cL_others 193 = .ok (.iaload, 1) := by decide +kernel
theorem dL_others_194 : decode cL_others 194 = .ok (.iconst 1, 1) := by decide +kernel
theorem dL_others_195 : decode cL_others 195 = .ok (.iload_n 2, 1) := by decide +kernel
theorem dL_others_196 : decode cL_others 196 = .ok (.bipush 9, 2) := by decide +kernel
theorem dL_others_198 : decode cL_others 198 = .ok (.irem, 1) := by decide +kernel
theorem dL_others_199 : decode cL_others 199 = .ok (.iadd, 1) := by decide +kernel
theorem dL_others_200 : decode cL_others 200 = .ok (.iastore, 1) := by decide +kernel
theorem dL_others_201 : decode cL_others 201 = .ok (.aload_n 3, 1) := by decide +kernel
theorem dL_others_202 : decode cL_others 202 = .ok (.iconst 3, 1) := by decide +kernel
theorem dL_others_203 : decode cL_others 203 = .ok (.dup2, 1) := by decide +kernel
theorem dL_others_204 : decode cL_others 204 = .ok (.iaload, 1) := by decide +kernel
theorem dL_others_205 : decode cL_others 205 = .ok (.iconst 1, 1) := by decide +kernel
theorem dL_others_206 : decode cL_others 206 = .ok (.iadd, 1) := by decide +kernel
theorem dL_others_207 : decode cL_others 207 = .ok (.iastore, 1) := by decide +kernel
theorem dL_others_208 : decode cL_others 208 = .ok (.aload_n 0, 1) := by decide +kernel
theorem dL_others_209 : decode cL_others 209 = .ok (.iconst 1, 1) := by decide +kernel
theorem dL_others_210 : decode cL_others 210 = .ok (.iload_n 2, 1) := by decide +kernel
theorem dL_others_211 : decode cL_others 211 = .ok (.bipush 9, 2) := by decide +kernel
theorem dL_others_213 : decode cL_others 213 = .ok (.irem, 1) := by decide +kernel
theorem dL_others_214 : decode cL_others 214 = .ok (.iadd, 1) := by decide +kernel
theorem dL_others_215 : decode cL_others 215 = .ok (.invokevirtual 28, 3) := by decide +kernel
theorem dL_others_218 : decode cL_others 218 = .ok (.aload_n 3, 1) := by decide +kernel
theorem dL_others_219 : decode cL_others 219 = .ok (.iconst 3, 1) := by decide +kernel
theorem dL_others_220 : decode cL_others 220 = .ok (.iaload, 1) := by decide +kernel
theorem dL_others_221 : decode cL_others 221 = .ok (.iconst 1, 1) := by decide +kernel
theorem dL_others_222 : decode cL_others 222 = .ok (.isub, 1) := by decide +kernel
theorem dL_others_223 : decode cL_others 223 = .ok (.if_icmp .ne 7, 3) := by decide +kernel
theorem dL_others_226 : decode cL_others 226 = .ok (.iconst 1, 1) := by decide +kernel
theorem dL_others_227 : decode cL_others 227 = .ok (.goto 4, 3) := by decide +kernel
theorem dL_others_230 : decode cL_others 230 = .ok (.iconst 0, 1) := by decide +kernel
theorem dL_others_231 : decode cL_others 231 = .ok (.ireturn, 1) := by decide +kernel
theorem dL_others_232 : decode cL_others 232 = .ok (.aload_n 3, 1) := by decide +kernel
theorem dL_others_233 : decode cL_others 233 = .ok (.iconst 4, 1) := by decide +kernel
theorem dL_others_234 : decode cL_others 234 = .ok (.iaload, 1) := by decide +kernel
theorem dL_others_235 : decode cL_others 235 = .ok (.bipush 8, 2) := by decide +kernel
theorem dL_others_237 : decode cL_others 237 = .ok (.if_icmp .ne 5, 3) := by decide +kernel
theorem dL_others_240 : decode cL_others 240 = .ok (.iconst 1, 1) := by decide +kernel
theorem dL_others_241 : decode cL_others 241 = .ok (.ireturn, 1) := by decide +kernel
theorem dL_others_242 : decode cL_others 242 = .ok (.aload 6, 2) := by decide +kernel
theorem dL_others_244 : decode cL_others 244 = .ok (.aload_n 3, 1) := by decide +kernel
theorem dL_others_245 : decode cL_others 245 = .ok (.iconst 4, 1) := by decide +kernel
theorem dL_others_246 : decode cL_others 246 = .ok (.iaload, 1) := by decide +kernel
theorem dL_others_247 : decode cL_others 247 = .ok (.aload_n 3, 1) := by decide +kernel
theorem dL_others_248 : decode cL_others 248 = .ok (.iconst 4, 1) := by decide +kernel
theorem dL_others_249 : decode cL_others 249 = .ok (.iaload, 1) := by decide +kernel
theorem dL_others_250 : decode cL_others 250 = .ok (.ifCond .ne 7, 3) := by decide +kernel
theorem dL_others_253 : decode cL_others 253 = .ok (.lconst 0, 1) := by decide +kernel
theorem dL_others_254 : decode cL_others 254 = .ok (.goto 11, 3) := by decide +kernel
theorem dL_others_257 : decode cL_others 257 = .ok (.aload 6, 2) := by decide +kernel
theorem dL_others_259 : decode cL_others 259 = .ok (.aload_n 3, 1) := by decide +kernel
theorem dL_others_260 : decode cL_others 260 = .ok (.iconst 4, 1) := by decide +kernel
theorem dL_others_261 : decode cL_others 261 = .ok (.iaload, 1) := by decide +kernel
theorem dL_others_262 : decode cL_others 262 = .ok (.iconst 1, 1) := by decide +kernel
theorem dL_others_263 : decode cL_others 263 = .ok (.isub, 1) := by decide +kernel
theorem dL_others_264 : decode cL_others 264 = .ok (.laload, 1) := by decide +kernel
theorem dL_others_265 : decode cL_others 265 = .ok (.lconst 1, 1) := by decide +kernel
theorem dL_others_266 : decode cL_others 266 = .ok (.ladd, 1) := by decide +kernel
theorem dL_others_267 : decode cL_others 267 = .ok (.iload_n 2, 1) := by decide +kernel
theorem dL_others_268 : decode cL_others 268 = .ok (.ldc 94, 2) := by decide +kernel
theorem dL_others_270 : decode cL_others 270 = .ok (.irem, 1) := by decide +kernel
theorem dL_others_271 : decode cL_others 271 = .ok (.i2l, 1) := by decide +kernel
theorem dL_others_272 : decode cL_others 272 = .ok (.ladd, 1) := by decide +kernel
theorem dL_others_273 : decode cL_others 273 = .ok (.lastore, 1) := by decide +kernel
theorem dL_others_274 : decode cL_others 274 = .ok (.aload 6, 2) := by decide +kernel
theorem dL_others_276 : decode cL_others 276 = .ok (.bipush 8, 2) := by decide +kernel
theorem dL_others_278 : decode cL_others 278 = .ok (.aload_n 3, 1) := by decide +kernel
theorem dL_others_279 : decode cL_others 279 = .ok (.iconst 4, 1) := by decide +kernel
theorem dL_others_280 : decode cL_others 280 = .ok (.iaload, 1) := by decide +kernel
theorem dL_others_281 : decode cL_others 281 = .ok (.iadd, 1) := by decide +kernel
theorem dL_others_282 : decode cL_others 282 = .ok (.aload_n 3, 1) := by decide +kernel
theorem dL_others_283 : decode cL_others 283 = .ok (.iconst 4, 1) := by decide +kernel
theorem dL_others_284 : decode cL_others 284 = .ok (.iaload, 1) := by decide +kernel
theorem dL_others_285 : decode cL_others 285 = .ok (.ifCond .ne 7, 3) := by decide +kernel
theorem dL_others_288 : decode cL_others 288 = .ok (.lconst 0, 1) := by decide +kernel
theorem dL_others_289 : decode cL_others 289 = .ok (.goto 14, 3) := by decide +kernel
theorem dL_others_292 : decode cL_others 292 = .ok (.aload 6, 2) := by decide +kernel
theorem dL_others_294 : decode cL_others 294 = .ok (.bipush 8, 2) := by decide +kernel
theorem dL_others_296 : decode cL_others 296 = .ok (.aload_n 3, 1) := by decide +kernel
theorem dL_others_297 : decode cL_others 297 = .ok (.iconst 4, 1) := by decide +kernel
theorem dL_others_298 : decode cL_others 298 = .ok (.iaload, 1) := by decide +kernel
theorem dL_others_299 : decode cL_others 299 = .ok (.iadd, 1) := by decide +kernel
theorem dL_others_300 : decode cL_others 300 = .ok (.iconst 1, 1) := by decide +kernel
theorem dL_others_301 : decode cL_others 301 = .ok (.isub, 1) := by decide +kernel
theorem dL_others_302 : decode cL_others 302 = .ok (.laload, 1) := by decide +kernel
theorem dL_others_303 : decode cL_others 303 = .ok (.lconst 1, 1) := by decide +kernel
theorem dL_others_304 : decode cL_others 304 = .ok (.ladd, 1) := by decide +kernel
theorem dL_others_305 : decode cL_others 305 = .ok (.iload_n 2, 1) := by decide +kernel
theorem dL_others_306 : decode cL_others 306 = .ok (.bipush 64, 2) := by decide +kernel
theorem dL_others_308 : decode cL_others 308 = .ok (.idiv, 1) := by decide +kernel
theorem dL_others_309 : decode cL_others 309 = .ok (.ldc 95, 2) := by decide +kernel
theorem dL_others_311 : decode cL_others 311 = .ok (.irem, 1) := by decide +kernel
theorem dL_others_312 : decode cL_others 312 = .ok (.i2l, 1) := by decide +kernel
theorem dL_others_313 : decode cL_others 313 = .ok (.ladd, 1) := by decide +kernel
theorem dL_others_314 : decode cL_others 314 = .ok (.lastore, 1) := by decide +kernel
theorem dL_others_315 : decode cL_others 315 = .ok (.aload_n 3, 1) := by decide +kernel
theorem dL_others_316 : decode cL_others 316 = .ok (.iconst 4, 1) := by decide +kernel
theorem dL_others_317 : decode cL_others 317 = .ok (.dup2, 1) := by decide +kernel
theorem dL_others_318 : decode cL_others 318 = .ok (.iaload, 1) := by decide +kernel
theorem dL_others_319 : decode cL_others 319 = .ok (.iconst 1, 1) := by decide +kernel
theorem dL_others_320 : decode cL_others 320 = .ok (.iadd, 1) := by decide +kernel
theorem dL_others_321 : decode cL_others 321 = .ok (.iastore, 1) := by decide +kernel
theorem dL_others_322 : decode cL_others 322 = .ok (.aload_n 0, 1) := by decide +kernel
theorem dL_others_323 : decode cL_others 323 = .ok (.aload 6, 2) := by decide +kernel
theorem dL_others_325 : decode cL_others 325 = .ok (.aload_n 3, 1) := by decide +kernel
theorem dL_others_326 : decode cL_others 326 = .ok (.iconst 4, 1) := by decide +kernel
theorem dL_others_327 : decode cL_others 327 = .ok (.iaload, 1) := by decide +kernel
theorem dL_others_328 : decode cL_others 328 = .ok (.iconst 1, 1) := by decide +kernel
theorem dL_others_329 : decode cL_others 329 = .ok (.isub, 1) := by decide +kernel
theorem dL_others_330 : decode cL_others 330 = .ok (.laload, 1) := by decide +kernel
theorem dL_others_331 : decode cL_others 331 = .ok (.aload 6, 2) := by decide +kernel
theorem dL_others_333 : decode cL_others 333 = .ok (.bipush 8, 2) := by decide +kernel
theorem dL_others_335 : decode cL_others 335 = .ok (.aload_n 3, 1) := by decide +kernel
theorem dL_others_336 : decode cL_others 336 = .ok (.iconst 4, 1) := by decide +kernel
theorem dL_others_337 : decode cL_others 337 = .ok (.iaload, 1) := by decide +kernel
theorem dL_others_338 : decode cL_others 338 = .ok (.iadd, 1) := by decide +kernel
theorem dL_others_339 : decode cL_others 339 = .ok (.iconst 1, 1) := by decide +kernel
theorem dL_others_340 : decode cL_others 340 = .ok (.isub, 1) := by decide +kernel
theorem dL_others_341 : decode cL_others 341 = .ok (.laload, 1) := by decide +kernel
theorem dL_others_342 : decode cL_others 342 = .ok (.invokevirtual 96, 3) := by decide +kernel
theorem dL_others_345 : decode cL_others 345 = .ok (.aload_n 3, 1) := by decide +kernel
theorem dL_others_346 : decode cL_others 346 = .ok (.iconst 4, 1) := by decide +kernel
theorem dL_others_347 : decode cL_others 347 = .ok (.iaload, 1) := by decide +kernel
theorem dL_others_348 : decode cL_others 348 = .ok (.if_icmp .ne 7, 3) := by decide +kernel
theorem dL_others_351 : decode cL_others 351 = .ok (.iconst 1, 1) := by decide +kernel
theorem dL_others_352 : decode cL_others 352 = .ok (.goto 4, 3) := by decide +kernel
theorem dL_others_355 : decode cL_others 355 = .ok (.iconst 0, 1) := by decide +kernel
theorem dL_others_356 : decode cL_others 356 = .ok (.ireturn, 1) := by decide +kernel
set_option maxRecDepth 20000 in
theorem ggL_plain_X9_init : GoodIn wsL_plain wsX9_init := goodIn_r _ [9, 10, 11, 12, 13, 14, 15, 4, 16, 17, 18, 19, 20, 21, 22, 23, 24, 25, 26, 27, 28, 29, 30, 31, 32, 33, 34, 35, 36, 37, 38, 39, 40, 41, 42, 43, 44, 45, 46, 47, 48, 49, 50, 51, 52, 53, 54, 487, 481, 482, 483, 484, 485, 486, 488, 489, 490, 491] (by decide +kernel) (by decide +kernel)
set_option maxRecDepth 20000 in
theorem gL_plain_X9_init : GoodIn wsL_plain (wsX9_init) := ggL_plain_X9_init
set_option maxRecDepth 20000 in
theorem ggL_plain_L_draw : GoodIn wsL_plain wsL_draw := goodIn_r _ [58, 59, 60, 61] (by decide +kernel) (by decide +kernel)
set_option maxRecDepth 20000 in
theorem gL_plain_L_draw : GoodIn wsL_plain (va_wsS RL 102 yL_draw wsL_draw) := goodIn_app (goodIn_of _ (by decide +kernel)) ggL_plain_L_draw
theorem dL_plain_0 : decode cL_plain 0 = .ok (.new 11, 3) := by decide +kernel
theorem dL_plain_3 : decode cL_plain 3 = .ok (.dup, 1) := by decide +kernel
theorem dL_plain_4 : decode cL_plain 4 = .ok (.invokespecial 100, 3) := by decide +kernel
theorem dL_plain_7 : decode cL_plain 7 = .ok (.astore_n 2, 1) := by decide +kernel
theorem dL_plain_8 : decode cL_plain 8 = .ok (.iconst 5, 1) := by decide +kernel
theorem dL_plain_9 : decode cL_plain 9 = .ok (.newarray .int, 2) := by decide +kernel
theorem dL_plain_11 : decode cL_plain 11 = .ok (.astore_n 3, 1) := by decide +kernel
theorem dL_plain_12 : decode cL_plain 12 = .ok (.bipush 16, 2) := by decide +kernel
theorem dL_plain_14 : decode cL_plain 14 = .ok (.newarray .int, 2) := by decide +kernel
theorem dL_plain_16 : decode cL_plain 16 = .ok (.astore 4, 2) := by decide +kernel
theorem dL_plain_18 : decode cL_plain 18 = .ok (.bipush 64, 2) := by decide +kernel
theorem dL_plain_20 : decode cL_plain 20 = .ok (.newarray .int, 2) := by decide +kernel
theorem dL_plain_22 : decode cL_plain 22 = .ok (.astore 5, 2) := by decide +kernel
theorem dL_plain_24 : decode cL_plain 24 = .ok (.bipush 6, 2) := by decide +kernel
theorem dL_plain_26 : decode cL_plain 26 = .ok (.newarray .int, 2) := by decide +kernel
theorem dL_plain_28 : decode cL_plain 28 = .ok (.astore 6, 2) := by decide +kernel
theorem dL_plain_30 : decode cL_plain 30 = .ok (.bipush 16, 2) := by decide +kernel
theorem dL_plain_32 : decode cL_plain 32 = .ok (.newarray .long, 2) := by decide +kernel
theorem dL_plain_34 : decode cL_plain 34 = .ok (.astore 7, 2) := by decide +kernel
theorem dL_plain_36 : decode cL_plain 36 = .ok (.iconst 1, 1) := by decide +kernel
theorem dL_plain_37 : decode cL_plain 37 = .ok (.istore 8, 2) := by decide +kernel
theorem dL_plain_39 : decode cL_plain 39 = .ok (.aload_n 3, 1) := by decide +kernel
theorem dL_plain_40 : decode cL_plain 40 = .ok (.iconst 1, 1) := by decide +kernel
theorem dL_plain_41 : decode cL_plain 41 = .ok (.iconst 1, 1) := by decide +kernel
theorem dL_plain_42 : decode cL_plain 42 = .ok (.iastore, 1) := by decide +kernel
theorem dL_plain_43 : decode cL_plain 43 = .ok (.iconst 0, 1) := by decide +kernel
theorem dL_plain_44 : decode cL_plain 44 = .ok (.istore 9, 2) := by decide +kernel
theorem dL_plain_46 : decode cL_plain 46 = .ok (.iload 9, 2) := by decide +kernel
theorem dL_plain_48 : decode cL_plain 48 = .ok (.bipush 60, 2) := by decide +kernel
theorem dL_plain_50 : decode cL_plain 50 = .ok (.if_icmp .ge 224, 3) := by decide +kernel
theorem dL_plain_53 : decode cL_plain 53 = .ok (.iload 8, 2) := by decide +kernel
theorem dL_plain_55 : decode cL_plain 55 = .ok (.ifCond .eq 219, 3) := by decide +kernel
theorem dL_plain_58 : decode cL_plain 58 = .ok (.aload_n 0, 1) := by decide +kernel
theorem dL_plain_59 : decode cL_plain 59 = .ok (.iload_n 1, 1) := by decide +kernel
theorem dL_plain_60 : decode cL_plain 60 = .ok (.iconst 2, 1) := by decide +kernel
theorem dL_plain_61 : decode cL_plain 61 = .ok (.iload 9, 2) := by decide +kernel
theorem dL_plain_63 : decode cL_plain 63 = .ok (.imul, 1) := by decide +kernel
theorem dL_plain_64 : decode cL_plain 64 = .ok (.iadd, 1) := by decide +kernel
theorem dL_plain_65 : decode cL_plain 65 = .ok (.ldc 101, 2) := by decide +kernel
theorem dL_plain_67 : decode cL_plain 67 = .ok (.invokestatic 102, 3) := by decide +kernel
theorem dL_plain_70 : decode cL_plain 70 = .ok (.istore 10, 2) := by decide +kernel
theorem dL_plain_72 : decode cL_plain 72 = .ok (.aload_n 0, 1) := by decide +kernel
theorem dL_plain_73 : decode cL_plain 73 = .ok (.iload_n 1, 1) := by decide +kernel
theorem dL_plain_74 : decode cL_plain 74 = .ok (.iconst 2, 1) := by decide +kernel
theorem dL_plain_75 : decode cL_plain 75 = .ok (.iload 9, 2) := by decide +kernel
theorem dL_plain_77 : decode cL_plain 77 = .ok (.imul, 1) := by decide +kernel
theorem dL_plain_78 : decode cL_plain 78 = .ok (.iadd, 1) := by decide +kernel
theorem dL_plain_79 : decode cL_plain 79 = .ok (.iconst 1, 1) := by decide +kernel
theorem dL_plain_80 : decode cL_plain 80 = .ok (.iadd, 1) := by decide +kernel
theorem dL_plain_81 : decode cL_plain 81 = .ok (.ldc 101, 2) := by decide +kernel
theorem dL_plain_83 : decode cL_plain 83 = .ok (.invokestatic 102, 3) := by decide +kernel
theorem dL_plain_86 : decode cL_plain 86 = .ok (.istore 11, 2) := by decide +kernel
theorem dL_plain_88 : decode cL_plain 88 = .ok (.iload 10, 2) := by decide +kernel
theorem dL_plain_90 : decode cL_plain 90 = .ok (.bipush 16, 2) := by decide +kernel
theorem dL_plain_92 : decode cL_plain 92 = .ok (.irem, 1) := by decide +kernel
theorem dL_plain_93 : decode cL_plain 93 = .ok (.istore 12, 2) := by decide +kernel
theorem dL_plain_95 : decode cL_plain 95 = .ok (.iload 10, 2) := by decide +kernel
theorem dL_plain_97 : decode cL_plain 97 = .ok (.bipush 16, 2) := by decide +kernel
theorem dL_plain_99 : decode cL_plain 99 = .ok (.idiv, 1) := by decide +kernel
theorem dL_plain_100 : decode cL_plain 100 = .ok (.istore 13, 2) := by decide +kernel
theorem dL_plain_102 : decode cL_plain 102 = .ok (.iload 12, 2) := by decide +kernel
theorem dL_plain_104 : decode cL_plain 104 = .ok (.bipush 6, 2) := by decide +kernel
theorem dL_plain_106 : decode cL_plain 106 = .ok (.if_icmp .ge 29, 3) := by decide +kernel
theorem dL_plain_109 : decode cL_plain 109 = .ok (.aload_n 3, 1) := by decide +kernel
theorem dL_plain_110 : decode cL_plain 110 = .ok (.iconst 0, 1) := by decide +kernel
theorem dL_plain_111 : decode cL_plain 111 = .ok (.iaload, 1) := by decide +kernel
theorem dL_plain_112 : decode cL_plain 112 = .ok (.bipush 50, 2) := by decide +kernel
theorem dL_plain_114 : decode cL_plain 114 = .ok (.if_icmp .ge 21, 3) := by decide +kernel
theorem dL_plain_117 : decode cL_plain 117 = .ok (.aload_n 2, 1) := by decide +kernel
theorem dL_plain_118 : decode cL_plain 118 = .ok (.iload 13, 2) := by decide +kernel
theorem dL_plain_120 : decode cL_plain 120 = .ok (.iload 11, 2) := by decide +kernel
theorem dL_plain_122 : decode cL_plain 122 = .ok (.aload_n 3, 1) := by decide +kernel
theorem dL_plain_123 : decode cL_plain 123 = .ok (.aload 4, 2) := by decide +kernel
theorem dL_plain_125 : decode cL_plain 125 = .ok (.aload 5, 2) := by decide +kernel
theorem dL_plain_127 : decode cL_plain 127 = .ok (.invokestatic 104, 3) := by decide +kernel
theorem dL_plain_130 : decode cL_plain 130 = .ok (.istore 8, 2) := by decide +kernel
theorem dL_plain_132 : decode cL_plain 132 = .ok (.goto 104, 3) := by decide +kernel
theorem dL_plain_135 : decode cL_plain 135 = .ok (.iload 12, 2) := by decide +kernel
theorem dL_plain_137 : decode cL_plain 137 = .ok (.bipush 6, 2) := by decide +kernel
theorem dL_plain_139 : decode cL_plain 139 = .ok (.if_icmp .ne 30, 3) := by decide +kernel
theorem dL_plain_142 : decode cL_plain 142 = .ok (.aload_n 3, 1) := by decide +kernel
theorem dL_plain_143 : decode cL_plain 143 = .ok (.iconst 0, 1) := by decide +kernel
theorem dL_plain_144 : decode cL_plain 144 = .ok (.iaload, 1) := by decide +kernel
theorem dL_plain_145 : decode cL_plain 145 = .ok (.bipush 50, 2) := by decide +kernel
theorem dL_plain_147 : decode cL_plain 147 = .ok (.if_icmp .ge 22, 3) := by decide +kernel
theorem dL_plain_150 : decode cL_plain 150 = .ok (.aload_n 2, 1) := by decide +kernel
theorem dL_plain_151 : decode cL_plain 151 = .ok (.iconst 1, 1) := by decide +kernel
theorem dL_plain_152 : decode cL_plain 152 = .ok (.iload 11, 2) := by decide +kernel
theorem dL_plain_154 : decode cL_plain 154 = .ok (.bipush 8, 2) := by decide +kernel
theorem dL_plain_156 : decode cL_plain 156 = .ok (.irem, 1) := by decide +kernel
theorem dL_plain_157 : decode cL_plain 157 = .ok (.iadd, 1) := by decide +kernel
theorem dL_plain_158 : decode cL_plain 158 = .ok (.aload_n 3, 1) := by decide +kernel
theorem dL_plain_159 : decode cL_plain 159 = .ok (.aload 4, 2) := by decide +kernel
theorem dL_plain_161 : decode cL_plain 161 = .ok (.invokestatic 108, 3) := by decide +kernel
theorem dL_plain_164 : decode cL_plain 164 = .ok (.istore 8, 2) := by decide +kernel
theorem dL_plain_166 : decode cL_plain 166 = .ok (.goto 70, 3) := by decide +kernel
theorem dL_plain_169 : decode cL_plain 169 = .ok (.iload 12, 2) := by decide +kernel
theorem dL_plain_171 : decode cL_plain 171 = .ok (.bipush 9, 2) := by decide +kernel
theorem dL_plain_173 : decode cL_plain 173 = .ok (.if_icmp .ge 21, 3) := by decide +kernel
theorem dL_plain_176 : decode cL_plain 176 = .ok (.aload_n 2, 1) := by decide +kernel
theorem dL_plain_177 : decode cL_plain 177 = .ok (.iload 13, 2) := by decide +kernel
theorem dL_plain_179 : decode cL_plain 179 = .ok (.iload 11, 2) := by decide +kernel
theorem dL_plain_181 : decode cL_plain 181 = .ok (.aload_n 3, 1) := by decide +kernel
theorem dL_plain_182 : decode cL_plain 182 = .ok (.aload 4, 2) := by decide +kernel
theorem dL_plain_184 : decode cL_plain 184 = .ok (.aload 5, 2) := by decide +kernel
theorem dL_plain_186 : decode cL_plain 186 = .ok (.invokestatic 112, 3) := by decide +kernel
theorem dL_plain_189 : decode cL_plain 189 = .ok (.istore 8, 2) := by decide +kernel
theorem dL_plain_191 : decode cL_plain 191 = .ok (.goto 45, 3) := by decide +kernel
theorem dL_plain_194 : decode cL_plain 194 = .ok (.iload 12, 2) := by decide +kernel
theorem dL_plain_196 : decode cL_plain 196 = .ok (.bipush 13, 2) := by decide +kernel
theorem dL_plain_198 : decode cL_plain 198 = .ok (.if_icmp .ge 23, 3) := by decide +kernel
theorem dL_plain_201 : decode cL_plain 201 = .ok (.aload_n 2, 1) := by decide +kernel
theorem dL_plain_202 : decode cL_plain 202 = .ok (.iload 13, 2) := by decide +kernel
theorem dL_plain_204 : decode cL_plain 204 = .ok (.iload 11, 2) := by decide +kernel
theorem dL_plain_206 : decode cL_plain 206 = .ok (.aload_n 3, 1) := by decide +kernel
theorem dL_plain_207 : decode cL_plain 207 = .ok (.aload 4, 2) := by decide +kernel
theorem dL_plain_209 : decode cL_plain 209 = .ok (.aload 6, 2) := by decide +kernel
theorem dL_plain_211 : decode cL_plain 211 = .ok (.aload 7, 2) := by decide +kernel
theorem dL_plain_213 : decode cL_plain 213 = .ok (.invokestatic 115, 3) := by decide +kernel
theorem dL_plain_216 : decode cL_plain 216 = .ok (.istore 8, 2) := by decide +kernel
theorem dL_plain_218 : decode cL_plain 218 = .ok (.goto 18, 3) := by decide +kernel
theorem dL_plain_221 : decode cL_plain 221 = .ok (.aload_n 2, 1) := by decide +kernel
theorem dL_plain_222 : decode cL_plain 222 = .ok (.iload 13, 2) := by decide +kernel
theorem dL_plain_224 : decode cL_plain 224 = .ok (.iload 11, 2) := by decide +kernel
theorem dL_plain_226 : decode cL_plain 226 = .ok (.aload_n 3, 1) := by decide +kernel
theorem dL_plain_227 : decode cL_plain 227 = .ok (.aload 6, 2) := by decide +kernel
theorem dL_plain_229 : decode cL_plain 229 = .ok (.aload 7, 2) := by decide +kernel
theorem dL_plain_231 : decode cL_plain 231 = .ok (.invokestatic 119, 3) := by decide +kernel
theorem dL_plain_234 : decode cL_plain 234 = .ok (.istore 8, 2) := by decide +kernel
theorem dL_plain_236 : decode cL_plain 236 = .ok (.iload 8, 2) := by decide +kernel
theorem dL_plain_238 : decode cL_plain 238 = .ok (.ifCond .eq 27, 3) := by decide +kernel
theorem dL_plain_241 : decode cL_plain 241 = .ok (.iload 9, 2) := by decide +kernel
theorem dL_plain_243 : decode cL_plain 243 = .ok (.bipush 10, 2) := by decide +kernel
theorem dL_plain_245 : decode cL_plain 245 = .ok (.irem, 1) := by decide +kernel
theorem dL_plain_246 : decode cL_plain 246 = .ok (.bipush 9, 2) := by decide +kernel
theorem dL_plain_248 : decode cL_plain 248 = .ok (.if_icmp .lt 13, 3) := by decide +kernel
theorem dL_plain_251 : decode cL_plain 251 = .ok (.aload_n 2, 1) := by decide +kernel
theorem dL_plain_252 : decode cL_plain 252 = .ok (.iload 11, 2) := by decide +kernel
theorem dL_plain_254 : decode cL_plain 254 = .ok (.aload_n 3, 1) := by decide +kernel
theorem dL_plain_255 : decode cL_plain 255 = .ok (.invokestatic 123, 3) := by decide +kernel
theorem dL_plain_258 : decode cL_plain 258 = .ok (.ifCond .eq 7, 3) := by decide +kernel
theorem dL_plain_261 : decode cL_plain 261 = .ok (.iconst 1, 1) := by decide +kernel
theorem dL_plain_262 : decode cL_plain 262 = .ok (.goto 4, 3) := by decide +kernel
theorem dL_plain_265 : decode cL_plain 265 = .ok (.iconst 0, 1) := by decide +kernel
theorem dL_plain_266 : decode cL_plain 266 = .ok (.istore 8, 2) := by decide +kernel
theorem dL_plain_268 : decode cL_plain 268 = .ok (.iinc 9 1, 3) := by decide +kernel
theorem dL_plain_271 : decode cL_plain 271 = .ok (.goto (-225), 3) := by decide +kernel
theorem dL_plain_274 : decode cL_plain 274 = .ok (.iload 8, 2) := by decide +kernel
theorem dL_plain_276 : decode cL_plain 276 = .ok (.ifCond .eq 17, 3) := by decide +kernel
theorem dL_plain_279 : decode cL_plain 279 = .ok (.aload_n 2, 1) := by decide +kernel
theorem dL_plain_280 : decode cL_plain 280 = .ok (.bipush 51, 2) := by decide +kernel
theorem dL_plain_282 : decode cL_plain 282 = .ok (.aload_n 3, 1) := by decide +kernel
theorem dL_plain_283 : decode cL_plain 283 = .ok (.invokestatic 123, 3) := by decide +kernel
theorem dL_plain_286 : decode cL_plain 286 = .ok (.ifCond .eq 7, 3) := by decide +kernel
theorem dL_plain_289 : decode cL_plain 289 = .ok (.iconst 1, 1) := by decide +kernel
theorem dL_plain_290 : decode cL_plain 290 = .ok (.goto 4, 3) := by decide +kernel
theorem dL_plain_293 : decode cL_plain 293 = .ok (.iconst 0, 1) := by decide +kernel
theorem dL_plain_294 : decode cL_plain 294 = .ok (.ireturn, 1) := by decide +kernel
theorem dL_law_0 : decode cL_law 0 = .ok (.aload_n 0, 1) := by decide +kernel
theorem dL_law_1 : decode cL_law 1 = .ok (.iconst 0, 1) := by decide +kernel
theorem dL_law_2 : decode cL_law 2 = .ok (.invokestatic 127, 3) := by decide +kernel
theorem dL_law_5 : decode cL_law 5 = .ok (.ifCond .eq 26, 3) := by decide +kernel
theorem dL_law_8 : decode cL_law 8 = .ok (.aload_n 0, 1) := by decide +kernel
theorem dL_law_9 : decode cL_law 9 = .ok (.bipush 120, 2) := by decide +kernel
theorem dL_law_11 : decode cL_law 11 = .ok (.invokestatic 127, 3) := by decide +kernel
theorem dL_law_14 : decode cL_law 14 = .ok (.ifCond .eq 17, 3) := by decide +kernel
theorem dL_law_17 : decode cL_law 17 = .ok (.aload_n 0, 1) := by decide +kernel
theorem dL_law_18 : decode cL_law 18 = .ok (.sipush 240, 3) := by decide +kernel
theorem dL_law_21 : decode cL_law 21 = .ok (.invokestatic 127, 3) := by decide +kernel
theorem dL_law_24 : decode cL_law 24 = .ok (.ifCond .eq 7, 3) := by decide +kernel
theorem dL_law_27 : decode cL_law 27 = .ok (.iconst 1, 1) := by decide +kernel
theorem dL_law_28 : decode cL_law 28 = .ok (.goto 4, 3) := by decide +kernel
theorem dL_law_31 : decode cL_law 31 = .ok (.iconst 0, 1) := by decide +kernel
theorem dL_law_32 : decode cL_law 32 = .ok (.ireturn, 1) := by decide +kernel
