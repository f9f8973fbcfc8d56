set_option maxRecDepth 20000 in
theorem ggL_plain_L_rains_c0 : GoodIn wsL_plain [Cond.code yL_rains cL_rains 12 (some .boolean)] := goodIn_r _ [229] (by decide +kernel) (by decide +kernel)
set_option maxRecDepth 20000 in
theorem ggL_plain_L_rains_c1 : GoodIn wsL_plain wsL_rains_r1 := goodIn_r wsL_rains_r1 [4, 230, 231, 232, 233, 3, 234, 235, 89, 90, 91, 92, 93, 118, 119, 120, 121, 122, 123, 20, 84, 85, 86, 19] (by decide +kernel) (by decide +kernel)
set_option maxRecDepth 20000 in
theorem ggL_plain_L_rains_c2 : GoodIn wsL_plain wsL_rains_r2 := goodIn_r wsL_rains_r2 [87, 88, 236, 237, 238, 239, 27, 240, 241, 242, 243, 124, 125, 126, 127, 128, 129, 130, 16, 73, 131, 132, 133, 15] (by decide +kernel) (by decide +kernel)
set_option maxRecDepth 20000 in
theorem ggL_plain_L_rains_c3 : GoodIn wsL_plain wsL_rains_r3 := goodIn_r wsL_rains_r3 [134, 32, 135, 136, 137, 138, 11, 12, 139, 140, 141, 142, 143, 144, 145, 146, 147, 148, 149, 150, 151, 152, 153, 154] (by decide +kernel) (by decide +kernel)
set_option maxRecDepth 20000 in
theorem ggL_plain_L_rains_c4 : GoodIn wsL_plain wsL_rains_r4 := goodIn_r wsL_rains_r4 [94, 95, 96, 97, 98, 99, 100, 101, 102, 103, 104, 105, 106, 107, 108, 109, 37, 155, 156, 157, 158, 159, 160, 161] (by decide +kernel) (by decide +kernel)
set_option maxRecDepth 20000 in
theorem ggL_plain_L_rains_c5 : GoodIn wsL_plain wsL_rains_r5 := goodIn_r wsL_rains_r5 [162, 163, 164, 165, 166, 167, 168, 169, 170, 171, 172, 173, 174, 175, 176, 177, 178, 179, 180, 181, 182, 183, 184, 36] (by decide +kernel) (by decide +kernel)
set_option maxRecDepth 20000 in
theorem ggL_plain_L_rains_c6 : GoodIn wsL_plain wsL_rains_r6 := goodIn_r wsL_rains_r6 [185, 186, 187, 188, 189, 190, 191, 192, 193, 194, 195, 196, 197, 198, 199, 200, 201, 202, 203, 204, 205, 206, 207, 208] (by decide +kernel) (by decide +kernel)
set_option maxRecDepth 20000 in
theorem ggL_plain_L_rains_c7 : GoodIn wsL_plain wsL_rains_r7 := goodIn_r wsL_rains_r7 [209, 210, 211, 212, 213, 214, 215, 244, 245, 246, 247, 77, 248, 249, 250, 251, 65, 66, 57, 67, 68, 69, 70, 71] (by decide +kernel) (by decide +kernel)
set_option maxRecDepth 20000 in
theorem ggL_plain_L_rains_c8 : GoodIn wsL_plain wsL_rains_r8 := goodIn_r wsL_rains_r8 [72, 74, 75, 76, 78, 79, 80, 81, 82, 83, 252, 253, 254, 255, 256] (by decide +kernel) (by decide +kernel)
theorem ggL_plain_L_rains_wsX90 : GoodIn wsL_plain wsX90 := goodIn_r wsX90 [481, 482, 483, 484, 485, 486] (by decide +kernel) (by decide +kernel)
theorem ggL_plain_L_rains_wsJx4a65c0 : GoodIn wsL_plain wsJx4a65c0 := goodIn_r wsJx4a65c0 [488, 489, 490] (by decide +kernel) (by decide +kernel)
theorem ggL_plain_L_rains_wsX10 : GoodIn wsL_plain wsX10 := goodIn_r wsX10 [492, 493, 494, 495, 496, 497] (by decide +kernel) (by decide +kernel)
theorem ggL_plain_L_rains_wsX60 : GoodIn wsL_plain wsX60 := goodIn_r wsX60 [487] (by decide +kernel) (by decide +kernel)
set_option maxRecDepth 20000 in
theorem ggL_plain_L_rains : GoodIn wsL_plain wsL_rains := goodIn_ca (goodIn_ca (goodIn_ca (goodIn_c1 ggL_plain_L_rains_c0 (goodIn_app (goodIn_app (goodIn_app (goodIn_app (goodIn_app ggL_plain_L_rains_c1 (goodIn_app ggL_plain_L_rains_c2 (goodIn_app ggL_plain_L_rains_c3 (goodIn_app ggL_plain_L_rains_c4 (goodIn_app ggL_plain_L_rains_c5 (goodIn_app ggL_plain_L_rains_c6 (goodIn_app ggL_plain_L_rains_c7 ggL_plain_L_rains_c8))))))) ggL_plain_L_rains_wsX90) ggL_plain_L_rains_wsJx4a65c0) ggL_plain_L_rains_wsX10) ggL_plain_L_rains_wsX60)) (goodIn_sub (fun _ h => List.mem_cons_of_mem _ (List.mem_append_left _ (List.mem_append_right _ h))) (by decide +kernel))) (goodIn_sub (fun _ h => List.mem_cons_of_mem _ (List.mem_append_right _ h)) (by decide +kernel))) (goodIn_sub (fun _ h => List.mem_cons_of_mem _ (List.mem_append_left _ (List.mem_append_left _ (List.mem_append_right _ h)))) (by decide +kernel))
set_option maxRecDepth 20000 in
theorem gL_plain_L_rains : GoodIn wsL_plain (va_wsS RL 108 yL_rains wsL_rains) := goodIn_app (goodIn_of _ (by decide +kernel)) ggL_plain_L_rains
