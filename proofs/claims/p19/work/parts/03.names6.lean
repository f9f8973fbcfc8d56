theorem goodIn_c1 {big a : List Cond} {c : Cond} (h : GoodIn big [c]) (k : GoodIn big a) : GoodIn big (c :: a) := fun w hw => (List.mem_cons.mp hw).elim (fun e => h w (by rw [e]; exact List.mem_cons_self)) (k w)
set_option maxRecDepth 20000 in
theorem ggL_plain_L_stones_c0 : GoodIn wsL_plain [Cond.code yL_stones cL_stones 18 (some .boolean)] := goodIn_r _ [64] (by decide +kernel) (by decide +kernel)
set_option maxRecDepth 20000 in
theorem ggL_plain_L_stones_c1 : GoodIn wsL_plain wsL_stones_r1 := goodIn_r wsL_stones_r1 [65, 66, 57, 67, 68, 69, 70, 3, 71, 72, 20, 73, 74, 75, 76, 77, 78, 79, 80, 81, 82, 83, 84, 85] (by decide +kernel) (by decide +kernel)
set_option maxRecDepth 20000 in
theorem ggL_plain_L_stones_c2 : GoodIn wsL_plain wsL_stones_r2 := goodIn_r wsL_stones_r2 [86, 19, 87, 88, 89, 90, 91, 92, 93, 94, 95, 96, 97, 98, 99, 100, 101, 102, 103, 104, 105, 106, 107, 108] (by decide +kernel) (by decide +kernel)
set_option maxRecDepth 20000 in
theorem ggL_plain_L_stones_c3 : GoodIn wsL_plain wsL_stones_r3 := goodIn_r wsL_stones_r3 [109, 37, 110, 111, 112, 113, 114, 115, 116, 117, 118, 119, 120, 121, 122, 123, 124, 125, 126, 127, 128, 129, 130, 16] (by decide +kernel) (by decide +kernel)
set_option maxRecDepth 20000 in
theorem ggL_plain_L_stones_c4 : GoodIn wsL_plain wsL_stones_r4 := goodIn_r wsL_stones_r4 [131, 132, 133, 15, 134, 32, 135, 136, 137, 138, 11, 12, 139, 140, 141, 142, 143, 144, 145, 146, 147, 148, 149, 150] (by decide +kernel) (by decide +kernel)
set_option maxRecDepth 20000 in
theorem ggL_plain_L_stones_c5 : GoodIn wsL_plain wsL_stones_r5 := goodIn_r wsL_stones_r5 [151, 152, 153, 154, 155, 156, 157, 158, 159, 160, 161, 162, 163, 164, 165, 166, 167, 168, 169, 170, 171, 172, 173, 174] (by decide +kernel) (by decide +kernel)
set_option maxRecDepth 20000 in
theorem ggL_plain_L_stones_c6 : GoodIn wsL_plain wsL_stones_r6 := goodIn_r wsL_stones_r6 [175, 176, 177, 178, 179, 180, 181, 182, 183, 184, 36, 185, 186, 187, 188, 189, 190, 191, 192, 193, 194, 195, 196, 197] (by decide +kernel) (by decide +kernel)
set_option maxRecDepth 20000 in
theorem ggL_plain_L_stones_c7 : GoodIn wsL_plain wsL_stones_r7 := goodIn_r wsL_stones_r7 [198, 199, 200, 201, 202, 203, 204, 205, 206, 207, 208, 209, 210, 211, 212, 213, 214, 215, 216, 217, 218, 219, 220, 221] (by decide +kernel) (by decide +kernel)
set_option maxRecDepth 20000 in
theorem ggL_plain_L_stones_c8 : GoodIn wsL_plain wsL_stones_r8 := goodIn_r wsL_stones_r8 [222, 223, 224, 225, 226] (by decide +kernel) (by decide +kernel)
theorem ggL_plain_L_stones_wsX90 : GoodIn wsL_plain wsX90 := goodIn_r wsX90 [481, 482, 483, 484, 485, 486] (by decide +kernel) (by decide +kernel)
theorem ggL_plain_L_stones_wsX10 : GoodIn wsL_plain wsX10 := goodIn_r wsX10 [492, 493, 494, 495, 496, 497] (by decide +kernel) (by decide +kernel)
theorem ggL_plain_L_stones_wsJx4a65c0 : GoodIn wsL_plain wsJx4a65c0 := goodIn_r wsJx4a65c0 [488, 489, 490] (by decide +kernel) (by decide +kernel)
theorem ggL_plain_L_stones_wsX60 : GoodIn wsL_plain wsX60 := goodIn_r wsX60 [487] (by decide +kernel) (by decide +kernel)
set_option maxRecDepth 20000 in
theorem ggL_plain_L_stones : GoodIn wsL_plain wsL_stones := goodIn_ca (goodIn_ca (goodIn_ca (goodIn_c1 ggL_plain_L_stones_c0 (goodIn_app (goodIn_app (goodIn_app (goodIn_app (goodIn_app ggL_plain_L_stones_c1 (goodIn_app ggL_plain_L_stones_c2 (goodIn_app ggL_plain_L_stones_c3 (goodIn_app ggL_plain_L_stones_c4 (goodIn_app ggL_plain_L_stones_c5 (goodIn_app ggL_plain_L_stones_c6 (goodIn_app ggL_plain_L_stones_c7 ggL_plain_L_stones_c8))))))) ggL_plain_L_stones_wsX90) ggL_plain_L_stones_wsX10) ggL_plain_L_stones_wsJx4a65c0) ggL_plain_L_stones_wsX60)) (goodIn_sub (fun _ h => List.mem_cons_of_mem _ (List.mem_append_left _ (List.mem_append_left _ (List.mem_append_right _ h)))) (by decide +kernel))) (goodIn_sub (fun _ h => List.mem_cons_of_mem _ (List.mem_append_left _ (List.mem_append_right _ h))) (by decide +kernel))) (goodIn_sub (fun _ h => List.mem_cons_of_mem _ (List.mem_append_right _ h)) (by decide +kernel))
set_option maxRecDepth 20000 in
theorem gL_plain_L_stones : GoodIn wsL_plain (va_wsS RL 104 yL_stones wsL_stones) := goodIn_app (goodIn_of _ (by decide +kernel)) ggL_plain_L_stones
