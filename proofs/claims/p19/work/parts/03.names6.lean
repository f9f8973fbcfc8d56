theorem goodIn_c1 {big a : List Cond} {c : Cond} (h : GoodIn big [c]) (k : GoodIn big a) : GoodIn big (c :: a) := fun w hw => (List.mem_cons.mp hw).elim (fun e => h w (by rw [e]; exact List.mem_cons_self)) (k w)
set_option maxRecDepth 20000 in
theorem ggL_plain_L_stones_c0 : GoodIn wsL_plain [Cond.code yL_stones cL_stones 18 (some .boolean)] := goodIn_r _ [64] (by decide +kernel) (by decide +kernel)
set_option maxRecDepth 20000 in
theorem ggL_plain_L_stones_c1 : GoodIn wsL_plain wsL_stones_r1 := goodIn_r wsL_stones_r1 [65, 66, 57, 67, 68, 69, 70, 3, 71, 72, 20, 73, 74, 75, 76, 77, 78, 79, 80, 81, 82, 83, 84, 85] (by decide +kernel) (by decide +kernel)
set_option maxRecDepth 20000 in
theorem ggL_plain_L_stones_c2 : GoodIn wsL_plain wsL_stones_r2 := goodIn_r wsL_stones_r2 [86, 19, 87, 88, 89, 90, 91, 92, 93, 94, 95, 96, 97, 98, 99, 100, 101, 102, 103, 104, 105, 106, 107, 108] (by decide +kernel) (by decide +kernel)
set_option maxRecDepth 20000 in
theorem ggL_plain_L_stones_c3 : GoodIn wsL_plain wsL_stones_r3 := goodIn_r wsL_stones_r3 [109, 37, 110, 111, 112, 113, 114, 115, 116, 117, 118, 119, 120, 121, 122, 123, 124, 125, 126, 127, 128, 129, 130, 16] (by decide +kernel) (by decide +kernel)
set_option maxRecDepth 20000 in
theorem ggL_plain_L_stones_c4 : GoodIn wsL_plain wsL_stones_r4 := goodIn_r wsL_stones_r4 [131, 132, 133, 15, 134, 32, 135, 136, 137, 138, 11, 12, 139, 140, 141, 142, 143, 144, 145, 146, 147, 148, 149, 150] (by decide +kernel) (by decide +kernel)
set_option maxRecDepth 20000 in
theorem ggL_plain_L_stones_c5 : GoodIn wsL_plain wsL_stones_r5 := goodIn_r wsL_stones_r5 [151, 152, 153, 154, 155, 156, 157, 158, 159, 160, 161, 162, 163, 164, 165, 166, 167, 168, 169, 170, 171, 172, 173, 174] (by decide +kernel) (by decide +kernel)
set_option maxRecDepth 20000 in
theorem ggL_plain_L_stones_c6 : GoodIn wsL_plain wsL_stones_r6 := goodIn_r wsL_stones_r6 [175, 176, 177, 178, 179, 180, 181, 182, 183, 184, 36, 185, 186, 187, 188, 189, 190, 191, 192, 193, 194, 195, 196, 197] (by decide +kernel) (by decide +kernel)
set_option maxRecDepth 20000 in
theorem ggL_plain_L_stones_c7 : GoodIn wsL_plain wsL_stones_r7 := goodIn_r wsL_stones_r7 [198, 199, 200, 201, 202, 203, 204, 205, 206, 207, 208, 209, 210, 211, 212, 213, 214, 215, 216, 217, 218, 219, 220, 221] (by decide +kernel) (by decide +kernel)
set_option maxRecDepth 20000 in
theorem ggL_plain_L_stones_c8 : GoodIn wsL_plain wsL_stones_r8 := goodIn_r wsL_stones_r8 [222, 223, 224, 225, 226] (by decide +kernel) (by decide +kernel)
theorem ggL_plain_L_stones_wsX90 : GoodIn wsL_plain wsX90 := goodIn_r wsX90 [481, 482, 483, 484, 485, 486] (by decide +kernel) (by decide +kernel)
theorem ggL_plain_L_stones_wsX10 : GoodIn wsL_plain wsX10 := goodIn_r wsX10 [492, 493, 494, 495, 496, 497] (by decide +kernel) (by decide +kernel)
theorem ggL_plain_L_stones_wsJx4a65c0 : GoodIn wsL_plain wsJx4a65c0 := goodIn_r wsJx4a65c0 [488, 489, 490] (by decide +kernel) (by decide +kernel)
theorem ggL_plain_L_stones_wsX60 : GoodIn wsL_plain wsX60 := goodIn_r wsX60 [487] (by decide +kernel) (by decide +kernel)
set_option maxRecDepth 20000 in
theorem ggL_plain_L_stones : GoodIn wsL_plain wsL_stones := goodIn_ca (goodIn_ca (goodIn_ca (goodIn_c1 ggL_plain_L_stones_c0 (goodIn_app (goodIn_app (goodIn_app (goodIn_app (goodIn_app ggL_plain_L_stones_c1 (goodIn_app ggL_plain_L_stones_c2 (goodIn_app ggL_plain_L_stones_c3 (goodIn_app ggL_plain_L_stones_c4 (goodIn_app ggL_plain_L_stones_c5 (goodIn_app ggL_plain_L_stones_c6 (goodIn_app ggL_plain_L_stones_c7 ggL_plain_L_stones_c8))))))) ggL_plain_L_stones_wsX90) ggL_plain_L_stones_wsX10) ggL_plain_L_stones_wsJx4a65c0) ggL_plain_L_stones_wsX60)) (goodIn_sub (fun _ h => List.mem_cons_of_mem _ (List.mem_append_left _ (List.mem_append_left _ (List.mem_append_right _ h)))) (by decide +kernel))) (goodIn_sub (fun _ h => List.mem_cons_of_mem _ (List.mem_append_left _ (List.mem_append_right _ h))) (by decide +kernel))) (goodIn_sub (fun _ h => List.mem_cons_of_mem _ (List.mem_append_right _ h)) (by decide +kernel))
set_option maxRecDepth 20000 in
theorem ggL_plain_L_rains_c0 : GoodIn wsL_plain [Cond.code yL_rains cL_rains 12 (some .boolean)] := goodIn_r _ [229] (by decide +kernel) (by decide +kernel)
set_option maxRecDepth 20000 in
theorem ggL_plain_L_rains_c1 : GoodIn wsL_plain wsL_rains_r1 := goodIn_r wsL_rains_r1 [4, 230, 231, 232, 233, 3, 234, 235, 89, 90, 91, 92, 93, 118, 119, 120, 121, 122, 123, 20, 84, 85, 86, 19] (by decide +kernel) (by decide +kernel)
set_option maxRecDepth 20000 in
theorem ggL_plain_L_rains_c2 : GoodIn wsL_plain wsL_rains_r2 := goodIn_r wsL_rains_r2 [87, 88, 236, 237, 238, 239, 27, 240, 241, 242, 243, 124, 125, 126, 127, 128, 129, 130, 16, 73, 131, 132, 133, 15] (by decide +kernel) (by decide +kernel)
set_option maxRecDepth 20000 in
theorem ggL_plain_L_rains_c3 : GoodIn wsL_plain wsL_rains_r3 := goodIn_r wsL_rains_r3 [134, 32, 135, 136, 137, 138, 11, 12, 139, 140, 141, 142, 143, 144, 145, 146, 147, 148, 149, 150, 151, 152, 153, 154] (by decide +kernel) (by decide +kernel)
set_option maxRecDepth 20000 in
theorem ggL_plain_L_rains_c4 : GoodIn wsL_plain wsL_rains_r4 := goodIn_r wsL_rains_r4 [94, 95, 96, 97, 98, 99, 100, 101, 102, 103, 104, 105, 106, 107, 108, 109, 37, 155, 156, 157, 158, 159, 160, 161] (by decide +kernel) (by decide +kernel)
set_option maxRecDepth 20000 in
theorem ggL_plain_L_rains_c5 : GoodIn wsL_plain wsL_rains_r5 := goodIn_r wsL_rains_r5 [162, 163, 164, 165, 166, 167, 168, 169, 170, 171, 172, 173, 174, 175, 176, 177, 178, 179, 180, 181, 182, 183, 184, 36] (by decide +kernel) (by decide +kernel)
set_option maxRecDepth 20000 in
theorem ggL_plain_L_rains_c6 : GoodIn wsL_plain wsL_rains_r6 := goodIn_r wsL_rains_r6 [185, 186, 187, 188, 189, 190, 191, 192, 193, 194, 195, 196, 197, 198, 199, 200, 201, 202, 203, 204, 205, 206, 207, 208] (by decide +kernel) (by decide +kernel)
set_option maxRecDepth 20000 in
theorem ggL_plain_L_rains_c7 : GoodIn wsL_plain wsL_rains_r7 := goodIn_r wsL_rains_r7 [209, 210, 211, 212, 213, 214, 215, 244, 245, 246, 247, 77, 248, 249, 250, 251, 65, 66, 57, 67, 68, 69, 70, 71] (by decide +kernel) (by decide +kernel)
set_option maxRecDepth 20000 in
theorem ggL_plain_L_rains_c8 : GoodIn wsL_plain wsL_rains_r8 := goodIn_r wsL_rains_r8 [72, 74, 75, 76, 78, 79, 80, 81, 82, 83, 252, 253, 254, 255, 256] (by decide +kernel) (by decide +kernel)
theorem ggL_plain_L_rains_wsX90 : GoodIn wsL_plain wsX90 := goodIn_r wsX90 [481, 482, 483, 484, 485, 486] (by decide +kernel) (by decide +kernel)
theorem ggL_plain_L_rains_wsJx4a65c0 : GoodIn wsL_plain wsJx4a65c0 := goodIn_r wsJx4a65c0 [488, 489, 490] (by decide +kernel) (by decide +kernel)
theorem ggL_plain_L_rains_wsX10 : GoodIn wsL_plain wsX10 := goodIn_r wsX10 [492, 493, 494, 495, 496, 497] (by decide +kernel) (by decide +kernel)
theorem ggL_plain_L_rains_wsX60 : GoodIn wsL_plain wsX60 := goodIn_r wsX60 [487] (by decide +kernel) (by decide +kernel)
set_option maxRecDepth 20000 in
theorem ggL_plain_L_rains : GoodIn wsL_plain wsL_rains := goodIn_ca (goodIn_ca (goodIn_ca (goodIn_c1 ggL_plain_L_rains_c0 (goodIn_app (goodIn_app (goodIn_app (goodIn_app (goodIn_app ggL_plain_L_rains_c1 (goodIn_app ggL_plain_L_rains_c2 (goodIn_app ggL_plain_L_rains_c3 (goodIn_app ggL_plain_L_rains_c4 (goodIn_app ggL_plain_L_rains_c5 (goodIn_app ggL_plain_L_rains_c6 (goodIn_app ggL_plain_L_rains_c7 ggL_plain_L_rains_c8))))))) ggL_plain_L_rains_wsX90) ggL_plain_L_rains_wsJx4a65c0) ggL_plain_L_rains_wsX10) ggL_plain_L_rains_wsX60)) (goodIn_sub (fun _ h => List.mem_cons_of_mem _ (List.mem_append_left _ (List.mem_append_right _ h))) (by decide +kernel))) (goodIn_sub (fun _ h => List.mem_cons_of_mem _ (List.mem_append_right _ h)) (by decide +kernel))) (goodIn_sub (fun _ h => List.mem_cons_of_mem _ (List.mem_append_left _ (List.mem_append_left _ (List.mem_append_right _ h)))) (by decide +kernel))
set_option maxRecDepth 20000 in
theorem ggL_plain_L_lessens_c0 : GoodIn wsL_plain [Cond.code yL_lessens cL_lessens 22 (some .boolean)] := goodIn_r _ [259] (by decide +kernel) (by decide +kernel)
set_option maxRecDepth 20000 in
theorem ggL_plain_L_lessens_c1 : GoodIn wsL_plain wsL_lessens_r1 := goodIn_r wsL_lessens_r1 [68, 69, 70, 3, 71, 72, 20, 73, 74, 75, 76, 77, 78, 79, 80, 81, 82, 83, 84, 85, 86, 19, 87, 88] (by decide +kernel) (by decide +kernel)
set_option maxRecDepth 20000 in
theorem ggL_plain_L_lessens_c2 : GoodIn wsL_plain wsL_lessens_r2 := goodIn_r wsL_lessens_r2 [89, 90, 91, 92, 93, 94, 95, 96, 97, 98, 99, 100, 101, 102, 103, 104, 105, 106, 107, 108, 109, 37, 260, 261] (by decide +kernel) (by decide +kernel)
set_option maxRecDepth 20000 in
theorem ggL_plain_L_lessens_c3 : GoodIn wsL_plain wsL_lessens_r3 := goodIn_r wsL_lessens_r3 [57, 262, 263, 264, 265, 266, 267, 268, 269, 270, 271, 272, 122, 123, 273, 274, 275, 26, 276, 277, 278, 279, 22, 115] (by decide +kernel) (by decide +kernel)
set_option maxRecDepth 20000 in
theorem ggL_plain_L_lessens_c4 : GoodIn wsL_plain wsL_lessens_r4 := goodIn_r wsL_lessens_r4 [116, 117, 280, 281, 282, 283, 284, 285, 286, 11, 12, 287, 288, 289, 290, 291, 292, 293, 294, 295, 296, 297, 298, 299] (by decide +kernel) (by decide +kernel)
set_option maxRecDepth 20000 in
theorem ggL_plain_L_lessens_c5 : GoodIn wsL_plain wsL_lessens_r5 := goodIn_r wsL_lessens_r5 [300, 301, 302, 303, 304, 305, 306, 307, 308, 309, 310, 311, 312, 313, 314, 315, 316, 317, 25, 318, 319, 320, 321, 322] (by decide +kernel) (by decide +kernel)
set_option maxRecDepth 20000 in
theorem ggL_plain_L_lessens_c6 : GoodIn wsL_plain wsL_lessens_r6 := goodIn_r wsL_lessens_r6 [53, 323, 324, 325, 326, 327, 328, 329, 330, 331, 332, 333, 334, 335, 336, 337, 338, 339, 340, 16, 341, 342, 343, 344] (by decide +kernel) (by decide +kernel)
set_option maxRecDepth 20000 in
theorem ggL_plain_L_lessens_c7 : GoodIn wsL_plain wsL_lessens_r7 := goodIn_r wsL_lessens_r7 [21, 345, 346, 347, 15, 348, 349, 14, 32, 350, 351, 352, 353, 354, 355, 356, 29, 30, 31, 357, 358, 359, 360, 361] (by decide +kernel) (by decide +kernel)
set_option maxRecDepth 20000 in
theorem ggL_plain_L_lessens_c8 : GoodIn wsL_plain wsL_lessens_r8 := goodIn_r wsL_lessens_r8 [362, 363, 364, 365, 366, 367, 368, 369, 370, 371, 167, 168, 169, 170, 171, 172, 173, 174, 175, 176, 177, 178, 179, 180] (by decide +kernel) (by decide +kernel)
set_option maxRecDepth 20000 in
theorem ggL_plain_L_lessens_c9 : GoodIn wsL_plain wsL_lessens_r9 := goodIn_r wsL_lessens_r9 [181, 182, 183, 184, 36, 185, 149, 150, 151, 186, 187, 188, 189, 190, 191, 192, 193, 194, 195, 196, 197, 198, 199, 200] (by decide +kernel) (by decide +kernel)
set_option maxRecDepth 20000 in
theorem ggL_plain_L_lessens_c10 : GoodIn wsL_plain wsL_lessens_r10 := goodIn_r wsL_lessens_r10 [201, 202, 203, 204, 205, 206, 207, 208, 209, 210, 211, 212, 213, 214, 215, 372, 373, 374, 375, 376, 377, 378, 379, 380] (by decide +kernel) (by decide +kernel)
set_option maxRecDepth 20000 in
theorem ggL_plain_L_lessens_c11 : GoodIn wsL_plain wsL_lessens_r11 := goodIn_r wsL_lessens_r11 [381, 382, 383, 384, 385, 386, 387, 388, 132, 133, 134, 163, 164, 165, 130, 166, 144, 148, 389, 390, 391, 392, 393, 394] (by decide +kernel) (by decide +kernel)
set_option maxRecDepth 20000 in
theorem ggL_plain_L_lessens_c12 : GoodIn wsL_plain wsL_lessens_r12 := goodIn_r wsL_lessens_r12 [395, 396, 397, 398, 399, 400, 401, 402, 403, 404, 405, 406, 407, 408, 409, 65, 66, 67] (by decide +kernel) (by decide +kernel)
theorem ggL_plain_L_lessens_wsX90 : GoodIn wsL_plain wsX90 := goodIn_r wsX90 [481, 482, 483, 484, 485, 486] (by decide +kernel) (by decide +kernel)
theorem ggL_plain_L_lessens_wsX10 : GoodIn wsL_plain wsX10 := goodIn_r wsX10 [492, 493, 494, 495, 496, 497] (by decide +kernel) (by decide +kernel)
theorem ggL_plain_L_lessens_wsJx4a65c0 : GoodIn wsL_plain wsJx4a65c0 := goodIn_r wsJx4a65c0 [488, 489, 490] (by decide +kernel) (by decide +kernel)
theorem ggL_plain_L_lessens_wsX40 : GoodIn wsL_plain wsX40 := goodIn_r wsX40 [498, 499, 500, 501] (by decide +kernel) (by decide +kernel)
theorem ggL_plain_L_lessens_wsX30 : GoodIn wsL_plain wsX30 := goodIn_r wsX30 [502] (by decide +kernel) (by decide +kernel)
theorem ggL_plain_L_lessens_wsX20 : GoodIn wsL_plain wsX20 := goodIn_r wsX20 [491] (by decide +kernel) (by decide +kernel)
theorem ggL_plain_L_lessens_wsX00 : GoodIn wsL_plain wsX00 := goodIn_r wsX00 [503, 504] (by decide +kernel) (by decide +kernel)
theorem ggL_plain_L_lessens_wsX80 : GoodIn wsL_plain wsX80 := goodIn_r wsX80 [505, 506, 507] (by decide +kernel) (by decide +kernel)
theorem ggL_plain_L_lessens_wsX60 : GoodIn wsL_plain wsX60 := goodIn_r wsX60 [487] (by decide +kernel) (by decide +kernel)
theorem ggL_plain_L_lessens_wsX50 : GoodIn wsL_plain wsX50 := goodIn_r wsX50 [508, 509, 510] (by decide +kernel) (by decide +kernel)
set_option maxRecDepth 20000 in
theorem ggL_plain_L_lessens : GoodIn wsL_plain wsL_lessens := goodIn_ca (goodIn_ca (goodIn_ca (goodIn_c1 ggL_plain_L_lessens_c0 (goodIn_app (goodIn_app (goodIn_app (goodIn_app (goodIn_app (goodIn_app (goodIn_app (goodIn_app (goodIn_app (goodIn_app (goodIn_app ggL_plain_L_lessens_c1 (goodIn_app ggL_plain_L_lessens_c2 (goodIn_app ggL_plain_L_lessens_c3 (goodIn_app ggL_plain_L_lessens_c4 (goodIn_app ggL_plain_L_lessens_c5 (goodIn_app ggL_plain_L_lessens_c6 (goodIn_app ggL_plain_L_lessens_c7 (goodIn_app ggL_plain_L_lessens_c8 (goodIn_app ggL_plain_L_lessens_c9 (goodIn_app ggL_plain_L_lessens_c10 (goodIn_app ggL_plain_L_lessens_c11 ggL_plain_L_lessens_c12))))))))))) ggL_plain_L_lessens_wsX90) ggL_plain_L_lessens_wsX10) ggL_plain_L_lessens_wsJx4a65c0) ggL_plain_L_lessens_wsX40) ggL_plain_L_lessens_wsX30) ggL_plain_L_lessens_wsX20) ggL_plain_L_lessens_wsX00) ggL_plain_L_lessens_wsX80) ggL_plain_L_lessens_wsX60) ggL_plain_L_lessens_wsX50)) (goodIn_sub (fun _ h => List.mem_cons_of_mem _ (List.mem_append_left _ (List.mem_append_left _ (List.mem_append_right _ h)))) (by decide +kernel))) (goodIn_sub (fun _ h => List.mem_cons_of_mem _ (List.mem_append_left _ (List.mem_append_right _ h))) (by decide +kernel))) (goodIn_sub (fun _ h => List.mem_cons_of_mem _ (List.mem_append_right _ h)) (by decide +kernel))
set_option maxRecDepth 20000 in
theorem ggL_plain_L_others_c0 : GoodIn wsL_plain [Cond.code yL_others cL_others 12 (some .boolean)] := goodIn_r _ [412] (by decide +kernel) (by decide +kernel)
set_option maxRecDepth 20000 in
theorem ggL_plain_L_others_c1 : GoodIn wsL_plain wsL_others_r1 := goodIn_r wsL_others_r1 [413, 268, 414, 415, 65, 66, 57, 67, 416, 417, 418, 3, 419, 420, 16, 115, 116, 117, 82, 83, 89, 90, 91, 92] (by decide +kernel) (by decide +kernel)
set_option maxRecDepth 20000 in
theorem ggL_plain_L_others_c2 : GoodIn wsL_plain wsL_others_r2 := goodIn_r wsL_others_r2 [93, 131, 132, 133, 15, 134, 32, 421, 422, 423, 424, 252, 253, 254, 255, 256, 27, 260, 261, 262, 263, 264, 265, 266] (by decide +kernel) (by decide +kernel)
set_option maxRecDepth 20000 in
theorem ggL_plain_L_others_c3 : GoodIn wsL_plain wsL_others_r3 := goodIn_r wsL_others_r3 [267, 269, 270, 271, 272, 122, 123, 273, 274, 275, 26, 276, 277, 278, 279, 22, 84, 85, 86, 19, 87, 88, 280, 281] (by decide +kernel) (by decide +kernel)
set_option maxRecDepth 20000 in
theorem ggL_plain_L_others_c4 : GoodIn wsL_plain wsL_others_r4 := goodIn_r wsL_others_r4 [282, 283, 284, 285, 286, 11, 12, 287, 288, 289, 290, 291, 292, 293, 294, 295, 296, 297, 298, 299, 300, 20, 73, 76] (by decide +kernel) (by decide +kernel)
set_option maxRecDepth 20000 in
theorem ggL_plain_L_others_c5 : GoodIn wsL_plain wsL_others_r5 := goodIn_r wsL_others_r5 [74, 75, 94, 95, 96, 97, 98, 99, 100, 101, 102, 103, 104, 105, 106, 107, 108, 109, 37, 301, 302, 303, 304, 305] (by decide +kernel) (by decide +kernel)
set_option maxRecDepth 20000 in
theorem ggL_plain_L_others_c6 : GoodIn wsL_plain wsL_others_r6 := goodIn_r wsL_others_r6 [306, 307, 308, 309, 310, 311, 312, 313, 314, 315, 316, 317, 25, 318, 319, 320, 321, 322, 53, 323, 324, 325, 326, 327] (by decide +kernel) (by decide +kernel)
set_option maxRecDepth 20000 in
theorem ggL_plain_L_others_c7 : GoodIn wsL_plain wsL_others_r7 := goodIn_r wsL_others_r7 [328, 329, 330, 331, 332, 68, 69, 70, 71, 72, 77, 78, 79, 80, 81, 333, 334, 335, 336, 337, 338, 339, 340, 341] (by decide +kernel) (by decide +kernel)
set_option maxRecDepth 20000 in
theorem ggL_plain_L_others_c8 : GoodIn wsL_plain wsL_others_r8 := goodIn_r wsL_others_r8 [342, 343, 344, 21, 345, 346, 347, 348, 349, 14, 350, 351, 352, 353, 354, 355, 356, 29, 30, 31, 357, 358, 359, 360] (by decide +kernel) (by decide +kernel)
set_option maxRecDepth 20000 in
theorem ggL_plain_L_others_c9 : GoodIn wsL_plain wsL_others_r9 := goodIn_r wsL_others_r9 [361, 362, 363, 364, 365, 366, 367, 368, 369, 370, 371, 167, 168, 169, 170, 171, 172, 173, 174, 175, 176, 177, 178, 179] (by decide +kernel) (by decide +kernel)
set_option maxRecDepth 20000 in
theorem ggL_plain_L_others_c10 : GoodIn wsL_plain wsL_others_r10 := goodIn_r wsL_others_r10 [180, 181, 182, 183, 184, 36, 185, 149, 150, 151, 186, 187, 188, 189, 190, 191, 192, 193, 194, 195, 196, 197, 198, 199] (by decide +kernel) (by decide +kernel)
set_option maxRecDepth 20000 in
theorem ggL_plain_L_others_c11 : GoodIn wsL_plain wsL_others_r11 := goodIn_r wsL_others_r11 [200, 201, 202, 203, 204, 205, 206, 207, 208, 209, 210, 211, 212, 213, 214, 215, 372, 373, 374, 375, 376, 377, 378, 379] (by decide +kernel) (by decide +kernel)
set_option maxRecDepth 20000 in
theorem ggL_plain_L_others_c12 : GoodIn wsL_plain wsL_others_r12 := goodIn_r wsL_others_r12 [380, 381, 382, 383, 384, 385, 386, 387, 388, 163, 164, 165, 130, 166, 144, 148, 389, 390, 391, 392, 393, 394, 395, 396] (by decide +kernel) (by decide +kernel)
set_option maxRecDepth 20000 in
theorem ggL_plain_L_others_c13 : GoodIn wsL_plain wsL_others_r13 := goodIn_r wsL_others_r13 [397, 398, 399, 400, 401, 402, 403, 404, 405, 406, 407, 408, 409, 425, 426, 427, 428, 429, 430, 431, 432, 433, 434, 435] (by decide +kernel) (by decide +kernel)
set_option maxRecDepth 20000 in
theorem ggL_plain_L_others_c14 : GoodIn wsL_plain wsL_others_r14 := goodIn_r wsL_others_r14 [436, 437, 438, 439, 440, 441, 442, 443, 444, 445, 446, 447, 448] (by decide +kernel) (by decide +kernel)
theorem ggL_plain_L_others_wsX90 : GoodIn wsL_plain wsX90 := goodIn_r wsX90 [481, 482, 483, 484, 485, 486] (by decide +kernel) (by decide +kernel)
theorem ggL_plain_L_others_wsX60 : GoodIn wsL_plain wsX60 := goodIn_r wsX60 [487] (by decide +kernel) (by decide +kernel)
theorem ggL_plain_L_others_wsX40 : GoodIn wsL_plain wsX40 := goodIn_r wsX40 [498, 499, 500, 501] (by decide +kernel) (by decide +kernel)
theorem ggL_plain_L_others_wsJx4a65c0 : GoodIn wsL_plain wsJx4a65c0 := goodIn_r wsJx4a65c0 [488, 489, 490] (by decide +kernel) (by decide +kernel)
theorem ggL_plain_L_others_wsX10 : GoodIn wsL_plain wsX10 := goodIn_r wsX10 [492, 493, 494, 495, 496, 497] (by decide +kernel) (by decide +kernel)
theorem ggL_plain_L_others_wsX30 : GoodIn wsL_plain wsX30 := goodIn_r wsX30 [502] (by decide +kernel) (by decide +kernel)
theorem ggL_plain_L_others_wsX20 : GoodIn wsL_plain wsX20 := goodIn_r wsX20 [491] (by decide +kernel) (by decide +kernel)
theorem ggL_plain_L_others_wsX00 : GoodIn wsL_plain wsX00 := goodIn_r wsX00 [503, 504] (by decide +kernel) (by decide +kernel)
theorem ggL_plain_L_others_wsX80 : GoodIn wsL_plain wsX80 := goodIn_r wsX80 [505, 506, 507] (by decide +kernel) (by decide +kernel)
theorem ggL_plain_L_others_wsX50 : GoodIn wsL_plain wsX50 := goodIn_r wsX50 [508, 509, 510] (by decide +kernel) (by decide +kernel)
set_option maxRecDepth 20000 in
theorem ggL_plain_L_others : GoodIn wsL_plain wsL_others := goodIn_ca (goodIn_ca (goodIn_ca (goodIn_c1 ggL_plain_L_others_c0 (goodIn_app (goodIn_app (goodIn_app (goodIn_app (goodIn_app (goodIn_app (goodIn_app (goodIn_app (goodIn_app (goodIn_app (goodIn_app ggL_plain_L_others_c1 (goodIn_app ggL_plain_L_others_c2 (goodIn_app ggL_plain_L_others_c3 (goodIn_app ggL_plain_L_others_c4 (goodIn_app ggL_plain_L_others_c5 (goodIn_app ggL_plain_L_others_c6 (goodIn_app ggL_plain_L_others_c7 (goodIn_app ggL_plain_L_others_c8 (goodIn_app ggL_plain_L_others_c9 (goodIn_app ggL_plain_L_others_c10 (goodIn_app ggL_plain_L_others_c11 (goodIn_app ggL_plain_L_others_c12 (goodIn_app ggL_plain_L_others_c13 ggL_plain_L_others_c14))))))))))))) ggL_plain_L_others_wsX90) ggL_plain_L_others_wsX60) ggL_plain_L_others_wsX40) ggL_plain_L_others_wsJx4a65c0) ggL_plain_L_others_wsX10) ggL_plain_L_others_wsX30) ggL_plain_L_others_wsX20) ggL_plain_L_others_wsX00) ggL_plain_L_others_wsX80) ggL_plain_L_others_wsX50)) (goodIn_sub (fun _ h => List.mem_cons_of_mem _ (List.mem_append_left _ (List.mem_append_left _ (List.mem_append_right _ h)))) (by decide +kernel))) (goodIn_sub (fun _ h => List.mem_cons_of_mem _ (List.mem_append_left _ (List.mem_append_right _ h))) (by decide +kernel))) (goodIn_sub (fun _ h => List.mem_cons_of_mem _ (List.mem_append_right _ h)) (by decide +kernel))
set_option maxRecDepth 20000 in
theorem ggL_plain_L_isClock_c0 : GoodIn wsL_plain [Cond.code yL_isClock cL_isClock 21 (some .boolean)] := goodIn_r _ [451] (by decide +kernel) (by decide +kernel)
set_option maxRecDepth 20000 in
theorem ggL_plain_L_isClock_c1 : GoodIn wsL_plain wsL_isClock_r1 := goodIn_r wsL_isClock_r1 [266, 452, 268, 260, 261, 57, 262, 263, 264, 265, 267, 269, 270, 271, 3, 272, 122, 123, 273, 274, 275, 26, 276, 277] (by decide +kernel) (by decide +kernel)
set_option maxRecDepth 20000 in
theorem ggL_plain_L_isClock_c2 : GoodIn wsL_plain wsL_isClock_r2 := goodIn_r wsL_isClock_r2 [278, 279, 82, 83, 22, 84, 85, 86, 19, 87, 88, 115, 116, 117, 280, 281, 282, 92, 93, 283, 284, 285, 286, 11] (by decide +kernel) (by decide +kernel)
set_option maxRecDepth 20000 in
theorem ggL_plain_L_isClock_c3 : GoodIn wsL_plain wsL_isClock_r3 := goodIn_r wsL_isClock_r3 [12, 287, 288, 289, 290, 291, 292, 293, 294, 295, 296, 297, 298, 299, 300, 20, 73, 76, 74, 75, 94, 95, 96, 97] (by decide +kernel) (by decide +kernel)
set_option maxRecDepth 20000 in
theorem ggL_plain_L_isClock_c4 : GoodIn wsL_plain wsL_isClock_r4 := goodIn_r wsL_isClock_r4 [98, 99, 100, 101, 102, 103, 104, 105, 106, 107, 108, 109, 37, 301, 302, 303, 304, 305, 306, 307, 308, 309, 310, 311] (by decide +kernel) (by decide +kernel)
set_option maxRecDepth 20000 in
theorem ggL_plain_L_isClock_c5 : GoodIn wsL_plain wsL_isClock_r5 := goodIn_r wsL_isClock_r5 [312, 313, 314, 315, 316, 317, 25, 318, 319, 320, 321, 322, 53, 323, 324, 325, 326, 327, 328, 329, 330, 331, 332, 68] (by decide +kernel) (by decide +kernel)
set_option maxRecDepth 20000 in
theorem ggL_plain_L_isClock_c6 : GoodIn wsL_plain wsL_isClock_r6 := goodIn_r wsL_isClock_r6 [69, 70, 71, 72, 77, 78, 79, 80, 81, 89, 90, 91, 333, 334, 335, 336, 337, 338, 339, 340, 16, 341, 342, 343] (by decide +kernel) (by decide +kernel)
set_option maxRecDepth 20000 in
theorem ggL_plain_L_isClock_c7 : GoodIn wsL_plain wsL_isClock_r7 := goodIn_r wsL_isClock_r7 [344, 21, 345, 346, 347, 15, 348, 349, 14, 32, 350, 351, 352, 353, 354, 355, 356, 29, 30, 31, 357, 358, 359, 360] (by decide +kernel) (by decide +kernel)
set_option maxRecDepth 20000 in
theorem ggL_plain_L_isClock_c8 : GoodIn wsL_plain wsL_isClock_r8 := goodIn_r wsL_isClock_r8 [361, 362, 363, 364, 365, 366, 367, 368, 369, 370, 371, 167, 168, 169, 170, 171, 172, 173, 174, 175, 176, 177, 178, 179] (by decide +kernel) (by decide +kernel)
set_option maxRecDepth 20000 in
theorem ggL_plain_L_isClock_c9 : GoodIn wsL_plain wsL_isClock_r9 := goodIn_r wsL_isClock_r9 [180, 181, 182, 183, 184, 36, 185, 149, 150, 151, 186, 187, 188, 189, 190, 191, 192, 193, 194, 195, 196, 197, 198, 199] (by decide +kernel) (by decide +kernel)
set_option maxRecDepth 20000 in
theorem ggL_plain_L_isClock_c10 : GoodIn wsL_plain wsL_isClock_r10 := goodIn_r wsL_isClock_r10 [200, 201, 202, 203, 204, 205, 206, 207, 208, 209, 210, 211, 212, 213, 214, 215, 372, 373, 374, 375, 376, 377, 378, 379] (by decide +kernel) (by decide +kernel)
set_option maxRecDepth 20000 in
theorem ggL_plain_L_isClock_c11 : GoodIn wsL_plain wsL_isClock_r11 := goodIn_r wsL_isClock_r11 [380, 381, 382, 383, 384, 385, 386, 387, 388, 132, 133, 134, 163, 164, 165, 130, 166, 144, 148, 389, 390, 391, 392, 393] (by decide +kernel) (by decide +kernel)
set_option maxRecDepth 20000 in
theorem ggL_plain_L_isClock_c12 : GoodIn wsL_plain wsL_isClock_r12 := goodIn_r wsL_isClock_r12 [394, 395, 396, 397, 398, 399, 400, 401, 402, 403, 404, 405, 406, 407, 408, 409, 453, 454, 455, 456, 457, 458, 459, 460] (by decide +kernel) (by decide +kernel)
set_option maxRecDepth 20000 in
theorem ggL_plain_L_isClock_c13 : GoodIn wsL_plain wsL_isClock_r13 := goodIn_r wsL_isClock_r13 [461] (by decide +kernel) (by decide +kernel)
theorem ggL_plain_L_isClock_wsX40 : GoodIn wsL_plain wsX40 := goodIn_r wsX40 [498, 499, 500, 501] (by decide +kernel) (by decide +kernel)
theorem ggL_plain_L_isClock_wsX90 : GoodIn wsL_plain wsX90 := goodIn_r wsX90 [481, 482, 483, 484, 485, 486] (by decide +kernel) (by decide +kernel)
theorem ggL_plain_L_isClock_wsJx4a65c0 : GoodIn wsL_plain wsJx4a65c0 := goodIn_r wsJx4a65c0 [488, 489, 490] (by decide +kernel) (by decide +kernel)
theorem ggL_plain_L_isClock_wsX10 : GoodIn wsL_plain wsX10 := goodIn_r wsX10 [492, 493, 494, 495, 496, 497] (by decide +kernel) (by decide +kernel)
theorem ggL_plain_L_isClock_wsX30 : GoodIn wsL_plain wsX30 := goodIn_r wsX30 [502] (by decide +kernel) (by decide +kernel)
theorem ggL_plain_L_isClock_wsX20 : GoodIn wsL_plain wsX20 := goodIn_r wsX20 [491] (by decide +kernel) (by decide +kernel)
theorem ggL_plain_L_isClock_wsX00 : GoodIn wsL_plain wsX00 := goodIn_r wsX00 [503, 504] (by decide +kernel) (by decide +kernel)
theorem ggL_plain_L_isClock_wsX80 : GoodIn wsL_plain wsX80 := goodIn_r wsX80 [505, 506, 507] (by decide +kernel) (by decide +kernel)
theorem ggL_plain_L_isClock_wsX60 : GoodIn wsL_plain wsX60 := goodIn_r wsX60 [487] (by decide +kernel) (by decide +kernel)
theorem ggL_plain_L_isClock_wsX50 : GoodIn wsL_plain wsX50 := goodIn_r wsX50 [508, 509, 510] (by decide +kernel) (by decide +kernel)
set_option maxRecDepth 20000 in
theorem ggL_plain_L_isClock : GoodIn wsL_plain wsL_isClock := goodIn_ca (goodIn_ca (goodIn_ca (goodIn_c1 ggL_plain_L_isClock_c0 (goodIn_app (goodIn_app (goodIn_app (goodIn_app (goodIn_app (goodIn_app (goodIn_app (goodIn_app (goodIn_app (goodIn_app (goodIn_app ggL_plain_L_isClock_c1 (goodIn_app ggL_plain_L_isClock_c2 (goodIn_app ggL_plain_L_isClock_c3 (goodIn_app ggL_plain_L_isClock_c4 (goodIn_app ggL_plain_L_isClock_c5 (goodIn_app ggL_plain_L_isClock_c6 (goodIn_app ggL_plain_L_isClock_c7 (goodIn_app ggL_plain_L_isClock_c8 (goodIn_app ggL_plain_L_isClock_c9 (goodIn_app ggL_plain_L_isClock_c10 (goodIn_app ggL_plain_L_isClock_c11 (goodIn_app ggL_plain_L_isClock_c12 ggL_plain_L_isClock_c13)))))))))))) ggL_plain_L_isClock_wsX40) ggL_plain_L_isClock_wsX90) ggL_plain_L_isClock_wsJx4a65c0) ggL_plain_L_isClock_wsX10) ggL_plain_L_isClock_wsX30) ggL_plain_L_isClock_wsX20) ggL_plain_L_isClock_wsX00) ggL_plain_L_isClock_wsX80) ggL_plain_L_isClock_wsX60) ggL_plain_L_isClock_wsX50)) (goodIn_sub (fun _ h => List.mem_cons_of_mem _ (List.mem_append_right _ h)) (by decide +kernel))) (goodIn_sub (fun _ h => List.mem_cons_of_mem _ (List.mem_append_left _ (List.mem_append_left _ (List.mem_append_right _ h)))) (by decide +kernel))) (goodIn_sub (fun _ h => List.mem_cons_of_mem _ (List.mem_append_left _ (List.mem_append_right _ h))) (by decide +kernel))
set_option maxRecDepth 20000 in
theorem ggL_plain_L_isPlain_c0 : GoodIn wsL_plain [Cond.code yL_isPlain cL_isPlain 9 (some .boolean)] := goodIn_r _ [464] (by decide +kernel) (by decide +kernel)
set_option maxRecDepth 20000 in
theorem ggL_plain_L_isPlain_c1 : GoodIn wsL_plain wsL_isPlain_r1 := goodIn_r wsL_isPlain_r1 [266, 248, 249, 250, 3, 251, 20, 84, 85, 86, 19, 87, 88, 260, 261, 57, 262, 263, 264, 265, 267, 268, 269, 270] (by decide +kernel) (by decide +kernel)
set_option maxRecDepth 20000 in
theorem ggL_plain_L_isPlain_c2 : GoodIn wsL_plain wsL_isPlain_r2 := goodIn_r wsL_isPlain_r2 [271, 272, 122, 123, 273, 274, 275, 26, 276, 277, 278, 279, 82, 83, 22, 115, 116, 117, 280, 281, 282, 92, 93, 283] (by decide +kernel) (by decide +kernel)
set_option maxRecDepth 20000 in
theorem ggL_plain_L_isPlain_c3 : GoodIn wsL_plain wsL_isPlain_r3 := goodIn_r wsL_isPlain_r3 [284, 285, 286, 11, 12, 287, 288, 289, 290, 291, 292, 293, 294, 295, 296, 297, 298, 299, 300, 73, 76, 74, 75, 94] (by decide +kernel) (by decide +kernel)
set_option maxRecDepth 20000 in
theorem ggL_plain_L_isPlain_c4 : GoodIn wsL_plain wsL_isPlain_r4 := goodIn_r wsL_isPlain_r4 [95, 96, 97, 98, 99, 100, 101, 102, 103, 104, 105, 106, 107, 108, 109, 37, 301, 302, 303, 304, 305, 306, 307, 308] (by decide +kernel) (by decide +kernel)
set_option maxRecDepth 20000 in
theorem ggL_plain_L_isPlain_c5 : GoodIn wsL_plain wsL_isPlain_r5 := goodIn_r wsL_isPlain_r5 [309, 310, 311, 312, 313, 314, 315, 316, 317, 25, 318, 319, 320, 321, 322, 53, 323, 324, 325, 326, 327, 328, 329, 330] (by decide +kernel) (by decide +kernel)
set_option maxRecDepth 20000 in
theorem ggL_plain_L_isPlain_c6 : GoodIn wsL_plain wsL_isPlain_r6 := goodIn_r wsL_isPlain_r6 [331, 332, 68, 69, 70, 71, 72, 77, 78, 79, 80, 81, 89, 90, 91, 333, 334, 335, 336, 337, 338, 339, 340, 16] (by decide +kernel) (by decide +kernel)
set_option maxRecDepth 20000 in
theorem ggL_plain_L_isPlain_c7 : GoodIn wsL_plain wsL_isPlain_r7 := goodIn_r wsL_isPlain_r7 [341, 342, 343, 344, 21, 345, 346, 347, 15, 348, 349, 14, 32, 350, 351, 352, 353, 354, 355, 356, 29, 30, 31, 357] (by decide +kernel) (by decide +kernel)
set_option maxRecDepth 20000 in
theorem ggL_plain_L_isPlain_c8 : GoodIn wsL_plain wsL_isPlain_r8 := goodIn_r wsL_isPlain_r8 [358, 359, 360, 361, 362, 363, 364, 365, 366, 367, 368, 369, 370, 371, 167, 168, 169, 170, 171, 172, 173, 174, 175, 176] (by decide +kernel) (by decide +kernel)
set_option maxRecDepth 20000 in
theorem ggL_plain_L_isPlain_c9 : GoodIn wsL_plain wsL_isPlain_r9 := goodIn_r wsL_isPlain_r9 [177, 178, 179, 180, 181, 182, 183, 184, 36, 185, 149, 150, 151, 186, 187, 188, 189, 190, 191, 192, 193, 194, 195, 196] (by decide +kernel) (by decide +kernel)
set_option maxRecDepth 20000 in
theorem ggL_plain_L_isPlain_c10 : GoodIn wsL_plain wsL_isPlain_r10 := goodIn_r wsL_isPlain_r10 [197, 198, 199, 200, 201, 202, 203, 204, 205, 206, 207, 208, 209, 210, 211, 212, 213, 214, 215, 372, 373, 374, 375, 376] (by decide +kernel) (by decide +kernel)
set_option maxRecDepth 20000 in
theorem ggL_plain_L_isPlain_c11 : GoodIn wsL_plain wsL_isPlain_r11 := goodIn_r wsL_isPlain_r11 [377, 378, 379, 380, 381, 382, 383, 384, 385, 386, 387, 388, 132, 133, 134, 163, 164, 165, 130, 166, 144, 148, 389, 390] (by decide +kernel) (by decide +kernel)
set_option maxRecDepth 20000 in
theorem ggL_plain_L_isPlain_c12 : GoodIn wsL_plain wsL_isPlain_r12 := goodIn_r wsL_isPlain_r12 [391, 392, 393, 394, 395, 396, 397, 398, 399, 400, 401, 402, 403, 404, 405, 406, 407, 408, 409, 465, 466, 467, 468, 469] (by decide +kernel) (by decide +kernel)
set_option maxRecDepth 20000 in
theorem ggL_plain_L_isPlain_c13 : GoodIn wsL_plain wsL_isPlain_r13 := goodIn_r wsL_isPlain_r13 [470, 471, 472, 473, 474, 475, 476, 155, 156, 157, 158, 142, 139, 140, 143, 141, 159, 160, 161, 162, 216, 217, 218, 219] (by decide +kernel) (by decide +kernel)
set_option maxRecDepth 20000 in
theorem ggL_plain_L_isPlain_c14 : GoodIn wsL_plain wsL_isPlain_r14 := goodIn_r wsL_isPlain_r14 [220, 221, 222, 223, 224, 225, 226, 477, 478, 479, 480] (by decide +kernel) (by decide +kernel)
theorem ggL_plain_L_isPlain_wsX90 : GoodIn wsL_plain wsX90 := goodIn_r wsX90 [481, 482, 483, 484, 485, 486] (by decide +kernel) (by decide +kernel)
theorem ggL_plain_L_isPlain_wsJx4a65c0 : GoodIn wsL_plain wsJx4a65c0 := goodIn_r wsJx4a65c0 [488, 489, 490] (by decide +kernel) (by decide +kernel)
theorem ggL_plain_L_isPlain_wsX40 : GoodIn wsL_plain wsX40 := goodIn_r wsX40 [498, 499, 500, 501] (by decide +kernel) (by decide +kernel)
theorem ggL_plain_L_isPlain_wsX10 : GoodIn wsL_plain wsX10 := goodIn_r wsX10 [492, 493, 494, 495, 496, 497] (by decide +kernel) (by decide +kernel)
theorem ggL_plain_L_isPlain_wsX30 : GoodIn wsL_plain wsX30 := goodIn_r wsX30 [502] (by decide +kernel) (by decide +kernel)
theorem ggL_plain_L_isPlain_wsX20 : GoodIn wsL_plain wsX20 := goodIn_r wsX20 [491] (by decide +kernel) (by decide +kernel)
theorem ggL_plain_L_isPlain_wsX00 : GoodIn wsL_plain wsX00 := goodIn_r wsX00 [503, 504] (by decide +kernel) (by decide +kernel)
theorem ggL_plain_L_isPlain_wsX80 : GoodIn wsL_plain wsX80 := goodIn_r wsX80 [505, 506, 507] (by decide +kernel) (by decide +kernel)
theorem ggL_plain_L_isPlain_wsX60 : GoodIn wsL_plain wsX60 := goodIn_r wsX60 [487] (by decide +kernel) (by decide +kernel)
theorem ggL_plain_L_isPlain_wsX50 : GoodIn wsL_plain wsX50 := goodIn_r wsX50 [508, 509, 510] (by decide +kernel) (by decide +kernel)
set_option maxRecDepth 20000 in
theorem ggL_plain_L_isPlain : GoodIn wsL_plain wsL_isPlain := goodIn_ca (goodIn_ca (goodIn_ca (goodIn_c1 ggL_plain_L_isPlain_c0 (goodIn_app (goodIn_app (goodIn_app (goodIn_app (goodIn_app (goodIn_app (goodIn_app (goodIn_app (goodIn_app (goodIn_app (goodIn_app ggL_plain_L_isPlain_c1 (goodIn_app ggL_plain_L_isPlain_c2 (goodIn_app ggL_plain_L_isPlain_c3 (goodIn_app ggL_plain_L_isPlain_c4 (goodIn_app ggL_plain_L_isPlain_c5 (goodIn_app ggL_plain_L_isPlain_c6 (goodIn_app ggL_plain_L_isPlain_c7 (goodIn_app ggL_plain_L_isPlain_c8 (goodIn_app ggL_plain_L_isPlain_c9 (goodIn_app ggL_plain_L_isPlain_c10 (goodIn_app ggL_plain_L_isPlain_c11 (goodIn_app ggL_plain_L_isPlain_c12 (goodIn_app ggL_plain_L_isPlain_c13 ggL_plain_L_isPlain_c14))))))))))))) ggL_plain_L_isPlain_wsX90) ggL_plain_L_isPlain_wsJx4a65c0) ggL_plain_L_isPlain_wsX40) ggL_plain_L_isPlain_wsX10) ggL_plain_L_isPlain_wsX30) ggL_plain_L_isPlain_wsX20) ggL_plain_L_isPlain_wsX00) ggL_plain_L_isPlain_wsX80) ggL_plain_L_isPlain_wsX60) ggL_plain_L_isPlain_wsX50)) (goodIn_sub (fun _ h => List.mem_cons_of_mem _ (List.mem_append_right _ h)) (by decide +kernel))) (goodIn_sub (fun _ h => List.mem_cons_of_mem _ (List.mem_append_left _ (List.mem_append_left _ (List.mem_append_right _ h)))) (by decide +kernel))) (goodIn_sub (fun _ h => List.mem_cons_of_mem _ (List.mem_append_left _ (List.mem_append_right _ h))) (by decide +kernel))
set_option maxRecDepth 20000 in
theorem ggL_law_L_plain_c0 : GoodIn wsL_law [Cond.code yL_plain cL_plain 14 (some .boolean)] := goodIn_r _ [3] (by decide +kernel) (by decide +kernel)
set_option maxRecDepth 20000 in
theorem ggL_law_L_plain_c1 : GoodIn wsL_law wsL_plain_r1 := goodIn_r wsL_plain_r1 [4, 5, 6, 7, 8, 9, 10, 11, 12, 13, 14, 15, 16, 17, 18, 19, 20, 21, 22, 23, 24, 25, 26, 27] (by decide +kernel) (by decide +kernel)
set_option maxRecDepth 20000 in
theorem ggL_law_L_plain_c2 : GoodIn wsL_law wsL_plain_r2 := goodIn_r wsL_plain_r2 [28, 29, 30, 31, 32, 33, 34, 35, 36, 37, 38, 39, 40, 41, 42, 43, 44, 45, 46, 47, 48, 49, 50, 51] (by decide +kernel) (by decide +kernel)
set_option maxRecDepth 20000 in
theorem ggL_law_L_plain_c3 : GoodIn wsL_law wsL_plain_r3 := goodIn_r wsL_plain_r3 [52, 53, 54, 55, 56, 57, 58, 59, 2, 60, 61, 62, 63, 64, 65, 66, 67, 68, 69, 70, 71, 72, 73, 74] (by decide +kernel) (by decide +kernel)
set_option maxRecDepth 20000 in
theorem ggL_law_L_plain_c4 : GoodIn wsL_law wsL_plain_r4 := goodIn_r wsL_plain_r4 [75, 76, 77, 78, 79, 80, 81, 82, 83, 84, 85, 86, 87, 88, 89, 90, 91, 92, 93, 94, 95, 96, 97, 98] (by decide +kernel) (by decide +kernel)
set_option maxRecDepth 20000 in
theorem ggL_law_L_plain_c5 : GoodIn wsL_law wsL_plain_r5 := goodIn_r wsL_plain_r5 [99, 100, 101, 102, 103, 104, 105, 106, 107, 108, 109, 110, 111, 112, 113, 114, 115, 116, 117, 118, 119, 120, 121, 122] (by decide +kernel) (by decide +kernel)
set_option maxRecDepth 20000 in
theorem ggL_law_L_plain_c6 : GoodIn wsL_law wsL_plain_r6 := goodIn_r wsL_plain_r6 [123, 124, 125, 126, 127, 128, 129, 130, 131, 132, 133, 134, 135, 136, 137, 138, 139, 140, 141, 142, 143, 144, 145, 146] (by decide +kernel) (by decide +kernel)
set_option maxRecDepth 20000 in
theorem ggL_law_L_plain_c7 : GoodIn wsL_law wsL_plain_r7 := goodIn_r wsL_plain_r7 [147, 148, 149, 150, 151, 152, 153, 154, 155, 156, 157, 158, 159, 160, 161, 162, 163, 164, 165, 166, 167, 168, 169, 170] (by decide +kernel) (by decide +kernel)
set_option maxRecDepth 20000 in
theorem ggL_law_L_plain_c8 : GoodIn wsL_law wsL_plain_r8 := goodIn_r wsL_plain_r8 [171, 172, 173, 174, 175, 176, 177, 178, 179, 180, 181, 182, 183, 184, 185, 186, 187, 188, 189, 190, 191, 192, 193, 194] (by decide +kernel) (by decide +kernel)
set_option maxRecDepth 20000 in
theorem ggL_law_L_plain_c9 : GoodIn wsL_law wsL_plain_r9 := goodIn_r wsL_plain_r9 [195, 196, 197, 198, 199, 200, 201, 202, 203, 204, 205, 206, 207, 208, 209, 210, 211, 212, 213, 214, 215, 216, 217, 218] (by decide +kernel) (by decide +kernel)
set_option maxRecDepth 20000 in
theorem ggL_law_L_plain_c10 : GoodIn wsL_law wsL_plain_r10 := goodIn_r wsL_plain_r10 [219, 220, 221, 222, 223, 224, 225, 226, 227, 228, 229, 230, 231, 232, 233, 234, 235, 236, 237, 238, 239, 240, 241, 242] (by decide +kernel) (by decide +kernel)
set_option maxRecDepth 20000 in
theorem ggL_law_L_plain_c11 : GoodIn wsL_law wsL_plain_r11 := goodIn_r wsL_plain_r11 [243, 244, 245, 246, 247, 248, 249, 250, 251, 252, 253, 254, 255, 256, 257, 258, 259, 260, 261, 262, 263, 264, 265, 266] (by decide +kernel) (by decide +kernel)
set_option maxRecDepth 20000 in
theorem ggL_law_L_plain_c12 : GoodIn wsL_law wsL_plain_r12 := goodIn_r wsL_plain_r12 [267, 268, 269, 270, 271, 272, 273, 274, 275, 276, 277, 278, 279, 280, 281, 282, 283, 284, 285, 286, 287, 288, 289, 290] (by decide +kernel) (by decide +kernel)
set_option maxRecDepth 20000 in
theorem ggL_law_L_plain_c13 : GoodIn wsL_law wsL_plain_r13 := goodIn_r wsL_plain_r13 [291, 292, 293, 294, 295, 296, 297, 298, 299, 300, 301, 302, 303, 304, 305, 306, 307, 308, 309, 310, 311, 312, 313, 314] (by decide +kernel) (by decide +kernel)
set_option maxRecDepth 20000 in
theorem ggL_law_L_plain_c14 : GoodIn wsL_law wsL_plain_r14 := goodIn_r wsL_plain_r14 [315, 316, 317, 318, 319, 320, 321, 322, 323, 324, 325, 326, 327, 328, 329, 330, 331, 332, 333, 334, 335, 336, 337, 338] (by decide +kernel) (by decide +kernel)
set_option maxRecDepth 20000 in
theorem ggL_law_L_plain_c15 : GoodIn wsL_law wsL_plain_r15 := goodIn_r wsL_plain_r15 [339, 340, 341, 342, 343, 344, 345, 346, 347, 348, 349, 350, 351, 352, 353, 354, 355, 356, 357, 358, 359, 360, 361, 362] (by decide +kernel) (by decide +kernel)
set_option maxRecDepth 20000 in
theorem ggL_law_L_plain_c16 : GoodIn wsL_law wsL_plain_r16 := goodIn_r wsL_plain_r16 [363, 364, 365, 366, 367, 368, 369, 370, 371, 372, 373, 374, 375, 376, 377, 378, 379, 380, 381, 382, 383, 384, 385, 386] (by decide +kernel) (by decide +kernel)
set_option maxRecDepth 20000 in
theorem ggL_law_L_plain_c17 : GoodIn wsL_law wsL_plain_r17 := goodIn_r wsL_plain_r17 [387, 388, 389, 390, 391, 392, 393, 394, 395, 396, 397, 398, 399, 400, 401, 402, 403, 404, 405, 406, 407, 408, 409, 410] (by decide +kernel) (by decide +kernel)
set_option maxRecDepth 20000 in
theorem ggL_law_L_plain_c18 : GoodIn wsL_law wsL_plain_r18 := goodIn_r wsL_plain_r18 [411, 412, 413, 414, 415, 416, 417, 418, 419, 420, 421, 422, 423, 424, 425, 426, 427, 428, 429, 430, 431, 432, 433, 434] (by decide +kernel) (by decide +kernel)
set_option maxRecDepth 20000 in
theorem ggL_law_L_plain_c19 : GoodIn wsL_law wsL_plain_r19 := goodIn_r wsL_plain_r19 [435, 436, 437, 438, 439, 440, 441, 442, 443, 444, 445, 446, 447, 448, 449, 450, 451, 452, 453, 454, 455, 456, 457, 458] (by decide +kernel) (by decide +kernel)
set_option maxRecDepth 20000 in
theorem ggL_law_L_plain_c20 : GoodIn wsL_law wsL_plain_r20 := goodIn_r wsL_plain_r20 [459, 460, 461, 462, 463, 464, 465, 466, 467, 468, 469, 470, 471, 472, 473, 474, 475, 476, 477, 478, 479, 480, 481, 482] (by decide +kernel) (by decide +kernel)
theorem ggL_law_L_plain_wsX90 : GoodIn wsL_law wsX90 := goodIn_r wsX90 [483, 484, 485, 486, 487, 488] (by decide +kernel) (by decide +kernel)
theorem ggL_law_L_plain_wsX60 : GoodIn wsL_law wsX60 := goodIn_r wsX60 [489] (by decide +kernel) (by decide +kernel)
theorem ggL_law_L_plain_wsJx4a65c0 : GoodIn wsL_law wsJx4a65c0 := goodIn_r wsJx4a65c0 [490, 491, 492] (by decide +kernel) (by decide +kernel)
theorem ggL_law_L_plain_wsX20 : GoodIn wsL_law wsX20 := goodIn_r wsX20 [493] (by decide +kernel) (by decide +kernel)
theorem ggL_law_L_plain_wsX10 : GoodIn wsL_law wsX10 := goodIn_r wsX10 [494, 495, 496, 497, 498, 499] (by decide +kernel) (by decide +kernel)
theorem ggL_law_L_plain_wsX40 : GoodIn wsL_law wsX40 := goodIn_r wsX40 [500, 501, 502, 503] (by decide +kernel) (by decide +kernel)
theorem ggL_law_L_plain_wsX30 : GoodIn wsL_law wsX30 := goodIn_r wsX30 [504] (by decide +kernel) (by decide +kernel)
theorem ggL_law_L_plain_wsX00 : GoodIn wsL_law wsX00 := goodIn_r wsX00 [505, 506] (by decide +kernel) (by decide +kernel)
theorem ggL_law_L_plain_wsX80 : GoodIn wsL_law wsX80 := goodIn_r wsX80 [507, 508, 509] (by decide +kernel) (by decide +kernel)
theorem ggL_law_L_plain_wsX50 : GoodIn wsL_law wsX50 := goodIn_r wsX50 [510, 511, 512] (by decide +kernel) (by decide +kernel)
set_option maxRecDepth 20000 in
theorem ggL_law_L_plain : GoodIn wsL_law wsL_plain := goodIn_ca (goodIn_ca (goodIn_ca (goodIn_c1 ggL_law_L_plain_c0 (goodIn_app (goodIn_app (goodIn_app (goodIn_app (goodIn_app (goodIn_app (goodIn_app (goodIn_app (goodIn_app (goodIn_app (goodIn_app ggL_law_L_plain_c1 (goodIn_app ggL_law_L_plain_c2 (goodIn_app ggL_law_L_plain_c3 (goodIn_app ggL_law_L_plain_c4 (goodIn_app ggL_law_L_plain_c5 (goodIn_app ggL_law_L_plain_c6 (goodIn_app ggL_law_L_plain_c7 (goodIn_app ggL_law_L_plain_c8 (goodIn_app ggL_law_L_plain_c9 (goodIn_app ggL_law_L_plain_c10 (goodIn_app ggL_law_L_plain_c11 (goodIn_app ggL_law_L_plain_c12 (goodIn_app ggL_law_L_plain_c13 (goodIn_app ggL_law_L_plain_c14 (goodIn_app ggL_law_L_plain_c15 (goodIn_app ggL_law_L_plain_c16 (goodIn_app ggL_law_L_plain_c17 (goodIn_app ggL_law_L_plain_c18 (goodIn_app ggL_law_L_plain_c19 ggL_law_L_plain_c20))))))))))))))))))) ggL_law_L_plain_wsX90) ggL_law_L_plain_wsX60) ggL_law_L_plain_wsJx4a65c0) ggL_law_L_plain_wsX20) ggL_law_L_plain_wsX10) ggL_law_L_plain_wsX40) ggL_law_L_plain_wsX30) ggL_law_L_plain_wsX00) ggL_law_L_plain_wsX80) ggL_law_L_plain_wsX50)) (goodIn_sub (fun _ h => List.mem_append_left _ (List.mem_append_left _ (List.mem_append_right _ h))) (by decide +kernel))) (goodIn_sub (fun _ h => List.mem_append_left _ (List.mem_append_right _ h)) (by decide +kernel))) (goodIn_sub (fun _ h => List.mem_append_right _ h) (by decide +kernel))
set_option maxRecDepth 20000 in
theorem gL_plain_L_stones : GoodIn wsL_plain (va_wsS RL 104 yL_stones wsL_stones) := goodIn_app (goodIn_of _ (by decide +kernel)) ggL_plain_L_stones
set_option maxRecDepth 20000 in
theorem gL_plain_L_rains : GoodIn wsL_plain (va_wsS RL 108 yL_rains wsL_rains) := goodIn_app (goodIn_of _ (by decide +kernel)) ggL_plain_L_rains
set_option maxRecDepth 20000 in
theorem gL_plain_L_lessens : GoodIn wsL_plain (va_wsS RL 112 yL_lessens wsL_lessens) := goodIn_app (goodIn_of _ (by decide +kernel)) ggL_plain_L_lessens
set_option maxRecDepth 20000 in
theorem gL_plain_L_others : GoodIn wsL_plain (va_wsS RL 115 yL_others wsL_others) := goodIn_app (goodIn_of _ (by decide +kernel)) ggL_plain_L_others
set_option maxRecDepth 20000 in
theorem gL_plain_L_isClock : GoodIn wsL_plain (va_wsS RL 119 yL_isClock wsL_isClock) := goodIn_app (goodIn_of _ (by decide +kernel)) ggL_plain_L_isClock
set_option maxRecDepth 20000 in
theorem gL_plain_L_isPlain : GoodIn wsL_plain (va_wsS RL 123 yL_isPlain wsL_isPlain) := goodIn_app (goodIn_of _ (by decide +kernel)) ggL_plain_L_isPlain
set_option maxRecDepth 20000 in
theorem gL_law_L_plain : GoodIn wsL_law (va_wsS RL 127 yL_plain wsL_plain) := goodIn_app (goodIn_of _ (by decide +kernel)) ggL_law_L_plain
abbrev vwCl : List vw_C := [(RJx4a65c, TJx4a65c, 3), (RX0, TX0, 2), (RX1, TX1, 6), (RX2, TX2, 1), (RX3, TX3, 1), (RX4, TX4, 4), (RX5, TX5, 3), (RX6, TX6, 1), (RX8, TX8, 3), (RX9, TX9, 6)]
