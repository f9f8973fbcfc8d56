set_option maxRecDepth 20000 in
theorem ggL_plain_L_isClock_c0 : GoodIn wsL_plain [Cond.code yL_isClock cL_isClock 21 (some .boolean)] := goodIn_r _ [451] (by decide +kernel) (by decide +kernel)
set_option maxRecDepth 20000 in
theorem ggL_plain_L_isClock_c1 : GoodIn wsL_plain wsL_isClock_r1 := goodIn_r wsL_isClock_r1 [266, 452, 268, 260, 261, 57, 262, 263, 264, 265, 267, 269, 270, 271, 3, 272, 122, 123, 273, 274, 275, 26, 276, 277] (by decide +kernel) (by decide +kernel)
set_option maxRecDepth 20000 in
theorem ggL_plain_L_isClock_c2 : GoodIn wsL_plain wsL_isClock_r2 := goodIn_r wsL_isClock_r2 [278, 279, 82, 83, 22, 84, 85, 86, 19, 87, 88, 115, 116, 117, 280, 281, 282, 92, 93, 283, 284, 285, 286, 11] (by decide +kernel) (by decide +kernel)
set_option maxRecDepth 20000 in
theorem ggL_plain_L_isClock_c3 : GoodIn wsL_plain wsL_isClock_r3 := goodIn_r wsL_isClock_r3 [12, 287, 288, 289, 290, 291, 292, 293, 294, 295, 296, 297, 298, 299, 300, 20, 73, 76, 74, 75, 94, 95, 96, 97] (by decide +kernel) (by decide +kernel)
set_option maxRecDepth 20000 in
theorem ggL_plain_L_isClock_c4 : GoodIn wsL_plain wsL_isClock_r4 := goodIn_r wsL_isClock_r4 [98, 99, 100, 101, 102, 103, 104, 105, 106, 107, 108, 109, 37, 301, 302, 303, 304, 305, 306, 307, 308, 309, 310, 311] (by decide +kernel) (by decide +kernel)
set_option maxRecDepth 20000 in
theorem ggL_plain_L_isClock_c5 : GoodIn wsL_plain wsL_isClock_r5 := goodIn_r wsL_isClock_r5 [312, 313, 314, 315, 316, 317, 25, 318, 319, 320, 321, 322, 53, 323, 324, 325, 326, 327, 328, 329, 330, 331, 332, 68] (by decide +kernel) (by decide +kernel)
set_option maxRecDepth 20000 in
theorem ggL_plain_L_isClock_c6 : GoodIn wsL_plain wsL_isClock_r6 := goodIn_r wsL_isClock_r6 [69, 70, 71, 72, 77, 78, 79, 80, 81, 89, 90, 91, 333, 334, 335, 336, 337, 338, 339, 340, 16, 341, 342, 343] (by decide +kernel) (by decide +kernel)
set_option maxRecDepth 20000 in
theorem ggL_plain_L_isClock_c7 : GoodIn wsL_plain wsL_isClock_r7 := goodIn_r wsL_isClock_r7 [344, 21, 345, 346, 347, 15, 348, 349, 14, 32, 350, 351, 352, 353, 354, 355, 356, 29, 30, 31, 357, 358, 359, 360] (by decide +kernel) (by decide +kernel)
set_option maxRecDepth 20000 in
theorem ggL_plain_L_isClock_c8 : GoodIn wsL_plain wsL_isClock_r8 := goodIn_r wsL_isClock_r8 [361, 362, 363, 364, 365, 366, 367, 368, 369, 370, 371, 167, 168, 169, 170, 171, 172, 173, 174, 175, 176, 177, 178, 179] (by decide +kernel) (by decide +kernel)
set_option maxRecDepth 20000 in
theorem ggL_plain_L_isClock_c9 : GoodIn wsL_plain wsL_isClock_r9 := goodIn_r wsL_isClock_r9 [180, 181, 182, 183, 184, 36, 185, 149, 150, 151, 186, 187, 188, 189, 190, 191, 192, 193, 194, 195, 196, 197, 198, 199] (by decide +kernel) (by decide +kernel)
set_option maxRecDepth 20000 in
theorem ggL_plain_L_isClock_c10 : GoodIn wsL_plain wsL_isClock_r10 := goodIn_r wsL_isClock_r10 [200, 201, 202, 203, 204, 205, 206, 207, 208, 209, 210, 211, 212, 213, 214, 215, 372, 373, 374, 375, 376, 377, 378, 379] (by decide +kernel) (by decide +kernel)
set_option maxRecDepth 20000 in
theorem ggL_plain_L_isClock_c11 : GoodIn wsL_plain wsL_isClock_r11 := goodIn_r wsL_isClock_r11 [380, 381, 382, 383, 384, 385, 386, 387, 388, 132, 133, 134, 163, 164, 165, 130, 166, 144, 148, 389, 390, 391, 392, 393] (by decide +kernel) (by decide +kernel)
set_option maxRecDepth 20000 in
theorem ggL_plain_L_isClock_c12 : GoodIn wsL_plain wsL_isClock_r12 := goodIn_r wsL_isClock_r12 [394, 395, 396, 397, 398, 399, 400, 401, 402, 403, 404, 405, 406, 407, 408, 409, 453, 454, 455, 456, 457, 458, 459, 460] (by decide +kernel) (by decide +kernel)
set_option maxRecDepth 20000 in
theorem ggL_plain_L_isClock_c13 : GoodIn wsL_plain wsL_isClock_r13 := goodIn_r wsL_isClock_r13 [461] (by decide +kernel) (by decide +kernel)
theorem ggL_plain_L_isClock_wsX40 : GoodIn wsL_plain wsX40 := goodIn_r wsX40 [498, 499, 500, 501] (by decide +kernel) (by decide +kernel)
theorem ggL_plain_L_isClock_wsX90 : GoodIn wsL_plain wsX90 := goodIn_r wsX90 [481, 482, 483, 484, 485, 486] (by decide +kernel) (by decide +kernel)
theorem ggL_plain_L_isClock_wsJx4a65c0 : GoodIn wsL_plain wsJx4a65c0 := goodIn_r wsJx4a65c0 [488, 489, 490] (by decide +kernel) (by decide +kernel)
theorem ggL_plain_L_isClock_wsX10 : GoodIn wsL_plain wsX10 := goodIn_r wsX10 [492, 493, 494, 495, 496, 497] (by decide +kernel) (by decide +kernel)
theorem ggL_plain_L_isClock_wsX30 : GoodIn wsL_plain wsX30 := goodIn_r wsX30 [502] (by decide +kernel) (by decide +kernel)
theorem ggL_plain_L_isClock_wsX20 : GoodIn wsL_plain wsX20 := goodIn_r wsX20 [491] (by decide +kernel) (by decide +kernel)
theorem ggL_plain_L_isClock_wsX00 : GoodIn wsL_plain wsX00 := goodIn_r wsX00 [503, 504] (by decide +kernel) (by decide +kernel)
theorem ggL_plain_L_isClock_wsX80 : GoodIn wsL_plain wsX80 := goodIn_r wsX80 [505, 506, 507] (by decide +kernel) (by decide +kernel)
theorem ggL_plain_L_isClock_wsX60 : GoodIn wsL_plain wsX60 := goodIn_r wsX60 [487] (by decide +kernel) (by decide +kernel)
theorem ggL_plain_L_isClock_wsX50 : GoodIn wsL_plain wsX50 := goodIn_r wsX50 [508, 509, 510] (by decide +kernel) (by decide +kernel)
set_option maxRecDepth 20000 in
theorem ggL_plain_L_isClock : GoodIn wsL_plain wsL_isClock := goodIn_ca (goodIn_ca (goodIn_ca (goodIn_c1 ggL_plain_L_isClock_c0 (goodIn_app (goodIn_app (goodIn_app (goodIn_app (goodIn_app (goodIn_app (goodIn_app (goodIn_app (goodIn_app (goodIn_app (goodIn_app ggL_plain_L_isClock_c1 (goodIn_app ggL_plain_L_isClock_c2 (goodIn_app ggL_plain_L_isClock_c3 (goodIn_app ggL_plain_L_isClock_c4 (goodIn_app ggL_plain_L_isClock_c5 (goodIn_app ggL_plain_L_isClock_c6 (goodIn_app ggL_plain_L_isClock_c7 (goodIn_app ggL_plain_L_isClock_c8 (goodIn_app ggL_plain_L_isClock_c9 (goodIn_app ggL_plain_L_isClock_c10 (goodIn_app ggL_plain_L_isClock_c11 (goodIn_app ggL_plain_L_isClock_c12 ggL_plain_L_isClock_c13)))))))))))) ggL_plain_L_isClock_wsX40) ggL_plain_L_isClock_wsX90) ggL_plain_L_isClock_wsJx4a65c0) ggL_plain_L_isClock_wsX10) ggL_plain_L_isClock_wsX30) ggL_plain_L_isClock_wsX20) ggL_plain_L_isClock_wsX00) ggL_plain_L_isClock_wsX80) ggL_plain_L_isClock_wsX60) ggL_plain_L_isClock_wsX50)) (goodIn_sub (fun _ h => List.mem_cons_of_mem _ (List.mem_append_right _ h)) (by decide +kernel))) (goodIn_sub (fun _ h => List.mem_cons_of_mem _ (List.mem_append_left _ (List.mem_append_left _ (List.mem_append_right _ h)))) (by decide +kernel))) (goodIn_sub (fun _ h => List.mem_cons_of_mem _ (List.mem_append_left _ (List.mem_append_right _ h))) (by decide +kernel))
set_option maxRecDepth 20000 in
theorem gL_plain_L_isClock : GoodIn wsL_plain (va_wsS RL 119 yL_isClock wsL_isClock) := goodIn_app (goodIn_of _ (by decide +kernel)) ggL_plain_L_isClock
