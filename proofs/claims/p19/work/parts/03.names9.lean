set_option maxRecDepth 20000 in
theorem ggL_plain_L_others_c0 : GoodIn wsL_plain [Cond.code yL_others cL_others 12 (some .boolean)] := goodIn_r _ [412] (by decide +kernel) (by decide +kernel)
set_option maxRecDepth 20000 in
theorem ggL_plain_L_others_c1 : GoodIn wsL_plain wsL_others_r1 := goodIn_r wsL_others_r1 [413, 268, 414, 415, 65, 66, 57, 67, 416, 417, 418, 3, 419, 420, 16, 115, 116, 117, 82, 83, 89, 90, 91, 92] (by decide +kernel) (by decide +kernel)
set_option maxRecDepth 20000 in
theorem ggL_plain_L_others_c2 : GoodIn wsL_plain wsL_others_r2 := goodIn_r wsL_others_r2 [93, 131, 132, 133, 15, 134, 32, 421, 422, 423, 424, 252, 253, 254, 255, 256, 27, 260, 261, 262, 263, 264, 265, 266] (by decide +kernel) (by decide +kernel)
set_option maxRecDepth 20000 in
theorem ggL_plain_L_others_c3 : GoodIn wsL_plain wsL_others_r3 := goodIn_r wsL_others_r3 [267, 269, 270, 271, 272, 122, 123, 273, 274, 275, 26, 276, 277, 278, 279, 22, 84, 85, 86, 19, 87, 88, 280, 281] (by decide +kernel) (by decide +kernel)
set_option maxRecDepth 20000 in
theorem ggL_plain_L_others_c4 : GoodIn wsL_plain wsL_others_r4 := goodIn_r wsL_others_r4 [282, 283, 284, 285, 286, 11, 12, 287, 288, 289, 290, 291, 292, 293, 294, 295, 296, 297, 298, 299, 300, 20, 73, 76] (by decide +kernel) (by decide +kernel)
set_option maxRecDepth 20000 in
theorem ggL_plain_L_others_c5 : GoodIn wsL_plain wsL_others_r5 := goodIn_r wsL_others_r5 [74, 75, 94, 95, 96, 97, 98, 99, 100, 101, 102, 103, 104, 105, 106, 107, 108, 109, 37, 301, 302, 303, 304, 305] (by decide +kernel) (by decide +kernel)
set_option maxRecDepth 20000 in
theorem ggL_plain_L_others_c6 : GoodIn wsL_plain wsL_others_r6 := goodIn_r wsL_others_r6 [306, 307, 308, 309, 310, 311, 312, 313, 314, 315, 316, 317, 25, 318, 319, 320, 321, 322, 53, 323, 324, 325, 326, 327] (by decide +kernel) (by decide +kernel)
set_option maxRecDepth 20000 in
theorem ggL_plain_L_others_c7 : GoodIn wsL_plain wsL_others_r7 := goodIn_r wsL_others_r7 [328, 329, 330, 331, 332, 68, 69, 70, 71, 72, 77, 78, 79, 80, 81, 333, 334, 335, 336, 337, 338, 339, 340, 341] (by decide +kernel) (by decide +kernel)
set_option maxRecDepth 20000 in
theorem ggL_plain_L_others_c8 : GoodIn wsL_plain wsL_others_r8 := goodIn_r wsL_others_r8 [342, 343, 344, 21, 345, 346, 347, 348, 349, 14, 350, 351, 352, 353, 354, 355, 356, 29, 30, 31, 357, 358, 359, 360] (by decide +kernel) (by decide +kernel)
set_option maxRecDepth 20000 in
theorem ggL_plain_L_others_c9 : GoodIn wsL_plain wsL_others_r9 := goodIn_r wsL_others_r9 [361, 362, 363, 364, 365, 366, 367, 368, 369, 370, 371, 167, 168, 169, 170, 171, 172, 173, 174, 175, 176, 177, 178, 179] (by decide +kernel) (by decide +kernel)
set_option maxRecDepth 20000 in
theorem ggL_plain_L_others_c10 : GoodIn wsL_plain wsL_others_r10 := goodIn_r wsL_others_r10 [180, 181, 182, 183, 184, 36, 185, 149, 150, 151, 186, 187, 188, 189, 190, 191, 192, 193, 194, 195, 196, 197, 198, 199] (by decide +kernel) (by decide +kernel)
set_option maxRecDepth 20000 in
theorem ggL_plain_L_others_c11 : GoodIn wsL_plain wsL_others_r11 := goodIn_r wsL_others_r11 [200, 201, 202, 203, 204, 205, 206, 207, 208, 209, 210, 211, 212, 213, 214, 215, 372, 373, 374, 375, 376, 377, 378, 379] (by decide +kernel) (by decide +kernel)
set_option maxRecDepth 20000 in
theorem ggL_plain_L_others_c12 : GoodIn wsL_plain wsL_others_r12 := goodIn_r wsL_others_r12 [380, 381, 382, 383, 384, 385, 386, 387, 388, 163, 164, 165, 130, 166, 144, 148, 389, 390, 391, 392, 393, 394, 395, 396] (by decide +kernel) (by decide +kernel)
set_option maxRecDepth 20000 in
theorem ggL_plain_L_others_c13 : GoodIn wsL_plain wsL_others_r13 := goodIn_r wsL_others_r13 [397, 398, 399, 400, 401, 402, 403, 404, 405, 406, 407, 408, 409, 425, 426, 427, 428, 429, 430, 431, 432, 433, 434, 435] (by decide +kernel) (by decide +kernel)
set_option maxRecDepth 20000 in
theorem ggL_plain_L_others_c14 : GoodIn wsL_plain wsL_others_r14 := goodIn_r wsL_others_r14 [436, 437, 438, 439, 440, 441, 442, 443, 444, 445, 446, 447, 448] (by decide +kernel) (by decide +kernel)
theorem ggL_plain_L_others_wsX90 : GoodIn wsL_plain wsX90 := goodIn_r wsX90 [481, 482, 483, 484, 485, 486] (by decide +kernel) (by decide +kernel)
theorem ggL_plain_L_others_wsX60 : GoodIn wsL_plain wsX60 := goodIn_r wsX60 [487] (by decide +kernel) (by decide +kernel)
theorem ggL_plain_L_others_wsX40 : GoodIn wsL_plain wsX40 := goodIn_r wsX40 [498, 499, 500, 501] (by decide +kernel) (by decide +kernel)
theorem ggL_plain_L_others_wsJx4a65c0 : GoodIn wsL_plain wsJx4a65c0 := goodIn_r wsJx4a65c0 [488, 489, 490] (by decide +kernel) (by decide +kernel)
theorem ggL_plain_L_others_wsX10 : GoodIn wsL_plain wsX10 := goodIn_r wsX10 [492, 493, 494, 495, 496, 497] (by decide +kernel) (by decide +kernel)
theorem ggL_plain_L_others_wsX30 : GoodIn wsL_plain wsX30 := goodIn_r wsX30 [502] (by decide +kernel) (by decide +kernel)
theorem ggL_plain_L_others_wsX20 : GoodIn wsL_plain wsX20 := goodIn_r wsX20 [491] (by decide +kernel) (by decide +kernel)
theorem ggL_plain_L_others_wsX00 : GoodIn wsL_plain wsX00 := goodIn_r wsX00 [503, 504] (by decide +kernel) (by decide +kernel)
theorem ggL_plain_L_others_wsX80 : GoodIn wsL_plain wsX80 := goodIn_r wsX80 [505, 506, 507] (by decide +kernel) (by decide +kernel)
theorem ggL_plain_L_others_wsX50 : GoodIn wsL_plain wsX50 := goodIn_r wsX50 [508, 509, 510] (by decide +kernel) (by decide +kernel)
set_option maxRecDepth 20000 in
theorem ggL_plain_L_others : GoodIn wsL_plain wsL_others := goodIn_ca (goodIn_ca (goodIn_ca (goodIn_c1 ggL_plain_L_others_c0 (goodIn_app (goodIn_app (goodIn_app (goodIn_app (goodIn_app (goodIn_app (goodIn_app (goodIn_app (goodIn_app (goodIn_app (goodIn_app ggL_plain_L_others_c1 (goodIn_app ggL_plain_L_others_c2 (goodIn_app ggL_plain_L_others_c3 (goodIn_app ggL_plain_L_others_c4 (goodIn_app ggL_plain_L_others_c5 (goodIn_app ggL_plain_L_others_c6 (goodIn_app ggL_plain_L_others_c7 (goodIn_app ggL_plain_L_others_c8 (goodIn_app ggL_plain_L_others_c9 (goodIn_app ggL_plain_L_others_c10 (goodIn_app ggL_plain_L_others_c11 (goodIn_app ggL_plain_L_others_c12 (goodIn_app ggL_plain_L_others_c13 ggL_plain_L_others_c14))))))))))))) ggL_plain_L_others_wsX90) ggL_plain_L_others_wsX60) ggL_plain_L_others_wsX40) ggL_plain_L_others_wsJx4a65c0) ggL_plain_L_others_wsX10) ggL_plain_L_others_wsX30) ggL_plain_L_others_wsX20) ggL_plain_L_others_wsX00) ggL_plain_L_others_wsX80) ggL_plain_L_others_wsX50)) (goodIn_sub (fun _ h => List.mem_cons_of_mem _ (List.mem_append_left _ (List.mem_append_left _ (List.mem_append_right _ h)))) (by decide +kernel))) (goodIn_sub (fun _ h => List.mem_cons_of_mem _ (List.mem_append_left _ (List.mem_append_right _ h))) (by decide +kernel))) (goodIn_sub (fun _ h => List.mem_cons_of_mem _ (List.mem_append_right _ h)) (by decide +kernel))
set_option maxRecDepth 20000 in
theorem gL_plain_L_others : GoodIn wsL_plain (va_wsS RL 115 yL_others wsL_others) := goodIn_app (goodIn_of _ (by decide +kernel)) ggL_plain_L_others
