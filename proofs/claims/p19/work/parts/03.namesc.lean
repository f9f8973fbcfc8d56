set_option maxRecDepth 20000 in
theorem ggL_law_L_plain_c0 : GoodIn wsL_law [Cond.code yL_plain cL_plain 14 (some .boolean)] := goodIn_r _ [3] (by decide +kernel) (by decide +kernel)
set_option maxRecDepth 20000 in
theorem ggL_law_L_plain_c1 : GoodIn wsL_law wsL_plain_r1 := goodIn_r wsL_plain_r1 [4, 5, 6, 7, 8, 9, 10, 11, 12, 13, 14, 15, 16, 17, 18, 19, 20, 21, 22, 23, 24, 25, 26, 27] (by decide +kernel) (by decide +kernel)
set_option maxRecDepth 20000 in
theorem ggL_law_L_plain_c2 : GoodIn wsL_law wsL_plain_r2 := goodIn_r wsL_plain_r2 [28, 29, 30, 31, 32, 33, 34, 35, 36, 37, 38, 39, 40, 41, 42, 43, 44, 45, 46, 47, 48, 49, 50, 51] (by decide +kernel) (by decide +kernel)
set_option maxRecDepth 20000 in
theorem ggL_law_L_plain_c3 : GoodIn wsL_law wsL_plain_r3 := goodIn_r wsL_plain_r3 [52, 53, 54, 55, 56, 57, 58, 59, 2, 60, 61, 62, 63, 64, 65, 66, 67, 68, 69, 70, 71, 72, 73, 74] (by decide +kernel) (by decide +kernel)
set_option maxRecDepth 20000 in
theorem ggL_law_L_plain_c4 : GoodIn wsL_law wsL_plain_r4 := goodIn_r wsL_plain_r4 [75, 76, 77, 78, 79, 80, 81, 82, 83, 84, 85, 86, 87, 88, 89, 90, 91, 92, 93, 94, 95, 96, 97, 98] (by decide +kernel) (by decide +kernel)
set_option maxRecDepth 20000 in
theorem ggL_law_L_plain_c5 : GoodIn wsL_law wsL_plain_r5 := goodIn_r wsL_plain_r5 [99, 100, 101, 102, 103, 104, 105, 106, 107, 108, 109, 110, 111, 112, 113, 114, 115, 116, 117, 118, 119, 120, 121, 122] (by decide +kernel) (by decide +kernel)
set_option maxRecDepth 20000 in
theorem ggL_law_L_plain_c6 : GoodIn wsL_law wsL_plain_r6 := goodIn_r wsL_plain_r6 [123, 124, 125, 126, 127, 128, 129, 130, 131, 132, 133, 134, 135, 136, 137, 138, 139, 140, 141, 142, 143, 144, 145, 146] (by decide +kernel) (by decide +kernel)
set_option maxRecDepth 20000 in
theorem ggL_law_L_plain_c7 : GoodIn wsL_law wsL_plain_r7 := goodIn_r wsL_plain_r7 [147, 148, 149, 150, 151, 152, 153, 154, 155, 156, 157, 158, 159, 160, 161, 162, 163, 164, 165, 166, 167, 168, 169, 170] (by decide +kernel) (by decide +kernel)
set_option maxRecDepth 20000 in
theorem ggL_law_L_plain_c8 : GoodIn wsL_law wsL_plain_r8 := goodIn_r wsL_plain_r8 [171, 172, 173, 174, 175, 176, 177, 178, 179, 180, 181, 182, 183, 184, 185, 186, 187, 188, 189, 190, 191, 192, 193, 194] (by decide +kernel) (by decide +kernel)
set_option maxRecDepth 20000 in
theorem ggL_law_L_plain_c9 : GoodIn wsL_law wsL_plain_r9 := goodIn_r wsL_plain_r9 [195, 196, 197, 198, 199, 200, 201, 202, 203, 204, 205, 206, 207, 208, 209, 210, 211, 212, 213, 214, 215, 216, 217, 218] (by decide +kernel) (by decide +kernel)
set_option maxRecDepth 20000 in
theorem ggL_law_L_plain_c10 : GoodIn wsL_law wsL_plain_r10 := goodIn_r wsL_plain_r10 [219, 220, 221, 222, 223, 224, 225, 226, 227, 228, 229, 230, 231, 232, 233, 234, 235, 236, 237, 238, 239, 240, 241, 242] (by decide +kernel) (by decide +kernel)
set_option maxRecDepth 20000 in
theorem ggL_law_L_plain_c11 : GoodIn wsL_law wsL_plain_r11 := goodIn_r wsL_plain_r11 [243, 244, 245, 246, 247, 248, 249, 250, 251, 252, 253, 254, 255, 256, 257, 258, 259, 260, 261, 262, 263, 264, 265, 266] (by decide +kernel) (by decide +kernel)
set_option maxRecDepth 20000 in
theorem ggL_law_L_plain_c12 : GoodIn wsL_law wsL_plain_r12 := goodIn_r wsL_plain_r12 [267, 268, 269, 270, 271, 272, 273, 274, 275, 276, 277, 278, 279, 280, 281, 282, 283, 284, 285, 286, 287, 288, 289, 290] (by decide +kernel) (by decide +kernel)
set_option maxRecDepth 20000 in
theorem ggL_law_L_plain_c13 : GoodIn wsL_law wsL_plain_r13 := goodIn_r wsL_plain_r13 [291, 292, 293, 294, 295, 296, 297, 298, 299, 300, 301, 302, 303, 304, 305, 306, 307, 308, 309, 310, 311, 312, 313, 314] (by decide +kernel) (by decide +kernel)
set_option maxRecDepth 20000 in
theorem ggL_law_L_plain_c14 : GoodIn wsL_law wsL_plain_r14 := goodIn_r wsL_plain_r14 [315, 316, 317, 318, 319, 320, 321, 322, 323, 324, 325, 326, 327, 328, 329, 330, 331, 332, 333, 334, 335, 336, 337, 338] (by decide +kernel) (by decide +kernel)
set_option maxRecDepth 20000 in
theorem ggL_law_L_plain_c15 : GoodIn wsL_law wsL_plain_r15 := goodIn_r wsL_plain_r15 [339, 340, 341, 342, 343, 344, 345, 346, 347, 348, 349, 350, 351, 352, 353, 354, 355, 356, 357, 358, 359, 360, 361, 362] (by decide +kernel) (by decide +kernel)
set_option maxRecDepth 20000 in
theorem ggL_law_L_plain_c16 : GoodIn wsL_law wsL_plain_r16 := goodIn_r wsL_plain_r16 [363, 364, 365, 366, 367, 368, 369, 370, 371, 372, 373, 374, 375, 376, 377, 378, 379, 380, 381, 382, 383, 384, 385, 386] (by decide +kernel) (by decide +kernel)
set_option maxRecDepth 20000 in
theorem ggL_law_L_plain_c17 : GoodIn wsL_law wsL_plain_r17 := goodIn_r wsL_plain_r17 [387, 388, 389, 390, 391, 392, 393, 394, 395, 396, 397, 398, 399, 400, 401, 402, 403, 404, 405, 406, 407, 408, 409, 410] (by decide +kernel) (by decide +kernel)
set_option maxRecDepth 20000 in
theorem ggL_law_L_plain_c18 : GoodIn wsL_law wsL_plain_r18 := goodIn_r wsL_plain_r18 [411, 412, 413, 414, 415, 416, 417, 418, 419, 420, 421, 422, 423, 424, 425, 426, 427, 428, 429, 430, 431, 432, 433, 434] (by decide +kernel) (by decide +kernel)
set_option maxRecDepth 20000 in
theorem ggL_law_L_plain_c19 : GoodIn wsL_law wsL_plain_r19 := goodIn_r wsL_plain_r19 [435, 436, 437, 438, 439, 440, 441, 442, 443, 444, 445, 446, 447, 448, 449, 450, 451, 452, 453, 454, 455, 456, 457, 458] (by decide +kernel) (by decide +kernel)
set_option maxRecDepth 20000 in
theorem ggL_law_L_plain_c20 : GoodIn wsL_law wsL_plain_r20 := goodIn_r wsL_plain_r20 [459, 460, 461, 462, 463, 464, 465, 466, 467, 468, 469, 470, 471, 472, 473, 474, 475, 476, 477, 478, 479, 480, 481, 482] (by decide +kernel) (by decide +kernel)
theorem ggL_law_L_plain_wsX90 : GoodIn wsL_law wsX90 := goodIn_r wsX90 [483, 484, 485, 486, 487, 488] (by decide +kernel) (by decide +kernel)
theorem ggL_law_L_plain_wsX60 : GoodIn wsL_law wsX60 := goodIn_r wsX60 [489] (by decide +kernel) (by decide +kernel)
theorem ggL_law_L_plain_wsJx4a65c0 : GoodIn wsL_law wsJx4a65c0 := goodIn_r wsJx4a65c0 [490, 491, 492] (by decide +kernel) (by decide +kernel)
theorem ggL_law_L_plain_wsX20 : GoodIn wsL_law wsX20 := goodIn_r wsX20 [493] (by decide +kernel) (by decide +kernel)
theorem ggL_law_L_plain_wsX10 : GoodIn wsL_law wsX10 := goodIn_r wsX10 [494, 495, 496, 497, 498, 499] (by decide +kernel) (by decide +kernel)
theorem ggL_law_L_plain_wsX40 : GoodIn wsL_law wsX40 := goodIn_r wsX40 [500, 501, 502, 503] (by decide +kernel) (by decide +kernel)
theorem ggL_law_L_plain_wsX30 : GoodIn wsL_law wsX30 := goodIn_r wsX30 [504] (by decide +kernel) (by decide +kernel)
theorem ggL_law_L_plain_wsX00 : GoodIn wsL_law wsX00 := goodIn_r wsX00 [505, 506] (by decide +kernel) (by decide +kernel)
theorem ggL_law_L_plain_wsX80 : GoodIn wsL_law wsX80 := goodIn_r wsX80 [507, 508, 509] (by decide +kernel) (by decide +kernel)
theorem ggL_law_L_plain_wsX50 : GoodIn wsL_law wsX50 := goodIn_r wsX50 [510, 511, 512] (by decide +kernel) (by decide +kernel)
set_option maxRecDepth 20000 in
theorem ggL_law_L_plain : GoodIn wsL_law wsL_plain := goodIn_ca (goodIn_ca (goodIn_ca (goodIn_c1 ggL_law_L_plain_c0 (goodIn_app (goodIn_app (goodIn_app (goodIn_app (goodIn_app (goodIn_app (goodIn_app (goodIn_app (goodIn_app (goodIn_app (goodIn_app ggL_law_L_plain_c1 (goodIn_app ggL_law_L_plain_c2 (goodIn_app ggL_law_L_plain_c3 (goodIn_app ggL_law_L_plain_c4 (goodIn_app ggL_law_L_plain_c5 (goodIn_app ggL_law_L_plain_c6 (goodIn_app ggL_law_L_plain_c7 (goodIn_app ggL_law_L_plain_c8 (goodIn_app ggL_law_L_plain_c9 (goodIn_app ggL_law_L_plain_c10 (goodIn_app ggL_law_L_plain_c11 (goodIn_app ggL_law_L_plain_c12 (goodIn_app ggL_law_L_plain_c13 (goodIn_app ggL_law_L_plain_c14 (goodIn_app ggL_law_L_plain_c15 (goodIn_app ggL_law_L_plain_c16 (goodIn_app ggL_law_L_plain_c17 (goodIn_app ggL_law_L_plain_c18 (goodIn_app ggL_law_L_plain_c19 ggL_law_L_plain_c20))))))))))))))))))) ggL_law_L_plain_wsX90) ggL_law_L_plain_wsX60) ggL_law_L_plain_wsJx4a65c0) ggL_law_L_plain_wsX20) ggL_law_L_plain_wsX10) ggL_law_L_plain_wsX40) ggL_law_L_plain_wsX30) ggL_law_L_plain_wsX00) ggL_law_L_plain_wsX80) ggL_law_L_plain_wsX50)) (goodIn_sub (fun _ h => List.mem_append_left _ (List.mem_append_left _ (List.mem_append_right _ h))) (by decide +kernel))) (goodIn_sub (fun _ h => List.mem_append_left _ (List.mem_append_right _ h)) (by decide +kernel))) (goodIn_sub (fun _ h => List.mem_append_right _ h) (by decide +kernel))
set_option maxRecDepth 20000 in
theorem gL_law_L_plain : GoodIn wsL_law (va_wsS RL 127 yL_plain wsL_plain) := goodIn_app (goodIn_of _ (by decide +kernel)) ggL_law_L_plain
abbrev vwCl : List vw_C := [(RJx4a65c, TJx4a65c, 3), (RX0, TX0, 2), (RX1, TX1, 6), (RX2, TX2, 1), (RX3, TX3, 1), (RX4, TX4, 4), (RX5, TX5, 3), (RX6, TX6, 1), (RX8, TX8, 3), (RX9, TX9, 6)]
