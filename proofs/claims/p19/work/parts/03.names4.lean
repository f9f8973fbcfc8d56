theorem dJ8_newLength_cabcc_26 : decode cJ8_newLength_cabcc 26 = .ok (.ireturn, 1) := by decide +kernel
theorem dJ8_hugeLength_7cf53_0 : decode cJ8_hugeLength_7cf53 0 = .ok (.iload_n 0, 1) := by decide +kernel
theorem dJ8_hugeLength_7cf53_1 : decode cJ8_hugeLength_7cf53 1 = .ok (.iload_n 1, 1) := by decide +kernel
theorem dJ8_hugeLength_7cf53_2 : decode cJ8_hugeLength_7cf53 2 = .ok (.iadd, 1) := by decide +kernel
theorem dJ8_hugeLength_7cf53_3 : decode cJ8_hugeLength_7cf53 3 = .ok (.istore_n 2, 1) := by decide +kernel
theorem dJ8_hugeLength_7cf53_4 : decode cJ8_hugeLength_7cf53 4 = .ok (.iload_n 2, 1) := by decide +kernel
theorem dJ8_hugeLength_7cf53_5 : decode cJ8_hugeLength_7cf53 5 = .ok (.ifCond .ge 44, 3) := by decide +kernel
theorem dJ8_hugeLength_7cf53_8 : decode cJ8_hugeLength_7cf53 8 = .ok (.new 204, 3) := by decide +kernel
theorem dJ8_hugeLength_7cf53_11 : decode cJ8_hugeLength_7cf53 11 = .ok (.dup, 1) := by decide +kernel
theorem dJ8_hugeLength_7cf53_12 : decode cJ8_hugeLength_7cf53 12 = .ok (.new 89, 3) := by decide +kernel
theorem dJ8_hugeLength_7cf53_15 : decode cJ8_hugeLength_7cf53 15 = .ok (.dup, 1) := by decide +kernel
theorem dJ8_hugeLength_7cf53_16 : decode cJ8_hugeLength_7cf53 16 = .ok (.invokespecial 91, 3) := by decide +kernel
theorem dJ8_hugeLength_7cf53_19 : decode cJ8_hugeLength_7cf53 19 = .ok (.ldc 206, 2) := by decide +kernel
theorem dJ8_hugeLength_7cf53_21 : decode cJ8_hugeLength_7cf53 21 = .ok (.invokevirtual 94, 3) := by decide +kernel
theorem dJ8_hugeLength_7cf53_24 : decode cJ8_hugeLength_7cf53 24 = .ok (.iload_n 0, 1) := by decide +kernel
theorem dJ8_hugeLength_7cf53_25 : decode cJ8_hugeLength_7cf53 25 = .ok (.invokevirtual 98, 3) := by decide +kernel
theorem dJ8_hugeLength_7cf53_28 : decode cJ8_hugeLength_7cf53 28 = .ok (.ldc 208, 2) := by decide +kernel
theorem dJ8_hugeLength_7cf53_30 : decode cJ8_hugeLength_7cf53 30 = .ok (.invokevirtual 94, 3) := by decide +kernel
theorem dJ8_hugeLength_7cf53_33 : decode cJ8_hugeLength_7cf53 33 = .ok (.iload_n 1, 1) := by decide +kernel
theorem dJ8_hugeLength_7cf53_34 : decode cJ8_hugeLength_7cf53 34 = .ok (.invokevirtual 98, 3) := by decide +kernel
theorem dJ8_hugeLength_7cf53_37 : decode cJ8_hugeLength_7cf53 37 = .ok (.ldc 210, 2) := by decide +kernel
theorem dJ8_hugeLength_7cf53_39 : decode cJ8_hugeLength_7cf53 39 = .ok (.invokevirtual 94, 3) := by decide +kernel
theorem dJ8_hugeLength_7cf53_42 : decode cJ8_hugeLength_7cf53 42 = .ok (.invokevirtual 101, 3) := by decide +kernel
theorem dJ8_hugeLength_7cf53_45 : decode cJ8_hugeLength_7cf53 45 = .ok (.invokespecial 212, 3) := by decide +kernel
theorem dJ8_hugeLength_7cf53_48 : decode cJ8_hugeLength_7cf53 48 = .ok (.athrow, 1) := by decide +kernel
theorem dJ8_hugeLength_7cf53_49 : decode cJ8_hugeLength_7cf53 49 = .ok (.iload_n 2, 1) := by decide +kernel
theorem dJ8_hugeLength_7cf53_50 : decode cJ8_hugeLength_7cf53 50 = .ok (.ldc 200, 2) := by decide +kernel
theorem dJ8_hugeLength_7cf53_52 : decode cJ8_hugeLength_7cf53 52 = .ok (.if_icmp .gt 6, 3) := by decide +kernel
theorem dJ8_hugeLength_7cf53_55 : decode cJ8_hugeLength_7cf53 55 = .ok (.ldc 200, 2) := by decide +kernel
theorem dJ8_hugeLength_7cf53_57 : decode cJ8_hugeLength_7cf53 57 = .ok (.ireturn, 1) := by decide +kernel
theorem dJ8_hugeLength_7cf53_58 : decode cJ8_hugeLength_7cf53 58 = .ok (.iload_n 2, 1) := by decide +kernel
theorem dJ8_hugeLength_7cf53_59 : decode cJ8_hugeLength_7cf53 59 = .ok (.ireturn, 1) := by decide +kernel
theorem dJ3_checkIndex_8e157_0 : decode cJ3_checkIndex_8e157 0 = .ok (.iload_n 0, 1) := by decide +kernel
theorem dJ3_checkIndex_8e157_1 : decode cJ3_checkIndex_8e157 1 = .ok (.ifCond .lt 8, 3) := by decide +kernel
theorem dJ3_checkIndex_8e157_4 : decode cJ3_checkIndex_8e157 4 = .ok (.iload_n 0, 1) := by decide +kernel
theorem dJ3_checkIndex_8e157_5 : decode cJ3_checkIndex_8e157 5 = .ok (.iload_n 1, 1) := by decide +kernel
theorem dJ3_checkIndex_8e157_6 : decode cJ3_checkIndex_8e157 6 = .ok (.if_icmp .lt 10, 3) := by decide +kernel
theorem dJ3_checkIndex_8e157_9 : decode cJ3_checkIndex_8e157 9 = .ok (.aload_n 2, 1) := by decide +kernel
theorem dJ3_checkIndex_8e157_10 : decode cJ3_checkIndex_8e157 10 = .ok (.iload_n 0, 1) := by decide +kernel
theorem dJ3_checkIndex_8e157_11 : decode cJ3_checkIndex_8e157 11 = .ok (.iload_n 1, 1) := by decide +kernel
theorem dJ3_checkIndex_8e157_12 : decode cJ3_checkIndex_8e157 12 = .ok (.invokestatic 95, 3) := by decide +kernel
theorem dJ3_checkIndex_8e157_15 : decode cJ3_checkIndex_8e157 15 = .ok (.athrow, 1) := by decide +kernel
theorem dJ3_checkIndex_8e157_16 : decode cJ3_checkIndex_8e157 16 = .ok (.iload_n 0, 1) := by decide +kernel
theorem dJ3_checkIndex_8e157_17 : decode cJ3_checkIndex_8e157 17 = .ok (.ireturn, 1) := by decide +kernel
theorem dL_draw_0 : decode cL_draw 0 = .ok (.iload_n 1, 1) := by decide +kernel
theorem dL_draw_1 : decode cL_draw 1 = .ok (.aload_n 0, 1) := by decide +kernel
theorem dL_draw_2 : decode cL_draw 2 = .ok (.arraylength, 1) := by decide +kernel
theorem dL_draw_3 : decode cL_draw 3 = .ok (.if_icmp .ge 9, 3) := by decide +kernel
theorem dL_draw_6 : decode cL_draw 6 = .ok (.aload_n 0, 1) := by decide +kernel
theorem dL_draw_7 : decode cL_draw 7 = .ok (.iload_n 1, 1) := by decide +kernel
theorem dL_draw_8 : decode cL_draw 8 = .ok (.iaload, 1) := by decide +kernel
theorem dL_draw_9 : decode cL_draw 9 = .ok (.goto 14, 3) := by decide +kernel
theorem dL_draw_12 : decode cL_draw 12 = .ok (.ldc 7, 2) := by decide +kernel
theorem dL_draw_14 : decode cL_draw 14 = .ok (.iload_n 1, 1) := by decide +kernel
theorem dL_draw_15 : decode cL_draw 15 = .ok (.sipush 1097, 3) := by decide +kernel
theorem dL_draw_18 : decode cL_draw 18 = .ok (.iadd, 1) := by decide +kernel
theorem dL_draw_19 : decode cL_draw 19 = .ok (.imul, 1) := by decide +kernel
theorem dL_draw_20 : decode cL_draw 20 = .ok (.ldc 8, 2) := by decide +kernel
theorem dL_draw_22 : decode cL_draw 22 = .ok (.iadd, 1) := by decide +kernel
theorem dL_draw_23 : decode cL_draw 23 = .ok (.istore_n 3, 1) := by decide +kernel
theorem dL_draw_24 : decode cL_draw 24 = .ok (.iload_n 3, 1) := by decide +kernel
theorem dL_draw_25 : decode cL_draw 25 = .ok (.ldc 9, 2) := by decide +kernel
theorem dL_draw_27 : decode cL_draw 27 = .ok (.iand, 1) := by decide +kernel
theorem dL_draw_28 : decode cL_draw 28 = .ok (.iload_n 2, 1) := by decide +kernel
theorem dL_draw_29 : decode cL_draw 29 = .ok (.irem, 1) := by decide +kernel
theorem dL_draw_30 : decode cL_draw 30 = .ok (.ireturn, 1) := by decide +kernel
set_option maxRecDepth 20000 in
theorem ggL_asks_X9_age : GoodIn wsL_asks wsX9_age := goodIn_ca (goodIn_ca (goodIn_ca (goodIn_r _ [11, 12, 13, 14, 15, 16, 17, 18, 19, 20, 10, 21, 22, 23, 24, 25, 26, 27, 28, 29, 30, 31, 32, 33, 34, 35, 36, 37, 38, 39, 40, 41, 42, 43, 44, 45, 46, 47, 48, 49, 50, 51, 52, 53, 54, 55, 56, 57, 58, 59, 60, 61, 62, 63, 64, 65, 66, 67, 68, 69, 70, 71, 72, 73, 74, 75, 76, 77, 78, 79, 80, 81, 82, 83, 84, 85, 86, 87, 88, 89, 90, 91, 92, 93, 94, 95, 96, 97, 98, 99, 100, 101, 102, 103, 104, 105, 106, 107, 108, 109, 110, 111, 112, 113, 114, 276, 277, 278, 279, 280, 281, 282, 283, 284, 285, 286, 287, 288, 289, 290, 291, 292, 293, 294, 295, 296, 297, 298] (by decide +kernel) (by decide +kernel)) (goodIn_sub (fun _ h => List.mem_cons_of_mem _ (List.mem_append_left _ (List.mem_append_left _ (List.mem_append_right _ h)))) (by decide +kernel))) (goodIn_sub (fun _ h => List.mem_cons_of_mem _ (List.mem_append_left _ (List.mem_append_right _ h))) (by decide +kernel))) (goodIn_sub (fun _ h => List.mem_cons_of_mem _ (List.mem_append_right _ h)) (by decide +kernel))
set_option maxRecDepth 20000 in
theorem gL_asks_X9_age : GoodIn wsL_asks (wsV RL 10 RX9 yX9_age wsX9_age) := goodIn_app (goodIn_of _ (by decide +kernel)) ggL_asks_X9_age
set_option maxRecDepth 20000 in
theorem ggL_asks_X9_about : GoodIn wsL_asks wsX9_about := goodIn_ca (goodIn_ca (goodIn_r _ [118, 119, 59, 60, 62, 63, 61, 120, 121, 122, 123, 10, 124, 22, 23, 25, 26, 27, 28, 29, 30, 125, 126, 127, 37, 38, 64, 65, 66, 67, 68, 69, 70, 71, 72, 73, 74, 75, 76, 77, 78, 79, 80, 280, 281, 282, 283, 284, 285, 289, 290, 291, 292, 293, 294, 286, 287, 288] (by decide +kernel) (by decide +kernel)) (goodIn_sub (fun _ h => List.mem_cons_of_mem _ (List.mem_append_left _ (List.mem_append_right _ h))) (by decide +kernel))) (goodIn_sub (fun _ h => List.mem_cons_of_mem _ (List.mem_append_right _ h)) (by decide +kernel))
set_option maxRecDepth 20000 in
theorem gL_asks_X9_about : GoodIn wsL_asks (wsV RL 16 RX9 yX9_about wsX9_about) := goodIn_app (goodIn_of _ (by decide +kernel)) ggL_asks_X9_about
set_option maxRecDepth 20000 in
theorem ggL_asks_X9_soften : GoodIn wsL_asks wsX9_soften := goodIn_ca (goodIn_ca (goodIn_r _ [131, 132, 133, 134, 135, 59, 136, 125, 126, 10, 127, 37, 38, 137, 138, 139, 140, 12, 13, 141, 25, 26, 27, 28, 29, 30, 142, 143, 144, 145, 146, 147, 148, 149, 150, 151, 152, 153, 154, 155, 156, 157, 158, 159, 43, 44, 160, 161, 162, 163, 164, 165, 166, 167, 168, 169, 170, 171, 172, 173, 174, 60, 175, 176, 177, 178, 179, 180, 80, 181, 182, 183, 184, 185, 186, 187, 188, 189, 190, 191, 192, 193, 194, 195, 196, 197, 198, 199, 200, 201, 202, 203, 204, 205, 206, 207, 208, 209, 210, 211, 212, 213, 214, 215, 216, 217, 218, 219, 220, 221, 222, 223, 224, 225, 226, 227, 64, 65, 66, 67, 68, 69, 70, 71, 72, 73, 74, 75, 76, 77, 78, 79, 228, 229, 230, 231, 232, 233, 234, 235, 236, 237, 238, 82, 83, 16, 84, 45, 47, 46, 48, 239, 240, 241, 242, 243, 244, 245, 246, 247, 248, 249, 250, 251, 252, 253, 254, 299, 300, 301, 280, 281, 282, 283, 284, 285, 286, 287, 288, 302, 303, 304, 305, 289, 290, 291, 292, 293, 294, 276, 277, 278, 279] (by decide +kernel) (by decide +kernel)) (goodIn_sub (fun _ h => List.mem_cons_of_mem _ (List.mem_append_right _ h)) (by decide +kernel))) (goodIn_sub (fun _ h => List.mem_cons_of_mem _ (List.mem_append_left _ (List.mem_append_left _ (List.mem_append_right _ h)))) (by decide +kernel))
set_option maxRecDepth 20000 in
theorem gL_asks_X9_soften : GoodIn wsL_asks (wsV RL 20 RX9 yX9_soften wsX9_soften) := goodIn_app (goodIn_of _ (by decide +kernel)) ggL_asks_X9_soften
set_option maxRecDepth 20000 in
theorem ggL_asks_X9_flood : GoodIn wsL_asks wsX9_flood := goodIn_ca (goodIn_ca (goodIn_ca (goodIn_r _ [258, 132, 259, 260, 232, 59, 14, 15, 16, 31, 32, 10, 33, 22, 23, 125, 126, 127, 37, 38, 34, 35, 36, 137, 138, 139, 140, 12, 13, 141, 25, 26, 27, 28, 29, 30, 39, 40, 41, 42, 43, 44, 45, 46, 47, 48, 261, 262, 263, 234, 237, 264, 166, 167, 168, 169, 170, 171, 172, 173, 174, 60, 175, 176, 177, 178, 179, 180, 80, 181, 182, 183, 184, 185, 186, 187, 188, 189, 190, 191, 192, 193, 194, 195, 196, 197, 198, 199, 200, 201, 202, 203, 204, 205, 206, 207, 208, 209, 210, 211, 212, 213, 214, 215, 216, 217, 218, 219, 220, 221, 222, 223, 224, 225, 226, 227, 64, 65, 66, 67, 68, 69, 70, 71, 72, 73, 74, 75, 76, 77, 78, 79, 228, 229, 230, 231, 233, 235, 236, 238, 82, 83, 84, 239, 240, 135, 241, 163, 242, 243, 164, 244, 245, 246, 145, 247, 149, 248, 249, 250, 251, 252, 253, 254, 303, 304, 305, 280, 281, 282, 283, 284, 285, 276, 277, 278, 279, 286, 287, 288, 299, 300, 301, 289, 290, 291, 292, 293, 294, 302] (by decide +kernel) (by decide +kernel)) (goodIn_sub (fun _ h => List.mem_cons_of_mem _ (List.mem_append_left _ (List.mem_append_right _ h))) (by decide +kernel))) (goodIn_sub (fun _ h => List.mem_cons_of_mem _ (List.mem_append_right _ h)) (by decide +kernel))) (goodIn_sub (fun _ h => List.mem_cons_of_mem _ (List.mem_append_left _ (List.mem_append_left _ (List.mem_append_right _ h)))) (by decide +kernel))
set_option maxRecDepth 20000 in
theorem gL_asks_X9_flood : GoodIn wsL_asks (wsV RL 24 RX9 yX9_flood wsX9_flood) := goodIn_app (goodIn_of _ (by decide +kernel)) ggL_asks_X9_flood
set_option maxRecDepth 20000 in
theorem ggL_asks_X9_eye : GoodIn wsL_asks wsX9_eye := goodIn_ca (goodIn_ca (goodIn_r _ [268, 12, 13, 269, 24, 270, 271, 88, 125, 126, 10, 127, 37, 38, 25, 26, 27, 28, 29, 30, 272, 273, 274, 275, 43, 44, 91, 175, 176, 177, 178, 179, 180, 80, 181, 182, 183, 184, 185, 186, 187, 188, 189, 190, 191, 192, 193, 194, 195, 196, 197, 198, 199, 200, 201, 202, 203, 204, 205, 206, 207, 208, 209, 210, 211, 212, 213, 214, 215, 216, 217, 218, 219, 220, 221, 222, 223, 224, 225, 226, 227, 280, 281, 282, 283, 284, 285, 295, 286, 287, 288] (by decide +kernel) (by decide +kernel)) (goodIn_sub (fun _ h => List.mem_cons_of_mem _ (List.mem_append_left _ (List.mem_append_left _ (List.mem_append_right _ h)))) (by decide +kernel))) (goodIn_sub (fun _ h => List.mem_cons_of_mem _ (List.mem_append_right _ h)) (by decide +kernel))
set_option maxRecDepth 20000 in
theorem gL_asks_X9_eye : GoodIn wsL_asks (wsV RL 28 RX9 yX9_eye wsX9_eye) := goodIn_app (goodIn_of _ (by decide +kernel)) ggL_asks_X9_eye
theorem dL_asks_0 : decode cL_asks 0 = .ok (.iload_n 1, 1) := by decide +kernel
theorem dL_asks_1 : decode cL_asks 1 = .ok (.ifCond .ne 18, 3) := by decide +kernel
theorem dL_asks_4 : decode cL_asks 4 = .ok (.aload_n 0, 1) := by decide +kernel
theorem dL_asks_5 : decode cL_asks 5 = .ok (.iload_n 2, 1) := by decide +kernel
theorem dL_asks_6 : decode cL_asks 6 = .ok (.iload_n 3, 1) := by decide +kernel
theorem dL_asks_7 : decode cL_asks 7 = .ok (.iload 4, 2) := by decide +kernel
theorem dL_asks_9 : decode cL_asks 9 = .ok (.iload 5, 2) := by decide +kernel
theorem dL_asks_11 : decode cL_asks 11 = .ok (.iload 6, 2) := by decide +kernel
theorem dL_asks_13 : decode cL_asks 13 = .ok (.invokevirtual 10, 3) := by decide +kernel
theorem dL_asks_16 : decode cL_asks 16 = .ok (.goto 59, 3) := by decide +kernel
theorem dL_asks_19 : decode cL_asks 19 = .ok (.iload_n 1, 1) := by decide +kernel
theorem dL_asks_20 : decode cL_asks 20 = .ok (.iconst 1, 1) := by decide +kernel
theorem dL_asks_21 : decode cL_asks 21 = .ok (.if_icmp .ne 13, 3) := by decide +kernel
theorem dL_asks_24 : decode cL_asks 24 = .ok (.aload_n 0, 1) := by decide +kernel
theorem dL_asks_25 : decode cL_asks 25 = .ok (.iload_n 2, 1) := by decide +kernel
theorem dL_asks_26 : decode cL_asks 26 = .ok (.iload_n 3, 1) := by decide +kernel
theorem dL_asks_27 : decode cL_asks 27 = .ok (.invokevirtual 16, 3) := by decide +kernel
theorem dL_asks_30 : decode cL_asks 30 = .ok (.i2l, 1) := by decide +kernel
theorem dL_asks_31 : decode cL_asks 31 = .ok (.goto 44, 3) := by decide +kernel
theorem dL_asks_34 : decode cL_asks 34 = .ok (.iload_n 1, 1) := by decide +kernel
theorem dL_asks_35 : decode cL_asks 35 = .ok (.iconst 2, 1) := by decide +kernel
theorem dL_asks_36 : decode cL_asks 36 = .ok (.if_icmp .ne 12, 3) := by decide +kernel
theorem dL_asks_39 : decode cL_asks 39 = .ok (.aload_n 0, 1) := by decide +kernel
theorem dL_asks_40 : decode cL_asks 40 = .ok (.iload_n 2, 1) := by decide +kernel
theorem dL_asks_41 : decode cL_asks 41 = .ok (.invokevirtual 20, 3) := by decide +kernel
theorem dL_asks_44 : decode cL_asks 44 = .ok (.i2l, 1) := by decide +kernel
theorem dL_asks_45 : decode cL_asks 45 = .ok (.goto 30, 3) := by decide +kernel
theorem dL_asks_48 : decode cL_asks 48 = .ok (.iload_n 1, 1) := by decide +kernel
theorem dL_asks_49 : decode cL_asks 49 = .ok (.iconst 3, 1) := by decide +kernel
theorem dL_asks_50 : decode cL_asks 50 = .ok (.if_icmp .ne 19, 3) := by decide +kernel
theorem dL_asks_53 : decode cL_asks 53 = .ok (.aload_n 0, 1) := by decide +kernel
theorem dL_asks_54 : decode cL_asks 54 = .ok (.iload_n 2, 1) := by decide +kernel
theorem dL_asks_55 : decode cL_asks 55 = .ok (.iload_n 3, 1) := by decide +kernel
theorem dL_asks_56 : decode cL_asks 56 = .ok (.iload 4, 2) := by decide +kernel
theorem dL_asks_58 : decode cL_asks 58 = .ok (.iload 5, 2) := by decide +kernel
theorem dL_asks_60 : decode cL_asks 60 = .ok (.iload 6, 2) := by decide +kernel
theorem dL_asks_62 : decode cL_asks 62 = .ok (.invokevirtual 24, 3) := by decide +kernel
theorem dL_asks_65 : decode cL_asks 65 = .ok (.i2l, 1) := by decide +kernel
theorem dL_asks_66 : decode cL_asks 66 = .ok (.goto 9, 3) := by decide +kernel
theorem dL_asks_69 : decode cL_asks 69 = .ok (.aload_n 0, 1) := by decide +kernel
theorem dL_asks_70 : decode cL_asks 70 = .ok (.iload_n 2, 1) := by decide +kernel
theorem dL_asks_71 : decode cL_asks 71 = .ok (.invokevirtual 28, 3) := by decide +kernel
theorem dL_asks_74 : decode cL_asks 74 = .ok (.i2l, 1) := by decide +kernel
theorem dL_asks_75 : decode cL_asks 75 = .ok (.lreturn, 1) := by decide +kernel
theorem dL_asks_76 : decode cL_asks 76 = .ok (.astore 7, 2) := by decide +kernel
theorem dL_asks_78 : decode cL_asks 78 = .ok (.ldc2_w 33, 3) := by decide +kernel
theorem dL_asks_81 : decode cL_asks 81 = .ok (.lreturn, 1) := by decide +kernel
theorem dL_asks_82 : decode cL_asks 82 = .ok (.astore 7, 2) := by decide +kernel
theorem dL_asks_84 : decode cL_asks 84 = .ok (.ldc2_w 37, 3) := by decide +kernel
theorem dL_asks_87 : decode cL_asks 87 = .ok (.lreturn, 1) := by decide +kernel
theorem dL_asks_88 : decode cL_asks 88 = .ok (.astore 7, 2) := by decide +kernel
theorem dL_asks_90 : decode cL_asks 90 = .ok (.ldc2_w 41, 3) := by decide +kernel
theorem dL_asks_93 : decode cL_asks 93 = .ok (.lreturn, 1) := by decide +kernel
set_option maxRecDepth 20000 in
theorem ggL_far_X9_about : GoodIn wsL_far wsX9_about := goodIn_ca (goodIn_ca (goodIn_r _ [5, 6, 7, 8, 9, 10, 11, 12, 13, 14, 15, 4, 16, 17, 18, 19, 20, 21, 22, 23, 24, 25, 26, 27, 28, 29, 30, 31, 32, 33, 34, 35, 36, 37, 38, 39, 40, 41, 42, 43, 44, 45, 46, 47, 48, 49, 50, 51, 52, 53, 54, 55, 56, 57, 58, 59, 60, 61] (by decide +kernel) (by decide +kernel)) (goodIn_sub (fun _ h => List.mem_cons_of_mem _ (List.mem_append_left _ (List.mem_append_right _ h))) (by decide +kernel))) (goodIn_sub (fun _ h => List.mem_cons_of_mem _ (List.mem_append_right _ h)) (by decide +kernel))
set_option maxRecDepth 20000 in
theorem gL_far_X9_about : GoodIn wsL_far (wsV RL 16 RX9 yX9_about wsX9_about) := goodIn_app (goodIn_of _ (by decide +kernel)) ggL_far_X9_about
theorem dL_far_0 : decode cL_far 0 = .ok (.aload_n 0, 1) := by decide +kernel
theorem dL_far_1 : decode cL_far 1 = .ok (.iload_n 1, 1) := by decide +kernel
theorem dL_far_2 : decode cL_far 2 = .ok (.iconst 0, 1) := by decide +kernel
theorem dL_far_3 : decode cL_far 3 = .ok (.invokevirtual 16, 3) := by decide +kernel
theorem dL_far_6 : decode cL_far 6 = .ok (.iload_n 2, 1) := by decide +kernel
theorem dL_far_7 : decode cL_far 7 = .ok (.isub, 1) := by decide +kernel
theorem dL_far_8 : decode cL_far 8 = .ok (.istore 4, 2) := by decide +kernel
theorem dL_far_10 : decode cL_far 10 = .ok (.aload_n 0, 1) := by decide +kernel
theorem dL_far_11 : decode cL_far 11 = .ok (.iload_n 1, 1) := by decide +kernel
theorem dL_far_12 : decode cL_far 12 = .ok (.iconst 1, 1) := by decide +kernel
theorem dL_far_13 : decode cL_far 13 = .ok (.invokevirtual 16, 3) := by decide +kernel
theorem dL_far_16 : decode cL_far 16 = .ok (.iload_n 3, 1) := by decide +kernel
theorem dL_far_17 : decode cL_far 17 = .ok (.isub, 1) := by decide +kernel
theorem dL_far_18 : decode cL_far 18 = .ok (.istore 5, 2) := by decide +kernel
theorem dL_far_20 : decode cL_far 20 = .ok (.iload 4, 2) := by decide +kernel
theorem dL_far_22 : decode cL_far 22 = .ok (.iload 4, 2) := by decide +kernel
theorem dL_far_24 : decode cL_far 24 = .ok (.imul, 1) := by decide +kernel
theorem dL_far_25 : decode cL_far 25 = .ok (.iload 5, 2) := by decide +kernel
theorem dL_far_27 : decode cL_far 27 = .ok (.iload 5, 2) := by decide +kernel
theorem dL_far_29 : decode cL_far 29 = .ok (.imul, 1) := by decide +kernel
theorem dL_far_30 : decode cL_far 30 = .ok (.iadd, 1) := by decide +kernel
theorem dL_far_31 : decode cL_far 31 = .ok (.ireturn, 1) := by decide +kernel
set_option maxRecDepth 20000 in
theorem ggL_isPlain_X9_craters : GoodIn wsL_isPlain wsX9_craters := goodIn_r _ [6, 7, 8, 9, 10, 11, 12, 13, 324, 325, 326, 327, 328, 329, 330, 331, 332] (by decide +kernel) (by decide +kernel)
set_option maxRecDepth 20000 in
theorem gL_isPlain_X9_craters : GoodIn wsL_isPlain (wsV RL 43 RX9 yX9_craters wsX9_craters) := goodIn_app (goodIn_of _ (by decide +kernel)) ggL_isPlain_X9_craters
set_option maxRecDepth 20000 in
theorem ggL_isPlain_L_asks : GoodIn wsL_isPlain wsL_asks := goodIn_ca (goodIn_ca (goodIn_ca (goodIn_r _ [17, 18, 19, 20, 1, 21, 22, 23, 24, 25, 5, 26, 27, 28, 29, 30, 31, 32, 33, 34, 35, 36, 37, 38, 39, 8, 9, 10, 11, 12, 13, 40, 41, 42, 43, 44, 45, 46, 47, 48, 49, 50, 51, 52, 53, 54, 55, 56, 57, 58, 59, 60, 61, 62, 63, 64, 65, 66, 67, 7, 68, 69, 70, 71, 72, 73, 74, 75, 76, 77, 78, 79, 80, 81, 82, 83, 84, 85, 86, 87, 88, 89, 90, 91, 92, 93, 94, 95, 96, 97, 98, 99, 100, 101, 102, 103, 104, 105, 106, 107, 108, 109, 110, 111, 112, 113, 114, 115, 116, 117, 118, 119, 120, 121, 122, 123, 124, 125, 126, 127, 128, 129, 130, 131, 132, 133, 134, 135, 136, 137, 138, 139, 140, 141, 142, 143, 144, 145, 146, 147, 148, 149, 150, 151, 152, 153, 154, 155, 156, 157, 158, 159, 160, 161, 162, 163, 164, 165, 166, 167, 168, 169, 170, 171, 172, 173, 174, 175, 176, 177, 178, 179, 180, 181, 182, 183, 184, 185, 186, 187, 188, 189, 190, 191, 192, 193, 194, 195, 196, 197, 198, 199, 200, 201, 202, 203, 204, 205, 206, 207, 208, 209, 210, 211, 212, 213, 214, 215, 216, 217, 218, 219, 220, 221, 222, 223, 224, 225, 226, 227, 228, 229, 230, 231, 232, 233, 234, 235, 236, 237, 238, 239, 240, 241, 242, 243, 244, 245, 246, 247, 248, 249, 250, 251, 252, 253, 254, 255, 256, 257, 258, 259, 260, 261, 262, 263, 264, 265, 266, 267, 268, 269, 270, 271, 272, 273, 274, 275, 276, 277, 278, 279, 280, 281, 282, 283, 333, 334, 335, 336, 324, 325, 326, 327, 328, 329, 330, 331, 332, 337, 338, 339, 340, 341, 342, 343, 344, 345, 346, 347, 348, 349, 350, 351, 352, 353] (by decide +kernel) (by decide +kernel)) (goodIn_sub (fun _ h => List.mem_cons_of_mem _ (List.mem_append_left _ (List.mem_append_left _ (List.mem_append_right _ h)))) (by decide +kernel))) (goodIn_sub (fun _ h => List.mem_cons_of_mem _ (List.mem_append_left _ (List.mem_append_right _ h))) (by decide +kernel))) (goodIn_sub (fun _ h => List.mem_cons_of_mem _ (List.mem_append_right _ h)) (by decide +kernel))
set_option maxRecDepth 20000 in
theorem gL_isPlain_L_asks : GoodIn wsL_isPlain (va_wsS RL 47 yL_asks wsL_asks) := goodIn_app (goodIn_of _ (by decide +kernel)) ggL_isPlain_L_asks
set_option maxRecDepth 20000 in
theorem ggL_isPlain_X9_about : GoodIn wsL_isPlain wsX9_about := goodIn_ca (goodIn_ca (goodIn_r _ [126, 127, 7, 68, 70, 71, 69, 128, 129, 130, 131, 5, 132, 37, 38, 8, 9, 10, 11, 12, 13, 133, 134, 135, 46, 47, 72, 73, 74, 75, 76, 77, 78, 79, 80, 81, 82, 83, 84, 85, 86, 87, 88, 324, 325, 326, 327, 328, 329, 337, 338, 339, 340, 341, 342, 330, 331, 332] (by decide +kernel) (by decide +kernel)) (goodIn_sub (fun _ h => List.mem_cons_of_mem _ (List.mem_append_left _ (List.mem_append_right _ h))) (by decide +kernel))) (goodIn_sub (fun _ h => List.mem_cons_of_mem _ (List.mem_append_right _ h)) (by decide +kernel))
set_option maxRecDepth 20000 in
theorem gL_isPlain_X9_about : GoodIn wsL_isPlain (wsV RL 16 RX9 yX9_about wsX9_about) := goodIn_app (goodIn_of _ (by decide +kernel)) ggL_isPlain_X9_about
set_option maxRecDepth 20000 in
theorem ggL_isPlain_X9_depthAnew : GoodIn wsL_isPlain wsX9_depthAnew := goodIn_ca (goodIn_r _ [287, 129, 130, 131, 5, 132, 37, 38, 7, 8, 9, 10, 11, 12, 13, 288, 289, 290, 291, 68, 292, 149, 293, 294, 295, 203, 204, 205, 72, 73, 74, 75, 76, 77, 78, 79, 80, 81, 82, 83, 84, 85, 86, 87, 88, 296, 297, 298, 259, 299, 300, 301, 302, 303, 304, 305, 306, 307, 308, 236, 237, 238, 239, 240, 241, 242, 243, 244, 245, 246, 90, 91, 31, 92, 54, 56, 55, 57, 247, 248, 143, 249, 171, 250, 251, 172, 252, 253, 254, 153, 255, 157, 324, 325, 326, 327, 328, 329, 330, 331, 332, 337, 338, 339, 340, 341, 342, 351, 352, 353, 347, 348, 349, 333, 334, 335, 336, 350] (by decide +kernel) (by decide +kernel)) (goodIn_sub (fun _ h => List.mem_cons_of_mem _ (List.mem_append_left _ (List.mem_append_right _ h))) (by decide +kernel))
set_option maxRecDepth 20000 in
theorem gL_isPlain_X9_depthAnew : GoodIn wsL_isPlain (wsV RL 53 RX9 yX9_depthAnew wsX9_depthAnew) := goodIn_app (goodIn_of _ (by decide +kernel)) ggL_isPlain_X9_depthAnew
set_option maxRecDepth 20000 in
theorem ggL_isPlain_L_far : GoodIn wsL_isPlain wsL_far := goodIn_ca (goodIn_ca (goodIn_r _ [311, 123, 124, 125, 5, 126, 127, 7, 68, 70, 71, 69, 128, 129, 130, 131, 132, 37, 38, 8, 9, 10, 11, 12, 13, 133, 134, 135, 46, 47, 72, 73, 74, 75, 76, 77, 78, 79, 80, 81, 82, 83, 84, 85, 86, 87, 88, 324, 325, 326, 327, 328, 329, 337, 338, 339, 340, 341, 342, 330, 331, 332] (by decide +kernel) (by decide +kernel)) (goodIn_sub (fun _ h => List.mem_cons_of_mem _ (List.mem_append_left _ (List.mem_append_right _ h))) (by decide +kernel))) (goodIn_sub (fun _ h => List.mem_cons_of_mem _ (List.mem_append_right _ h)) (by decide +kernel))
set_option maxRecDepth 20000 in
theorem gL_isPlain_L_far : GoodIn wsL_isPlain (va_wsS RL 56 yL_far wsL_far) := goodIn_app (goodIn_of _ (by decide +kernel)) ggL_isPlain_L_far
set_option maxRecDepth 20000 in
theorem ggL_isPlain_X9_top : GoodIn wsL_isPlain wsX9_top := goodIn_ca (goodIn_r _ [315, 7, 68, 128, 40, 41, 5, 42, 37, 38, 8, 9, 10, 11, 12, 13, 72, 73, 74, 75, 76, 77, 78, 79, 80, 81, 82, 83, 84, 85, 86, 87, 88, 316, 317, 318, 259, 319, 300, 305, 306, 307, 308, 301, 302, 324, 325, 326, 327, 328, 329, 337, 338, 339, 340, 341, 342, 330, 331, 332] (by decide +kernel) (by decide +kernel)) (goodIn_sub (fun _ h => List.mem_cons_of_mem _ (List.mem_append_left _ (List.mem_append_right _ h))) (by decide +kernel))
set_option maxRecDepth 20000 in
theorem gL_isPlain_X9_top : GoodIn wsL_isPlain (wsV RL 60 RX9 yX9_top wsX9_top) := goodIn_app (goodIn_of _ (by decide +kernel)) ggL_isPlain_X9_top
set_option maxRecDepth 20000 in
theorem ggL_isPlain_X9_topAnew : GoodIn wsL_isPlain wsX9_topAnew := goodIn_ca (goodIn_r _ [323, 7, 68, 40, 41, 5, 42, 37, 38, 8, 9, 10, 11, 12, 13, 72, 73, 74, 75, 76, 77, 78, 79, 80, 81, 82, 83, 84, 85, 86, 87, 88, 316, 317, 318, 259, 319, 300, 305, 306, 307, 308, 301, 302, 288, 289, 290, 291, 292, 149, 293, 294, 295, 203, 204, 205, 296, 297, 298, 299, 303, 304, 236, 237, 238, 239, 240, 241, 242, 243, 244, 245, 246, 90, 91, 31, 92, 54, 56, 55, 57, 247, 248, 143, 249, 171, 250, 251, 172, 252, 253, 254, 153, 255, 157, 324, 325, 326, 327, 328, 329, 330, 331, 332, 337, 338, 339, 340, 341, 342, 351, 352, 353, 347, 348, 349, 333, 334, 335, 336, 350] (by decide +kernel) (by decide +kernel)) (goodIn_sub (fun _ h => List.mem_cons_of_mem _ (List.mem_append_left _ (List.mem_append_right _ h))) (by decide +kernel))
set_option maxRecDepth 20000 in
theorem gL_isPlain_X9_topAnew : GoodIn wsL_isPlain (wsV RL 63 RX9 yX9_topAnew wsX9_topAnew) := goodIn_app (goodIn_of _ (by decide +kernel)) ggL_isPlain_X9_topAnew
theorem dL_isPlain_0 : decode cL_isPlain 0 = .ok (.aload_n 0, 1) := by decide +kernel
theorem dL_isPlain_1 : decode cL_isPlain 1 = .ok (.invokevirtual 43, 3) := by decide +kernel
theorem dL_isPlain_4 : decode cL_isPlain 4 = .ok (.aload_n 2, 1) := by decide +kernel
theorem dL_isPlain_5 : decode cL_isPlain 5 = .ok (.iconst 0, 1) := by decide +kernel
theorem dL_isPlain_6 : decode cL_isPlain 6 = .ok (.iaload, 1) := by decide +kernel
theorem dL_isPlain_7 : decode cL_isPlain 7 = .ok (.if_icmp .ne 26, 3) := by decide +kernel
theorem dL_isPlain_10 : decode cL_isPlain 10 = .ok (.aload_n 0, 1) := by decide +kernel
theorem dL_isPlain_11 : decode cL_isPlain 11 = .ok (.iconst 1, 1) := by decide +kernel
theorem dL_isPlain_12 : decode cL_isPlain 12 = .ok (.aload_n 2, 1) := by decide +kernel
theorem dL_isPlain_13 : decode cL_isPlain 13 = .ok (.iconst 0, 1) := by decide +kernel
theorem dL_isPlain_14 : decode cL_isPlain 14 = .ok (.iaload, 1) := by decide +kernel
theorem dL_isPlain_15 : decode cL_isPlain 15 = .ok (.iconst 0, 1) := by decide +kernel
theorem dL_isPlain_16 : decode cL_isPlain 16 = .ok (.iconst 0, 1) := by decide +kernel
theorem dL_isPlain_17 : decode cL_isPlain 17 = .ok (.iconst 0, 1) := by decide +kernel
theorem dL_isPlain_18 : decode cL_isPlain 18 = .ok (.iconst 0, 1) := by decide +kernel
theorem dL_isPlain_19 : decode cL_isPlain 19 = .ok (.invokestatic 47, 3) := by decide +kernel
theorem dL_isPlain_22 : decode cL_isPlain 22 = .ok (.ldc2_w 33, 3) := by decide +kernel
theorem dL_isPlain_25 : decode cL_isPlain 25 = .ok (.lcmp, 1) := by decide +kernel
theorem dL_isPlain_26 : decode cL_isPlain 26 = .ok (.ifCond .ne 7, 3) := by decide +kernel
theorem dL_isPlain_29 : decode cL_isPlain 29 = .ok (.iconst 1, 1) := by decide +kernel
theorem dL_isPlain_30 : decode cL_isPlain 30 = .ok (.goto 4, 3) := by decide +kernel
theorem dL_isPlain_33 : decode cL_isPlain 33 = .ok (.iconst 0, 1) := by decide +kernel
theorem dL_isPlain_34 : decode cL_isPlain 34 = .ok (.istore_n 3, 1) := by decide +kernel
theorem dL_isPlain_35 : decode cL_isPlain 35 = .ok (.iconst 0, 1) := by decide +kernel
theorem dL_isPlain_36 : decode cL_isPlain 36 = .ok (.istore 4, 2) := by decide +kernel
theorem dL_isPlain_38 : decode cL_isPlain 38 = .ok (.iload 4, 2) := by decide +kernel
theorem dL_isPlain_40 : decode cL_isPlain 40 = .ok (.aload_n 2, 1) := by decide +kernel
theorem dL_isPlain_41 : decode cL_isPlain 41 = .ok (.iconst 0, 1) := by decide +kernel
theorem dL_isPlain_42 : decode cL_isPlain 42 = .ok (.iaload, 1) := by decide +kernel
theorem dL_isPlain_43 : decode cL_isPlain 43 = .ok (.if_icmp .ge 123, 3) := by decide +kernel
theorem dL_isPlain_46 : decode cL_isPlain 46 = .ok (.iload_n 3, 1) := by decide +kernel
theorem dL_isPlain_47 : decode cL_isPlain 47 = .ok (.ifCond .eq 119, 3) := by decide +kernel
theorem dL_isPlain_50 : decode cL_isPlain 50 = .ok (.aload_n 0, 1) := by decide +kernel
theorem dL_isPlain_51 : decode cL_isPlain 51 = .ok (.iload 4, 2) := by decide +kernel
theorem dL_isPlain_53 : decode cL_isPlain 53 = .ok (.iconst 0, 1) := by decide +kernel
theorem dL_isPlain_54 : decode cL_isPlain 54 = .ok (.invokevirtual 16, 3) := by decide +kernel
theorem dL_isPlain_57 : decode cL_isPlain 57 = .ok (.ifCond .lt 101, 3) := by decide +kernel
theorem dL_isPlain_60 : decode cL_isPlain 60 = .ok (.aload_n 0, 1) := by decide +kernel
theorem dL_isPlain_61 : decode cL_isPlain 61 = .ok (.iload 4, 2) := by decide +kernel
theorem dL_isPlain_63 : decode cL_isPlain 63 = .ok (.iconst 0, 1) := by decide +kernel
theorem dL_isPlain_64 : decode cL_isPlain 64 = .ok (.invokevirtual 16, 3) := by decide +kernel
theorem dL_isPlain_67 : decode cL_isPlain 67 = .ok (.bipush 16, 2) := by decide +kernel
theorem dL_isPlain_69 : decode cL_isPlain 69 = .ok (.if_icmp .ge 89, 3) := by decide +kernel
theorem dL_isPlain_72 : decode cL_isPlain 72 = .ok (.aload_n 0, 1) := by decide +kernel
theorem dL_isPlain_73 : decode cL_isPlain 73 = .ok (.iload 4, 2) := by decide +kernel
theorem dL_isPlain_75 : decode cL_isPlain 75 = .ok (.iconst 1, 1) := by decide +kernel
theorem dL_isPlain_76 : decode cL_isPlain 76 = .ok (.invokevirtual 16, 3) := by decide +kernel
theorem dL_isPlain_79 : decode cL_isPlain 79 = .ok (.ifCond .lt 79, 3) := by decide +kernel
theorem dL_isPlain_82 : decode cL_isPlain 82 = .ok (.aload_n 0, 1) := by decide +kernel
theorem dL_isPlain_83 : decode cL_isPlain 83 = .ok (.iload 4, 2) := by decide +kernel
theorem dL_isPlain_85 : decode cL_isPlain 85 = .ok (.iconst 1, 1) := by decide +kernel
theorem dL_isPlain_86 : decode cL_isPlain 86 = .ok (.invokevirtual 16, 3) := by decide +kernel
theorem dL_isPlain_89 : decode cL_isPlain 89 = .ok (.bipush 16, 2) := by decide +kernel
theorem dL_isPlain_91 : decode cL_isPlain 91 = .ok (.if_icmp .ge 67, 3) := by decide +kernel
theorem dL_isPlain_94 : decode cL_isPlain 94 = .ok (.aload_n 0, 1) := by decide +kernel
theorem dL_isPlain_95 : decode cL_isPlain 95 = .ok (.iload 4, 2) := by decide +kernel
theorem dL_isPlain_97 : decode cL_isPlain 97 = .ok (.iconst 2, 1) := by decide +kernel
theorem dL_isPlain_98 : decode cL_isPlain 98 = .ok (.invokevirtual 16, 3) := by decide +kernel
theorem dL_isPlain_101 : decode cL_isPlain 101 = .ok (.ifCond .le 57, 3) := by decide +kernel
theorem dL_isPlain_104 : decode cL_isPlain 104 = .ok (.aload_n 0, 1) := by decide +kernel
theorem dL_isPlain_105 : decode cL_isPlain 105 = .ok (.iload 4, 2) := by decide +kernel
theorem dL_isPlain_107 : decode cL_isPlain 107 = .ok (.iconst 2, 1) := by decide +kernel
theorem dL_isPlain_108 : decode cL_isPlain 108 = .ok (.invokevirtual 16, 3) := by decide +kernel
theorem dL_isPlain_111 : decode cL_isPlain 111 = .ok (.bipush 8, 2) := by decide +kernel
theorem dL_isPlain_113 : decode cL_isPlain 113 = .ok (.if_icmp .ge 45, 3) := by decide +kernel
theorem dL_isPlain_116 : decode cL_isPlain 116 = .ok (.aload_n 0, 1) := by decide +kernel
theorem dL_isPlain_117 : decode cL_isPlain 117 = .ok (.iload 4, 2) := by decide +kernel
theorem dL_isPlain_119 : decode cL_isPlain 119 = .ok (.iconst 3, 1) := by decide +kernel
theorem dL_isPlain_120 : decode cL_isPlain 120 = .ok (.invokevirtual 16, 3) := by decide +kernel
theorem dL_isPlain_123 : decode cL_isPlain 123 = .ok (.ifCond .lt 35, 3) := by decide +kernel
theorem dL_isPlain_126 : decode cL_isPlain 126 = .ok (.aload_n 0, 1) := by decide +kernel
theorem dL_isPlain_127 : decode cL_isPlain 127 = .ok (.iload 4, 2) := by decide +kernel
theorem dL_isPlain_129 : decode cL_isPlain 129 = .ok (.iconst 3, 1) := by decide +kernel
theorem dL_isPlain_130 : decode cL_isPlain 130 = .ok (.invokevirtual 16, 3) := by decide +kernel
theorem dL_isPlain_133 : decode cL_isPlain 133 = .ok (.bipush 30, 2) := by decide +kernel
theorem dL_isPlain_135 : decode cL_isPlain 135 = .ok (.if_icmp .gt 23, 3) := by decide +kernel
theorem dL_isPlain_138 : decode cL_isPlain 138 = .ok (.aload_n 0, 1) := by decide +kernel
theorem dL_isPlain_139 : decode cL_isPlain 139 = .ok (.iload 4, 2) := by decide +kernel
theorem dL_isPlain_141 : decode cL_isPlain 141 = .ok (.invokevirtual 53, 3) := by decide +kernel
theorem dL_isPlain_144 : decode cL_isPlain 144 = .ok (.aload_n 0, 1) := by decide +kernel
theorem dL_isPlain_145 : decode cL_isPlain 145 = .ok (.iload 4, 2) := by decide +kernel
theorem dL_isPlain_147 : decode cL_isPlain 147 = .ok (.iconst 3, 1) := by decide +kernel
theorem dL_isPlain_148 : decode cL_isPlain 148 = .ok (.invokevirtual 16, 3) := by decide +kernel
theorem dL_isPlain_151 : decode cL_isPlain 151 = .ok (.if_icmp .ne 7, 3) := by decide +kernel
theorem dL_isPlain_154 : decode cL_isPlain 154 = .ok (.iconst 1, 1) := by decide +kernel
theorem dL_isPlain_155 : decode cL_isPlain 155 = .ok (.goto 4, 3) := by decide +kernel
theorem dL_isPlain_158 : decode cL_isPlain 158 = .ok (.iconst 0, 1) := by decide +kernel
theorem dL_isPlain_159 : decode cL_isPlain 159 = .ok (.istore_n 3, 1) := by decide +kernel
theorem dL_isPlain_160 : decode cL_isPlain 160 = .ok (.iinc 4 1, 3) := by decide +kernel
theorem dL_isPlain_163 : decode cL_isPlain 163 = .ok (.goto (-125), 3) := by decide +kernel
theorem dL_isPlain_166 : decode cL_isPlain 166 = .ok (.iconst 0, 1) := by decide +kernel
theorem dL_isPlain_167 : decode cL_isPlain 167 = .ok (.istore 4, 2) := by decide +kernel
theorem dL_isPlain_169 : decode cL_isPlain 169 = .ok (.iload 4, 2) := by decide +kernel
theorem dL_isPlain_171 : decode cL_isPlain 171 = .ok (.bipush 6, 2) := by decide +kernel
theorem dL_isPlain_173 : decode cL_isPlain 173 = .ok (.if_icmp .ge 135, 3) := by decide +kernel
theorem dL_isPlain_176 : decode cL_isPlain 176 = .ok (.iload_n 3, 1) := by decide +kernel
theorem dL_isPlain_177 : decode cL_isPlain 177 = .ok (.ifCond .eq 131, 3) := by decide +kernel
theorem dL_isPlain_180 : decode cL_isPlain 180 = .ok (.iload_n 1, 1) := by decide +kernel
theorem dL_isPlain_181 : decode cL_isPlain 181 = .ok (.iload 4, 2) := by decide +kernel
theorem dL_isPlain_183 : decode cL_isPlain 183 = .ok (.iadd, 1) := by decide +kernel
theorem dL_isPlain_184 : decode cL_isPlain 184 = .ok (.bipush 16, 2) := by decide +kernel
theorem dL_isPlain_186 : decode cL_isPlain 186 = .ok (.irem, 1) := by decide +kernel
theorem dL_isPlain_187 : decode cL_isPlain 187 = .ok (.istore 5, 2) := by decide +kernel
theorem dL_isPlain_189 : decode cL_isPlain 189 = .ok (.iload_n 1, 1) := by decide +kernel
theorem dL_isPlain_190 : decode cL_isPlain 190 = .ok (.bipush 16, 2) := by decide +kernel
theorem dL_isPlain_192 : decode cL_isPlain 192 = .ok (.idiv, 1) := by decide +kernel
theorem dL_isPlain_193 : decode cL_isPlain 193 = .ok (.iconst 3, 1) := by decide +kernel
theorem dL_isPlain_194 : decode cL_isPlain 194 = .ok (.iload 4, 2) := by decide +kernel
theorem dL_isPlain_196 : decode cL_isPlain 196 = .ok (.imul, 1) := by decide +kernel
theorem dL_isPlain_197 : decode cL_isPlain 197 = .ok (.iadd, 1) := by decide +kernel
theorem dL_isPlain_198 : decode cL_isPlain 198 = .ok (.bipush 16, 2) := by decide +kernel
theorem dL_isPlain_200 : decode cL_isPlain 200 = .ok (.irem, 1) := by decide +kernel
theorem dL_isPlain_201 : decode cL_isPlain 201 = .ok (.istore 6, 2) := by decide +kernel
theorem dL_isPlain_203 : decode cL_isPlain 203 = .ok (.iconst (-1), 1) := by decide +kernel
theorem dL_isPlain_204 : decode cL_isPlain 204 = .ok (.istore 7, 2) := by decide +kernel
theorem dL_isPlain_206 : decode cL_isPlain 206 = .ok (.iconst 0, 1) := by decide +kernel
theorem dL_isPlain_207 : decode cL_isPlain 207 = .ok (.istore 8, 2) := by decide +kernel
theorem dL_isPlain_209 : decode cL_isPlain 209 = .ok (.iload 8, 2) := by decide +kernel
theorem dL_isPlain_211 : decode cL_isPlain 211 = .ok (.aload_n 2, 1) := by decide +kernel
theorem dL_isPlain_212 : decode cL_isPlain 212 = .ok (.iconst 0, 1) := by decide +kernel
theorem dL_isPlain_213 : decode cL_isPlain 213 = .ok (.iaload, 1) := by decide +kernel
theorem dL_isPlain_214 : decode cL_isPlain 214 = .ok (.if_icmp .ge 56, 3) := by decide +kernel
theorem dL_isPlain_217 : decode cL_isPlain 217 = .ok (.aload_n 0, 1) := by decide +kernel
theorem dL_isPlain_218 : decode cL_isPlain 218 = .ok (.iload 8, 2) := by decide +kernel
theorem dL_isPlain_220 : decode cL_isPlain 220 = .ok (.iconst 3, 1) := by decide +kernel
theorem dL_isPlain_221 : decode cL_isPlain 221 = .ok (.invokevirtual 16, 3) := by decide +kernel
theorem dL_isPlain_224 : decode cL_isPlain 224 = .ok (.ifCond .le 36, 3) := by decide +kernel
theorem dL_isPlain_227 : decode cL_isPlain 227 = .ok (.aload_n 0, 1) := by decide +kernel
theorem dL_isPlain_228 : decode cL_isPlain 228 = .ok (.iload 8, 2) := by decide +kernel
theorem dL_isPlain_230 : decode cL_isPlain 230 = .ok (.iload 5, 2) := by decide +kernel
theorem dL_isPlain_232 : decode cL_isPlain 232 = .ok (.iload 6, 2) := by decide +kernel
theorem dL_isPlain_234 : decode cL_isPlain 234 = .ok (.invokestatic 56, 3) := by decide +kernel
theorem dL_isPlain_237 : decode cL_isPlain 237 = .ok (.aload_n 0, 1) := by decide +kernel
theorem dL_isPlain_238 : decode cL_isPlain 238 = .ok (.iload 8, 2) := by decide +kernel
theorem dL_isPlain_240 : decode cL_isPlain 240 = .ok (.iconst 2, 1) := by decide +kernel
theorem dL_isPlain_241 : decode cL_isPlain 241 = .ok (.invokevirtual 16, 3) := by decide +kernel
theorem dL_isPlain_244 : decode cL_isPlain 244 = .ok (.aload_n 0, 1) := by decide +kernel
theorem dL_isPlain_245 : decode cL_isPlain 245 = .ok (.iload 8, 2) := by decide +kernel
theorem dL_isPlain_247 : decode cL_isPlain 247 = .ok (.iconst 2, 1) := by decide +kernel
theorem dL_isPlain_248 : decode cL_isPlain 248 = .ok (.invokevirtual 16, 3) := by decide +kernel
theorem dL_isPlain_251 : decode cL_isPlain 251 = .ok (.imul, 1) := by decide +kernel
theorem dL_isPlain_252 : decode cL_isPlain 252 = .ok (.if_icmp .gt 8, 3) := by decide +kernel
theorem dL_isPlain_255 : decode cL_isPlain 255 = .ok (.iload 8, 2) := by decide +kernel
theorem dL_isPlain_257 : decode cL_isPlain 257 = .ok (.goto 5, 3) := by decide +kernel
theorem dL_isPlain_260 : decode cL_isPlain 260 = .ok (.iload 7, 2) := by decide +kernel
theorem dL_isPlain_262 : decode cL_isPlain 262 = .ok (.istore 7, 2) := by decide +kernel
theorem dL_isPlain_264 : decode cL_isPlain 264 = .ok (.iinc 8 1, 3) := by decide +kernel
theorem dL_isPlain_267 : decode cL_isPlain 267 = .ok (.goto (-58), 3) := by decide +kernel
theorem dL_isPlain_270 : decode cL_isPlain 270 = .ok (.aload_n 0, 1) := by decide +kernel
theorem dL_isPlain_271 : decode cL_isPlain 271 = .ok (.iload 5, 2) := by decide +kernel
theorem dL_isPlain_273 : decode cL_isPlain 273 = .ok (.iload 6, 2) := by decide +kernel
theorem dL_isPlain_275 : decode cL_isPlain 275 = .ok (.invokevirtual 60, 3) := by decide +kernel
theorem dL_isPlain_278 : decode cL_isPlain 278 = .ok (.iload 7, 2) := by decide +kernel
theorem dL_isPlain_280 : decode cL_isPlain 280 = .ok (.if_icmp .ne 20, 3) := by decide +kernel
theorem dL_isPlain_283 : decode cL_isPlain 283 = .ok (.aload_n 0, 1) := by decide +kernel
theorem dL_isPlain_284 : decode cL_isPlain 284 = .ok (.iload 5, 2) := by decide +kernel
theorem dL_isPlain_286 : decode cL_isPlain 286 = .ok (.iload 6, 2) := by decide +kernel
theorem dL_isPlain_288 : decode cL_isPlain 288 = .ok (.invokevirtual 63, 3) := by decide +kernel
theorem dL_isPlain_291 : decode cL_isPlain 291 = .ok (.iload 7, 2) := by decide +kernel
theorem dL_isPlain_293 : decode cL_isPlain 293 = .ok (.if_icmp .ne 7, 3) := by decide +kernel
theorem dL_isPlain_296 : decode cL_isPlain 296 = .ok (.iconst 1, 1) := by decide +kernel
theorem dL_isPlain_297 : decode cL_isPlain 297 = .ok (.goto 4, 3) := by decide +kernel
theorem dL_isPlain_300 : decode cL_isPlain 300 = .ok (.iconst 0, 1) := by decide +kernel
theorem dL_isPlain_301 : decode cL_isPlain 301 = .ok (.istore_n 3, 1) := by decide +kernel
theorem dL_isPlain_302 : decode cL_isPlain 302 = .ok (.iinc 4 1, 3) := by decide +kernel
theorem dL_isPlain_305 : decode cL_isPlain 305 = .ok (.goto (-136), 3) := by decide +kernel
theorem dL_isPlain_308 : decode cL_isPlain 308 = .ok (.iload_n 3, 1) := by decide +kernel
theorem dL_isPlain_309 : decode cL_isPlain 309 = .ok (.ireturn, 1) := by decide +kernel
set_option maxRecDepth 20000 in
theorem ggL_isClock_L_asks : GoodIn wsL_isClock wsL_asks := goodIn_ca (goodIn_ca (goodIn_ca (goodIn_r _ [7, 8, 9, 10, 1, 11, 3, 12, 13, 14, 15, 16, 17, 18, 19, 20, 21, 22, 23, 24, 25, 26, 27, 28, 29, 30, 31, 32, 33, 34, 35, 36, 37, 38, 39, 40, 41, 42, 43, 44, 45, 46, 47, 48, 49, 50, 51, 52, 53, 54, 55, 56, 57, 58, 59, 60, 61, 62, 63, 64, 65, 66, 67, 68, 69, 70, 71, 72, 73, 74, 75, 76, 77, 78, 79, 80, 81, 82, 83, 84, 85, 86, 87, 88, 89, 90, 91, 92, 93, 94, 95, 96, 97, 98, 99, 100, 101, 102, 103, 104, 105, 106, 107, 108, 109, 110, 111, 112, 113, 114, 115, 116, 117, 118, 119, 120, 121, 122, 123, 124, 125, 126, 127, 128, 129, 130, 131, 132, 133, 134, 135, 136, 137, 138, 139, 140, 141, 142, 143, 144, 145, 146, 147, 148, 149, 150, 151, 152, 153, 154, 155, 156, 157, 158, 159, 160, 161, 162, 163, 164, 165, 166, 167, 168, 169, 170, 171, 172, 173, 174, 175, 176, 177, 178, 179, 180, 181, 182, 183, 184, 185, 186, 187, 188, 189, 190, 191, 192, 193, 194, 195, 196, 197, 198, 199, 200, 201, 202, 203, 204, 205, 206, 207, 208, 209, 210, 211, 212, 213, 214, 215, 216, 217, 218, 219, 220, 221, 222, 223, 224, 225, 226, 227, 228, 229, 230, 231, 232, 233, 234, 235, 236, 237, 238, 239, 240, 241, 242, 243, 244, 245, 246, 247, 248, 249, 250, 251, 252, 253, 254, 255, 256, 257, 258, 259, 260, 261, 262, 263, 264, 265, 266, 267, 268, 269, 270, 271, 272, 273, 274, 275, 276, 277, 278, 279, 280, 290, 291, 292, 293, 294, 295, 296, 297, 298, 299, 300, 301, 302, 303, 304, 305, 306, 307, 308, 309, 310, 311, 312, 313, 314, 315, 316, 317, 318, 319] (by decide +kernel) (by decide +kernel)) (goodIn_sub (fun _ h => List.mem_cons_of_mem _ (List.mem_append_left _ (List.mem_append_left _ (List.mem_append_right _ h)))) (by decide +kernel))) (goodIn_sub (fun _ h => List.mem_cons_of_mem _ (List.mem_append_left _ (List.mem_append_right _ h))) (by decide +kernel))) (goodIn_sub (fun _ h => List.mem_cons_of_mem _ (List.mem_append_right _ h)) (by decide +kernel))
set_option maxRecDepth 20000 in
theorem gL_isClock_L_asks : GoodIn wsL_isClock (va_wsS RL 47 yL_asks wsL_asks) := goodIn_app (goodIn_of _ (by decide +kernel)) ggL_isClock_L_asks
set_option maxRecDepth 20000 in
theorem ggL_isClock_X9_about : GoodIn wsL_isClock wsX9_about := goodIn_ca (goodIn_ca (goodIn_r _ [123, 124, 64, 65, 67, 68, 66, 125, 126, 127, 128, 15, 129, 27, 28, 30, 31, 32, 33, 34, 35, 130, 131, 132, 42, 43, 69, 70, 71, 72, 73, 74, 75, 76, 77, 78, 79, 80, 81, 82, 83, 84, 85, 294, 295, 296, 297, 298, 299, 303, 304, 305, 306, 307, 308, 300, 301, 302] (by decide +kernel) (by decide +kernel)) (goodIn_sub (fun _ h => List.mem_cons_of_mem _ (List.mem_append_left _ (List.mem_append_right _ h))) (by decide +kernel))) (goodIn_sub (fun _ h => List.mem_cons_of_mem _ (List.mem_append_right _ h)) (by decide +kernel))
set_option maxRecDepth 20000 in
theorem gL_isClock_X9_about : GoodIn wsL_isClock (wsV RL 16 RX9 yX9_about wsX9_about) := goodIn_app (goodIn_of _ (by decide +kernel)) ggL_isClock_X9_about
set_option maxRecDepth 20000 in
theorem ggL_isClock_X9_count : GoodIn wsL_isClock wsX9_count := goodIn_ca (goodIn_ca (goodIn_r _ [284, 285, 19, 20, 21, 23, 24, 25, 15, 26, 27, 28, 29, 30, 31, 32, 33, 34, 35, 36, 37, 38, 130, 131, 132, 42, 43, 39, 40, 41, 44, 45, 46, 47, 48, 49, 50, 51, 52, 53, 59, 60, 61, 62, 63, 64, 65, 66, 67, 68, 69, 70, 71, 72, 73, 74, 75, 76, 77, 78, 79, 80, 81, 82, 83, 84, 85, 86, 87, 88, 89, 90, 91, 92, 93, 94, 95, 96, 290, 291, 292, 293, 294, 295, 296, 297, 298, 299, 300, 301, 302, 303, 304, 305, 306, 307, 308, 309] (by decide +kernel) (by decide +kernel)) (goodIn_sub (fun _ h => List.mem_cons_of_mem _ (List.mem_append_left _ (List.mem_append_right _ h))) (by decide +kernel))) (goodIn_sub (fun _ h => List.mem_cons_of_mem _ (List.mem_append_right _ h)) (by decide +kernel))
set_option maxRecDepth 20000 in
theorem gL_isClock_X9_count : GoodIn wsL_isClock (wsV RL 68 RX9 yX9_count wsX9_count) := goodIn_app (goodIn_of _ (by decide +kernel)) ggL_isClock_X9_count
set_option maxRecDepth 20000 in
theorem ggL_isClock_X9_whyNot : GoodIn wsL_isClock wsX9_whyNot := goodIn_ca (goodIn_ca (goodIn_r _ [289, 22, 19, 20, 21, 23, 24, 25, 15, 26, 27, 28, 29, 30, 31, 32, 33, 34, 35, 36, 37, 38, 39, 40, 41, 42, 43, 44, 45, 46, 47, 48, 49, 50, 51, 52, 53, 54, 55, 56, 57, 58, 59, 60, 61, 62, 63, 64, 65, 66, 67, 68, 69, 70, 71, 72, 73, 74, 75, 76, 77, 78, 79, 80, 81, 82, 83, 84, 85, 86, 87, 88, 89, 90, 91, 92, 93, 94, 95, 96, 97, 98, 99, 100, 101, 102, 103, 104, 105, 106, 107, 108, 109, 110, 111, 112, 113, 294, 295, 296, 297, 298, 299, 290, 291, 292, 293, 300, 301, 302, 303, 304, 305, 306, 307, 308, 309, 310, 311, 312] (by decide +kernel) (by decide +kernel)) (goodIn_sub (fun _ h => List.mem_cons_of_mem _ (List.mem_append_left _ (List.mem_append_right _ h))) (by decide +kernel))) (goodIn_sub (fun _ h => List.mem_cons_of_mem _ (List.mem_append_right _ h)) (by decide +kernel))
set_option maxRecDepth 20000 in
theorem gL_isClock_X9_whyNot : GoodIn wsL_isClock (wsV RL 72 RX9 yX9_whyNot wsX9_whyNot) := goodIn_app (goodIn_of _ (by decide +kernel)) ggL_isClock_X9_whyNot
theorem dL_isClock_0 : decode cL_isClock 0 = .ok (.aload_n 3, 1) := by decide +kernel
theorem dL_isClock_1 : decode cL_isClock 1 = .ok (.iconst 3, 1) := by decide +kernel
theorem dL_isClock_2 : decode cL_isClock 2 = .ok (.iaload, 1) := by decide +kernel
theorem dL_isClock_3 : decode cL_isClock 3 = .ok (.ifCond .ne 26, 3) := by decide +kernel
theorem dL_isClock_6 : decode cL_isClock 6 = .ok (.aload_n 0, 1) := by decide +kernel
theorem dL_isClock_7 : decode cL_isClock 7 = .ok (.iconst 0, 1) := by decide +kernel
theorem dL_isClock_8 : decode cL_isClock 8 = .ok (.iconst 0, 1) := by decide +kernel
theorem dL_isClock_9 : decode cL_isClock 9 = .ok (.iconst 0, 1) := by decide +kernel
theorem dL_isClock_10 : decode cL_isClock 10 = .ok (.iconst 0, 1) := by decide +kernel
theorem dL_isClock_11 : decode cL_isClock 11 = .ok (.iconst 0, 1) := by decide +kernel
theorem dL_isClock_12 : decode cL_isClock 12 = .ok (.iconst 0, 1) := by decide +kernel
theorem dL_isClock_13 : decode cL_isClock 13 = .ok (.invokestatic 47, 3) := by decide +kernel
theorem dL_isClock_16 : decode cL_isClock 16 = .ok (.ldc2_w 33, 3) := by decide +kernel
theorem dL_isClock_19 : decode cL_isClock 19 = .ok (.lcmp, 1) := by decide +kernel
theorem dL_isClock_20 : decode cL_isClock 20 = .ok (.ifCond .ne 7, 3) := by decide +kernel
theorem dL_isClock_23 : decode cL_isClock 23 = .ok (.iconst 1, 1) := by decide +kernel
theorem dL_isClock_24 : decode cL_isClock 24 = .ok (.goto 4, 3) := by decide +kernel
theorem dL_isClock_27 : decode cL_isClock 27 = .ok (.iconst 0, 1) := by decide +kernel
theorem dL_isClock_28 : decode cL_isClock 28 = .ok (.ireturn, 1) := by decide +kernel
theorem dL_isClock_29 : decode cL_isClock 29 = .ok (.iload_n 1, 1) := by decide +kernel
theorem dL_isClock_30 : decode cL_isClock 30 = .ok (.aload_n 3, 1) := by decide +kernel
theorem dL_isClock_31 : decode cL_isClock 31 = .ok (.iconst 3, 1) := by decide +kernel
theorem dL_isClock_32 : decode cL_isClock 32 = .ok (.iaload, 1) := by decide +kernel
theorem dL_isClock_33 : decode cL_isClock 33 = .ok (.irem, 1) := by decide +kernel
theorem dL_isClock_34 : decode cL_isClock 34 = .ok (.istore 6, 2) := by decide +kernel
theorem dL_isClock_36 : decode cL_isClock 36 = .ok (.iload_n 2, 1) := by decide +kernel
theorem dL_isClock_37 : decode cL_isClock 37 = .ok (.bipush 16, 2) := by decide +kernel
theorem dL_isClock_39 : decode cL_isClock 39 = .ok (.irem, 1) := by decide +kernel
theorem dL_isClock_40 : decode cL_isClock 40 = .ok (.istore 7, 2) := by decide +kernel
theorem dL_isClock_42 : decode cL_isClock 42 = .ok (.iload_n 2, 1) := by decide +kernel
theorem dL_isClock_43 : decode cL_isClock 43 = .ok (.bipush 16, 2) := by decide +kernel
theorem dL_isClock_45 : decode cL_isClock 45 = .ok (.idiv, 1) := by decide +kernel
theorem dL_isClock_46 : decode cL_isClock 46 = .ok (.bipush 16, 2) := by decide +kernel
theorem dL_isClock_48 : decode cL_isClock 48 = .ok (.irem, 1) := by decide +kernel
theorem dL_isClock_49 : decode cL_isClock 49 = .ok (.istore 8, 2) := by decide +kernel
theorem dL_isClock_51 : decode cL_isClock 51 = .ok (.iload 7, 2) := by decide +kernel
theorem dL_isClock_53 : decode cL_isClock 53 = .ok (.iload_n 2, 1) := by decide +kernel
theorem dL_isClock_54 : decode cL_isClock 54 = .ok (.sipush 256, 3) := by decide +kernel
theorem dL_isClock_57 : decode cL_isClock 57 = .ok (.idiv, 1) := by decide +kernel
theorem dL_isClock_58 : decode cL_isClock 58 = .ok (.bipush 16, 2) := by decide +kernel
theorem dL_isClock_60 : decode cL_isClock 60 = .ok (.iload 7, 2) := by decide +kernel
theorem dL_isClock_62 : decode cL_isClock 62 = .ok (.isub, 1) := by decide +kernel
theorem dL_isClock_63 : decode cL_isClock 63 = .ok (.irem, 1) := by decide +kernel
theorem dL_isClock_64 : decode cL_isClock 64 = .ok (.iadd, 1) := by decide +kernel
theorem dL_isClock_65 : decode cL_isClock 65 = .ok (.istore 9, 2) := by decide +kernel
theorem dL_isClock_67 : decode cL_isClock 67 = .ok (.iload 8, 2) := by decide +kernel
theorem dL_isClock_69 : decode cL_isClock 69 = .ok (.iload_n 2, 1) := by decide +kernel
theorem dL_isClock_70 : decode cL_isClock 70 = .ok (.sipush 4096, 3) := by decide +kernel
theorem dL_isClock_73 : decode cL_isClock 73 = .ok (.idiv, 1) := by decide +kernel
theorem dL_isClock_74 : decode cL_isClock 74 = .ok (.bipush 16, 2) := by decide +kernel
theorem dL_isClock_76 : decode cL_isClock 76 = .ok (.iload 8, 2) := by decide +kernel
theorem dL_isClock_78 : decode cL_isClock 78 = .ok (.isub, 1) := by decide +kernel
theorem dL_isClock_79 : decode cL_isClock 79 = .ok (.irem, 1) := by decide +kernel
theorem dL_isClock_80 : decode cL_isClock 80 = .ok (.iadd, 1) := by decide +kernel
theorem dL_isClock_81 : decode cL_isClock 81 = .ok (.istore 10, 2) := by decide +kernel
theorem dL_isClock_83 : decode cL_isClock 83 = .ok (.iconst 1, 1) := by decide +kernel
theorem dL_isClock_84 : decode cL_isClock 84 = .ok (.iload_n 1, 1) := by decide +kernel
theorem dL_isClock_85 : decode cL_isClock 85 = .ok (.bipush 8, 2) := by decide +kernel
theorem dL_isClock_87 : decode cL_isClock 87 = .ok (.idiv, 1) := by decide +kernel
theorem dL_isClock_88 : decode cL_isClock 88 = .ok (.bipush 7, 2) := by decide +kernel
theorem dL_isClock_90 : decode cL_isClock 90 = .ok (.irem, 1) := by decide +kernel
theorem dL_isClock_91 : decode cL_isClock 91 = .ok (.iadd, 1) := by decide +kernel
theorem dL_isClock_92 : decode cL_isClock 92 = .ok (.istore 11, 2) := by decide +kernel
theorem dL_isClock_94 : decode cL_isClock 94 = .ok (.iconst 0, 1) := by decide +kernel
theorem dL_isClock_95 : decode cL_isClock 95 = .ok (.istore 12, 2) := by decide +kernel
theorem dL_isClock_97 : decode cL_isClock 97 = .ok (.iconst 0, 1) := by decide +kernel
theorem dL_isClock_98 : decode cL_isClock 98 = .ok (.istore 13, 2) := by decide +kernel
theorem dL_isClock_100 : decode cL_isClock 100 = .ok (.iconst 0, 1) := by decide +kernel
theorem dL_isClock_101 : decode cL_isClock 101 = .ok (.istore 14, 2) := by decide +kernel
theorem dL_isClock_103 : decode cL_isClock 103 = .ok (.iload 14, 2) := by decide +kernel
theorem dL_isClock_105 : decode cL_isClock 105 = .ok (.aload_n 3, 1) := by decide +kernel
theorem dL_isClock_106 : decode cL_isClock 106 = .ok (.iconst 0, 1) := by decide +kernel
theorem dL_isClock_107 : decode cL_isClock 107 = .ok (.iaload, 1) := by decide +kernel
theorem dL_isClock_108 : decode cL_isClock 108 = .ok (.if_icmp .ge 134, 3) := by decide +kernel
theorem dL_isClock_111 : decode cL_isClock 111 = .ok (.aload_n 0, 1) := by decide +kernel
theorem dL_isClock_112 : decode cL_isClock 112 = .ok (.iload 14, 2) := by decide +kernel
theorem dL_isClock_114 : decode cL_isClock 114 = .ok (.iconst 3, 1) := by decide +kernel
theorem dL_isClock_115 : decode cL_isClock 115 = .ok (.invokevirtual 16, 3) := by decide +kernel
theorem dL_isClock_118 : decode cL_isClock 118 = .ok (.ifCond .le 73, 3) := by decide +kernel
theorem dL_isClock_121 : decode cL_isClock 121 = .ok (.aload_n 0, 1) := by decide +kernel
theorem dL_isClock_122 : decode cL_isClock 122 = .ok (.iload 14, 2) := by decide +kernel
theorem dL_isClock_124 : decode cL_isClock 124 = .ok (.iconst 3, 1) := by decide +kernel
theorem dL_isClock_125 : decode cL_isClock 125 = .ok (.invokevirtual 16, 3) := by decide +kernel
theorem dL_isClock_128 : decode cL_isClock 128 = .ok (.aload 4, 2) := by decide +kernel
theorem dL_isClock_130 : decode cL_isClock 130 = .ok (.iload 6, 2) := by decide +kernel
theorem dL_isClock_132 : decode cL_isClock 132 = .ok (.iaload, 1) := by decide +kernel
theorem dL_isClock_133 : decode cL_isClock 133 = .ok (.iadd, 1) := by decide +kernel
theorem dL_isClock_134 : decode cL_isClock 134 = .ok (.bipush 9, 2) := by decide +kernel
theorem dL_isClock_136 : decode cL_isClock 136 = .ok (.if_icmp .le 55, 3) := by decide +kernel
theorem dL_isClock_139 : decode cL_isClock 139 = .ok (.aload_n 0, 1) := by decide +kernel
theorem dL_isClock_140 : decode cL_isClock 140 = .ok (.iload 14, 2) := by decide +kernel
theorem dL_isClock_142 : decode cL_isClock 142 = .ok (.iconst 0, 1) := by decide +kernel
theorem dL_isClock_143 : decode cL_isClock 143 = .ok (.invokevirtual 16, 3) := by decide +kernel
theorem dL_isClock_146 : decode cL_isClock 146 = .ok (.iload 7, 2) := by decide +kernel
theorem dL_isClock_148 : decode cL_isClock 148 = .ok (.if_icmp .lt 43, 3) := by decide +kernel
theorem dL_isClock_151 : decode cL_isClock 151 = .ok (.aload_n 0, 1) := by decide +kernel
theorem dL_isClock_152 : decode cL_isClock 152 = .ok (.iload 14, 2) := by decide +kernel
theorem dL_isClock_154 : decode cL_isClock 154 = .ok (.iconst 0, 1) := by decide +kernel
theorem dL_isClock_155 : decode cL_isClock 155 = .ok (.invokevirtual 16, 3) := by decide +kernel
theorem dL_isClock_158 : decode cL_isClock 158 = .ok (.iload 9, 2) := by decide +kernel
theorem dL_isClock_160 : decode cL_isClock 160 = .ok (.if_icmp .gt 31, 3) := by decide +kernel
theorem dL_isClock_163 : decode cL_isClock 163 = .ok (.aload_n 0, 1) := by decide +kernel
theorem dL_isClock_164 : decode cL_isClock 164 = .ok (.iload 14, 2) := by decide +kernel
theorem dL_isClock_166 : decode cL_isClock 166 = .ok (.iconst 1, 1) := by decide +kernel
theorem dL_isClock_167 : decode cL_isClock 167 = .ok (.invokevirtual 16, 3) := by decide +kernel
theorem dL_isClock_170 : decode cL_isClock 170 = .ok (.iload 8, 2) := by decide +kernel
theorem dL_isClock_172 : decode cL_isClock 172 = .ok (.if_icmp .lt 19, 3) := by decide +kernel
theorem dL_isClock_175 : decode cL_isClock 175 = .ok (.aload_n 0, 1) := by decide +kernel
theorem dL_isClock_176 : decode cL_isClock 176 = .ok (.iload 14, 2) := by decide +kernel
theorem dL_isClock_178 : decode cL_isClock 178 = .ok (.iconst 1, 1) := by decide +kernel
theorem dL_isClock_179 : decode cL_isClock 179 = .ok (.invokevirtual 16, 3) := by decide +kernel
theorem dL_isClock_182 : decode cL_isClock 182 = .ok (.iload 10, 2) := by decide +kernel
theorem dL_isClock_184 : decode cL_isClock 184 = .ok (.if_icmp .gt 7, 3) := by decide +kernel
theorem dL_isClock_187 : decode cL_isClock 187 = .ok (.iconst 1, 1) := by decide +kernel
theorem dL_isClock_188 : decode cL_isClock 188 = .ok (.goto 4, 3) := by decide +kernel
theorem dL_isClock_191 : decode cL_isClock 191 = .ok (.iconst 0, 1) := by decide +kernel
theorem dL_isClock_192 : decode cL_isClock 192 = .ok (.istore 15, 2) := by decide +kernel
theorem dL_isClock_194 : decode cL_isClock 194 = .ok (.iload 13, 2) := by decide +kernel
theorem dL_isClock_196 : decode cL_isClock 196 = .ok (.iload 15, 2) := by decide +kernel
theorem dL_isClock_198 : decode cL_isClock 198 = .ok (.ifCond .eq 7, 3) := by decide +kernel
theorem dL_isClock_201 : decode cL_isClock 201 = .ok (.iconst 1, 1) := by decide +kernel
theorem dL_isClock_202 : decode cL_isClock 202 = .ok (.goto 4, 3) := by decide +kernel
theorem dL_isClock_205 : decode cL_isClock 205 = .ok (.iconst 0, 1) := by decide +kernel
theorem dL_isClock_206 : decode cL_isClock 206 = .ok (.iadd, 1) := by decide +kernel
theorem dL_isClock_207 : decode cL_isClock 207 = .ok (.istore 13, 2) := by decide +kernel
theorem dL_isClock_209 : decode cL_isClock 209 = .ok (.iload 12, 2) := by decide +kernel
theorem dL_isClock_211 : decode cL_isClock 211 = .ok (.iload 15, 2) := by decide +kernel
theorem dL_isClock_213 : decode cL_isClock 213 = .ok (.ifCond .eq 19, 3) := by decide +kernel
theorem dL_isClock_216 : decode cL_isClock 216 = .ok (.aload_n 0, 1) := by decide +kernel
theorem dL_isClock_217 : decode cL_isClock 217 = .ok (.iload 14, 2) := by decide +kernel
theorem dL_isClock_219 : decode cL_isClock 219 = .ok (.iconst 2, 1) := by decide +kernel
theorem dL_isClock_220 : decode cL_isClock 220 = .ok (.invokevirtual 16, 3) := by decide +kernel
theorem dL_isClock_223 : decode cL_isClock 223 = .ok (.iload 11, 2) := by decide +kernel
theorem dL_isClock_225 : decode cL_isClock 225 = .ok (.if_icmp .lt 7, 3) := by decide +kernel
theorem dL_isClock_228 : decode cL_isClock 228 = .ok (.iconst 1, 1) := by decide +kernel
theorem dL_isClock_229 : decode cL_isClock 229 = .ok (.goto 4, 3) := by decide +kernel
theorem dL_isClock_232 : decode cL_isClock 232 = .ok (.iconst 0, 1) := by decide +kernel
theorem dL_isClock_233 : decode cL_isClock 233 = .ok (.iadd, 1) := by decide +kernel
theorem dL_isClock_234 : decode cL_isClock 234 = .ok (.istore 12, 2) := by decide +kernel
theorem dL_isClock_236 : decode cL_isClock 236 = .ok (.iinc 14 1, 3) := by decide +kernel
theorem dL_isClock_239 : decode cL_isClock 239 = .ok (.goto (-136), 3) := by decide +kernel
theorem dL_isClock_242 : decode cL_isClock 242 = .ok (.iload 13, 2) := by decide +kernel
theorem dL_isClock_244 : decode cL_isClock 244 = .ok (.i2l, 1) := by decide +kernel
theorem dL_isClock_245 : decode cL_isClock 245 = .ok (.ldc2_w 66, 3) := by decide +kernel
theorem dL_isClock_248 : decode cL_isClock 248 = .ok (.lmul, 1) := by decide +kernel
theorem dL_isClock_249 : decode cL_isClock 249 = .ok (.iload 9, 2) := by decide +kernel
theorem dL_isClock_251 : decode cL_isClock 251 = .ok (.iload 7, 2) := by decide +kernel
theorem dL_isClock_253 : decode cL_isClock 253 = .ok (.isub, 1) := by decide +kernel
theorem dL_isClock_254 : decode cL_isClock 254 = .ok (.iconst 1, 1) := by decide +kernel
theorem dL_isClock_255 : decode cL_isClock 255 = .ok (.iadd, 1) := by decide +kernel
theorem dL_isClock_256 : decode cL_isClock 256 = .ok (.iload 10, 2) := by decide +kernel
theorem dL_isClock_258 : decode cL_isClock 258 = .ok (.iload 8, 2) := by decide +kernel
theorem dL_isClock_260 : decode cL_isClock 260 = .ok (.isub, 1) := by decide +kernel
theorem dL_isClock_261 : decode cL_isClock 261 = .ok (.iconst 1, 1) := by decide +kernel
theorem dL_isClock_262 : decode cL_isClock 262 = .ok (.iadd, 1) := by decide +kernel
theorem dL_isClock_263 : decode cL_isClock 263 = .ok (.imul, 1) := by decide +kernel
theorem dL_isClock_264 : decode cL_isClock 264 = .ok (.i2l, 1) := by decide +kernel
theorem dL_isClock_265 : decode cL_isClock 265 = .ok (.ldiv, 1) := by decide +kernel
theorem dL_isClock_266 : decode cL_isClock 266 = .ok (.lstore 14, 2) := by decide +kernel
theorem dL_isClock_268 : decode cL_isClock 268 = .ok (.aload_n 3, 1) := by decide +kernel
theorem dL_isClock_269 : decode cL_isClock 269 = .ok (.iconst 4, 1) := by decide +kernel
theorem dL_isClock_270 : decode cL_isClock 270 = .ok (.iaload, 1) := by decide +kernel
theorem dL_isClock_271 : decode cL_isClock 271 = .ok (.iconst 2, 1) := by decide +kernel
theorem dL_isClock_272 : decode cL_isClock 272 = .ok (.if_icmp .ge 7, 3) := by decide +kernel
theorem dL_isClock_275 : decode cL_isClock 275 = .ok (.iconst 1, 1) := by decide +kernel
theorem dL_isClock_276 : decode cL_isClock 276 = .ok (.goto 25, 3) := by decide +kernel
theorem dL_isClock_279 : decode cL_isClock 279 = .ok (.lload 14, 2) := by decide +kernel
theorem dL_isClock_281 : decode cL_isClock 281 = .ok (.aload 5, 2) := by decide +kernel
theorem dL_isClock_283 : decode cL_isClock 283 = .ok (.bipush 8, 2) := by decide +kernel
theorem dL_isClock_285 : decode cL_isClock 285 = .ok (.aload_n 3, 1) := by decide +kernel
theorem dL_isClock_286 : decode cL_isClock 286 = .ok (.iconst 4, 1) := by decide +kernel
theorem dL_isClock_287 : decode cL_isClock 287 = .ok (.iaload, 1) := by decide +kernel
theorem dL_isClock_288 : decode cL_isClock 288 = .ok (.iadd, 1) := by decide +kernel
theorem dL_isClock_289 : decode cL_isClock 289 = .ok (.iconst 1, 1) := by decide +kernel
theorem dL_isClock_290 : decode cL_isClock 290 = .ok (.isub, 1) := by decide +kernel
theorem dL_isClock_291 : decode cL_isClock 291 = .ok (.laload, 1) := by decide +kernel
theorem dL_isClock_292 : decode cL_isClock 292 = .ok (.lcmp, 1) := by decide +kernel
theorem dL_isClock_293 : decode cL_isClock 293 = .ok (.ifCond .le 7, 3) := by decide +kernel
theorem dL_isClock_296 : decode cL_isClock 296 = .ok (.iconst 2, 1) := by decide +kernel
theorem dL_isClock_297 : decode cL_isClock 297 = .ok (.goto 4, 3) := by decide +kernel
theorem dL_isClock_300 : decode cL_isClock 300 = .ok (.iconst 0, 1) := by decide +kernel
theorem dL_isClock_301 : decode cL_isClock 301 = .ok (.istore 16, 2) := by decide +kernel
theorem dL_isClock_303 : decode cL_isClock 303 = .ok (.aload_n 0, 1) := by decide +kernel
theorem dL_isClock_304 : decode cL_isClock 304 = .ok (.iconst 0, 1) := by decide +kernel
theorem dL_isClock_305 : decode cL_isClock 305 = .ok (.iload 6, 2) := by decide +kernel
theorem dL_isClock_307 : decode cL_isClock 307 = .ok (.iload 7, 2) := by decide +kernel
theorem dL_isClock_309 : decode cL_isClock 309 = .ok (.iload 8, 2) := by decide +kernel
theorem dL_isClock_311 : decode cL_isClock 311 = .ok (.iload 9, 2) := by decide +kernel
theorem dL_isClock_313 : decode cL_isClock 313 = .ok (.iload 10, 2) := by decide +kernel
theorem dL_isClock_315 : decode cL_isClock 315 = .ok (.invokestatic 47, 3) := by decide +kernel
theorem dL_isClock_318 : decode cL_isClock 318 = .ok (.lstore 17, 2) := by decide +kernel
theorem dL_isClock_320 : decode cL_isClock 320 = .ok (.aload_n 0, 1) := by decide +kernel
theorem dL_isClock_321 : decode cL_isClock 321 = .ok (.iload 6, 2) := by decide +kernel
theorem dL_isClock_323 : decode cL_isClock 323 = .ok (.iload 7, 2) := by decide +kernel
theorem dL_isClock_325 : decode cL_isClock 325 = .ok (.iload 8, 2) := by decide +kernel
theorem dL_isClock_327 : decode cL_isClock 327 = .ok (.iload 9, 2) := by decide +kernel
theorem dL_isClock_329 : decode cL_isClock 329 = .ok (.iload 10, 2) := by decide +kernel
theorem dL_isClock_331 : decode cL_isClock 331 = .ok (.iload 11, 2) := by decide +kernel
theorem dL_isClock_333 : decode cL_isClock 333 = .ok (.invokevirtual 68, 3) := by decide +kernel
theorem dL_isClock_336 : decode cL_isClock 336 = .ok (.iload 12, 2) := by decide +kernel
theorem dL_isClock_338 : decode cL_isClock 338 = .ok (.if_icmp .ne 46, 3) := by decide +kernel
theorem dL_isClock_341 : decode cL_isClock 341 = .ok (.aload_n 0, 1) := by decide +kernel
theorem dL_isClock_342 : decode cL_isClock 342 = .ok (.iload 6, 2) := by decide +kernel
theorem dL_isClock_344 : decode cL_isClock 344 = .ok (.iload 7, 2) := by decide +kernel
theorem dL_isClock_346 : decode cL_isClock 346 = .ok (.iload 8, 2) := by decide +kernel
theorem dL_isClock_348 : decode cL_isClock 348 = .ok (.iload 9, 2) := by decide +kernel
theorem dL_isClock_350 : decode cL_isClock 350 = .ok (.iload 10, 2) := by decide +kernel
theorem dL_isClock_352 : decode cL_isClock 352 = .ok (.iconst 1, 1) := by decide +kernel
theorem dL_isClock_353 : decode cL_isClock 353 = .ok (.invokevirtual 68, 3) := by decide +kernel
theorem dL_isClock_356 : decode cL_isClock 356 = .ok (.iload 13, 2) := by decide +kernel
theorem dL_isClock_358 : decode cL_isClock 358 = .ok (.if_icmp .ne 26, 3) := by decide +kernel
theorem dL_isClock_361 : decode cL_isClock 361 = .ok (.aload_n 0, 1) := by decide +kernel
theorem dL_isClock_362 : decode cL_isClock 362 = .ok (.iload 6, 2) := by decide +kernel
theorem dL_isClock_364 : decode cL_isClock 364 = .ok (.iload 7, 2) := by decide +kernel
theorem dL_isClock_366 : decode cL_isClock 366 = .ok (.iload 8, 2) := by decide +kernel
theorem dL_isClock_368 : decode cL_isClock 368 = .ok (.iload 9, 2) := by decide +kernel
theorem dL_isClock_370 : decode cL_isClock 370 = .ok (.iload 10, 2) := by decide +kernel
theorem dL_isClock_372 : decode cL_isClock 372 = .ok (.invokevirtual 72, 3) := by decide +kernel
theorem dL_isClock_375 : decode cL_isClock 375 = .ok (.iload 16, 2) := by decide +kernel
theorem dL_isClock_377 : decode cL_isClock 377 = .ok (.if_icmp .ne 7, 3) := by decide +kernel
theorem dL_isClock_380 : decode cL_isClock 380 = .ok (.iconst 1, 1) := by decide +kernel
theorem dL_isClock_381 : decode cL_isClock 381 = .ok (.goto 4, 3) := by decide +kernel
theorem dL_isClock_384 : decode cL_isClock 384 = .ok (.iconst 0, 1) := by decide +kernel
theorem dL_isClock_385 : decode cL_isClock 385 = .ok (.istore 19, 2) := by decide +kernel
theorem dL_isClock_387 : decode cL_isClock 387 = .ok (.iload 16, 2) := by decide +kernel
theorem dL_isClock_389 : decode cL_isClock 389 = .ok (.ifCond .le 23, 3) := by decide +kernel
theorem dL_isClock_392 : decode cL_isClock 392 = .ok (.iload 19, 2) := by decide +kernel
theorem dL_isClock_394 : decode cL_isClock 394 = .ok (.ifCond .eq 16, 3) := by decide +kernel
theorem dL_isClock_397 : decode cL_isClock 397 = .ok (.lload 17, 2) := by decide +kernel
theorem dL_isClock_399 : decode cL_isClock 399 = .ok (.ldc2_w 41, 3) := by decide +kernel
theorem dL_isClock_402 : decode cL_isClock 402 = .ok (.lcmp, 1) := by decide +kernel
theorem dL_isClock_403 : decode cL_isClock 403 = .ok (.ifCond .ne 7, 3) := by decide +kernel
theorem dL_isClock_406 : decode cL_isClock 406 = .ok (.iconst 1, 1) := by decide +kernel
theorem dL_isClock_407 : decode cL_isClock 407 = .ok (.goto 4, 3) := by decide +kernel
theorem dL_isClock_410 : decode cL_isClock 410 = .ok (.iconst 0, 1) := by decide +kernel
theorem dL_isClock_411 : decode cL_isClock 411 = .ok (.ireturn, 1) := by decide +kernel
theorem dL_isClock_412 : decode cL_isClock 412 = .ok (.iconst 0, 1) := by decide +kernel
theorem dL_isClock_413 : decode cL_isClock 413 = .ok (.istore 20, 2) := by decide +kernel
theorem dL_isClock_415 : decode cL_isClock 415 = .ok (.iload 20, 2) := by decide +kernel
theorem dL_isClock_417 : decode cL_isClock 417 = .ok (.aload_n 3, 1) := by decide +kernel
theorem dL_isClock_418 : decode cL_isClock 418 = .ok (.iconst 4, 1) := by decide +kernel
theorem dL_isClock_419 : decode cL_isClock 419 = .ok (.iaload, 1) := by decide +kernel
theorem dL_isClock_420 : decode cL_isClock 420 = .ok (.if_icmp .ge 98, 3) := by decide +kernel
theorem dL_isClock_423 : decode cL_isClock 423 = .ok (.iload 19, 2) := by decide +kernel
theorem dL_isClock_425 : decode cL_isClock 425 = .ok (.ifCond .eq 93, 3) := by decide +kernel
theorem dL_isClock_428 : decode cL_isClock 428 = .ok (.lload 14, 2) := by decide +kernel
theorem dL_isClock_430 : decode cL_isClock 430 = .ok (.aload 5, 2) := by decide +kernel
theorem dL_isClock_432 : decode cL_isClock 432 = .ok (.bipush 8, 2) := by decide +kernel
theorem dL_isClock_434 : decode cL_isClock 434 = .ok (.iload 20, 2) := by decide +kernel
theorem dL_isClock_436 : decode cL_isClock 436 = .ok (.iadd, 1) := by decide +kernel
theorem dL_isClock_437 : decode cL_isClock 437 = .ok (.laload, 1) := by decide +kernel
theorem dL_isClock_438 : decode cL_isClock 438 = .ok (.lcmp, 1) := by decide +kernel
theorem dL_isClock_439 : decode cL_isClock 439 = .ok (.ifCond .ge 22, 3) := by decide +kernel
theorem dL_isClock_442 : decode cL_isClock 442 = .ok (.lload 17, 2) := by decide +kernel
theorem dL_isClock_444 : decode cL_isClock 444 = .ok (.aload 5, 2) := by decide +kernel
theorem dL_isClock_446 : decode cL_isClock 446 = .ok (.iload 20, 2) := by decide +kernel
theorem dL_isClock_448 : decode cL_isClock 448 = .ok (.laload, 1) := by decide +kernel
theorem dL_isClock_449 : decode cL_isClock 449 = .ok (.lcmp, 1) := by decide +kernel
theorem dL_isClock_450 : decode cL_isClock 450 = .ok (.ifCond .gt 7, 3) := by decide +kernel
theorem dL_isClock_453 : decode cL_isClock 453 = .ok (.iconst 1, 1) := by decide +kernel
theorem dL_isClock_454 : decode cL_isClock 454 = .ok (.goto 56, 3) := by decide +kernel
theorem dL_isClock_457 : decode cL_isClock 457 = .ok (.iconst 0, 1) := by decide +kernel
theorem dL_isClock_458 : decode cL_isClock 458 = .ok (.goto 52, 3) := by decide +kernel
theorem dL_isClock_461 : decode cL_isClock 461 = .ok (.lload 14, 2) := by decide +kernel
theorem dL_isClock_463 : decode cL_isClock 463 = .ok (.aload 5, 2) := by decide +kernel
theorem dL_isClock_465 : decode cL_isClock 465 = .ok (.bipush 8, 2) := by decide +kernel
theorem dL_isClock_467 : decode cL_isClock 467 = .ok (.iload 20, 2) := by decide +kernel
theorem dL_isClock_469 : decode cL_isClock 469 = .ok (.iadd, 1) := by decide +kernel
theorem dL_isClock_470 : decode cL_isClock 470 = .ok (.laload, 1) := by decide +kernel
theorem dL_isClock_471 : decode cL_isClock 471 = .ok (.lcmp, 1) := by decide +kernel
theorem dL_isClock_472 : decode cL_isClock 472 = .ok (.ifCond .le 22, 3) := by decide +kernel
theorem dL_isClock_475 : decode cL_isClock 475 = .ok (.lload 17, 2) := by decide +kernel
theorem dL_isClock_477 : decode cL_isClock 477 = .ok (.aload 5, 2) := by decide +kernel
theorem dL_isClock_479 : decode cL_isClock 479 = .ok (.iload 20, 2) := by decide +kernel
theorem dL_isClock_481 : decode cL_isClock 481 = .ok (.laload, 1) := by decide +kernel
theorem dL_isClock_482 : decode cL_isClock 482 = .ok (.lcmp, 1) := by decide +kernel
theorem dL_isClock_483 : decode cL_isClock 483 = .ok (.ifCond .lt 7, 3) := by decide +kernel
theorem dL_isClock_486 : decode cL_isClock 486 = .ok (.iconst 1, 1) := by decide +kernel
theorem dL_isClock_487 : decode cL_isClock 487 = .ok (.goto 23, 3) := by decide +kernel
theorem dL_isClock_490 : decode cL_isClock 490 = .ok (.iconst 0, 1) := by decide +kernel
theorem dL_isClock_491 : decode cL_isClock 491 = .ok (.goto 19, 3) := by decide +kernel
theorem dL_isClock_494 : decode cL_isClock 494 = .ok (.lload 17, 2) := by decide +kernel
theorem dL_isClock_496 : decode cL_isClock 496 = .ok (.aload 5, 2) := by decide +kernel
theorem dL_isClock_498 : decode cL_isClock 498 = .ok (.iload 20, 2) := by decide +kernel
theorem dL_isClock_500 : decode cL_isClock 500 = .ok (.laload, 1) := by decide +kernel
theorem dL_isClock_501 : decode cL_isClock 501 = .ok (.lcmp, 1) := by decide +kernel
theorem dL_isClock_502 : decode cL_isClock 502 = .ok (.ifCond .ne 7, 3) := by decide +kernel
theorem dL_isClock_505 : decode cL_isClock 505 = .ok (.iconst 1, 1) := by decide +kernel
theorem dL_isClock_506 : decode cL_isClock 506 = .ok (.goto 4, 3) := by decide +kernel
theorem dL_isClock_509 : decode cL_isClock 509 = .ok (.iconst 0, 1) := by decide +kernel
theorem dL_isClock_510 : decode cL_isClock 510 = .ok (.istore 19, 2) := by decide +kernel
theorem dL_isClock_512 : decode cL_isClock 512 = .ok (.iinc 20 1, 3) := by decide +kernel
theorem dL_isClock_515 : decode cL_isClock 515 = .ok (.goto (-100), 3) := by decide +kernel
theorem dL_isClock_518 : decode cL_isClock 518 = .ok (.iload 19, 2) := by decide +kernel
theorem dL_isClock_520 : decode cL_isClock 520 = .ok (.ifCond .eq 58, 3) := by decide +kernel
theorem dL_isClock_523 : decode cL_isClock 523 = .ok (.lload 17, 2) := by decide +kernel
theorem dL_isClock_525 : decode cL_isClock 525 = .ok (.lconst 0, 1) := by decide +kernel
theorem dL_isClock_526 : decode cL_isClock 526 = .ok (.lcmp, 1) := by decide +kernel
theorem dL_isClock_527 : decode cL_isClock 527 = .ok (.ifCond .lt 51, 3) := by decide +kernel
theorem dL_isClock_530 : decode cL_isClock 530 = .ok (.lload 14, 2) := by decide +kernel
theorem dL_isClock_532 : decode cL_isClock 532 = .ok (.lconst 0, 1) := by decide +kernel
theorem dL_isClock_533 : decode cL_isClock 533 = .ok (.lcmp, 1) := by decide +kernel
theorem dL_isClock_534 : decode cL_isClock 534 = .ok (.ifCond .gt 10, 3) := by decide +kernel
theorem dL_isClock_537 : decode cL_isClock 537 = .ok (.lload 17, 2) := by decide +kernel
theorem dL_isClock_539 : decode cL_isClock 539 = .ok (.lconst 0, 1) := by decide +kernel
theorem dL_isClock_540 : decode cL_isClock 540 = .ok (.lcmp, 1) := by decide +kernel
theorem dL_isClock_541 : decode cL_isClock 541 = .ok (.ifCond .ne 37, 3) := by decide +kernel
theorem dL_isClock_544 : decode cL_isClock 544 = .ok (.lload 14, 2) := by decide +kernel
theorem dL_isClock_546 : decode cL_isClock 546 = .ok (.aload 5, 2) := by decide +kernel
theorem dL_isClock_548 : decode cL_isClock 548 = .ok (.bipush 8, 2) := by decide +kernel
theorem dL_isClock_550 : decode cL_isClock 550 = .ok (.laload, 1) := by decide +kernel
theorem dL_isClock_551 : decode cL_isClock 551 = .ok (.lcmp, 1) := by decide +kernel
theorem dL_isClock_552 : decode cL_isClock 552 = .ok (.ifCond .gt 22, 3) := by decide +kernel
theorem dL_isClock_555 : decode cL_isClock 555 = .ok (.lload 17, 2) := by decide +kernel
theorem dL_isClock_557 : decode cL_isClock 557 = .ok (.aload 5, 2) := by decide +kernel
theorem dL_isClock_559 : decode cL_isClock 559 = .ok (.iconst 0, 1) := by decide +kernel
theorem dL_isClock_560 : decode cL_isClock 560 = .ok (.laload, 1) := by decide +kernel
theorem dL_isClock_561 : decode cL_isClock 561 = .ok (.lload 14, 2) := by decide +kernel
theorem dL_isClock_563 : decode cL_isClock 563 = .ok (.lmul, 1) := by decide +kernel
theorem dL_isClock_564 : decode cL_isClock 564 = .ok (.aload 5, 2) := by decide +kernel
theorem dL_isClock_566 : decode cL_isClock 566 = .ok (.bipush 8, 2) := by decide +kernel
theorem dL_isClock_568 : decode cL_isClock 568 = .ok (.laload, 1) := by decide +kernel
theorem dL_isClock_569 : decode cL_isClock 569 = .ok (.ldiv, 1) := by decide +kernel
theorem dL_isClock_570 : decode cL_isClock 570 = .ok (.lcmp, 1) := by decide +kernel
theorem dL_isClock_571 : decode cL_isClock 571 = .ok (.ifCond .ne 7, 3) := by decide +kernel
theorem dL_isClock_574 : decode cL_isClock 574 = .ok (.iconst 1, 1) := by decide +kernel
theorem dL_isClock_575 : decode cL_isClock 575 = .ok (.goto 4, 3) := by decide +kernel
theorem dL_isClock_578 : decode cL_isClock 578 = .ok (.iconst 0, 1) := by decide +kernel
theorem dL_isClock_579 : decode cL_isClock 579 = .ok (.ireturn, 1) := by decide +kernel
theorem dL_groundOf_0 : decode cL_groundOf 0 = .ok (.aload_n 0, 1) := by decide +kernel
theorem dL_groundOf_1 : decode cL_groundOf 1 = .ok (.iload_n 1, 1) := by decide +kernel
theorem dL_groundOf_2 : decode cL_groundOf 2 = .ok (.iaload, 1) := by decide +kernel
theorem dL_groundOf_3 : decode cL_groundOf 3 = .ok (.iconst 2, 1) := by decide +kernel
theorem dL_groundOf_4 : decode cL_groundOf 4 = .ok (.iload_n 2, 1) := by decide +kernel
theorem dL_groundOf_5 : decode cL_groundOf 5 = .ok (.bipush 8, 2) := by decide +kernel
theorem dL_groundOf_7 : decode cL_groundOf 7 = .ok (.irem, 1) := by decide +kernel
theorem dL_groundOf_8 : decode cL_groundOf 8 = .ok (.imul, 1) := by decide +kernel
theorem dL_groundOf_9 : decode cL_groundOf 9 = .ok (.iload_n 2, 1) := by decide +kernel
theorem dL_groundOf_10 : decode cL_groundOf 10 = .ok (.bipush 7, 2) := by decide +kernel
theorem dL_groundOf_12 : decode cL_groundOf 12 = .ok (.if_icmp .le 8, 3) := by decide +kernel
theorem dL_groundOf_15 : decode cL_groundOf 15 = .ok (.bipush 16, 2) := by decide +kernel
theorem dL_groundOf_17 : decode cL_groundOf 17 = .ok (.goto 4, 3) := by decide +kernel
theorem dL_groundOf_20 : decode cL_groundOf 20 = .ok (.iconst 0, 1) := by decide +kernel
theorem dL_groundOf_21 : decode cL_groundOf 21 = .ok (.iadd, 1) := by decide +kernel
theorem dL_groundOf_22 : decode cL_groundOf 22 = .ok (.ishr, 1) := by decide +kernel
theorem dL_groundOf_23 : decode cL_groundOf 23 = .ok (.iconst 3, 1) := by decide +kernel
theorem dL_groundOf_24 : decode cL_groundOf 24 = .ok (.iand, 1) := by decide +kernel
theorem dL_groundOf_25 : decode cL_groundOf 25 = .ok (.ireturn, 1) := by decide +kernel
set_option maxRecDepth 20000 in
theorem ggL_stones_L_groundOf : GoodIn wsL_stones wsL_groundOf := goodIn_r _ [4] (by decide +kernel) (by decide +kernel)
set_option maxRecDepth 20000 in
theorem gL_stones_L_groundOf : GoodIn wsL_stones (va_wsS RL 75 yL_groundOf wsL_groundOf) := goodIn_app (goodIn_of _ (by decide +kernel)) ggL_stones_L_groundOf
set_option maxRecDepth 20000 in
theorem ggL_stones_X9_about : GoodIn wsL_stones wsX9_about := goodIn_ca (goodIn_ca (goodIn_r _ [9, 10, 11, 12, 13, 14, 15, 16, 17, 18, 19, 8, 20, 21, 22, 23, 24, 25, 26, 27, 28, 29, 30, 31, 32, 33, 34, 35, 36, 37, 38, 39, 40, 41, 42, 43, 44, 45, 46, 47, 48, 49, 50, 174, 175, 176, 177, 178, 179, 180, 181, 182, 183, 184, 185, 186, 187, 188] (by decide +kernel) (by decide +kernel)) (goodIn_sub (fun _ h => List.mem_cons_of_mem _ (List.mem_append_left _ (List.mem_append_left _ (List.mem_append_right _ h)))) (by decide +kernel))) (goodIn_sub (fun _ h => List.mem_cons_of_mem _ (List.mem_append_left _ (List.mem_append_right _ h))) (by decide +kernel))
set_option maxRecDepth 20000 in
theorem gL_stones_X9_about : GoodIn wsL_stones (wsV RL 16 RX9 yX9_about wsX9_about) := goodIn_app (goodIn_of _ (by decide +kernel)) ggL_stones_X9_about
set_option maxRecDepth 20000 in
theorem ggL_stones_X9_stone : GoodIn wsL_stones wsX9_stone := goodIn_ca (goodIn_ca (goodIn_ca (goodIn_r _ [54, 55, 56, 57, 8, 58, 21, 22, 29, 30, 31, 32, 33, 59, 60, 61, 62, 63, 64, 11, 23, 24, 25, 26, 27, 28, 65, 66, 67, 68, 69, 70, 71, 72, 12, 73, 74, 75, 76, 77, 78, 79, 80, 81, 82, 83, 84, 85, 86, 87, 88, 89, 90, 91, 92, 93, 94, 95, 96, 97, 98, 99, 100, 34, 35, 36, 37, 38, 39, 40, 41, 42, 43, 44, 45, 46, 47, 48, 49, 50, 101, 102, 103, 104, 105, 106, 107, 108, 109, 110, 111, 112, 113, 114, 115, 116, 117, 118, 119, 120, 121, 122, 123, 124, 125, 126, 127, 128, 129, 130, 131, 132, 133, 134, 135, 136, 137, 138, 139, 140, 141, 142, 143, 144, 145, 146, 147, 148, 149, 150, 151, 152, 153, 154, 155, 156, 157, 158, 159, 160, 161, 162, 174, 175, 176, 177, 178, 179, 186, 187, 188, 180, 181, 182, 183, 184, 185, 189] (by decide +kernel) (by decide +kernel)) (goodIn_sub (fun _ h => List.mem_cons_of_mem _ (List.mem_append_left _ (List.mem_append_left _ (List.mem_append_right _ h)))) (by decide +kernel))) (goodIn_sub (fun _ h => List.mem_cons_of_mem _ (List.mem_append_left _ (List.mem_append_right _ h))) (by decide +kernel))) (goodIn_sub (fun _ h => List.mem_cons_of_mem _ (List.mem_append_right _ h)) (by decide +kernel))
set_option maxRecDepth 20000 in
theorem gL_stones_X9_stone : GoodIn wsL_stones (wsV RL 79 RX9 yX9_stone wsX9_stone) := goodIn_app (goodIn_of _ (by decide +kernel)) ggL_stones_X9_stone
set_option maxRecDepth 20000 in
theorem ggL_stones_L_far : GoodIn wsL_stones wsL_far := goodIn_ca (goodIn_ca (goodIn_r _ [165, 5, 6, 7, 8, 9, 10, 11, 12, 13, 14, 15, 16, 17, 18, 19, 20, 21, 22, 23, 24, 25, 26, 27, 28, 29, 30, 31, 32, 33, 34, 35, 36, 37, 38, 39, 40, 41, 42, 43, 44, 45, 46, 47, 48, 49, 50, 174, 175, 176, 177, 178, 179, 180, 181, 182, 183, 184, 185, 186, 187, 188] (by decide +kernel) (by decide +kernel)) (goodIn_sub (fun _ h => List.mem_cons_of_mem _ (List.mem_append_left _ (List.mem_append_left _ (List.mem_append_right _ h)))) (by decide +kernel))) (goodIn_sub (fun _ h => List.mem_cons_of_mem _ (List.mem_append_left _ (List.mem_append_right _ h))) (by decide +kernel))
set_option maxRecDepth 20000 in
theorem gL_stones_L_far : GoodIn wsL_stones (va_wsS RL 56 yL_far wsL_far) := goodIn_app (goodIn_of _ (by decide +kernel)) ggL_stones_L_far
set_option maxRecDepth 20000 in
theorem ggL_stones_X9_top : GoodIn wsL_stones wsX9_top := goodIn_ca (goodIn_r _ [169, 11, 12, 16, 56, 57, 8, 58, 21, 22, 23, 24, 25, 26, 27, 28, 34, 35, 36, 37, 38, 39, 40, 41, 42, 43, 44, 45, 46, 47, 48, 49, 50, 170, 171, 172, 71, 173, 88, 105, 106, 107, 108, 85, 86, 174, 175, 176, 177, 178, 179, 180, 181, 182, 183, 184, 185, 186, 187, 188] (by decide +kernel) (by decide +kernel)) (goodIn_sub (fun _ h => List.mem_cons_of_mem _ (List.mem_append_left _ (List.mem_append_left _ (List.mem_append_right _ h)))) (by decide +kernel))
set_option maxRecDepth 20000 in
theorem gL_stones_X9_top : GoodIn wsL_stones (wsV RL 60 RX9 yX9_top wsX9_top) := goodIn_app (goodIn_of _ (by decide +kernel)) ggL_stones_X9_top
theorem dL_stones_0 : decode cL_stones 0 = .ok (.iload_n 1, 1) := by decide +kernel
theorem dL_stones_1 : decode cL_stones 1 = .ok (.bipush 16, 2) := by decide +kernel
theorem dL_stones_3 : decode cL_stones 3 = .ok (.irem, 1) := by decide +kernel
theorem dL_stones_4 : decode cL_stones 4 = .ok (.istore 6, 2) := by decide +kernel
theorem dL_stones_6 : decode cL_stones 6 = .ok (.iload_n 1, 1) := by decide +kernel
theorem dL_stones_7 : decode cL_stones 7 = .ok (.bipush 16, 2) := by decide +kernel
theorem dL_stones_9 : decode cL_stones 9 = .ok (.idiv, 1) := by decide +kernel
theorem dL_stones_10 : decode cL_stones 10 = .ok (.bipush 16, 2) := by decide +kernel
theorem dL_stones_12 : decode cL_stones 12 = .ok (.irem, 1) := by decide +kernel
theorem dL_stones_13 : decode cL_stones 13 = .ok (.istore 7, 2) := by decide +kernel
theorem dL_stones_15 : decode cL_stones 15 = .ok (.iconst 1, 1) := by decide +kernel
theorem dL_stones_16 : decode cL_stones 16 = .ok (.iload_n 2, 1) := by decide +kernel
theorem dL_stones_17 : decode cL_stones 17 = .ok (.bipush 6, 2) := by decide +kernel
theorem dL_stones_19 : decode cL_stones 19 = .ok (.irem, 1) := by decide +kernel
theorem dL_stones_20 : decode cL_stones 20 = .ok (.iadd, 1) := by decide +kernel
theorem dL_stones_21 : decode cL_stones 21 = .ok (.istore 8, 2) := by decide +kernel
theorem dL_stones_23 : decode cL_stones 23 = .ok (.aload 4, 2) := by decide +kernel
theorem dL_stones_25 : decode cL_stones 25 = .ok (.iload 6, 2) := by decide +kernel
theorem dL_stones_27 : decode cL_stones 27 = .ok (.iload 7, 2) := by decide +kernel
theorem dL_stones_29 : decode cL_stones 29 = .ok (.invokestatic 75, 3) := by decide +kernel
theorem dL_stones_32 : decode cL_stones 32 = .ok (.istore 9, 2) := by decide +kernel
theorem dL_stones_34 : decode cL_stones 34 = .ok (.iload 9, 2) := by decide +kernel
theorem dL_stones_36 : decode cL_stones 36 = .ok (.ifCond .ne 8, 3) := by decide +kernel
theorem dL_stones_39 : decode cL_stones 39 = .ok (.iload 8, 2) := by decide +kernel
theorem dL_stones_41 : decode cL_stones 41 = .ok (.goto 30, 3) := by decide +kernel
theorem dL_stones_44 : decode cL_stones 44 = .ok (.iload 9, 2) := by decide +kernel
theorem dL_stones_46 : decode cL_stones 46 = .ok (.iconst 2, 1) := by decide +kernel
theorem dL_stones_47 : decode cL_stones 47 = .ok (.if_icmp .ne 10, 3) := by decide +kernel
theorem dL_stones_50 : decode cL_stones 50 = .ok (.iload 8, 2) := by decide +kernel
theorem dL_stones_52 : decode cL_stones 52 = .ok (.iconst 1, 1) := by decide +kernel
theorem dL_stones_53 : decode cL_stones 53 = .ok (.iadd, 1) := by decide +kernel
theorem dL_stones_54 : decode cL_stones 54 = .ok (.goto 17, 3) := by decide +kernel
theorem dL_stones_57 : decode cL_stones 57 = .ok (.iload 8, 2) := by decide +kernel
theorem dL_stones_59 : decode cL_stones 59 = .ok (.iconst 1, 1) := by decide +kernel
theorem dL_stones_60 : decode cL_stones 60 = .ok (.if_icmp .le 10, 3) := by decide +kernel
theorem dL_stones_63 : decode cL_stones 63 = .ok (.iload 8, 2) := by decide +kernel
theorem dL_stones_65 : decode cL_stones 65 = .ok (.iconst 1, 1) := by decide +kernel
theorem dL_stones_66 : decode cL_stones 66 = .ok (.isub, 1) := by decide +kernel
theorem dL_stones_67 : decode cL_stones 67 = .ok (.goto 4, 3) := by decide +kernel
theorem dL_stones_70 : decode cL_stones 70 = .ok (.iconst 1, 1) := by decide +kernel
theorem dL_stones_71 : decode cL_stones 71 = .ok (.istore 10, 2) := by decide +kernel
theorem dL_stones_73 : decode cL_stones 73 = .ok (.iconst 0, 1) := by decide +kernel
theorem dL_stones_74 : decode cL_stones 74 = .ok (.istore 11, 2) := by decide +kernel
theorem dL_stones_76 : decode cL_stones 76 = .ok (.iload 11, 2) := by decide +kernel
theorem dL_stones_78 : decode cL_stones 78 = .ok (.aload_n 3, 1) := by decide +kernel
theorem dL_stones_79 : decode cL_stones 79 = .ok (.iconst 0, 1) := by decide +kernel
theorem dL_stones_80 : decode cL_stones 80 = .ok (.iaload, 1) := by decide +kernel
theorem dL_stones_81 : decode cL_stones 81 = .ok (.if_icmp .ge 21, 3) := by decide +kernel
theorem dL_stones_84 : decode cL_stones 84 = .ok (.aload 5, 2) := by decide +kernel
theorem dL_stones_86 : decode cL_stones 86 = .ok (.iload 11, 2) := by decide +kernel
theorem dL_stones_88 : decode cL_stones 88 = .ok (.aload_n 0, 1) := by decide +kernel
theorem dL_stones_89 : decode cL_stones 89 = .ok (.iload 11, 2) := by decide +kernel
theorem dL_stones_91 : decode cL_stones 91 = .ok (.iconst 3, 1) := by decide +kernel
theorem dL_stones_92 : decode cL_stones 92 = .ok (.invokevirtual 16, 3) := by decide +kernel
theorem dL_stones_95 : decode cL_stones 95 = .ok (.iastore, 1) := by decide +kernel
theorem dL_stones_96 : decode cL_stones 96 = .ok (.iinc 11 1, 3) := by decide +kernel
theorem dL_stones_99 : decode cL_stones 99 = .ok (.goto (-23), 3) := by decide +kernel
theorem dL_stones_102 : decode cL_stones 102 = .ok (.aload_n 0, 1) := by decide +kernel
theorem dL_stones_103 : decode cL_stones 103 = .ok (.iload 6, 2) := by decide +kernel
theorem dL_stones_105 : decode cL_stones 105 = .ok (.iload 7, 2) := by decide +kernel
theorem dL_stones_107 : decode cL_stones 107 = .ok (.iload 8, 2) := by decide +kernel
theorem dL_stones_109 : decode cL_stones 109 = .ok (.invokevirtual 79, 3) := by decide +kernel
theorem dL_stones_112 : decode cL_stones 112 = .ok (.istore 11, 2) := by decide +kernel
theorem dL_stones_114 : decode cL_stones 114 = .ok (.iconst 0, 1) := by decide +kernel
theorem dL_stones_115 : decode cL_stones 115 = .ok (.istore 12, 2) := by decide +kernel
theorem dL_stones_117 : decode cL_stones 117 = .ok (.iconst 1, 1) := by decide +kernel
theorem dL_stones_118 : decode cL_stones 118 = .ok (.istore 13, 2) := by decide +kernel
theorem dL_stones_120 : decode cL_stones 120 = .ok (.iconst 0, 1) := by decide +kernel
theorem dL_stones_121 : decode cL_stones 121 = .ok (.istore 14, 2) := by decide +kernel
theorem dL_stones_123 : decode cL_stones 123 = .ok (.iload 14, 2) := by decide +kernel
theorem dL_stones_125 : decode cL_stones 125 = .ok (.aload_n 3, 1) := by decide +kernel
theorem dL_stones_126 : decode cL_stones 126 = .ok (.iconst 0, 1) := by decide +kernel
theorem dL_stones_127 : decode cL_stones 127 = .ok (.iaload, 1) := by decide +kernel
theorem dL_stones_128 : decode cL_stones 128 = .ok (.if_icmp .ge 147, 3) := by decide +kernel
theorem dL_stones_131 : decode cL_stones 131 = .ok (.iload 13, 2) := by decide +kernel
theorem dL_stones_133 : decode cL_stones 133 = .ok (.ifCond .eq 142, 3) := by decide +kernel
theorem dL_stones_136 : decode cL_stones 136 = .ok (.aload_n 0, 1) := by decide +kernel
theorem dL_stones_137 : decode cL_stones 137 = .ok (.iload 14, 2) := by decide +kernel
theorem dL_stones_139 : decode cL_stones 139 = .ok (.iload 6, 2) := by decide +kernel
theorem dL_stones_141 : decode cL_stones 141 = .ok (.iload 7, 2) := by decide +kernel
theorem dL_stones_143 : decode cL_stones 143 = .ok (.invokestatic 56, 3) := by decide +kernel
theorem dL_stones_146 : decode cL_stones 146 = .ok (.istore 15, 2) := by decide +kernel
theorem dL_stones_148 : decode cL_stones 148 = .ok (.aload_n 0, 1) := by decide +kernel
theorem dL_stones_149 : decode cL_stones 149 = .ok (.iload 14, 2) := by decide +kernel
theorem dL_stones_151 : decode cL_stones 151 = .ok (.iconst 2, 1) := by decide +kernel
theorem dL_stones_152 : decode cL_stones 152 = .ok (.invokevirtual 16, 3) := by decide +kernel
theorem dL_stones_155 : decode cL_stones 155 = .ok (.iload 10, 2) := by decide +kernel
theorem dL_stones_157 : decode cL_stones 157 = .ok (.iadd, 1) := by decide +kernel
theorem dL_stones_158 : decode cL_stones 158 = .ok (.istore 16, 2) := by decide +kernel
theorem dL_stones_160 : decode cL_stones 160 = .ok (.aload_n 0, 1) := by decide +kernel
theorem dL_stones_161 : decode cL_stones 161 = .ok (.iload 14, 2) := by decide +kernel
theorem dL_stones_163 : decode cL_stones 163 = .ok (.iconst 2, 1) := by decide +kernel
theorem dL_stones_164 : decode cL_stones 164 = .ok (.invokevirtual 16, 3) := by decide +kernel
theorem dL_stones_167 : decode cL_stones 167 = .ok (.iload 10, 2) := by decide +kernel
theorem dL_stones_169 : decode cL_stones 169 = .ok (.if_icmp .gt 17, 3) := by decide +kernel
theorem dL_stones_172 : decode cL_stones 172 = .ok (.iload 15, 2) := by decide +kernel
theorem dL_stones_174 : decode cL_stones 174 = .ok (.iload 10, 2) := by decide +kernel
theorem dL_stones_176 : decode cL_stones 176 = .ok (.iload 10, 2) := by decide +kernel
theorem dL_stones_178 : decode cL_stones 178 = .ok (.imul, 1) := by decide +kernel
theorem dL_stones_179 : decode cL_stones 179 = .ok (.if_icmp .gt 7, 3) := by decide +kernel
theorem dL_stones_182 : decode cL_stones 182 = .ok (.iconst 0, 1) := by decide +kernel
theorem dL_stones_183 : decode cL_stones 183 = .ok (.goto 29, 3) := by decide +kernel
theorem dL_stones_186 : decode cL_stones 186 = .ok (.iload 15, 2) := by decide +kernel
theorem dL_stones_188 : decode cL_stones 188 = .ok (.iload 16, 2) := by decide +kernel
theorem dL_stones_190 : decode cL_stones 190 = .ok (.iload 16, 2) := by decide +kernel
theorem dL_stones_192 : decode cL_stones 192 = .ok (.imul, 1) := by decide +kernel
theorem dL_stones_193 : decode cL_stones 193 = .ok (.if_icmp .gt 14, 3) := by decide +kernel
theorem dL_stones_196 : decode cL_stones 196 = .ok (.aload 5, 2) := by decide +kernel
theorem dL_stones_198 : decode cL_stones 198 = .ok (.iload 14, 2) := by decide +kernel
theorem dL_stones_200 : decode cL_stones 200 = .ok (.iaload, 1) := by decide +kernel
theorem dL_stones_201 : decode cL_stones 201 = .ok (.iload 8, 2) := by decide +kernel
theorem dL_stones_203 : decode cL_stones 203 = .ok (.isub, 1) := by decide +kernel
theorem dL_stones_204 : decode cL_stones 204 = .ok (.goto 8, 3) := by decide +kernel
theorem dL_stones_207 : decode cL_stones 207 = .ok (.aload 5, 2) := by decide +kernel
theorem dL_stones_209 : decode cL_stones 209 = .ok (.iload 14, 2) := by decide +kernel
theorem dL_stones_211 : decode cL_stones 211 = .ok (.iaload, 1) := by decide +kernel
theorem dL_stones_212 : decode cL_stones 212 = .ok (.istore 17, 2) := by decide +kernel
theorem dL_stones_214 : decode cL_stones 214 = .ok (.iload 17, 2) := by decide +kernel
theorem dL_stones_216 : decode cL_stones 216 = .ok (.ifCond .ge 7, 3) := by decide +kernel
theorem dL_stones_219 : decode cL_stones 219 = .ok (.iconst 0, 1) := by decide +kernel
theorem dL_stones_220 : decode cL_stones 220 = .ok (.goto 5, 3) := by decide +kernel
theorem dL_stones_223 : decode cL_stones 223 = .ok (.iload 17, 2) := by decide +kernel
theorem dL_stones_225 : decode cL_stones 225 = .ok (.istore 17, 2) := by decide +kernel
theorem dL_stones_227 : decode cL_stones 227 = .ok (.iload 12, 2) := by decide +kernel
theorem dL_stones_229 : decode cL_stones 229 = .ok (.aload 5, 2) := by decide +kernel
theorem dL_stones_231 : decode cL_stones 231 = .ok (.iload 14, 2) := by decide +kernel
theorem dL_stones_233 : decode cL_stones 233 = .ok (.iaload, 1) := by decide +kernel
theorem dL_stones_234 : decode cL_stones 234 = .ok (.ifCond .le 12, 3) := by decide +kernel
theorem dL_stones_237 : decode cL_stones 237 = .ok (.iload 17, 2) := by decide +kernel
theorem dL_stones_239 : decode cL_stones 239 = .ok (.ifCond .ne 7, 3) := by decide +kernel
theorem dL_stones_242 : decode cL_stones 242 = .ok (.iconst 1, 1) := by decide +kernel
theorem dL_stones_243 : decode cL_stones 243 = .ok (.goto 4, 3) := by decide +kernel
theorem dL_stones_246 : decode cL_stones 246 = .ok (.iconst 0, 1) := by decide +kernel
theorem dL_stones_247 : decode cL_stones 247 = .ok (.iadd, 1) := by decide +kernel
theorem dL_stones_248 : decode cL_stones 248 = .ok (.istore 12, 2) := by decide +kernel
theorem dL_stones_250 : decode cL_stones 250 = .ok (.aload_n 0, 1) := by decide +kernel
theorem dL_stones_251 : decode cL_stones 251 = .ok (.iload 14, 2) := by decide +kernel
theorem dL_stones_253 : decode cL_stones 253 = .ok (.iconst 3, 1) := by decide +kernel
theorem dL_stones_254 : decode cL_stones 254 = .ok (.invokevirtual 16, 3) := by decide +kernel
theorem dL_stones_257 : decode cL_stones 257 = .ok (.iload 17, 2) := by decide +kernel
theorem dL_stones_259 : decode cL_stones 259 = .ok (.if_icmp .ne 7, 3) := by decide +kernel
theorem dL_stones_262 : decode cL_stones 262 = .ok (.iconst 1, 1) := by decide +kernel
theorem dL_stones_263 : decode cL_stones 263 = .ok (.goto 4, 3) := by decide +kernel
theorem dL_stones_266 : decode cL_stones 266 = .ok (.iconst 0, 1) := by decide +kernel
theorem dL_stones_267 : decode cL_stones 267 = .ok (.istore 13, 2) := by decide +kernel
theorem dL_stones_269 : decode cL_stones 269 = .ok (.iinc 14 1, 3) := by decide +kernel
theorem dL_stones_272 : decode cL_stones 272 = .ok (.goto (-149), 3) := by decide +kernel
theorem dL_stones_275 : decode cL_stones 275 = .ok (.aload_n 3, 1) := by decide +kernel
theorem dL_stones_276 : decode cL_stones 276 = .ok (.iconst 0, 1) := by decide +kernel
theorem dL_stones_277 : decode cL_stones 277 = .ok (.dup2, 1) := by decide +kernel
theorem dL_stones_278 : decode cL_stones 278 = .ok (.iaload, 1) := by decide +kernel
theorem dL_stones_279 : decode cL_stones 279 = .ok (.iconst 1, 1) := by decide +kernel
theorem dL_stones_280 : decode cL_stones 280 = .ok (.iadd, 1) := by decide +kernel
theorem dL_stones_281 : decode cL_stones 281 = .ok (.iastore, 1) := by decide +kernel
theorem dL_stones_282 : decode cL_stones 282 = .ok (.aload_n 3, 1) := by decide +kernel
theorem dL_stones_283 : decode cL_stones 283 = .ok (.iconst 0, 1) := by decide +kernel
theorem dL_stones_284 : decode cL_stones 284 = .ok (.iaload, 1) := by decide +kernel
theorem dL_stones_285 : decode cL_stones 285 = .ok (.iconst 1, 1) := by decide +kernel
theorem dL_stones_286 : decode cL_stones 286 = .ok (.isub, 1) := by decide +kernel
theorem dL_stones_287 : decode cL_stones 287 = .ok (.istore 14, 2) := by decide +kernel
theorem dL_stones_289 : decode cL_stones 289 = .ok (.iload 13, 2) := by decide +kernel
theorem dL_stones_291 : decode cL_stones 291 = .ok (.ifCond .eq 96, 3) := by decide +kernel
theorem dL_stones_294 : decode cL_stones 294 = .ok (.iload 11, 2) := by decide +kernel
theorem dL_stones_296 : decode cL_stones 296 = .ok (.iload 12, 2) := by decide +kernel
theorem dL_stones_298 : decode cL_stones 298 = .ok (.if_icmp .ne 89, 3) := by decide +kernel
theorem dL_stones_301 : decode cL_stones 301 = .ok (.aload_n 0, 1) := by decide +kernel
theorem dL_stones_302 : decode cL_stones 302 = .ok (.iload 14, 2) := by decide +kernel
theorem dL_stones_304 : decode cL_stones 304 = .ok (.iconst 0, 1) := by decide +kernel
theorem dL_stones_305 : decode cL_stones 305 = .ok (.invokevirtual 16, 3) := by decide +kernel
theorem dL_stones_308 : decode cL_stones 308 = .ok (.iload 6, 2) := by decide +kernel
theorem dL_stones_310 : decode cL_stones 310 = .ok (.if_icmp .ne 77, 3) := by decide +kernel
theorem dL_stones_313 : decode cL_stones 313 = .ok (.aload_n 0, 1) := by decide +kernel
theorem dL_stones_314 : decode cL_stones 314 = .ok (.iload 14, 2) := by decide +kernel
theorem dL_stones_316 : decode cL_stones 316 = .ok (.iconst 1, 1) := by decide +kernel
theorem dL_stones_317 : decode cL_stones 317 = .ok (.invokevirtual 16, 3) := by decide +kernel
theorem dL_stones_320 : decode cL_stones 320 = .ok (.iload 7, 2) := by decide +kernel
theorem dL_stones_322 : decode cL_stones 322 = .ok (.if_icmp .ne 65, 3) := by decide +kernel
theorem dL_stones_325 : decode cL_stones 325 = .ok (.aload_n 0, 1) := by decide +kernel
theorem dL_stones_326 : decode cL_stones 326 = .ok (.iload 14, 2) := by decide +kernel
theorem dL_stones_328 : decode cL_stones 328 = .ok (.iconst 2, 1) := by decide +kernel
theorem dL_stones_329 : decode cL_stones 329 = .ok (.invokevirtual 16, 3) := by decide +kernel
theorem dL_stones_332 : decode cL_stones 332 = .ok (.iload 10, 2) := by decide +kernel
theorem dL_stones_334 : decode cL_stones 334 = .ok (.if_icmp .ne 53, 3) := by decide +kernel
theorem dL_stones_337 : decode cL_stones 337 = .ok (.aload_n 0, 1) := by decide +kernel
theorem dL_stones_338 : decode cL_stones 338 = .ok (.iload 14, 2) := by decide +kernel
theorem dL_stones_340 : decode cL_stones 340 = .ok (.iconst 3, 1) := by decide +kernel
theorem dL_stones_341 : decode cL_stones 341 = .ok (.invokevirtual 16, 3) := by decide +kernel
theorem dL_stones_344 : decode cL_stones 344 = .ok (.iload 8, 2) := by decide +kernel
theorem dL_stones_346 : decode cL_stones 346 = .ok (.iload 9, 2) := by decide +kernel
theorem dL_stones_348 : decode cL_stones 348 = .ok (.ifCond .ne 7, 3) := by decide +kernel
theorem dL_stones_351 : decode cL_stones 351 = .ok (.iconst 4, 1) := by decide +kernel
theorem dL_stones_352 : decode cL_stones 352 = .ok (.goto 14, 3) := by decide +kernel
theorem dL_stones_355 : decode cL_stones 355 = .ok (.iload 9, 2) := by decide +kernel
theorem dL_stones_357 : decode cL_stones 357 = .ok (.iconst 1, 1) := by decide +kernel
theorem dL_stones_358 : decode cL_stones 358 = .ok (.if_icmp .ne 7, 3) := by decide +kernel
theorem dL_stones_361 : decode cL_stones 361 = .ok (.iconst 3, 1) := by decide +kernel
theorem dL_stones_362 : decode cL_stones 362 = .ok (.goto 4, 3) := by decide +kernel
theorem dL_stones_365 : decode cL_stones 365 = .ok (.iconst 5, 1) := by decide +kernel
theorem dL_stones_366 : decode cL_stones 366 = .ok (.imul, 1) := by decide +kernel
theorem dL_stones_367 : decode cL_stones 367 = .ok (.if_icmp .ne 20, 3) := by decide +kernel
theorem dL_stones_370 : decode cL_stones 370 = .ok (.aload_n 0, 1) := by decide +kernel
theorem dL_stones_371 : decode cL_stones 371 = .ok (.iload 6, 2) := by decide +kernel
theorem dL_stones_373 : decode cL_stones 373 = .ok (.iload 7, 2) := by decide +kernel
theorem dL_stones_375 : decode cL_stones 375 = .ok (.invokevirtual 60, 3) := by decide +kernel
theorem dL_stones_378 : decode cL_stones 378 = .ok (.iload 14, 2) := by decide +kernel
