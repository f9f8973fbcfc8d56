theorem dX9_age_6 : decode cX9_age 6 = .ok (.iload 5, 2) := by decide +kernel
theorem dX9_age_8 : decode cX9_age 8 = .ok (.invokevirtual 150, 3) := by decide +kernel
theorem dX9_age_11 : decode cX9_age 11 = .ok (.iload_n 2, 1) := by decide +kernel
theorem dX9_age_12 : decode cX9_age 12 = .ok (.iload_n 3, 1) := by decide +kernel
theorem dX9_age_13 : decode cX9_age 13 = .ok (.iload 4, 2) := by decide +kernel
theorem dX9_age_15 : decode cX9_age 15 = .ok (.iload 5, 2) := by decide +kernel
theorem dX9_age_17 : decode cX9_age 17 = .ok (.invokestatic 87, 3) := by decide +kernel
theorem dX9_age_20 : decode cX9_age 20 = .ok (.aload_n 0, 1) := by decide +kernel
theorem dX9_age_21 : decode cX9_age 21 = .ok (.iload_n 1, 1) := by decide +kernel
theorem dX9_age_22 : decode cX9_age 22 = .ok (.new 99, 3) := by decide +kernel
theorem dX9_age_25 : decode cX9_age 25 = .ok (.dup, 1) := by decide +kernel
theorem dX9_age_26 : decode cX9_age 26 = .ok (.iload_n 2, 1) := by decide +kernel
theorem dX9_age_27 : decode cX9_age 27 = .ok (.iload_n 3, 1) := by decide +kernel
theorem dX9_age_28 : decode cX9_age 28 = .ok (.iload 4, 2) := by decide +kernel
theorem dX9_age_30 : decode cX9_age 30 = .ok (.iload 5, 2) := by decide +kernel
theorem dX9_age_32 : decode cX9_age 32 = .ok (.invokespecial 101, 3) := by decide +kernel
theorem dX9_age_35 : decode cX9_age 35 = .ok (.invokevirtual 160, 3) := by decide +kernel
theorem dX9_age_38 : decode cX9_age 38 = .ok (.lstore 6, 2) := by decide +kernel
theorem dX9_age_40 : decode cX9_age 40 = .ok (.aload_n 0, 1) := by decide +kernel
theorem dX9_age_41 : decode cX9_age 41 = .ok (.getfield 34, 3) := by decide +kernel
theorem dX9_age_44 : decode cX9_age 44 = .ok (.lload 6, 2) := by decide +kernel
theorem dX9_age_46 : decode cX9_age 46 = .ok (.invokevirtual 164, 3) := by decide +kernel
theorem dX9_age_49 : decode cX9_age 49 = .ok (.ifCond .eq 13, 3) := by decide +kernel
theorem dX9_age_52 : decode cX9_age 52 = .ok (.new 121, 3) := by decide +kernel
theorem dX9_age_55 : decode cX9_age 55 = .ok (.dup, 1) := by decide +kernel
theorem dX9_age_56 : decode cX9_age 56 = .ok (.ldc 168, 2) := by decide +kernel
theorem dX9_age_58 : decode cX9_age 58 = .ok (.invokespecial 125, 3) := by decide +kernel
theorem dX9_age_61 : decode cX9_age 61 = .ok (.athrow, 1) := by decide +kernel
theorem dX9_age_62 : decode cX9_age 62 = .ok (.aload_n 0, 1) := by decide +kernel
theorem dX9_age_63 : decode cX9_age 63 = .ok (.getfield 34, 3) := by decide +kernel
theorem dX9_age_66 : decode cX9_age 66 = .ok (.lload 6, 2) := by decide +kernel
theorem dX9_age_68 : decode cX9_age 68 = .ok (.invokevirtual 170, 3) := by decide +kernel
theorem dX9_age_71 : decode cX9_age 71 = .ok (.lreturn, 1) := by decide +kernel
set_option maxRecDepth 20000 in
theorem ggX9_whyNot_X9_requireEyeAndCells : GoodIn wsX9_whyNot wsX9_requireEyeAndCells := goodIn_ca (goodIn_r _ [9, 10, 11, 12, 13, 14, 15, 16, 17, 18, 19, 20, 8, 21, 97, 98, 99, 100, 101, 102, 107, 108, 109] (by decide +kernel) (by decide +kernel)) (goodIn_sub (fun _ h => List.mem_cons_of_mem _ (List.mem_append_left _ (List.mem_append_right _ h))) (by decide +kernel))
set_option maxRecDepth 20000 in
theorem gX9_whyNot_X9_requireEyeAndCells : GoodIn wsX9_whyNot (wsV RX9 150 RX9 yX9_requireEyeAndCells wsX9_requireEyeAndCells) := goodIn_app (goodIn_of _ (by decide +kernel)) ggX9_whyNot_X9_requireEyeAndCells
set_option maxRecDepth 20000 in
theorem ggX9_whyNot_X9_requireOrder : GoodIn wsX9_whyNot wsX9_requireOrder := goodIn_ca (goodIn_r _ [24, 25, 26] (by decide +kernel) (by decide +kernel)) (goodIn_sub (fun _ h => List.mem_cons_of_mem _ (List.mem_append_right _ h)) (by decide +kernel))
set_option maxRecDepth 20000 in
theorem gX9_whyNot_X9_requireOrder : GoodIn wsX9_whyNot (va_wsS RX9 87 yX9_requireOrder wsX9_requireOrder) := goodIn_app (goodIn_of _ (by decide +kernel)) ggX9_whyNot_X9_requireOrder
set_option maxRecDepth 20000 in
theorem ggX9_whyNot_X4_init : GoodIn wsX9_whyNot wsX4_init := goodIn_r _ [29, 30, 31, 32, 33, 34, 35, 36, 103, 104, 105, 106] (by decide +kernel) (by decide +kernel)
set_option maxRecDepth 20000 in
theorem gX9_whyNot_X4_init : GoodIn wsX9_whyNot (wsX4_init) := ggX9_whyNot_X4_init
set_option maxRecDepth 20000 in
theorem ggX9_whyNot_X9_densitySeen : GoodIn wsX9_whyNot wsX9_densitySeen := goodIn_r _ [40, 41, 42, 43, 44, 8, 45, 12, 46, 47, 48, 49, 50, 51, 13, 14, 15, 16, 17, 18, 52, 53, 54, 55, 56, 57, 58, 59, 60, 61, 62, 63, 64, 65, 66, 67, 68, 69, 70, 71, 4, 72, 33, 35, 34, 36, 73, 74, 75, 76, 77, 78, 79, 80, 81, 82, 83, 84, 85, 86, 87, 97, 98, 99, 100, 101, 102, 110, 111, 112, 113, 114, 115, 107, 108, 109, 103, 104, 105, 106, 116] (by decide +kernel) (by decide +kernel)
set_option maxRecDepth 20000 in
theorem gX9_whyNot_X9_densitySeen : GoodIn wsX9_whyNot (wsV RX9 160 RX9 yX9_densitySeen wsX9_densitySeen) := goodIn_app (goodIn_of _ (by decide +kernel)) ggX9_whyNot_X9_densitySeen
set_option maxRecDepth 20000 in
theorem ggX9_whyNot_X2_lackFor : GoodIn wsX9_whyNot wsX2_lackFor := goodIn_r _ [91, 92, 93, 94, 95, 14, 15, 16, 17, 18, 96, 53, 54, 55, 56, 57, 58, 59, 60, 61, 62, 63, 64, 65, 66, 67, 68, 117, 118, 119, 107, 108, 109] (by decide +kernel) (by decide +kernel)
set_option maxRecDepth 20000 in
theorem gX9_whyNot_X2_lackFor : GoodIn wsX9_whyNot (wsV RX9 164 RX2 yX2_lackFor wsX2_lackFor) := goodIn_app (goodIn_of _ (by decide +kernel)) ggX9_whyNot_X2_lackFor
theorem dX9_whyNot_0 : decode cX9_whyNot 0 = .ok (.aload_n 0, 1) := by decide +kernel
theorem dX9_whyNot_1 : decode cX9_whyNot 1 = .ok (.iload_n 1, 1) := by decide +kernel
theorem dX9_whyNot_2 : decode cX9_whyNot 2 = .ok (.iload_n 2, 1) := by decide +kernel
theorem dX9_whyNot_3 : decode cX9_whyNot 3 = .ok (.iload_n 3, 1) := by decide +kernel
theorem dX9_whyNot_4 : decode cX9_whyNot 4 = .ok (.iload 4, 2) := by decide +kernel
theorem dX9_whyNot_6 : decode cX9_whyNot 6 = .ok (.iload 5, 2) := by decide +kernel
theorem dX9_whyNot_8 : decode cX9_whyNot 8 = .ok (.invokevirtual 150, 3) := by decide +kernel
theorem dX9_whyNot_11 : decode cX9_whyNot 11 = .ok (.iload_n 2, 1) := by decide +kernel
theorem dX9_whyNot_12 : decode cX9_whyNot 12 = .ok (.iload_n 3, 1) := by decide +kernel
theorem dX9_whyNot_13 : decode cX9_whyNot 13 = .ok (.iload 4, 2) := by decide +kernel
theorem dX9_whyNot_15 : decode cX9_whyNot 15 = .ok (.iload 5, 2) := by decide +kernel
theorem dX9_whyNot_17 : decode cX9_whyNot 17 = .ok (.invokestatic 87, 3) := by decide +kernel
theorem dX9_whyNot_20 : decode cX9_whyNot 20 = .ok (.aload_n 0, 1) := by decide +kernel
theorem dX9_whyNot_21 : decode cX9_whyNot 21 = .ok (.getfield 34, 3) := by decide +kernel
theorem dX9_whyNot_24 : decode cX9_whyNot 24 = .ok (.aload_n 0, 1) := by decide +kernel
theorem dX9_whyNot_25 : decode cX9_whyNot 25 = .ok (.iload_n 1, 1) := by decide +kernel
theorem dX9_whyNot_26 : decode cX9_whyNot 26 = .ok (.new 99, 3) := by decide +kernel
theorem dX9_whyNot_29 : decode cX9_whyNot 29 = .ok (.dup, 1) := by decide +kernel
theorem dX9_whyNot_30 : decode cX9_whyNot 30 = .ok (.iload_n 2, 1) := by decide +kernel
theorem dX9_whyNot_31 : decode cX9_whyNot 31 = .ok (.iload_n 3, 1) := by decide +kernel
theorem dX9_whyNot_32 : decode cX9_whyNot 32 = .ok (.iload 4, 2) := by decide +kernel
theorem dX9_whyNot_34 : decode cX9_whyNot 34 = .ok (.iload 5, 2) := by decide +kernel
theorem dX9_whyNot_36 : decode cX9_whyNot 36 = .ok (.invokespecial 101, 3) := by decide +kernel
theorem dX9_whyNot_39 : decode cX9_whyNot 39 = .ok (.invokevirtual 160, 3) := by decide +kernel
theorem dX9_whyNot_42 : decode cX9_whyNot 42 = .ok (.invokevirtual 164, 3) := by decide +kernel
theorem dX9_whyNot_45 : decode cX9_whyNot 45 = .ok (.ireturn, 1) := by decide +kernel
set_option maxRecDepth 20000 in
theorem ggX9_craters_Jx4a65c_size_8abf5 : GoodIn wsX9_craters wsJx4a65c_size_8abf5 := goodIn_r _ [6, 7, 14, 15, 16] (by decide +kernel) (by decide +kernel)
set_option maxRecDepth 20000 in
theorem gX9_craters_Jx4a65c_size_8abf5 : GoodIn wsX9_craters (wsV RX9 96 RJx4a65c yJx4a65c_size_8abf5 wsJx4a65c_size_8abf5) := goodIn_app (goodIn_of _ (by decide +kernel)) ggX9_craters_Jx4a65c_size_8abf5
theorem dX9_craters_0 : decode cX9_craters 0 = .ok (.aload_n 0, 1) := by decide +kernel
theorem dX9_craters_1 : decode cX9_craters 1 = .ok (.getfield 21, 3) := by decide +kernel
theorem dX9_craters_4 : decode cX9_craters 4 = .ok (.invokevirtual 96, 3) := by decide +kernel
theorem dX9_craters_7 : decode cX9_craters 7 = .ok (.ireturn, 1) := by decide +kernel
set_option maxRecDepth 20000 in
theorem ggX9_about_X9_requireCrater : GoodIn wsX9_about wsX9_requireCrater := goodIn_ca (goodIn_r _ [12, 13, 14, 2, 15, 16, 17, 18, 19, 20, 43, 44, 45, 46, 47, 48, 55, 56, 57] (by decide +kernel) (by decide +kernel)) (goodIn_sub (fun _ h => List.mem_cons_of_mem _ (List.mem_append_left _ (List.mem_append_right _ h))) (by decide +kernel))
set_option maxRecDepth 20000 in
theorem gX9_about_X9_requireCrater : GoodIn wsX9_about (wsV RX9 174 RX9 yX9_requireCrater wsX9_requireCrater) := goodIn_app (goodIn_of _ (by decide +kernel)) ggX9_about_X9_requireCrater
set_option maxRecDepth 20000 in
theorem ggX9_about_X9_requireRange : GoodIn wsX9_about wsX9_requireRange := goodIn_ca (goodIn_r _ [23, 24, 25] (by decide +kernel) (by decide +kernel)) (goodIn_sub (fun _ h => List.mem_cons_of_mem _ (List.mem_append_right _ h)) (by decide +kernel))
set_option maxRecDepth 20000 in
theorem gX9_about_X9_requireRange : GoodIn wsX9_about (va_wsS RX9 48 yX9_requireRange wsX9_requireRange) := goodIn_app (goodIn_of _ (by decide +kernel)) ggX9_about_X9_requireRange
set_option maxRecDepth 20000 in
theorem ggX9_about_Jx4a65c_get_915e3 : GoodIn wsX9_about wsJx4a65c_get_915e3 := goodIn_r _ [29, 20, 30, 31, 32, 33, 34, 35, 36, 37, 38, 39, 40, 18, 41, 42, 55, 56, 57] (by decide +kernel) (by decide +kernel)
set_option maxRecDepth 20000 in
theorem gX9_about_Jx4a65c_get_915e3 : GoodIn wsX9_about (wsV RX9 179 RJx4a65c yJx4a65c_get_915e3 wsJx4a65c_get_915e3) := goodIn_app (goodIn_of _ (by decide +kernel)) ggX9_about_Jx4a65c_get_915e3
theorem dX9_about_0 : decode cX9_about 0 = .ok (.aload_n 0, 1) := by decide +kernel
theorem dX9_about_1 : decode cX9_about 1 = .ok (.iload_n 1, 1) := by decide +kernel
theorem dX9_about_2 : decode cX9_about 2 = .ok (.invokevirtual 174, 3) := by decide +kernel
theorem dX9_about_5 : decode cX9_about 5 = .ok (.iload_n 2, 1) := by decide +kernel
theorem dX9_about_6 : decode cX9_about 6 = .ok (.i2l, 1) := by decide +kernel
theorem dX9_about_7 : decode cX9_about 7 = .ok (.lconst 0, 1) := by decide +kernel
theorem dX9_about_8 : decode cX9_about 8 = .ok (.ldc2_w 177, 3) := by decide +kernel
theorem dX9_about_11 : decode cX9_about 11 = .ok (.invokestatic 48, 3) := by decide +kernel
theorem dX9_about_14 : decode cX9_about 14 = .ok (.aload_n 0, 1) := by decide +kernel
theorem dX9_about_15 : decode cX9_about 15 = .ok (.getfield 21, 3) := by decide +kernel
theorem dX9_about_18 : decode cX9_about 18 = .ok (.iload_n 1, 1) := by decide +kernel
theorem dX9_about_19 : decode cX9_about 19 = .ok (.invokevirtual 179, 3) := by decide +kernel
theorem dX9_about_22 : decode cX9_about 22 = .ok (.checkcast 183, 3) := by decide +kernel
theorem dX9_about_25 : decode cX9_about 25 = .ok (.astore_n 3, 1) := by decide +kernel
theorem dX9_about_26 : decode cX9_about 26 = .ok (.iload_n 2, 1) := by decide +kernel
theorem dX9_about_27 : decode cX9_about 27 = .ok (.tableswitch 40 0 2 #[25, 30, 35], 25) := by decide +kernel
theorem dX9_about_52 : decode cX9_about 52 = .ok (.aload_n 3, 1) := by decide +kernel
theorem dX9_about_53 : decode cX9_about 53 = .ok (.getfield 185, 3) := by decide +kernel
theorem dX9_about_56 : decode cX9_about 56 = .ok (.ireturn, 1) := by decide +kernel
theorem dX9_about_57 : decode cX9_about 57 = .ok (.aload_n 3, 1) := by decide +kernel
theorem dX9_about_58 : decode cX9_about 58 = .ok (.getfield 188, 3) := by decide +kernel
theorem dX9_about_61 : decode cX9_about 61 = .ok (.ireturn, 1) := by decide +kernel
theorem dX9_about_62 : decode cX9_about 62 = .ok (.aload_n 3, 1) := by decide +kernel
theorem dX9_about_63 : decode cX9_about 63 = .ok (.getfield 191, 3) := by decide +kernel
theorem dX9_about_66 : decode cX9_about 66 = .ok (.ireturn, 1) := by decide +kernel
theorem dX9_about_67 : decode cX9_about 67 = .ok (.aload_n 3, 1) := by decide +kernel
theorem dX9_about_68 : decode cX9_about 68 = .ok (.getfield 194, 3) := by decide +kernel
theorem dX9_about_71 : decode cX9_about 71 = .ok (.ireturn, 1) := by decide +kernel
set_option maxRecDepth 20000 in
theorem ggX9_depthAnew_X9_requireCrater : GoodIn wsX9_depthAnew wsX9_requireCrater := goodIn_ca (goodIn_r _ [5, 6, 7, 8, 9, 10, 11, 12, 13, 14, 92, 93, 94, 95, 96, 97, 98, 99, 100] (by decide +kernel) (by decide +kernel)) (goodIn_sub (fun _ h => List.mem_cons_of_mem _ (List.mem_append_right _ h)) (by decide +kernel))
set_option maxRecDepth 20000 in
theorem gX9_depthAnew_X9_requireCrater : GoodIn wsX9_depthAnew (wsV RX9 174 RX9 yX9_requireCrater wsX9_requireCrater) := goodIn_app (goodIn_of _ (by decide +kernel)) ggX9_depthAnew_X9_requireCrater
set_option maxRecDepth 20000 in
theorem ggX9_depthAnew_X9_depthOnceMore : GoodIn wsX9_depthAnew wsX9_depthOnceMore := goodIn_r _ [18, 8, 19, 20, 21, 22, 23, 24, 25, 26, 27, 9, 10, 11, 12, 13, 14, 28, 29, 30, 31, 32, 33, 34, 35, 36, 37, 38, 39, 40, 41, 42, 43, 44, 45, 46, 47, 48, 49, 50, 51, 52, 53, 54, 55, 56, 57, 58, 59, 60, 61, 62, 63, 64, 65, 66, 67, 68, 69, 70, 71, 72, 73, 74, 75, 76, 77, 78, 79, 80, 81, 82, 83, 84, 85, 86, 87, 88, 89, 90, 91, 92, 93, 94, 95, 96, 97, 101, 102, 103, 104, 105, 106, 107, 108, 109, 110, 111, 112, 98, 99, 100, 113, 114, 115, 116, 117] (by decide +kernel) (by decide +kernel)
set_option maxRecDepth 20000 in
theorem gX9_depthAnew_X9_depthOnceMore : GoodIn wsX9_depthAnew (wsV RX9 197 RX9 yX9_depthOnceMore wsX9_depthOnceMore) := goodIn_app (goodIn_of _ (by decide +kernel)) ggX9_depthAnew_X9_depthOnceMore
theorem dX9_depthAnew_0 : decode cX9_depthAnew 0 = .ok (.aload_n 0, 1) := by decide +kernel
theorem dX9_depthAnew_1 : decode cX9_depthAnew 1 = .ok (.iload_n 1, 1) := by decide +kernel
theorem dX9_depthAnew_2 : decode cX9_depthAnew 2 = .ok (.invokevirtual 174, 3) := by decide +kernel
theorem dX9_depthAnew_5 : decode cX9_depthAnew 5 = .ok (.aload_n 0, 1) := by decide +kernel
theorem dX9_depthAnew_6 : decode cX9_depthAnew 6 = .ok (.iload_n 1, 1) := by decide +kernel
theorem dX9_depthAnew_7 : decode cX9_depthAnew 7 = .ok (.invokevirtual 197, 3) := by decide +kernel
theorem dX9_depthAnew_10 : decode cX9_depthAnew 10 = .ok (.ireturn, 1) := by decide +kernel
set_option maxRecDepth 20000 in
theorem ggX9_top_X9_requireCell : GoodIn wsX9_top wsX9_requireCell := goodIn_ca (goodIn_r _ [7, 8, 9] (by decide +kernel) (by decide +kernel)) (goodIn_sub (fun _ h => List.mem_cons_of_mem _ (List.mem_append_right _ h)) (by decide +kernel))
set_option maxRecDepth 20000 in
theorem gX9_top_X9_requireCell : GoodIn wsX9_top (va_wsS RX9 42 yX9_requireCell wsX9_requireCell) := goodIn_app (goodIn_of _ (by decide +kernel)) ggX9_top_X9_requireCell
set_option maxRecDepth 20000 in
theorem ggX9_top_Jx4a65c_size_8abf5 : GoodIn wsX9_top wsJx4a65c_size_8abf5 := goodIn_r _ [14, 15, 57, 58, 59] (by decide +kernel) (by decide +kernel)
set_option maxRecDepth 20000 in
theorem gX9_top_Jx4a65c_size_8abf5 : GoodIn wsX9_top (wsV RX9 96 RJx4a65c yJx4a65c_size_8abf5 wsJx4a65c_size_8abf5) := goodIn_app (goodIn_of _ (by decide +kernel)) ggX9_top_Jx4a65c_size_8abf5
set_option maxRecDepth 20000 in
theorem ggX9_top_Jx4a65c_get_915e3 : GoodIn wsX9_top wsJx4a65c_get_915e3 := goodIn_r _ [19, 15, 20, 21, 22, 23, 24, 25, 26, 27, 28, 29, 30, 13, 31, 32, 57, 58, 59] (by decide +kernel) (by decide +kernel)
set_option maxRecDepth 20000 in
theorem gX9_top_Jx4a65c_get_915e3 : GoodIn wsX9_top (wsV RX9 179 RJx4a65c yJx4a65c_get_915e3 wsJx4a65c_get_915e3) := goodIn_app (goodIn_of _ (by decide +kernel)) ggX9_top_Jx4a65c_get_915e3
set_option maxRecDepth 20000 in
theorem ggX9_top_X1_covers : GoodIn wsX9_top wsX1_covers := goodIn_r _ [37, 38, 39, 40, 41, 36, 42, 43, 44, 51, 52, 53, 54, 55, 56] (by decide +kernel) (by decide +kernel)
set_option maxRecDepth 20000 in
theorem gX9_top_X1_covers : GoodIn wsX9_top (wsV RX9 200 RX1 yX1_covers wsX1_covers) := goodIn_app (goodIn_of _ (by decide +kernel)) ggX9_top_X1_covers
theorem dX9_top_0 : decode cX9_top 0 = .ok (.iload_n 1, 1) := by decide +kernel
theorem dX9_top_1 : decode cX9_top 1 = .ok (.iload_n 2, 1) := by decide +kernel
theorem dX9_top_2 : decode cX9_top 2 = .ok (.invokestatic 42, 3) := by decide +kernel
theorem dX9_top_5 : decode cX9_top 5 = .ok (.aload_n 0, 1) := by decide +kernel
theorem dX9_top_6 : decode cX9_top 6 = .ok (.getfield 21, 3) := by decide +kernel
theorem dX9_top_9 : decode cX9_top 9 = .ok (.invokevirtual 96, 3) := by decide +kernel
theorem dX9_top_12 : decode cX9_top 12 = .ok (.iconst 1, 1) := by decide +kernel
theorem dX9_top_13 : decode cX9_top 13 = .ok (.isub, 1) := by decide +kernel
theorem dX9_top_14 : decode cX9_top 14 = .ok (.istore_n 3, 1) := by decide +kernel
theorem dX9_top_15 : decode cX9_top 15 = .ok (.iload_n 3, 1) := by decide +kernel
theorem dX9_top_16 : decode cX9_top 16 = .ok (.ifCond .lt 42, 3) := by decide +kernel
theorem dX9_top_19 : decode cX9_top 19 = .ok (.aload_n 0, 1) := by decide +kernel
theorem dX9_top_20 : decode cX9_top 20 = .ok (.getfield 21, 3) := by decide +kernel
theorem dX9_top_23 : decode cX9_top 23 = .ok (.iload_n 3, 1) := by decide +kernel
theorem dX9_top_24 : decode cX9_top 24 = .ok (.invokevirtual 179, 3) := by decide +kernel
theorem dX9_top_27 : decode cX9_top 27 = .ok (.checkcast 183, 3) := by decide +kernel
theorem dX9_top_30 : decode cX9_top 30 = .ok (.astore 4, 2) := by decide +kernel
theorem dX9_top_32 : decode cX9_top 32 = .ok (.aload 4, 2) := by decide +kernel
theorem dX9_top_34 : decode cX9_top 34 = .ok (.getfield 194, 3) := by decide +kernel
theorem dX9_top_37 : decode cX9_top 37 = .ok (.ifCond .le 15, 3) := by decide +kernel
theorem dX9_top_40 : decode cX9_top 40 = .ok (.aload 4, 2) := by decide +kernel
theorem dX9_top_42 : decode cX9_top 42 = .ok (.iload_n 1, 1) := by decide +kernel
theorem dX9_top_43 : decode cX9_top 43 = .ok (.iload_n 2, 1) := by decide +kernel
theorem dX9_top_44 : decode cX9_top 44 = .ok (.invokevirtual 200, 3) := by decide +kernel
theorem dX9_top_47 : decode cX9_top 47 = .ok (.ifCond .eq 5, 3) := by decide +kernel
theorem dX9_top_50 : decode cX9_top 50 = .ok (.iload_n 3, 1) := by decide +kernel
theorem dX9_top_51 : decode cX9_top 51 = .ok (.ireturn, 1) := by decide +kernel
theorem dX9_top_52 : decode cX9_top 52 = .ok (.iinc 3 (-1), 3) := by decide +kernel
theorem dX9_top_55 : decode cX9_top 55 = .ok (.goto (-40), 3) := by decide +kernel
theorem dX9_top_58 : decode cX9_top 58 = .ok (.iconst (-1), 1) := by decide +kernel
theorem dX9_top_59 : decode cX9_top 59 = .ok (.ireturn, 1) := by decide +kernel
set_option maxRecDepth 20000 in
theorem ggX9_topAnew_X9_requireCell : GoodIn wsX9_topAnew wsX9_requireCell := goodIn_ca (goodIn_r _ [6, 7, 8] (by decide +kernel) (by decide +kernel)) (goodIn_sub (fun _ h => List.mem_cons_of_mem _ (List.mem_append_right _ h)) (by decide +kernel))
set_option maxRecDepth 20000 in
theorem gX9_topAnew_X9_requireCell : GoodIn wsX9_topAnew (va_wsS RX9 42 yX9_requireCell wsX9_requireCell) := goodIn_app (goodIn_of _ (by decide +kernel)) ggX9_topAnew_X9_requireCell
set_option maxRecDepth 20000 in
theorem ggX9_topAnew_Jx4a65c_size_8abf5 : GoodIn wsX9_topAnew wsJx4a65c_size_8abf5 := goodIn_r _ [13, 14, 101, 102, 103] (by decide +kernel) (by decide +kernel)
set_option maxRecDepth 20000 in
theorem gX9_topAnew_Jx4a65c_size_8abf5 : GoodIn wsX9_topAnew (wsV RX9 96 RJx4a65c yJx4a65c_size_8abf5 wsJx4a65c_size_8abf5) := goodIn_app (goodIn_of _ (by decide +kernel)) ggX9_topAnew_Jx4a65c_size_8abf5
set_option maxRecDepth 20000 in
theorem ggX9_topAnew_Jx4a65c_get_915e3 : GoodIn wsX9_topAnew wsJx4a65c_get_915e3 := goodIn_r _ [18, 14, 19, 20, 21, 22, 23, 24, 25, 26, 27, 28, 29, 12, 30, 31, 101, 102, 103] (by decide +kernel) (by decide +kernel)
set_option maxRecDepth 20000 in
theorem gX9_topAnew_Jx4a65c_get_915e3 : GoodIn wsX9_topAnew (wsV RX9 179 RJx4a65c yJx4a65c_get_915e3 wsJx4a65c_get_915e3) := goodIn_app (goodIn_of _ (by decide +kernel)) ggX9_topAnew_Jx4a65c_get_915e3
set_option maxRecDepth 20000 in
theorem ggX9_topAnew_X1_covers : GoodIn wsX9_topAnew wsX1_covers := goodIn_r _ [36, 37, 38, 39, 40, 35, 41, 42, 43, 104, 105, 106, 107, 108, 109] (by decide +kernel) (by decide +kernel)
set_option maxRecDepth 20000 in
theorem gX9_topAnew_X1_covers : GoodIn wsX9_topAnew (wsV RX9 200 RX1 yX1_covers wsX1_covers) := goodIn_app (goodIn_of _ (by decide +kernel)) ggX9_topAnew_X1_covers
set_option maxRecDepth 20000 in
theorem ggX9_topAnew_X9_depthOnceMore : GoodIn wsX9_topAnew wsX9_depthOnceMore := goodIn_r _ [47, 1, 2, 48, 49, 50, 51, 52, 53, 54, 55, 9, 10, 11, 12, 13, 14, 15, 16, 17, 18, 19, 20, 21, 22, 23, 24, 25, 26, 27, 28, 29, 30, 31, 56, 57, 58, 35, 59, 37, 42, 43, 60, 61, 38, 39, 40, 41, 62, 63, 64, 65, 66, 67, 68, 69, 70, 71, 72, 73, 74, 75, 76, 77, 78, 79, 80, 81, 82, 83, 84, 85, 86, 87, 88, 89, 90, 91, 92, 93, 94, 95, 96, 97, 98, 99, 100, 104, 105, 106, 107, 108, 109, 110, 111, 112, 113, 114, 115, 101, 102, 103, 116, 117, 118, 119, 120] (by decide +kernel) (by decide +kernel)
set_option maxRecDepth 20000 in
theorem gX9_topAnew_X9_depthOnceMore : GoodIn wsX9_topAnew (wsV RX9 197 RX9 yX9_depthOnceMore wsX9_depthOnceMore) := goodIn_app (goodIn_of _ (by decide +kernel)) ggX9_topAnew_X9_depthOnceMore
theorem dX9_topAnew_0 : decode cX9_topAnew 0 = .ok (.iload_n 1, 1) := by decide +kernel
theorem dX9_topAnew_1 : decode cX9_topAnew 1 = .ok (.iload_n 2, 1) := by decide +kernel
theorem dX9_topAnew_2 : decode cX9_topAnew 2 = .ok (.invokestatic 42, 3) := by decide +kernel
theorem dX9_topAnew_5 : decode cX9_topAnew 5 = .ok (.aload_n 0, 1) := by decide +kernel
theorem dX9_topAnew_6 : decode cX9_topAnew 6 = .ok (.getfield 21, 3) := by decide +kernel
theorem dX9_topAnew_9 : decode cX9_topAnew 9 = .ok (.invokevirtual 96, 3) := by decide +kernel
theorem dX9_topAnew_12 : decode cX9_topAnew 12 = .ok (.iconst 1, 1) := by decide +kernel
theorem dX9_topAnew_13 : decode cX9_topAnew 13 = .ok (.isub, 1) := by decide +kernel
theorem dX9_topAnew_14 : decode cX9_topAnew 14 = .ok (.istore_n 3, 1) := by decide +kernel
theorem dX9_topAnew_15 : decode cX9_topAnew 15 = .ok (.iload_n 3, 1) := by decide +kernel
theorem dX9_topAnew_16 : decode cX9_topAnew 16 = .ok (.ifCond .lt 38, 3) := by decide +kernel
theorem dX9_topAnew_19 : decode cX9_topAnew 19 = .ok (.aload_n 0, 1) := by decide +kernel
theorem dX9_topAnew_20 : decode cX9_topAnew 20 = .ok (.getfield 21, 3) := by decide +kernel
theorem dX9_topAnew_23 : decode cX9_topAnew 23 = .ok (.iload_n 3, 1) := by decide +kernel
theorem dX9_topAnew_24 : decode cX9_topAnew 24 = .ok (.invokevirtual 179, 3) := by decide +kernel
theorem dX9_topAnew_27 : decode cX9_topAnew 27 = .ok (.checkcast 183, 3) := by decide +kernel
theorem dX9_topAnew_30 : decode cX9_topAnew 30 = .ok (.iload_n 1, 1) := by decide +kernel
theorem dX9_topAnew_31 : decode cX9_topAnew 31 = .ok (.iload_n 2, 1) := by decide +kernel
theorem dX9_topAnew_32 : decode cX9_topAnew 32 = .ok (.invokevirtual 200, 3) := by decide +kernel
theorem dX9_topAnew_35 : decode cX9_topAnew 35 = .ok (.ifCond .eq 13, 3) := by decide +kernel
theorem dX9_topAnew_38 : decode cX9_topAnew 38 = .ok (.aload_n 0, 1) := by decide +kernel
theorem dX9_topAnew_39 : decode cX9_topAnew 39 = .ok (.iload_n 3, 1) := by decide +kernel
theorem dX9_topAnew_40 : decode cX9_topAnew 40 = .ok (.invokevirtual 197, 3) := by decide +kernel
theorem dX9_topAnew_43 : decode cX9_topAnew 43 = .ok (.ifCond .le 5, 3) := by decide +kernel
theorem dX9_topAnew_46 : decode cX9_topAnew 46 = .ok (.iload_n 3, 1) := by decide +kernel
theorem dX9_topAnew_47 : decode cX9_topAnew 47 = .ok (.ireturn, 1) := by decide +kernel
theorem dX9_topAnew_48 : decode cX9_topAnew 48 = .ok (.iinc 3 (-1), 3) := by decide +kernel
theorem dX9_topAnew_51 : decode cX9_topAnew 51 = .ok (.goto (-36), 3) := by decide +kernel
theorem dX9_topAnew_54 : decode cX9_topAnew 54 = .ok (.iconst (-1), 1) := by decide +kernel
theorem dX9_topAnew_55 : decode cX9_topAnew 55 = .ok (.ireturn, 1) := by decide +kernel
set_option maxRecDepth 20000 in
theorem ggX9_dropStone_X6_kindAt : GoodIn wsX9_dropStone wsX6_kindAt := goodIn_r _ [11, 12, 132] (by decide +kernel) (by decide +kernel)
set_option maxRecDepth 20000 in
theorem gX9_dropStone_X6_kindAt : GoodIn wsX9_dropStone (wsV RX9 52 RX6 yX6_kindAt wsX6_kindAt) := goodIn_app (goodIn_of _ (by decide +kernel)) ggX9_dropStone_X6_kindAt
set_option maxRecDepth 20000 in
theorem ggX9_dropStone_X1_init : GoodIn wsX9_dropStone wsX1_init := goodIn_r _ [15, 16, 17, 18, 19, 20, 21, 22, 23, 24, 25, 26, 3, 27, 28, 29, 30, 31, 32, 33, 34, 120, 121, 122, 123, 124, 125] (by decide +kernel) (by decide +kernel)
set_option maxRecDepth 20000 in
theorem gX9_dropStone_X1_init : GoodIn wsX9_dropStone (wsX1_init) := ggX9_dropStone_X1_init
set_option maxRecDepth 20000 in
theorem ggX9_dropStone_Jx4a65c_size_8abf5 : GoodIn wsX9_dropStone wsJx4a65c_size_8abf5 := goodIn_r _ [39, 40, 133, 134, 135] (by decide +kernel) (by decide +kernel)
set_option maxRecDepth 20000 in
theorem gX9_dropStone_Jx4a65c_size_8abf5 : GoodIn wsX9_dropStone (wsV RX9 96 RJx4a65c yJx4a65c_size_8abf5 wsJx4a65c_size_8abf5) := goodIn_app (goodIn_of _ (by decide +kernel)) ggX9_dropStone_Jx4a65c_size_8abf5
set_option maxRecDepth 20000 in
theorem ggX9_dropStone_Jx4a65c_get_915e3 : GoodIn wsX9_dropStone wsJx4a65c_get_915e3 := goodIn_r _ [44, 40, 45, 46, 47, 48, 49, 50, 51, 52, 53, 54, 55, 38, 56, 57, 133, 134, 135] (by decide +kernel) (by decide +kernel)
set_option maxRecDepth 20000 in
theorem gX9_dropStone_Jx4a65c_get_915e3 : GoodIn wsX9_dropStone (wsV RX9 179 RJx4a65c yJx4a65c_get_915e3 wsJx4a65c_get_915e3) := goodIn_app (goodIn_of _ (by decide +kernel)) ggX9_dropStone_Jx4a65c_get_915e3
set_option maxRecDepth 20000 in
theorem ggX9_dropStone_X1_lossBy : GoodIn wsX9_dropStone wsX1_lossBy := goodIn_r _ [61, 22, 19, 20, 23, 21, 62, 63, 64, 3, 65, 120, 121, 122, 123, 124, 125] (by decide +kernel) (by decide +kernel)
set_option maxRecDepth 20000 in
theorem gX9_dropStone_X1_lossBy : GoodIn wsX9_dropStone (wsV RX9 205 RX1 yX1_lossBy wsX1_lossBy) := goodIn_app (goodIn_of _ (by decide +kernel)) ggX9_dropStone_X1_lossBy
set_option maxRecDepth 20000 in
theorem ggX9_dropStone_X1_lessen : GoodIn wsX9_dropStone wsX1_lessen := goodIn_r _ [69, 24, 28, 29, 30, 31, 120, 121, 122, 123, 124, 125] (by decide +kernel) (by decide +kernel)
set_option maxRecDepth 20000 in
theorem gX9_dropStone_X1_lessen : GoodIn wsX9_dropStone (wsV RX9 209 RX1 yX1_lessen wsX1_lessen) := goodIn_app (goodIn_of _ (by decide +kernel)) ggX9_dropStone_X1_lessen
set_option maxRecDepth 20000 in
theorem ggX9_dropStone_Jx4a65c_add_9ea2d : GoodIn wsX9_dropStone wsJx4a65c_add_9ea2d := goodIn_r _ [73, 74, 75, 57, 40, 76, 77, 78, 38, 79, 80, 81, 82, 83, 84, 85, 86, 87, 88, 89, 29, 30, 31, 90, 91, 92, 93, 94, 95, 96, 97, 98, 99, 100, 101, 102, 103, 104, 105, 106, 107, 108, 109, 110, 111, 112, 113, 114, 115, 116, 117, 118, 119, 133, 134, 135] (by decide +kernel) (by decide +kernel)
set_option maxRecDepth 20000 in
theorem gX9_dropStone_Jx4a65c_add_9ea2d : GoodIn wsX9_dropStone (wsV RX9 132 RJx4a65c yJx4a65c_add_9ea2d wsJx4a65c_add_9ea2d) := goodIn_app (goodIn_of _ (by decide +kernel)) ggX9_dropStone_Jx4a65c_add_9ea2d
theorem dX9_dropStone_0 : decode cX9_dropStone 0 = .ok (.new 183, 3) := by decide +kernel
theorem dX9_dropStone_3 : decode cX9_dropStone 3 = .ok (.dup, 1) := by decide +kernel
theorem dX9_dropStone_4 : decode cX9_dropStone 4 = .ok (.iload_n 1, 1) := by decide +kernel
theorem dX9_dropStone_5 : decode cX9_dropStone 5 = .ok (.iload_n 2, 1) := by decide +kernel
theorem dX9_dropStone_6 : decode cX9_dropStone 6 = .ok (.iload_n 3, 1) := by decide +kernel
theorem dX9_dropStone_7 : decode cX9_dropStone 7 = .ok (.aload_n 0, 1) := by decide +kernel
theorem dX9_dropStone_8 : decode cX9_dropStone 8 = .ok (.getfield 14, 3) := by decide +kernel
theorem dX9_dropStone_11 : decode cX9_dropStone 11 = .ok (.iload_n 1, 1) := by decide +kernel
theorem dX9_dropStone_12 : decode cX9_dropStone 12 = .ok (.iload_n 2, 1) := by decide +kernel
theorem dX9_dropStone_13 : decode cX9_dropStone 13 = .ok (.invokevirtual 52, 3) := by decide +kernel
theorem dX9_dropStone_16 : decode cX9_dropStone 16 = .ok (.invokespecial 204, 3) := by decide +kernel
theorem dX9_dropStone_19 : decode cX9_dropStone 19 = .ok (.astore 4, 2) := by decide +kernel
theorem dX9_dropStone_21 : decode cX9_dropStone 21 = .ok (.iconst 0, 1) := by decide +kernel
theorem dX9_dropStone_22 : decode cX9_dropStone 22 = .ok (.istore 5, 2) := by decide +kernel
theorem dX9_dropStone_24 : decode cX9_dropStone 24 = .ok (.iconst 0, 1) := by decide +kernel
theorem dX9_dropStone_25 : decode cX9_dropStone 25 = .ok (.istore 6, 2) := by decide +kernel
theorem dX9_dropStone_27 : decode cX9_dropStone 27 = .ok (.iload 6, 2) := by decide +kernel
theorem dX9_dropStone_29 : decode cX9_dropStone 29 = .ok (.aload_n 0, 1) := by decide +kernel
theorem dX9_dropStone_30 : decode cX9_dropStone 30 = .ok (.getfield 21, 3) := by decide +kernel
theorem dX9_dropStone_33 : decode cX9_dropStone 33 = .ok (.invokevirtual 96, 3) := by decide +kernel
theorem dX9_dropStone_36 : decode cX9_dropStone 36 = .ok (.if_icmp .ge 41, 3) := by decide +kernel
theorem dX9_dropStone_39 : decode cX9_dropStone 39 = .ok (.aload_n 0, 1) := by decide +kernel
theorem dX9_dropStone_40 : decode cX9_dropStone 40 = .ok (.getfield 21, 3) := by decide +kernel
theorem dX9_dropStone_43 : decode cX9_dropStone 43 = .ok (.iload 6, 2) := by decide +kernel
theorem dX9_dropStone_45 : decode cX9_dropStone 45 = .ok (.invokevirtual 179, 3) := by decide +kernel
theorem dX9_dropStone_48 : decode cX9_dropStone 48 = .ok (.checkcast 183, 3) := by decide +kernel
theorem dX9_dropStone_51 : decode cX9_dropStone 51 = .ok (.astore 7, 2) := by decide +kernel
theorem dX9_dropStone_53 : decode cX9_dropStone 53 = .ok (.aload 7, 2) := by decide +kernel
theorem dX9_dropStone_55 : decode cX9_dropStone 55 = .ok (.aload 7, 2) := by decide +kernel
theorem dX9_dropStone_57 : decode cX9_dropStone 57 = .ok (.aload 4, 2) := by decide +kernel
theorem dX9_dropStone_59 : decode cX9_dropStone 59 = .ok (.invokevirtual 205, 3) := by decide +kernel
theorem dX9_dropStone_62 : decode cX9_dropStone 62 = .ok (.invokevirtual 209, 3) := by decide +kernel
theorem dX9_dropStone_65 : decode cX9_dropStone 65 = .ok (.ifCond .eq 6, 3) := by decide +kernel
theorem dX9_dropStone_68 : decode cX9_dropStone 68 = .ok (.iinc 5 1, 3) := by decide +kernel
theorem dX9_dropStone_71 : decode cX9_dropStone 71 = .ok (.iinc 6 1, 3) := by decide +kernel
theorem dX9_dropStone_74 : decode cX9_dropStone 74 = .ok (.goto (-47), 3) := by decide +kernel
theorem dX9_dropStone_77 : decode cX9_dropStone 77 = .ok (.aload_n 0, 1) := by decide +kernel
theorem dX9_dropStone_78 : decode cX9_dropStone 78 = .ok (.getfield 21, 3) := by decide +kernel
theorem dX9_dropStone_81 : decode cX9_dropStone 81 = .ok (.aload 4, 2) := by decide +kernel
theorem dX9_dropStone_83 : decode cX9_dropStone 83 = .ok (.invokevirtual 132, 3) := by decide +kernel
theorem dX9_dropStone_86 : decode cX9_dropStone 86 = .ok (.pop, 1) := by decide +kernel
theorem dX9_dropStone_87 : decode cX9_dropStone 87 = .ok (.iload 5, 2) := by decide +kernel
theorem dX9_dropStone_89 : decode cX9_dropStone 89 = .ok (.ireturn, 1) := by decide +kernel
theorem dX9_drawNext_0 : decode cX9_drawNext 0 = .ok (.aload_n 0, 1) := by decide +kernel
theorem dX9_drawNext_1 : decode cX9_drawNext 1 = .ok (.bipush 75, 2) := by decide +kernel
theorem dX9_drawNext_3 : decode cX9_drawNext 3 = .ok (.aload_n 0, 1) := by decide +kernel
theorem dX9_drawNext_4 : decode cX9_drawNext 4 = .ok (.getfield 38, 3) := by decide +kernel
theorem dX9_drawNext_7 : decode cX9_drawNext 7 = .ok (.imul, 1) := by decide +kernel
theorem dX9_drawNext_8 : decode cX9_drawNext 8 = .ok (.bipush 74, 2) := by decide +kernel
theorem dX9_drawNext_10 : decode cX9_drawNext 10 = .ok (.iadd, 1) := by decide +kernel
theorem dX9_drawNext_11 : decode cX9_drawNext 11 = .ok (.ldc 213, 2) := by decide +kernel
theorem dX9_drawNext_13 : decode cX9_drawNext 13 = .ok (.irem, 1) := by decide +kernel
theorem dX9_drawNext_14 : decode cX9_drawNext 14 = .ok (.putfield 38, 3) := by decide +kernel
theorem dX9_drawNext_17 : decode cX9_drawNext 17 = .ok (.aload_n 0, 1) := by decide +kernel
theorem dX9_drawNext_18 : decode cX9_drawNext 18 = .ok (.getfield 38, 3) := by decide +kernel
theorem dX9_drawNext_21 : decode cX9_drawNext 21 = .ok (.ireturn, 1) := by decide +kernel
theorem dX9_sizeDrawn_0 : decode cX9_sizeDrawn 0 = .ok (.iload_n 0, 1) := by decide +kernel
theorem dX9_sizeDrawn_1 : decode cX9_sizeDrawn 1 = .ok (.bipush 40, 2) := by decide +kernel
theorem dX9_sizeDrawn_3 : decode cX9_sizeDrawn 3 = .ok (.if_icmp .ge 5, 3) := by decide +kernel
theorem dX9_sizeDrawn_6 : decode cX9_sizeDrawn 6 = .ok (.iconst 1, 1) := by decide +kernel
theorem dX9_sizeDrawn_7 : decode cX9_sizeDrawn 7 = .ok (.ireturn, 1) := by decide +kernel
theorem dX9_sizeDrawn_8 : decode cX9_sizeDrawn 8 = .ok (.iload_n 0, 1) := by decide +kernel
theorem dX9_sizeDrawn_9 : decode cX9_sizeDrawn 9 = .ok (.bipush 52, 2) := by decide +kernel
theorem dX9_sizeDrawn_11 : decode cX9_sizeDrawn 11 = .ok (.if_icmp .ge 5, 3) := by decide +kernel
theorem dX9_sizeDrawn_14 : decode cX9_sizeDrawn 14 = .ok (.iconst 2, 1) := by decide +kernel
theorem dX9_sizeDrawn_15 : decode cX9_sizeDrawn 15 = .ok (.ireturn, 1) := by decide +kernel
theorem dX9_sizeDrawn_16 : decode cX9_sizeDrawn 16 = .ok (.iload_n 0, 1) := by decide +kernel
theorem dX9_sizeDrawn_17 : decode cX9_sizeDrawn 17 = .ok (.bipush 58, 2) := by decide +kernel
theorem dX9_sizeDrawn_19 : decode cX9_sizeDrawn 19 = .ok (.if_icmp .ge 5, 3) := by decide +kernel
theorem dX9_sizeDrawn_22 : decode cX9_sizeDrawn 22 = .ok (.iconst 3, 1) := by decide +kernel
theorem dX9_sizeDrawn_23 : decode cX9_sizeDrawn 23 = .ok (.ireturn, 1) := by decide +kernel
theorem dX9_sizeDrawn_24 : decode cX9_sizeDrawn 24 = .ok (.iload_n 0, 1) := by decide +kernel
theorem dX9_sizeDrawn_25 : decode cX9_sizeDrawn 25 = .ok (.bipush 61, 2) := by decide +kernel
theorem dX9_sizeDrawn_27 : decode cX9_sizeDrawn 27 = .ok (.if_icmp .ge 5, 3) := by decide +kernel
theorem dX9_sizeDrawn_30 : decode cX9_sizeDrawn 30 = .ok (.iconst 4, 1) := by decide +kernel
theorem dX9_sizeDrawn_31 : decode cX9_sizeDrawn 31 = .ok (.ireturn, 1) := by decide +kernel
theorem dX9_sizeDrawn_32 : decode cX9_sizeDrawn 32 = .ok (.iload_n 0, 1) := by decide +kernel
theorem dX9_sizeDrawn_33 : decode cX9_sizeDrawn 33 = .ok (.bipush 63, 2) := by decide +kernel
theorem dX9_sizeDrawn_35 : decode cX9_sizeDrawn 35 = .ok (.if_icmp .ge 7, 3) := by decide +kernel
theorem dX9_sizeDrawn_38 : decode cX9_sizeDrawn 38 = .ok (.iconst 5, 1) := by decide +kernel
theorem dX9_sizeDrawn_39 : decode cX9_sizeDrawn 39 = .ok (.goto 5, 3) := by decide +kernel
theorem dX9_sizeDrawn_42 : decode cX9_sizeDrawn 42 = .ok (.bipush 6, 2) := by decide +kernel
theorem dX9_sizeDrawn_44 : decode cX9_sizeDrawn 44 = .ok (.ireturn, 1) := by decide +kernel
set_option maxRecDepth 20000 in
theorem ggX9_lessenAll_Jx4a65c_add_9ea2d : GoodIn wsX9_lessenAll wsJx4a65c_add_9ea2d := goodIn_r _ [8, 9, 10, 11, 12, 13, 14, 15, 7, 16, 17, 18, 19, 20, 21, 22, 23, 24, 25, 26, 27, 28, 29, 30, 31, 32, 33, 34, 35, 36, 37, 38, 39, 40, 41, 42, 43, 44, 45, 46, 47, 48, 49, 50, 51, 52, 53, 54, 55, 56, 57, 58, 59, 126, 127, 128] (by decide +kernel) (by decide +kernel)
set_option maxRecDepth 20000 in
theorem gX9_lessenAll_Jx4a65c_add_9ea2d : GoodIn wsX9_lessenAll (wsV RX9 132 RJx4a65c yJx4a65c_add_9ea2d wsJx4a65c_add_9ea2d) := goodIn_app (goodIn_of _ (by decide +kernel)) ggX9_lessenAll_Jx4a65c_add_9ea2d
set_option maxRecDepth 20000 in
theorem ggX9_lessenAll_Jx4a65c_size_8abf5 : GoodIn wsX9_lessenAll wsJx4a65c_size_8abf5 := goodIn_r _ [63, 12, 126, 127, 128] (by decide +kernel) (by decide +kernel)
set_option maxRecDepth 20000 in
theorem gX9_lessenAll_Jx4a65c_size_8abf5 : GoodIn wsX9_lessenAll (wsV RX9 96 RJx4a65c yJx4a65c_size_8abf5 wsJx4a65c_size_8abf5) := goodIn_app (goodIn_of _ (by decide +kernel)) ggX9_lessenAll_Jx4a65c_size_8abf5
set_option maxRecDepth 20000 in
theorem ggX9_lessenAll_Jx4a65c_get_915e3 : GoodIn wsX9_lessenAll wsJx4a65c_get_915e3 := goodIn_r _ [67, 12, 68, 69, 70, 71, 72, 73, 74, 75, 76, 77, 78, 7, 79, 11, 126, 127, 128] (by decide +kernel) (by decide +kernel)
set_option maxRecDepth 20000 in
theorem gX9_lessenAll_Jx4a65c_get_915e3 : GoodIn wsX9_lessenAll (wsV RX9 179 RJx4a65c yJx4a65c_get_915e3 wsJx4a65c_get_915e3) := goodIn_app (goodIn_of _ (by decide +kernel)) ggX9_lessenAll_Jx4a65c_get_915e3
set_option maxRecDepth 20000 in
theorem ggX9_lessenAll_X5_lossOf : GoodIn wsX9_lessenAll wsX5_lossOf := goodIn_r _ [85, 86, 87, 88, 89, 90, 91, 92, 93, 94, 95, 96, 97, 98, 129, 130, 131, 132, 133, 134, 135, 136, 137, 138, 139, 140, 141] (by decide +kernel) (by decide +kernel)
set_option maxRecDepth 20000 in
theorem gX9_lessenAll_X5_lossOf_u214X5 : GoodIn wsX9_lessenAll (va_wsU RX9 214 RX5 "Craterclock$Lessening" ⟨"Craterclock$Lessening", "lossOf", "(LCraterclock$Crater;)I"⟩ yX5_lossOf wsX5_lossOf) := goodIn_app (goodIn_of _ (by decide +kernel)) ggX9_lessenAll_X5_lossOf
set_option maxRecDepth 20000 in
theorem ggX9_lessenAll_X8_lossOf : GoodIn wsX9_lessenAll wsX8_lossOf := goodIn_r _ [102, 103, 104, 105, 106, 107, 108, 109, 110, 111, 112, 142, 143, 144, 132, 133, 134, 135, 136, 137, 145] (by decide +kernel) (by decide +kernel)
set_option maxRecDepth 20000 in
theorem gX9_lessenAll_X8_lossOf_u214X8 : GoodIn wsX9_lessenAll (va_wsU RX9 214 RX8 "Craterclock$Lessening" ⟨"Craterclock$Lessening", "lossOf", "(LCraterclock$Crater;)I"⟩ yX8_lossOf wsX8_lossOf) := goodIn_app (goodIn_of _ (by decide +kernel)) ggX9_lessenAll_X8_lossOf
set_option maxRecDepth 20000 in
theorem ggX9_lessenAll_X1_lessen : GoodIn wsX9_lessenAll wsX1_lessen := goodIn_r _ [117, 118, 119, 27, 28, 29, 132, 133, 134, 135, 136, 137] (by decide +kernel) (by decide +kernel)
set_option maxRecDepth 20000 in
theorem gX9_lessenAll_X1_lessen : GoodIn wsX9_lessenAll (wsV RX9 209 RX1 yX1_lessen wsX1_lessen) := goodIn_app (goodIn_of _ (by decide +kernel)) ggX9_lessenAll_X1_lessen
theorem dX9_lessenAll_0 : decode cX9_lessenAll 0 = .ok (.aload_n 0, 1) := by decide +kernel
theorem dX9_lessenAll_1 : decode cX9_lessenAll 1 = .ok (.getfield 25, 3) := by decide +kernel
theorem dX9_lessenAll_4 : decode cX9_lessenAll 4 = .ok (.aload_n 1, 1) := by decide +kernel
theorem dX9_lessenAll_5 : decode cX9_lessenAll 5 = .ok (.invokevirtual 132, 3) := by decide +kernel
theorem dX9_lessenAll_8 : decode cX9_lessenAll 8 = .ok (.pop, 1) := by decide +kernel
theorem dX9_lessenAll_9 : decode cX9_lessenAll 9 = .ok (.iconst 0, 1) := by decide +kernel
theorem dX9_lessenAll_10 : decode cX9_lessenAll 10 = .ok (.istore_n 2, 1) := by decide +kernel
theorem dX9_lessenAll_11 : decode cX9_lessenAll 11 = .ok (.iconst 0, 1) := by decide +kernel
theorem dX9_lessenAll_12 : decode cX9_lessenAll 12 = .ok (.istore_n 3, 1) := by decide +kernel
theorem dX9_lessenAll_13 : decode cX9_lessenAll 13 = .ok (.iload_n 3, 1) := by decide +kernel
theorem dX9_lessenAll_14 : decode cX9_lessenAll 14 = .ok (.aload_n 0, 1) := by decide +kernel
theorem dX9_lessenAll_15 : decode cX9_lessenAll 15 = .ok (.getfield 21, 3) := by decide +kernel
theorem dX9_lessenAll_18 : decode cX9_lessenAll 18 = .ok (.invokevirtual 96, 3) := by decide +kernel
theorem dX9_lessenAll_21 : decode cX9_lessenAll 21 = .ok (.if_icmp .ge 39, 3) := by decide +kernel
theorem dX9_lessenAll_24 : decode cX9_lessenAll 24 = .ok (.aload_n 0, 1) := by decide +kernel
theorem dX9_lessenAll_25 : decode cX9_lessenAll 25 = .ok (.getfield 21, 3) := by decide +kernel
theorem dX9_lessenAll_28 : decode cX9_lessenAll 28 = .ok (.iload_n 3, 1) := by decide +kernel
theorem dX9_lessenAll_29 : decode cX9_lessenAll 29 = .ok (.invokevirtual 179, 3) := by decide +kernel
theorem dX9_lessenAll_32 : decode cX9_lessenAll 32 = .ok (.checkcast 183, 3) := by decide +kernel
theorem dX9_lessenAll_35 : decode cX9_lessenAll 35 = .ok (.astore 4, 2) := by decide +kernel
theorem dX9_lessenAll_37 : decode cX9_lessenAll 37 = .ok (.aload 4, 2) := by decide +kernel
theorem dX9_lessenAll_39 : decode cX9_lessenAll 39 = .ok (.aload_n 1, 1) := by decide +kernel
theorem dX9_lessenAll_40 : decode cX9_lessenAll 40 = .ok (.aload 4, 2) := by decide +kernel
theorem dX9_lessenAll_42 : decode cX9_lessenAll 42 = .ok (.invokevirtual 214, 3) := by decide +kernel
theorem dX9_lessenAll_45 : decode cX9_lessenAll 45 = .ok (.invokevirtual 209, 3) := by decide +kernel
theorem dX9_lessenAll_48 : decode cX9_lessenAll 48 = .ok (.ifCond .eq 6, 3) := by decide +kernel
theorem dX9_lessenAll_51 : decode cX9_lessenAll 51 = .ok (.iinc 2 1, 3) := by decide +kernel
theorem dX9_lessenAll_54 : decode cX9_lessenAll 54 = .ok (.iinc 3 1, 3) := by decide +kernel
theorem dX9_lessenAll_57 : decode cX9_lessenAll 57 = .ok (.goto (-44), 3) := by decide +kernel
theorem dX9_lessenAll_60 : decode cX9_lessenAll 60 = .ok (.iload_n 2, 1) := by decide +kernel
theorem dX9_lessenAll_61 : decode cX9_lessenAll 61 = .ok (.ireturn, 1) := by decide +kernel
set_option maxRecDepth 20000 in
theorem ggX9_countLeft_Jx4a65c_size_8abf5 : GoodIn wsX9_countLeft wsJx4a65c_size_8abf5 := goodIn_r _ [8, 9, 39, 40, 41] (by decide +kernel) (by decide +kernel)
set_option maxRecDepth 20000 in
theorem gX9_countLeft_Jx4a65c_size_8abf5 : GoodIn wsX9_countLeft (wsV RX9 96 RJx4a65c yJx4a65c_size_8abf5 wsJx4a65c_size_8abf5) := goodIn_app (goodIn_of _ (by decide +kernel)) ggX9_countLeft_Jx4a65c_size_8abf5
set_option maxRecDepth 20000 in
theorem ggX9_countLeft_Jx4a65c_get_915e3 : GoodIn wsX9_countLeft wsJx4a65c_get_915e3 := goodIn_r _ [13, 9, 14, 15, 16, 17, 18, 19, 20, 21, 22, 23, 24, 7, 25, 26, 39, 40, 41] (by decide +kernel) (by decide +kernel)
set_option maxRecDepth 20000 in
theorem gX9_countLeft_Jx4a65c_get_915e3 : GoodIn wsX9_countLeft (wsV RX9 179 RJx4a65c yJx4a65c_get_915e3 wsJx4a65c_get_915e3) := goodIn_app (goodIn_of _ (by decide +kernel)) ggX9_countLeft_Jx4a65c_get_915e3
theorem dX9_countLeft_0 : decode cX9_countLeft 0 = .ok (.iconst 0, 1) := by decide +kernel
theorem dX9_countLeft_1 : decode cX9_countLeft 1 = .ok (.istore_n 1, 1) := by decide +kernel
theorem dX9_countLeft_2 : decode cX9_countLeft 2 = .ok (.iconst 0, 1) := by decide +kernel
theorem dX9_countLeft_3 : decode cX9_countLeft 3 = .ok (.istore_n 2, 1) := by decide +kernel
theorem dX9_countLeft_4 : decode cX9_countLeft 4 = .ok (.iload_n 2, 1) := by decide +kernel
theorem dX9_countLeft_5 : decode cX9_countLeft 5 = .ok (.aload_n 0, 1) := by decide +kernel
theorem dX9_countLeft_6 : decode cX9_countLeft 6 = .ok (.getfield 21, 3) := by decide +kernel
theorem dX9_countLeft_9 : decode cX9_countLeft 9 = .ok (.invokevirtual 96, 3) := by decide +kernel
theorem dX9_countLeft_12 : decode cX9_countLeft 12 = .ok (.if_icmp .ge 29, 3) := by decide +kernel
theorem dX9_countLeft_15 : decode cX9_countLeft 15 = .ok (.aload_n 0, 1) := by decide +kernel
theorem dX9_countLeft_16 : decode cX9_countLeft 16 = .ok (.getfield 21, 3) := by decide +kernel
theorem dX9_countLeft_19 : decode cX9_countLeft 19 = .ok (.iload_n 2, 1) := by decide +kernel
theorem dX9_countLeft_20 : decode cX9_countLeft 20 = .ok (.invokevirtual 179, 3) := by decide +kernel
theorem dX9_countLeft_23 : decode cX9_countLeft 23 = .ok (.checkcast 183, 3) := by decide +kernel
theorem dX9_countLeft_26 : decode cX9_countLeft 26 = .ok (.getfield 194, 3) := by decide +kernel
theorem dX9_countLeft_29 : decode cX9_countLeft 29 = .ok (.ifCond .le 6, 3) := by decide +kernel
theorem dX9_countLeft_32 : decode cX9_countLeft 32 = .ok (.iinc 1 1, 3) := by decide +kernel
theorem dX9_countLeft_35 : decode cX9_countLeft 35 = .ok (.iinc 2 1, 3) := by decide +kernel
theorem dX9_countLeft_38 : decode cX9_countLeft 38 = .ok (.goto (-34), 3) := by decide +kernel
theorem dX9_countLeft_41 : decode cX9_countLeft 41 = .ok (.iload_n 1, 1) := by decide +kernel
theorem dX9_countLeft_42 : decode cX9_countLeft 42 = .ok (.ireturn, 1) := by decide +kernel
set_option maxRecDepth 20000 in
theorem ggX9_depthOnceMore_Jx4a65c_size_8abf5 : GoodIn wsX9_depthOnceMore wsJx4a65c_size_8abf5 := goodIn_r _ [15, 16, 99, 100, 101] (by decide +kernel) (by decide +kernel)
set_option maxRecDepth 20000 in
theorem gX9_depthOnceMore_Jx4a65c_size_8abf5 : GoodIn wsX9_depthOnceMore (wsV RX9 96 RJx4a65c yJx4a65c_size_8abf5 wsJx4a65c_size_8abf5) := goodIn_app (goodIn_of _ (by decide +kernel)) ggX9_depthOnceMore_Jx4a65c_size_8abf5
set_option maxRecDepth 20000 in
theorem ggX9_depthOnceMore_Jx4a65c_get_915e3 : GoodIn wsX9_depthOnceMore wsJx4a65c_get_915e3 := goodIn_r _ [20, 16, 21, 22, 23, 24, 25, 26, 27, 28, 29, 30, 31, 14, 32, 33, 99, 100, 101] (by decide +kernel) (by decide +kernel)
set_option maxRecDepth 20000 in
theorem gX9_depthOnceMore_Jx4a65c_get_915e3 : GoodIn wsX9_depthOnceMore (wsV RX9 179 RJx4a65c yJx4a65c_get_915e3 wsJx4a65c_get_915e3) := goodIn_app (goodIn_of _ (by decide +kernel)) ggX9_depthOnceMore_Jx4a65c_get_915e3
set_option maxRecDepth 20000 in
theorem ggX9_depthOnceMore_X1_lossBy : GoodIn wsX9_depthOnceMore wsX1_lossBy := goodIn_r _ [38, 39, 40, 41, 42, 43, 44, 45, 46, 37, 47, 87, 88, 89, 90, 91, 92] (by decide +kernel) (by decide +kernel)
set_option maxRecDepth 20000 in
theorem gX9_depthOnceMore_X1_lossBy : GoodIn wsX9_depthOnceMore (wsV RX9 205 RX1 yX1_lossBy wsX1_lossBy) := goodIn_app (goodIn_of _ (by decide +kernel)) ggX9_depthOnceMore_X1_lossBy
set_option maxRecDepth 20000 in
theorem ggX9_depthOnceMore_X5_lossOf : GoodIn wsX9_depthOnceMore wsX5_lossOf := goodIn_r _ [53, 54, 55, 56, 57, 58, 59, 60, 61, 62, 63, 64, 65, 66, 93, 94, 95, 87, 88, 89, 90, 91, 92, 102, 103, 104, 105] (by decide +kernel) (by decide +kernel)
set_option maxRecDepth 20000 in
theorem gX9_depthOnceMore_X5_lossOf_u214X5 : GoodIn wsX9_depthOnceMore (va_wsU RX9 214 RX5 "Craterclock$Lessening" ⟨"Craterclock$Lessening", "lossOf", "(LCraterclock$Crater;)I"⟩ yX5_lossOf wsX5_lossOf) := goodIn_app (goodIn_of _ (by decide +kernel)) ggX9_depthOnceMore_X5_lossOf
set_option maxRecDepth 20000 in
theorem ggX9_depthOnceMore_X8_lossOf : GoodIn wsX9_depthOnceMore wsX8_lossOf := goodIn_r _ [70, 71, 72, 73, 74, 75, 76, 77, 78, 79, 80, 96, 97, 98, 87, 88, 89, 90, 91, 92, 106] (by decide +kernel) (by decide +kernel)
set_option maxRecDepth 20000 in
theorem gX9_depthOnceMore_X8_lossOf_u214X8 : GoodIn wsX9_depthOnceMore (va_wsU RX9 214 RX8 "Craterclock$Lessening" ⟨"Craterclock$Lessening", "lossOf", "(LCraterclock$Crater;)I"⟩ yX8_lossOf wsX8_lossOf) := goodIn_app (goodIn_of _ (by decide +kernel)) ggX9_depthOnceMore_X8_lossOf
theorem dX9_depthOnceMore_0 : decode cX9_depthOnceMore 0 = .ok (.iload_n 1, 1) := by decide +kernel
theorem dX9_depthOnceMore_1 : decode cX9_depthOnceMore 1 = .ok (.ifCond .lt 14, 3) := by decide +kernel
theorem dX9_depthOnceMore_4 : decode cX9_depthOnceMore 4 = .ok (.iload_n 1, 1) := by decide +kernel
theorem dX9_depthOnceMore_5 : decode cX9_depthOnceMore 5 = .ok (.aload_n 0, 1) := by decide +kernel
theorem dX9_depthOnceMore_6 : decode cX9_depthOnceMore 6 = .ok (.getfield 21, 3) := by decide +kernel
theorem dX9_depthOnceMore_9 : decode cX9_depthOnceMore 9 = .ok (.invokevirtual 96, 3) := by decide +kernel
theorem dX9_depthOnceMore_12 : decode cX9_depthOnceMore 12 = .ok (.if_icmp .lt 5, 3) := by decide +kernel
theorem dX9_depthOnceMore_15 : decode cX9_depthOnceMore 15 = .ok (.iconst 0, 1) := by decide +kernel
theorem dX9_depthOnceMore_16 : decode cX9_depthOnceMore 16 = .ok (.ireturn, 1) := by decide +kernel
theorem dX9_depthOnceMore_17 : decode cX9_depthOnceMore 17 = .ok (.aload_n 0, 1) := by decide +kernel
theorem dX9_depthOnceMore_18 : decode cX9_depthOnceMore 18 = .ok (.getfield 21, 3) := by decide +kernel
theorem dX9_depthOnceMore_21 : decode cX9_depthOnceMore 21 = .ok (.iload_n 1, 1) := by decide +kernel
theorem dX9_depthOnceMore_22 : decode cX9_depthOnceMore 22 = .ok (.invokevirtual 179, 3) := by decide +kernel
theorem dX9_depthOnceMore_25 : decode cX9_depthOnceMore 25 = .ok (.checkcast 183, 3) := by decide +kernel
theorem dX9_depthOnceMore_28 : decode cX9_depthOnceMore 28 = .ok (.astore_n 2, 1) := by decide +kernel
theorem dX9_depthOnceMore_29 : decode cX9_depthOnceMore 29 = .ok (.aload_n 2, 1) := by decide +kernel
theorem dX9_depthOnceMore_30 : decode cX9_depthOnceMore 30 = .ok (.getfield 219, 3) := by decide +kernel
theorem dX9_depthOnceMore_33 : decode cX9_depthOnceMore 33 = .ok (.istore_n 3, 1) := by decide +kernel
theorem dX9_depthOnceMore_34 : decode cX9_depthOnceMore 34 = .ok (.iload_n 1, 1) := by decide +kernel
theorem dX9_depthOnceMore_35 : decode cX9_depthOnceMore 35 = .ok (.iconst 1, 1) := by decide +kernel
theorem dX9_depthOnceMore_36 : decode cX9_depthOnceMore 36 = .ok (.iadd, 1) := by decide +kernel
theorem dX9_depthOnceMore_37 : decode cX9_depthOnceMore 37 = .ok (.istore 4, 2) := by decide +kernel
theorem dX9_depthOnceMore_39 : decode cX9_depthOnceMore 39 = .ok (.iload 4, 2) := by decide +kernel
theorem dX9_depthOnceMore_41 : decode cX9_depthOnceMore 41 = .ok (.aload_n 0, 1) := by decide +kernel
theorem dX9_depthOnceMore_42 : decode cX9_depthOnceMore 42 = .ok (.getfield 21, 3) := by decide +kernel
theorem dX9_depthOnceMore_45 : decode cX9_depthOnceMore 45 = .ok (.invokevirtual 96, 3) := by decide +kernel
theorem dX9_depthOnceMore_48 : decode cX9_depthOnceMore 48 = .ok (.if_icmp .ge 28, 3) := by decide +kernel
theorem dX9_depthOnceMore_51 : decode cX9_depthOnceMore 51 = .ok (.iload_n 3, 1) := by decide +kernel
theorem dX9_depthOnceMore_52 : decode cX9_depthOnceMore 52 = .ok (.aload_n 2, 1) := by decide +kernel
theorem dX9_depthOnceMore_53 : decode cX9_depthOnceMore 53 = .ok (.aload_n 0, 1) := by decide +kernel
theorem dX9_depthOnceMore_54 : decode cX9_depthOnceMore 54 = .ok (.getfield 21, 3) := by decide +kernel
theorem dX9_depthOnceMore_57 : decode cX9_depthOnceMore 57 = .ok (.iload 4, 2) := by decide +kernel
theorem dX9_depthOnceMore_59 : decode cX9_depthOnceMore 59 = .ok (.invokevirtual 179, 3) := by decide +kernel
theorem dX9_depthOnceMore_62 : decode cX9_depthOnceMore 62 = .ok (.checkcast 183, 3) := by decide +kernel
theorem dX9_depthOnceMore_65 : decode cX9_depthOnceMore 65 = .ok (.invokevirtual 205, 3) := by decide +kernel
theorem dX9_depthOnceMore_68 : decode cX9_depthOnceMore 68 = .ok (.isub, 1) := by decide +kernel
theorem dX9_depthOnceMore_69 : decode cX9_depthOnceMore 69 = .ok (.istore_n 3, 1) := by decide +kernel
theorem dX9_depthOnceMore_70 : decode cX9_depthOnceMore 70 = .ok (.iinc 4 1, 3) := by decide +kernel
theorem dX9_depthOnceMore_73 : decode cX9_depthOnceMore 73 = .ok (.goto (-34), 3) := by decide +kernel
theorem dX9_depthOnceMore_76 : decode cX9_depthOnceMore 76 = .ok (.iconst 0, 1) := by decide +kernel
theorem dX9_depthOnceMore_77 : decode cX9_depthOnceMore 77 = .ok (.istore 4, 2) := by decide +kernel
theorem dX9_depthOnceMore_79 : decode cX9_depthOnceMore 79 = .ok (.iload 4, 2) := by decide +kernel
theorem dX9_depthOnceMore_81 : decode cX9_depthOnceMore 81 = .ok (.aload_n 0, 1) := by decide +kernel
theorem dX9_depthOnceMore_82 : decode cX9_depthOnceMore 82 = .ok (.getfield 25, 3) := by decide +kernel
theorem dX9_depthOnceMore_85 : decode cX9_depthOnceMore 85 = .ok (.invokevirtual 96, 3) := by decide +kernel
theorem dX9_depthOnceMore_88 : decode cX9_depthOnceMore 88 = .ok (.if_icmp .ge 41, 3) := by decide +kernel
theorem dX9_depthOnceMore_91 : decode cX9_depthOnceMore 91 = .ok (.aload_n 0, 1) := by decide +kernel
theorem dX9_depthOnceMore_92 : decode cX9_depthOnceMore 92 = .ok (.getfield 25, 3) := by decide +kernel
theorem dX9_depthOnceMore_95 : decode cX9_depthOnceMore 95 = .ok (.iload 4, 2) := by decide +kernel
theorem dX9_depthOnceMore_97 : decode cX9_depthOnceMore 97 = .ok (.invokevirtual 179, 3) := by decide +kernel
theorem dX9_depthOnceMore_100 : decode cX9_depthOnceMore 100 = .ok (.checkcast 215, 3) := by decide +kernel
theorem dX9_depthOnceMore_103 : decode cX9_depthOnceMore 103 = .ok (.astore 5, 2) := by decide +kernel
theorem dX9_depthOnceMore_105 : decode cX9_depthOnceMore 105 = .ok (.iload_n 1, 1) := by decide +kernel
theorem dX9_depthOnceMore_106 : decode cX9_depthOnceMore 106 = .ok (.aload 5, 2) := by decide +kernel
theorem dX9_depthOnceMore_108 : decode cX9_depthOnceMore 108 = .ok (.getfield 222, 3) := by decide +kernel
theorem dX9_depthOnceMore_111 : decode cX9_depthOnceMore 111 = .ok (.if_icmp .ge 12, 3) := by decide +kernel
theorem dX9_depthOnceMore_114 : decode cX9_depthOnceMore 114 = .ok (.iload_n 3, 1) := by decide +kernel
theorem dX9_depthOnceMore_115 : decode cX9_depthOnceMore 115 = .ok (.aload 5, 2) := by decide +kernel
theorem dX9_depthOnceMore_117 : decode cX9_depthOnceMore 117 = .ok (.aload_n 2, 1) := by decide +kernel
theorem dX9_depthOnceMore_118 : decode cX9_depthOnceMore 118 = .ok (.invokevirtual 214, 3) := by decide +kernel
theorem dX9_depthOnceMore_121 : decode cX9_depthOnceMore 121 = .ok (.isub, 1) := by decide +kernel
theorem dX9_depthOnceMore_122 : decode cX9_depthOnceMore 122 = .ok (.istore_n 3, 1) := by decide +kernel
theorem dX9_depthOnceMore_123 : decode cX9_depthOnceMore 123 = .ok (.iinc 4 1, 3) := by decide +kernel
theorem dX9_depthOnceMore_126 : decode cX9_depthOnceMore 126 = .ok (.goto (-47), 3) := by decide +kernel
theorem dX9_depthOnceMore_129 : decode cX9_depthOnceMore 129 = .ok (.iconst 0, 1) := by decide +kernel
theorem dX9_depthOnceMore_130 : decode cX9_depthOnceMore 130 = .ok (.iload_n 3, 1) := by decide +kernel
theorem dX9_depthOnceMore_131 : decode cX9_depthOnceMore 131 = .ok (.invokestatic 225, 3) := by decide +kernel
theorem dX9_depthOnceMore_134 : decode cX9_depthOnceMore 134 = .ok (.ireturn, 1) := by decide +kernel
set_option maxRecDepth 20000 in
theorem ggX9_countSeen_Jx4a65c_size_8abf5 : GoodIn wsX9_countSeen wsJx4a65c_size_8abf5 := goodIn_r _ [12, 13, 59, 60, 61] (by decide +kernel) (by decide +kernel)
set_option maxRecDepth 20000 in
theorem gX9_countSeen_Jx4a65c_size_8abf5 : GoodIn wsX9_countSeen (wsV RX9 96 RJx4a65c yJx4a65c_size_8abf5 wsJx4a65c_size_8abf5) := goodIn_app (goodIn_of _ (by decide +kernel)) ggX9_countSeen_Jx4a65c_size_8abf5
set_option maxRecDepth 20000 in
theorem ggX9_countSeen_Jx4a65c_get_915e3 : GoodIn wsX9_countSeen wsJx4a65c_get_915e3 := goodIn_r _ [17, 13, 18, 19, 20, 21, 22, 23, 24, 25, 26, 27, 28, 11, 29, 30, 59, 60, 61] (by decide +kernel) (by decide +kernel)
set_option maxRecDepth 20000 in
theorem gX9_countSeen_Jx4a65c_get_915e3 : GoodIn wsX9_countSeen (wsV RX9 179 RJx4a65c yJx4a65c_get_915e3 wsJx4a65c_get_915e3) := goodIn_app (goodIn_of _ (by decide +kernel)) ggX9_countSeen_Jx4a65c_get_915e3
set_option maxRecDepth 20000 in
theorem ggX9_countSeen_X4_has : GoodIn wsX9_countSeen wsX4_has := goodIn_r _ [35, 36, 37, 38, 39, 62, 63, 64, 65] (by decide +kernel) (by decide +kernel)
set_option maxRecDepth 20000 in
theorem gX9_countSeen_X4_has : GoodIn wsX9_countSeen (wsV RX9 230 RX4 yX4_has wsX4_has) := goodIn_app (goodIn_of _ (by decide +kernel)) ggX9_countSeen_X4_has
set_option maxRecDepth 20000 in
theorem ggX9_countSeen_X3_sees : GoodIn wsX9_countSeen wsX3_sees := goodIn_r _ [44, 45, 46, 53, 54, 55, 56, 57, 58, 66] (by decide +kernel) (by decide +kernel)
set_option maxRecDepth 20000 in
theorem gX9_countSeen_X3_sees : GoodIn wsX9_countSeen (wsV RX9 233 RX3 yX3_sees wsX3_sees) := goodIn_app (goodIn_of _ (by decide +kernel)) ggX9_countSeen_X3_sees
theorem dX9_countSeen_0 : decode cX9_countSeen 0 = .ok (.iload_n 1, 1) := by decide +kernel
theorem dX9_countSeen_1 : decode cX9_countSeen 1 = .ok (.ifCond .lt 14, 3) := by decide +kernel
theorem dX9_countSeen_4 : decode cX9_countSeen 4 = .ok (.iload_n 1, 1) := by decide +kernel
theorem dX9_countSeen_5 : decode cX9_countSeen 5 = .ok (.aload_n 0, 1) := by decide +kernel
theorem dX9_countSeen_6 : decode cX9_countSeen 6 = .ok (.getfield 28, 3) := by decide +kernel
theorem dX9_countSeen_9 : decode cX9_countSeen 9 = .ok (.invokevirtual 96, 3) := by decide +kernel
theorem dX9_countSeen_12 : decode cX9_countSeen 12 = .ok (.if_icmp .lt 5, 3) := by decide +kernel
theorem dX9_countSeen_15 : decode cX9_countSeen 15 = .ok (.iconst 0, 1) := by decide +kernel
theorem dX9_countSeen_16 : decode cX9_countSeen 16 = .ok (.ireturn, 1) := by decide +kernel
theorem dX9_countSeen_17 : decode cX9_countSeen 17 = .ok (.aload_n 0, 1) := by decide +kernel
theorem dX9_countSeen_18 : decode cX9_countSeen 18 = .ok (.getfield 28, 3) := by decide +kernel
theorem dX9_countSeen_21 : decode cX9_countSeen 21 = .ok (.iload_n 1, 1) := by decide +kernel
theorem dX9_countSeen_22 : decode cX9_countSeen 22 = .ok (.invokevirtual 179, 3) := by decide +kernel
theorem dX9_countSeen_25 : decode cX9_countSeen 25 = .ok (.checkcast 128, 3) := by decide +kernel
theorem dX9_countSeen_28 : decode cX9_countSeen 28 = .ok (.astore 4, 2) := by decide +kernel
theorem dX9_countSeen_30 : decode cX9_countSeen 30 = .ok (.iconst 0, 1) := by decide +kernel
theorem dX9_countSeen_31 : decode cX9_countSeen 31 = .ok (.istore 5, 2) := by decide +kernel
theorem dX9_countSeen_33 : decode cX9_countSeen 33 = .ok (.iconst 0, 1) := by decide +kernel
theorem dX9_countSeen_34 : decode cX9_countSeen 34 = .ok (.istore 6, 2) := by decide +kernel
theorem dX9_countSeen_36 : decode cX9_countSeen 36 = .ok (.iload 6, 2) := by decide +kernel
theorem dX9_countSeen_38 : decode cX9_countSeen 38 = .ok (.aload_n 0, 1) := by decide +kernel
theorem dX9_countSeen_39 : decode cX9_countSeen 39 = .ok (.getfield 21, 3) := by decide +kernel
theorem dX9_countSeen_42 : decode cX9_countSeen 42 = .ok (.invokevirtual 96, 3) := by decide +kernel
theorem dX9_countSeen_45 : decode cX9_countSeen 45 = .ok (.if_icmp .ge 62, 3) := by decide +kernel
theorem dX9_countSeen_48 : decode cX9_countSeen 48 = .ok (.aload_n 0, 1) := by decide +kernel
theorem dX9_countSeen_49 : decode cX9_countSeen 49 = .ok (.getfield 21, 3) := by decide +kernel
theorem dX9_countSeen_52 : decode cX9_countSeen 52 = .ok (.iload 6, 2) := by decide +kernel
theorem dX9_countSeen_54 : decode cX9_countSeen 54 = .ok (.invokevirtual 179, 3) := by decide +kernel
theorem dX9_countSeen_57 : decode cX9_countSeen 57 = .ok (.checkcast 183, 3) := by decide +kernel
theorem dX9_countSeen_60 : decode cX9_countSeen 60 = .ok (.astore 7, 2) := by decide +kernel
theorem dX9_countSeen_62 : decode cX9_countSeen 62 = .ok (.aload 7, 2) := by decide +kernel
theorem dX9_countSeen_64 : decode cX9_countSeen 64 = .ok (.getfield 191, 3) := by decide +kernel
theorem dX9_countSeen_67 : decode cX9_countSeen 67 = .ok (.iload_n 3, 1) := by decide +kernel
theorem dX9_countSeen_68 : decode cX9_countSeen 68 = .ok (.if_icmp .lt 33, 3) := by decide +kernel
theorem dX9_countSeen_71 : decode cX9_countSeen 71 = .ok (.aload_n 2, 1) := by decide +kernel
theorem dX9_countSeen_72 : decode cX9_countSeen 72 = .ok (.aload 7, 2) := by decide +kernel
theorem dX9_countSeen_74 : decode cX9_countSeen 74 = .ok (.getfield 185, 3) := by decide +kernel
theorem dX9_countSeen_77 : decode cX9_countSeen 77 = .ok (.aload 7, 2) := by decide +kernel
theorem dX9_countSeen_79 : decode cX9_countSeen 79 = .ok (.getfield 188, 3) := by decide +kernel
theorem dX9_countSeen_82 : decode cX9_countSeen 82 = .ok (.invokevirtual 230, 3) := by decide +kernel
theorem dX9_countSeen_85 : decode cX9_countSeen 85 = .ok (.ifCond .eq 16, 3) := by decide +kernel
theorem dX9_countSeen_88 : decode cX9_countSeen 88 = .ok (.aload 4, 2) := by decide +kernel
theorem dX9_countSeen_90 : decode cX9_countSeen 90 = .ok (.aload 7, 2) := by decide +kernel
theorem dX9_countSeen_92 : decode cX9_countSeen 92 = .ok (.invokevirtual 233, 3) := by decide +kernel
theorem dX9_countSeen_95 : decode cX9_countSeen 95 = .ok (.ifCond .eq 6, 3) := by decide +kernel
theorem dX9_countSeen_98 : decode cX9_countSeen 98 = .ok (.iinc 5 1, 3) := by decide +kernel
theorem dX9_countSeen_101 : decode cX9_countSeen 101 = .ok (.iinc 6 1, 3) := by decide +kernel
theorem dX9_countSeen_104 : decode cX9_countSeen 104 = .ok (.goto (-68), 3) := by decide +kernel
theorem dX9_countSeen_107 : decode cX9_countSeen 107 = .ok (.iload 5, 2) := by decide +kernel
theorem dX9_countSeen_109 : decode cX9_countSeen 109 = .ok (.ireturn, 1) := by decide +kernel
set_option maxRecDepth 20000 in
theorem ggX9_densitySeen_X9_countSeen : GoodIn wsX9_densitySeen wsX9_countSeen := goodIn_r _ [6, 7, 8, 9, 10, 11, 12, 13, 14, 15, 16, 17, 18, 19, 20, 21, 22, 23, 24, 25, 26, 27, 28, 29, 30, 31, 32, 33, 34, 35, 36, 37, 38, 39, 40, 41, 42, 43, 44, 45, 46, 47, 48, 49, 50, 51, 52, 61, 62, 63, 64, 65, 66, 67, 68, 69, 70, 71, 72, 73, 74, 75, 76, 77, 78, 79, 80] (by decide +kernel) (by decide +kernel)
set_option maxRecDepth 20000 in
theorem gX9_densitySeen_X9_countSeen : GoodIn wsX9_densitySeen (wsV RX9 156 RX9 yX9_countSeen wsX9_countSeen) := goodIn_app (goodIn_of _ (by decide +kernel)) ggX9_densitySeen_X9_countSeen
set_option maxRecDepth 20000 in
theorem ggX9_densitySeen_X4_cells : GoodIn wsX9_densitySeen wsX4_cells := goodIn_r _ [56, 43, 42, 45, 44, 76, 77, 78, 79] (by decide +kernel) (by decide +kernel)
set_option maxRecDepth 20000 in
theorem gX9_densitySeen_X4_cells : GoodIn wsX9_densitySeen (wsV RX9 239 RX4 yX4_cells wsX4_cells) := goodIn_app (goodIn_of _ (by decide +kernel)) ggX9_densitySeen_X4_cells
set_option maxRecDepth 20000 in
theorem ggX9_densitySeen_X2_dividedDown : GoodIn wsX9_densitySeen wsX2_dividedDown := goodIn_r _ [60] (by decide +kernel) (by decide +kernel)
set_option maxRecDepth 20000 in
theorem gX9_densitySeen_X2_dividedDown : GoodIn wsX9_densitySeen (va_wsS RX9 241 yX2_dividedDown wsX2_dividedDown) := goodIn_app (goodIn_of _ (by decide +kernel)) ggX9_densitySeen_X2_dividedDown
theorem dX9_densitySeen_0 : decode cX9_densitySeen 0 = .ok (.aload_n 0, 1) := by decide +kernel
theorem dX9_densitySeen_1 : decode cX9_densitySeen 1 = .ok (.iload_n 1, 1) := by decide +kernel
theorem dX9_densitySeen_2 : decode cX9_densitySeen 2 = .ok (.aload_n 2, 1) := by decide +kernel
theorem dX9_densitySeen_3 : decode cX9_densitySeen 3 = .ok (.iconst 1, 1) := by decide +kernel
theorem dX9_densitySeen_4 : decode cX9_densitySeen 4 = .ok (.invokevirtual 156, 3) := by decide +kernel
theorem dX9_densitySeen_7 : decode cX9_densitySeen 7 = .ok (.i2l, 1) := by decide +kernel
theorem dX9_densitySeen_8 : decode cX9_densitySeen 8 = .ok (.ldc2_w 237, 3) := by decide +kernel
theorem dX9_densitySeen_11 : decode cX9_densitySeen 11 = .ok (.lmul, 1) := by decide +kernel
theorem dX9_densitySeen_12 : decode cX9_densitySeen 12 = .ok (.aload_n 2, 1) := by decide +kernel
theorem dX9_densitySeen_13 : decode cX9_densitySeen 13 = .ok (.invokevirtual 239, 3) := by decide +kernel
theorem dX9_densitySeen_16 : decode cX9_densitySeen 16 = .ok (.i2l, 1) := by decide +kernel
theorem dX9_densitySeen_17 : decode cX9_densitySeen 17 = .ok (.invokestatic 241, 3) := by decide +kernel
theorem dX9_densitySeen_20 : decode cX9_densitySeen 20 = .ok (.lreturn, 1) := by decide +kernel
theorem dX9_requireCell_0 : decode cX9_requireCell 0 = .ok (.iload_n 0, 1) := by decide +kernel
theorem dX9_requireCell_1 : decode cX9_requireCell 1 = .ok (.ifCond .lt 19, 3) := by decide +kernel
theorem dX9_requireCell_4 : decode cX9_requireCell 4 = .ok (.iload_n 0, 1) := by decide +kernel
theorem dX9_requireCell_5 : decode cX9_requireCell 5 = .ok (.bipush 16, 2) := by decide +kernel
theorem dX9_requireCell_7 : decode cX9_requireCell 7 = .ok (.if_icmp .ge 13, 3) := by decide +kernel
theorem dX9_requireCell_10 : decode cX9_requireCell 10 = .ok (.iload_n 1, 1) := by decide +kernel
theorem dX9_requireCell_11 : decode cX9_requireCell 11 = .ok (.ifCond .lt 9, 3) := by decide +kernel
theorem dX9_requireCell_14 : decode cX9_requireCell 14 = .ok (.iload_n 1, 1) := by decide +kernel
theorem dX9_requireCell_15 : decode cX9_requireCell 15 = .ok (.bipush 16, 2) := by decide +kernel
theorem dX9_requireCell_17 : decode cX9_requireCell 17 = .ok (.if_icmp .lt 13, 3) := by decide +kernel
theorem dX9_requireCell_20 : decode cX9_requireCell 20 = .ok (.new 245, 3) := by decide +kernel
theorem dX9_requireCell_23 : decode cX9_requireCell 23 = .ok (.dup, 1) := by decide +kernel
theorem dX9_requireCell_24 : decode cX9_requireCell 24 = .ok (.ldc 247, 2) := by decide +kernel
theorem dX9_requireCell_26 : decode cX9_requireCell 26 = .ok (.invokespecial 249, 3) := by decide +kernel
theorem dX9_requireCell_29 : decode cX9_requireCell 29 = .ok (.athrow, 1) := by decide +kernel
theorem dX9_requireCell_30 : decode cX9_requireCell 30 = .ok (.return_, 1) := by decide +kernel
set_option maxRecDepth 20000 in
theorem ggX9_requireCrater_Jx4a65c_size_8abf5 : GoodIn wsX9_requireCrater wsJx4a65c_size_8abf5 := goodIn_r _ [8, 9, 16, 17, 18] (by decide +kernel) (by decide +kernel)
set_option maxRecDepth 20000 in
theorem gX9_requireCrater_Jx4a65c_size_8abf5 : GoodIn wsX9_requireCrater (wsV RX9 96 RJx4a65c yJx4a65c_size_8abf5 wsJx4a65c_size_8abf5) := goodIn_app (goodIn_of _ (by decide +kernel)) ggX9_requireCrater_Jx4a65c_size_8abf5
theorem dX9_requireCrater_0 : decode cX9_requireCrater 0 = .ok (.iload_n 1, 1) := by decide +kernel
theorem dX9_requireCrater_1 : decode cX9_requireCrater 1 = .ok (.ifCond .lt 14, 3) := by decide +kernel
theorem dX9_requireCrater_4 : decode cX9_requireCrater 4 = .ok (.iload_n 1, 1) := by decide +kernel
theorem dX9_requireCrater_5 : decode cX9_requireCrater 5 = .ok (.aload_n 0, 1) := by decide +kernel
theorem dX9_requireCrater_6 : decode cX9_requireCrater 6 = .ok (.getfield 21, 3) := by decide +kernel
theorem dX9_requireCrater_9 : decode cX9_requireCrater 9 = .ok (.invokevirtual 96, 3) := by decide +kernel
theorem dX9_requireCrater_12 : decode cX9_requireCrater 12 = .ok (.if_icmp .lt 13, 3) := by decide +kernel
theorem dX9_requireCrater_15 : decode cX9_requireCrater 15 = .ok (.new 245, 3) := by decide +kernel
theorem dX9_requireCrater_18 : decode cX9_requireCrater 18 = .ok (.dup, 1) := by decide +kernel
theorem dX9_requireCrater_19 : decode cX9_requireCrater 19 = .ok (.ldc 250, 2) := by decide +kernel
theorem dX9_requireCrater_21 : decode cX9_requireCrater 21 = .ok (.invokespecial 249, 3) := by decide +kernel
theorem dX9_requireCrater_24 : decode cX9_requireCrater 24 = .ok (.athrow, 1) := by decide +kernel
theorem dX9_requireCrater_25 : decode cX9_requireCrater 25 = .ok (.return_, 1) := by decide +kernel
set_option maxRecDepth 20000 in
theorem ggX9_requireEyeAndCells_Jx4a65c_size_8abf5 : GoodIn wsX9_requireEyeAndCells wsJx4a65c_size_8abf5 := goodIn_r _ [8, 9, 20, 21, 22] (by decide +kernel) (by decide +kernel)
set_option maxRecDepth 20000 in
theorem gX9_requireEyeAndCells_Jx4a65c_size_8abf5 : GoodIn wsX9_requireEyeAndCells (wsV RX9 96 RJx4a65c yJx4a65c_size_8abf5 wsJx4a65c_size_8abf5) := goodIn_app (goodIn_of _ (by decide +kernel)) ggX9_requireEyeAndCells_Jx4a65c_size_8abf5
set_option maxRecDepth 20000 in
theorem ggX9_requireEyeAndCells_X9_requireCell : GoodIn wsX9_requireEyeAndCells wsX9_requireCell := goodIn_ca (goodIn_r _ [13, 1, 2] (by decide +kernel) (by decide +kernel)) (goodIn_sub (fun _ h => List.mem_cons_of_mem _ (List.mem_append_right _ h)) (by decide +kernel))
set_option maxRecDepth 20000 in
theorem gX9_requireEyeAndCells_X9_requireCell : GoodIn wsX9_requireEyeAndCells (va_wsS RX9 42 yX9_requireCell wsX9_requireCell) := goodIn_app (goodIn_of _ (by decide +kernel)) ggX9_requireEyeAndCells_X9_requireCell
theorem dX9_requireEyeAndCells_0 : decode cX9_requireEyeAndCells 0 = .ok (.iload_n 1, 1) := by decide +kernel
theorem dX9_requireEyeAndCells_1 : decode cX9_requireEyeAndCells 1 = .ok (.ifCond .lt 14, 3) := by decide +kernel
theorem dX9_requireEyeAndCells_4 : decode cX9_requireEyeAndCells 4 = .ok (.iload_n 1, 1) := by decide +kernel
theorem dX9_requireEyeAndCells_5 : decode cX9_requireEyeAndCells 5 = .ok (.aload_n 0, 1) := by decide +kernel
theorem dX9_requireEyeAndCells_6 : decode cX9_requireEyeAndCells 6 = .ok (.getfield 28, 3) := by decide +kernel
theorem dX9_requireEyeAndCells_9 : decode cX9_requireEyeAndCells 9 = .ok (.invokevirtual 96, 3) := by decide +kernel
theorem dX9_requireEyeAndCells_12 : decode cX9_requireEyeAndCells 12 = .ok (.if_icmp .lt 13, 3) := by decide +kernel
theorem dX9_requireEyeAndCells_15 : decode cX9_requireEyeAndCells 15 = .ok (.new 245, 3) := by decide +kernel
theorem dX9_requireEyeAndCells_18 : decode cX9_requireEyeAndCells 18 = .ok (.dup, 1) := by decide +kernel
theorem dX9_requireEyeAndCells_19 : decode cX9_requireEyeAndCells 19 = .ok (.ldc 252, 2) := by decide +kernel
theorem dX9_requireEyeAndCells_21 : decode cX9_requireEyeAndCells 21 = .ok (.invokespecial 249, 3) := by decide +kernel
theorem dX9_requireEyeAndCells_24 : decode cX9_requireEyeAndCells 24 = .ok (.athrow, 1) := by decide +kernel
theorem dX9_requireEyeAndCells_25 : decode cX9_requireEyeAndCells 25 = .ok (.iload_n 2, 1) := by decide +kernel
theorem dX9_requireEyeAndCells_26 : decode cX9_requireEyeAndCells 26 = .ok (.iload_n 3, 1) := by decide +kernel
theorem dX9_requireEyeAndCells_27 : decode cX9_requireEyeAndCells 27 = .ok (.invokestatic 42, 3) := by decide +kernel
theorem dX9_requireEyeAndCells_30 : decode cX9_requireEyeAndCells 30 = .ok (.iload 4, 2) := by decide +kernel
theorem dX9_requireEyeAndCells_32 : decode cX9_requireEyeAndCells 32 = .ok (.iload 5, 2) := by decide +kernel
theorem dX9_requireEyeAndCells_34 : decode cX9_requireEyeAndCells 34 = .ok (.invokestatic 42, 3) := by decide +kernel
theorem dX9_requireEyeAndCells_37 : decode cX9_requireEyeAndCells 37 = .ok (.return_, 1) := by decide +kernel
theorem dX9_requireRange_0 : decode cX9_requireRange 0 = .ok (.lload_n 0, 1) := by decide +kernel
theorem dX9_requireRange_1 : decode cX9_requireRange 1 = .ok (.lload_n 2, 1) := by decide +kernel
theorem dX9_requireRange_2 : decode cX9_requireRange 2 = .ok (.lcmp, 1) := by decide +kernel
theorem dX9_requireRange_3 : decode cX9_requireRange 3 = .ok (.ifCond .lt 10, 3) := by decide +kernel
theorem dX9_requireRange_6 : decode cX9_requireRange 6 = .ok (.lload_n 0, 1) := by decide +kernel
theorem dX9_requireRange_7 : decode cX9_requireRange 7 = .ok (.lload 4, 2) := by decide +kernel
theorem dX9_requireRange_9 : decode cX9_requireRange 9 = .ok (.lcmp, 1) := by decide +kernel
theorem dX9_requireRange_10 : decode cX9_requireRange 10 = .ok (.ifCond .le 14, 3) := by decide +kernel
theorem dX9_requireRange_13 : decode cX9_requireRange 13 = .ok (.new 254, 3) := by decide +kernel
theorem dX9_requireRange_16 : decode cX9_requireRange 16 = .ok (.dup, 1) := by decide +kernel
theorem dX9_requireRange_17 : decode cX9_requireRange 17 = .ok (.ldc_w 256, 3) := by decide +kernel
theorem dX9_requireRange_20 : decode cX9_requireRange 20 = .ok (.invokespecial 258, 3) := by decide +kernel
theorem dX9_requireRange_23 : decode cX9_requireRange 23 = .ok (.athrow, 1) := by decide +kernel
theorem dX9_requireRange_24 : decode cX9_requireRange 24 = .ok (.return_, 1) := by decide +kernel
theorem dX9_requireOrder_0 : decode cX9_requireOrder 0 = .ok (.iload_n 2, 1) := by decide +kernel
theorem dX9_requireOrder_1 : decode cX9_requireOrder 1 = .ok (.iload_n 0, 1) := by decide +kernel
theorem dX9_requireOrder_2 : decode cX9_requireOrder 2 = .ok (.if_icmp .lt 8, 3) := by decide +kernel
theorem dX9_requireOrder_5 : decode cX9_requireOrder 5 = .ok (.iload_n 3, 1) := by decide +kernel
theorem dX9_requireOrder_6 : decode cX9_requireOrder 6 = .ok (.iload_n 1, 1) := by decide +kernel
theorem dX9_requireOrder_7 : decode cX9_requireOrder 7 = .ok (.if_icmp .ge 14, 3) := by decide +kernel
theorem dX9_requireOrder_10 : decode cX9_requireOrder 10 = .ok (.new 254, 3) := by decide +kernel
theorem dX9_requireOrder_13 : decode cX9_requireOrder 13 = .ok (.dup, 1) := by decide +kernel
theorem dX9_requireOrder_14 : decode cX9_requireOrder 14 = .ok (.ldc_w 259, 3) := by decide +kernel
theorem dX9_requireOrder_17 : decode cX9_requireOrder 17 = .ok (.invokespecial 258, 3) := by decide +kernel
theorem dX9_requireOrder_20 : decode cX9_requireOrder 20 = .ok (.athrow, 1) := by decide +kernel
theorem dX9_requireOrder_21 : decode cX9_requireOrder 21 = .ok (.return_, 1) := by decide +kernel
set_option maxRecDepth 20000 in
theorem ggX9_requireRoomForCraters_Jx4a65c_size_8abf5 : GoodIn wsX9_requireRoomForCraters wsJx4a65c_size_8abf5 := goodIn_r _ [8, 9, 16, 17, 18] (by decide +kernel) (by decide +kernel)
set_option maxRecDepth 20000 in
theorem gX9_requireRoomForCraters_Jx4a65c_size_8abf5 : GoodIn wsX9_requireRoomForCraters (wsV RX9 96 RJx4a65c yJx4a65c_size_8abf5 wsJx4a65c_size_8abf5) := goodIn_app (goodIn_of _ (by decide +kernel)) ggX9_requireRoomForCraters_Jx4a65c_size_8abf5
theorem dX9_requireRoomForCraters_0 : decode cX9_requireRoomForCraters 0 = .ok (.aload_n 0, 1) := by decide +kernel
theorem dX9_requireRoomForCraters_1 : decode cX9_requireRoomForCraters 1 = .ok (.getfield 21, 3) := by decide +kernel
theorem dX9_requireRoomForCraters_4 : decode cX9_requireRoomForCraters 4 = .ok (.invokevirtual 96, 3) := by decide +kernel
theorem dX9_requireRoomForCraters_7 : decode cX9_requireRoomForCraters 7 = .ok (.iload_n 1, 1) := by decide +kernel
theorem dX9_requireRoomForCraters_8 : decode cX9_requireRoomForCraters 8 = .ok (.iadd, 1) := by decide +kernel
theorem dX9_requireRoomForCraters_9 : decode cX9_requireRoomForCraters 9 = .ok (.sipush 200, 3) := by decide +kernel
theorem dX9_requireRoomForCraters_12 : decode cX9_requireRoomForCraters 12 = .ok (.if_icmp .le 14, 3) := by decide +kernel
theorem dX9_requireRoomForCraters_15 : decode cX9_requireRoomForCraters 15 = .ok (.new 121, 3) := by decide +kernel
theorem dX9_requireRoomForCraters_18 : decode cX9_requireRoomForCraters 18 = .ok (.dup, 1) := by decide +kernel
theorem dX9_requireRoomForCraters_19 : decode cX9_requireRoomForCraters 19 = .ok (.ldc_w 261, 3) := by decide +kernel
theorem dX9_requireRoomForCraters_22 : decode cX9_requireRoomForCraters 22 = .ok (.invokespecial 125, 3) := by decide +kernel
theorem dX9_requireRoomForCraters_25 : decode cX9_requireRoomForCraters 25 = .ok (.athrow, 1) := by decide +kernel
theorem dX9_requireRoomForCraters_26 : decode cX9_requireRoomForCraters 26 = .ok (.return_, 1) := by decide +kernel
set_option maxRecDepth 20000 in
theorem ggX9_requireRoomForLessening_Jx4a65c_size_8abf5 : GoodIn wsX9_requireRoomForLessening wsJx4a65c_size_8abf5 := goodIn_r _ [8, 9, 16, 17, 18] (by decide +kernel) (by decide +kernel)
set_option maxRecDepth 20000 in
theorem gX9_requireRoomForLessening_Jx4a65c_size_8abf5 : GoodIn wsX9_requireRoomForLessening (wsV RX9 96 RJx4a65c yJx4a65c_size_8abf5 wsJx4a65c_size_8abf5) := goodIn_app (goodIn_of _ (by decide +kernel)) ggX9_requireRoomForLessening_Jx4a65c_size_8abf5
theorem dX9_requireRoomForLessening_0 : decode cX9_requireRoomForLessening 0 = .ok (.aload_n 0, 1) := by decide +kernel
theorem dX9_requireRoomForLessening_1 : decode cX9_requireRoomForLessening 1 = .ok (.getfield 25, 3) := by decide +kernel
theorem dX9_requireRoomForLessening_4 : decode cX9_requireRoomForLessening 4 = .ok (.invokevirtual 96, 3) := by decide +kernel
theorem dX9_requireRoomForLessening_7 : decode cX9_requireRoomForLessening 7 = .ok (.bipush 100, 2) := by decide +kernel
theorem dX9_requireRoomForLessening_9 : decode cX9_requireRoomForLessening 9 = .ok (.if_icmp .lt 14, 3) := by decide +kernel
theorem dX9_requireRoomForLessening_12 : decode cX9_requireRoomForLessening 12 = .ok (.new 121, 3) := by decide +kernel
theorem dX9_requireRoomForLessening_15 : decode cX9_requireRoomForLessening 15 = .ok (.dup, 1) := by decide +kernel
theorem dX9_requireRoomForLessening_16 : decode cX9_requireRoomForLessening 16 = .ok (.ldc_w 263, 3) := by decide +kernel
theorem dX9_requireRoomForLessening_19 : decode cX9_requireRoomForLessening 19 = .ok (.invokespecial 125, 3) := by decide +kernel
theorem dX9_requireRoomForLessening_22 : decode cX9_requireRoomForLessening 22 = .ok (.athrow, 1) := by decide +kernel
theorem dX9_requireRoomForLessening_23 : decode cX9_requireRoomForLessening 23 = .ok (.return_, 1) := by decide +kernel
theorem dJ9_max_7cf53_0 : decode cJ9_max_7cf53 0 = .ok (.iload_n 0, 1) := by decide +kernel
theorem dJ9_max_7cf53_1 : decode cJ9_max_7cf53 1 = .ok (.iload_n 1, 1) := by decide +kernel
theorem dJ9_max_7cf53_2 : decode cJ9_max_7cf53 2 = .ok (.if_icmp .lt 7, 3) := by decide +kernel
theorem dJ9_max_7cf53_5 : decode cJ9_max_7cf53 5 = .ok (.iload_n 0, 1) := by decide +kernel
theorem dJ9_max_7cf53_6 : decode cJ9_max_7cf53 6 = .ok (.goto 4, 3) := by decide +kernel
theorem dJ9_max_7cf53_9 : decode cJ9_max_7cf53 9 = .ok (.iload_n 1, 1) := by decide +kernel
theorem dJ9_max_7cf53_10 : decode cJ9_max_7cf53 10 = .ok (.ireturn, 1) := by decide +kernel
theorem dJ9_min_7cf53_0 : decode cJ9_min_7cf53 0 = .ok (.iload_n 0, 1) := by decide +kernel
theorem dJ9_min_7cf53_1 : decode cJ9_min_7cf53 1 = .ok (.iload_n 1, 1) := by decide +kernel
theorem dJ9_min_7cf53_2 : decode cJ9_min_7cf53 2 = .ok (.if_icmp .gt 7, 3) := by decide +kernel
theorem dJ9_min_7cf53_5 : decode cJ9_min_7cf53 5 = .ok (.iload_n 0, 1) := by decide +kernel
theorem dJ9_min_7cf53_6 : decode cJ9_min_7cf53 6 = .ok (.goto 4, 3) := by decide +kernel
theorem dJ9_min_7cf53_9 : decode cJ9_min_7cf53 9 = .ok (.iload_n 1, 1) := by decide +kernel
theorem dJ9_min_7cf53_10 : decode cJ9_min_7cf53 10 = .ok (.ireturn, 1) := by decide +kernel
theorem dJxa1e45_init_da8c8_0 : decode cJxa1e45_init_da8c8 0 = .ok (.aload_n 0, 1) := by decide +kernel
theorem dJxa1e45_init_da8c8_1 : decode cJxa1e45_init_da8c8 1 = .ok (.invokespecial 1, 3) := by decide +kernel
theorem dJxa1e45_init_da8c8_4 : decode cJxa1e45_init_da8c8 4 = .ok (.return_, 1) := by decide +kernel
set_option maxRecDepth 20000 in
theorem ggJxc12de_init_da8c8_Jxa1e45_init_da8c8 : GoodIn wsJxc12de_init_da8c8 wsJxa1e45_init_da8c8 := goodIn_r _ [5, 6, 7, 8] (by decide +kernel) (by decide +kernel)
set_option maxRecDepth 20000 in
theorem gJxc12de_init_da8c8_Jxa1e45_init_da8c8 : GoodIn wsJxc12de_init_da8c8 (wsJxa1e45_init_da8c8) := ggJxc12de_init_da8c8_Jxa1e45_init_da8c8
theorem dJxc12de_init_da8c8_0 : decode cJxc12de_init_da8c8 0 = .ok (.aload_n 0, 1) := by decide +kernel
theorem dJxc12de_init_da8c8_1 : decode cJxc12de_init_da8c8 1 = .ok (.invokespecial 1, 3) := by decide +kernel
theorem dJxc12de_init_da8c8_4 : decode cJxc12de_init_da8c8 4 = .ok (.aload_n 0, 1) := by decide +kernel
theorem dJxc12de_init_da8c8_5 : decode cJxc12de_init_da8c8 5 = .ok (.iconst 0, 1) := by decide +kernel
theorem dJxc12de_init_da8c8_6 : decode cJxc12de_init_da8c8 6 = .ok (.putfield 7, 3) := by decide +kernel
theorem dJxc12de_init_da8c8_9 : decode cJxc12de_init_da8c8 9 = .ok (.return_, 1) := by decide +kernel
set_option maxRecDepth 20000 in
theorem ggJx4a65c_init_da8c8_Jxc12de_init_da8c8 : GoodIn wsJx4a65c_init_da8c8 wsJxc12de_init_da8c8 := goodIn_r _ [6, 7, 8, 9, 10, 11, 12, 13, 14, 15, 16, 17] (by decide +kernel) (by decide +kernel)
set_option maxRecDepth 20000 in
theorem gJx4a65c_init_da8c8_Jxc12de_init_da8c8 : GoodIn wsJx4a65c_init_da8c8 (wsJxc12de_init_da8c8) := ggJx4a65c_init_da8c8_Jxc12de_init_da8c8
theorem dJx4a65c_init_da8c8_0 : decode cJx4a65c_init_da8c8 0 = .ok (.aload_n 0, 1) := by decide +kernel
theorem dJx4a65c_init_da8c8_1 : decode cJx4a65c_init_da8c8 1 = .ok (.invokespecial 1, 3) := by decide +kernel
theorem dJx4a65c_init_da8c8_4 : decode cJx4a65c_init_da8c8 4 = .ok (.aload_n 0, 1) := by decide +kernel
theorem dJx4a65c_init_da8c8_5 : decode cJx4a65c_init_da8c8 5 = .ok (.getstatic 39, 3) := by decide +kernel
theorem dJx4a65c_init_da8c8_8 : decode cJx4a65c_init_da8c8 8 = .ok (.putfield 9, 3) := by decide +kernel
theorem dJx4a65c_init_da8c8_11 : decode cJx4a65c_init_da8c8 11 = .ok (.return_, 1) := by decide +kernel
set_option maxRecDepth 20000 in
theorem ggJx4a65c_grow_92f84_J8_newLength_cabcc : GoodIn wsJx4a65c_grow_92f84 wsJ8_newLength_cabcc := goodIn_r _ [11, 12, 4, 5, 6, 13, 14, 15, 10, 16] (by decide +kernel) (by decide +kernel)
set_option maxRecDepth 20000 in
theorem gJx4a65c_grow_92f84_J8_newLength_cabcc : GoodIn wsJx4a65c_grow_92f84 (va_wsS RJx4a65c 73 yJ8_newLength_cabcc wsJ8_newLength_cabcc) := goodIn_app (goodIn_of _ (by decide +kernel)) ggJx4a65c_grow_92f84_J8_newLength_cabcc
set_option maxRecDepth 20000 in
theorem ggJx4a65c_grow_92f84_J7_copyOf_1904c : GoodIn wsJx4a65c_grow_92f84 wsJ7_copyOf_1904c := goodIn_r _ [20, 21, 22, 23, 24, 25, 26, 19, 27, 28, 29, 30, 31, 5, 32, 33, 34, 35, 36] (by decide +kernel) (by decide +kernel)
set_option maxRecDepth 20000 in
theorem gJx4a65c_grow_92f84_J7_copyOf_1904c : GoodIn wsJx4a65c_grow_92f84 (va_wsS RJx4a65c 66 yJ7_copyOf_1904c wsJ7_copyOf_1904c) := goodIn_app (goodIn_of _ (by decide +kernel)) ggJx4a65c_grow_92f84_J7_copyOf_1904c
theorem dJx4a65c_grow_92f84_0 : decode cJx4a65c_grow_92f84 0 = .ok (.aload_n 0, 1) := by decide +kernel
theorem dJx4a65c_grow_92f84_1 : decode cJx4a65c_grow_92f84 1 = .ok (.getfield 9, 3) := by decide +kernel
theorem dJx4a65c_grow_92f84_4 : decode cJx4a65c_grow_92f84 4 = .ok (.arraylength, 1) := by decide +kernel
theorem dJx4a65c_grow_92f84_5 : decode cJx4a65c_grow_92f84 5 = .ok (.istore_n 2, 1) := by decide +kernel
theorem dJx4a65c_grow_92f84_6 : decode cJx4a65c_grow_92f84 6 = .ok (.iload_n 2, 1) := by decide +kernel
theorem dJx4a65c_grow_92f84_7 : decode cJx4a65c_grow_92f84 7 = .ok (.ifCond .gt 13, 3) := by decide +kernel
theorem dJx4a65c_grow_92f84_10 : decode cJx4a65c_grow_92f84 10 = .ok (.aload_n 0, 1) := by decide +kernel
theorem dJx4a65c_grow_92f84_11 : decode cJx4a65c_grow_92f84 11 = .ok (.getfield 9, 3) := by decide +kernel
theorem dJx4a65c_grow_92f84_14 : decode cJx4a65c_grow_92f84 14 = .ok (.getstatic 39, 3) := by decide +kernel
theorem dJx4a65c_grow_92f84_17 : decode cJx4a65c_grow_92f84 17 = .ok (.if_acmp .eq 28, 3) := by decide +kernel
theorem dJx4a65c_grow_92f84_20 : decode cJx4a65c_grow_92f84 20 = .ok (.iload_n 2, 1) := by decide +kernel
theorem dJx4a65c_grow_92f84_21 : decode cJx4a65c_grow_92f84 21 = .ok (.iload_n 1, 1) := by decide +kernel
theorem dJx4a65c_grow_92f84_22 : decode cJx4a65c_grow_92f84 22 = .ok (.iload_n 2, 1) := by decide +kernel
theorem dJx4a65c_grow_92f84_23 : decode cJx4a65c_grow_92f84 23 = .ok (.isub, 1) := by decide +kernel
theorem dJx4a65c_grow_92f84_24 : decode cJx4a65c_grow_92f84 24 = .ok (.iload_n 2, 1) := by decide +kernel
theorem dJx4a65c_grow_92f84_25 : decode cJx4a65c_grow_92f84 25 = .ok (.iconst 1, 1) := by decide +kernel
theorem dJx4a65c_grow_92f84_26 : decode cJx4a65c_grow_92f84 26 = .ok (.ishr, 1) := by decide +kernel
theorem dJx4a65c_grow_92f84_27 : decode cJx4a65c_grow_92f84 27 = .ok (.invokestatic 73, 3) := by decide +kernel
theorem dJx4a65c_grow_92f84_30 : decode cJx4a65c_grow_92f84 30 = .ok (.istore_n 3, 1) := by decide +kernel
theorem dJx4a65c_grow_92f84_31 : decode cJx4a65c_grow_92f84 31 = .ok (.aload_n 0, 1) := by decide +kernel
theorem dJx4a65c_grow_92f84_32 : decode cJx4a65c_grow_92f84 32 = .ok (.aload_n 0, 1) := by decide +kernel
theorem dJx4a65c_grow_92f84_33 : decode cJx4a65c_grow_92f84 33 = .ok (.getfield 9, 3) := by decide +kernel
theorem dJx4a65c_grow_92f84_36 : decode cJx4a65c_grow_92f84 36 = .ok (.iload_n 3, 1) := by decide +kernel
theorem dJx4a65c_grow_92f84_37 : decode cJx4a65c_grow_92f84 37 = .ok (.invokestatic 66, 3) := by decide +kernel
theorem dJx4a65c_grow_92f84_40 : decode cJx4a65c_grow_92f84 40 = .ok (.dup_x1, 1) := by decide +kernel
theorem dJx4a65c_grow_92f84_41 : decode cJx4a65c_grow_92f84 41 = .ok (.putfield 9, 3) := by decide +kernel
theorem dJx4a65c_grow_92f84_44 : decode cJx4a65c_grow_92f84 44 = .ok (.areturn, 1) := by decide +kernel
theorem dJx4a65c_grow_92f84_45 : decode cJx4a65c_grow_92f84 45 = .ok (.aload_n 0, 1) := by decide +kernel
theorem dJx4a65c_grow_92f84_46 : decode cJx4a65c_grow_92f84 46 = .ok (.bipush 10, 2) := by decide +kernel
theorem dJx4a65c_grow_92f84_48 : decode cJx4a65c_grow_92f84 48 = .ok (.iload_n 1, 1) := by decide +kernel
theorem dJx4a65c_grow_92f84_49 : decode cJx4a65c_grow_92f84 49 = .ok (.invokestatic 79, 3) := by decide +kernel
theorem dJx4a65c_grow_92f84_52 : decode cJx4a65c_grow_92f84 52 = .ok (.anewarray 7, 3) := by decide +kernel
theorem dJx4a65c_grow_92f84_55 : decode cJx4a65c_grow_92f84 55 = .ok (.dup_x1, 1) := by decide +kernel
theorem dJx4a65c_grow_92f84_56 : decode cJx4a65c_grow_92f84 56 = .ok (.putfield 9, 3) := by decide +kernel
theorem dJx4a65c_grow_92f84_59 : decode cJx4a65c_grow_92f84 59 = .ok (.areturn, 1) := by decide +kernel
set_option maxRecDepth 20000 in
theorem ggJx4a65c_grow_d5877_Jx4a65c_grow_92f84 : GoodIn wsJx4a65c_grow_d5877 wsJx4a65c_grow_92f84 := goodIn_r _ [6, 7, 8, 9, 10, 11, 12, 13, 14, 15, 16, 17, 18, 19, 20, 21, 22, 23, 24, 25, 26, 27, 28, 29, 30, 31, 32, 33, 34, 35, 36, 37, 38, 39, 40, 41, 42, 43, 44, 45] (by decide +kernel) (by decide +kernel)
set_option maxRecDepth 20000 in
theorem gJx4a65c_grow_d5877_Jx4a65c_grow_92f84 : GoodIn wsJx4a65c_grow_d5877 (wsV RJx4a65c 69 RJx4a65c yJx4a65c_grow_92f84 wsJx4a65c_grow_92f84) := goodIn_app (goodIn_of _ (by decide +kernel)) ggJx4a65c_grow_d5877_Jx4a65c_grow_92f84
theorem dJx4a65c_grow_d5877_0 : decode cJx4a65c_grow_d5877 0 = .ok (.aload_n 0, 1) := by decide +kernel
theorem dJx4a65c_grow_d5877_1 : decode cJx4a65c_grow_d5877 1 = .ok (.aload_n 0, 1) := by decide +kernel
theorem dJx4a65c_grow_d5877_2 : decode cJx4a65c_grow_d5877 2 = .ok (.getfield 48, 3) := by decide +kernel
theorem dJx4a65c_grow_d5877_5 : decode cJx4a65c_grow_d5877 5 = .ok (.iconst 1, 1) := by decide +kernel
theorem dJx4a65c_grow_d5877_6 : decode cJx4a65c_grow_d5877 6 = .ok (.iadd, 1) := by decide +kernel
theorem dJx4a65c_grow_d5877_7 : decode cJx4a65c_grow_d5877 7 = .ok (.invokevirtual 69, 3) := by decide +kernel
theorem dJx4a65c_grow_d5877_10 : decode cJx4a65c_grow_d5877 10 = .ok (.areturn, 1) := by decide +kernel
theorem dJx4a65c_size_8abf5_0 : decode cJx4a65c_size_8abf5 0 = .ok (.aload_n 0, 1) := by decide +kernel
theorem dJx4a65c_size_8abf5_1 : decode cJx4a65c_size_8abf5 1 = .ok (.getfield 48, 3) := by decide +kernel
theorem dJx4a65c_size_8abf5_4 : decode cJx4a65c_size_8abf5 4 = .ok (.ireturn, 1) := by decide +kernel
theorem dJx4a65c_elementData_915e3_0 : decode cJx4a65c_elementData_915e3 0 = .ok (.aload_n 0, 1) := by decide +kernel
theorem dJx4a65c_elementData_915e3_1 : decode cJx4a65c_elementData_915e3 1 = .ok (.getfield 9, 3) := by decide +kernel
theorem dJx4a65c_elementData_915e3_4 : decode cJx4a65c_elementData_915e3 4 = .ok (.iload_n 1, 1) := by decide +kernel
theorem dJx4a65c_elementData_915e3_5 : decode cJx4a65c_elementData_915e3 5 = .ok (.aaload, 1) := by decide +kernel
theorem dJx4a65c_elementData_915e3_6 : decode cJx4a65c_elementData_915e3 6 = .ok (.areturn, 1) := by decide +kernel
set_option maxRecDepth 20000 in
theorem ggJx4a65c_get_915e3_J15_checkIndex_7cf53 : GoodIn wsJx4a65c_get_915e3 wsJ15_checkIndex_7cf53 := goodIn_r _ [5, 6, 7, 8, 9] (by decide +kernel) (by decide +kernel)
set_option maxRecDepth 20000 in
theorem gJx4a65c_get_915e3_J15_checkIndex_7cf53 : GoodIn wsJx4a65c_get_915e3 (va_wsS RJx4a65c 118 yJ15_checkIndex_7cf53 wsJ15_checkIndex_7cf53) := goodIn_app (goodIn_of _ (by decide +kernel)) ggJx4a65c_get_915e3_J15_checkIndex_7cf53
set_option maxRecDepth 20000 in
theorem ggJx4a65c_get_915e3_Jx4a65c_elementData_915e3 : GoodIn wsJx4a65c_get_915e3 wsJx4a65c_elementData_915e3 := goodIn_r _ [14, 15, 16, 17, 18] (by decide +kernel) (by decide +kernel)
set_option maxRecDepth 20000 in
theorem gJx4a65c_get_915e3_Jx4a65c_elementData_915e3 : GoodIn wsJx4a65c_get_915e3 (wsV RJx4a65c 123 RJx4a65c yJx4a65c_elementData_915e3 wsJx4a65c_elementData_915e3) := goodIn_app (goodIn_of _ (by decide +kernel)) ggJx4a65c_get_915e3_Jx4a65c_elementData_915e3
theorem dJx4a65c_get_915e3_0 : decode cJx4a65c_get_915e3 0 = .ok (.iload_n 1, 1) := by decide +kernel
theorem dJx4a65c_get_915e3_1 : decode cJx4a65c_get_915e3 1 = .ok (.aload_n 0, 1) := by decide +kernel
theorem dJx4a65c_get_915e3_2 : decode cJx4a65c_get_915e3 2 = .ok (.getfield 48, 3) := by decide +kernel
theorem dJx4a65c_get_915e3_5 : decode cJx4a65c_get_915e3 5 = .ok (.invokestatic 118, 3) := by decide +kernel
theorem dJx4a65c_get_915e3_8 : decode cJx4a65c_get_915e3 8 = .ok (.pop, 1) := by decide +kernel
theorem dJx4a65c_get_915e3_9 : decode cJx4a65c_get_915e3 9 = .ok (.aload_n 0, 1) := by decide +kernel
theorem dJx4a65c_get_915e3_10 : decode cJx4a65c_get_915e3 10 = .ok (.iload_n 1, 1) := by decide +kernel
theorem dJx4a65c_get_915e3_11 : decode cJx4a65c_get_915e3 11 = .ok (.invokevirtual 123, 3) := by decide +kernel
theorem dJx4a65c_get_915e3_14 : decode cJx4a65c_get_915e3 14 = .ok (.areturn, 1) := by decide +kernel
set_option maxRecDepth 20000 in
theorem ggJx4a65c_add_72be8_Jx4a65c_grow_d5877 : GoodIn wsJx4a65c_add_72be8 wsJx4a65c_grow_d5877 := goodIn_r _ [6, 1, 7, 8, 9, 5, 10, 11, 12, 13, 14, 15, 16, 17, 18, 19, 20, 21, 22, 23, 24, 25, 26, 27, 28, 29, 30, 31, 32, 33, 34, 35, 36, 37, 38, 39, 40, 41, 42, 43, 44, 45, 46, 47, 48, 49] (by decide +kernel) (by decide +kernel)
set_option maxRecDepth 20000 in
theorem gJx4a65c_add_72be8_Jx4a65c_grow_d5877 : GoodIn wsJx4a65c_add_72be8 (wsV RJx4a65c 129 RJx4a65c yJx4a65c_grow_d5877 wsJx4a65c_grow_d5877) := goodIn_app (goodIn_of _ (by decide +kernel)) ggJx4a65c_add_72be8_Jx4a65c_grow_d5877
theorem dJx4a65c_add_72be8_0 : decode cJx4a65c_add_72be8 0 = .ok (.iload_n 3, 1) := by decide +kernel
theorem dJx4a65c_add_72be8_1 : decode cJx4a65c_add_72be8 1 = .ok (.aload_n 2, 1) := by decide +kernel
theorem dJx4a65c_add_72be8_2 : decode cJx4a65c_add_72be8 2 = .ok (.arraylength, 1) := by decide +kernel
theorem dJx4a65c_add_72be8_3 : decode cJx4a65c_add_72be8 3 = .ok (.if_icmp .ne 8, 3) := by decide +kernel
theorem dJx4a65c_add_72be8_6 : decode cJx4a65c_add_72be8 6 = .ok (.aload_n 0, 1) := by decide +kernel
theorem dJx4a65c_add_72be8_7 : decode cJx4a65c_add_72be8 7 = .ok (.invokevirtual 129, 3) := by decide +kernel
theorem dJx4a65c_add_72be8_10 : decode cJx4a65c_add_72be8 10 = .ok (.astore_n 2, 1) := by decide +kernel
theorem dJx4a65c_add_72be8_11 : decode cJx4a65c_add_72be8 11 = .ok (.aload_n 2, 1) := by decide +kernel
theorem dJx4a65c_add_72be8_12 : decode cJx4a65c_add_72be8 12 = .ok (.iload_n 3, 1) := by decide +kernel
theorem dJx4a65c_add_72be8_13 : decode cJx4a65c_add_72be8 13 = .ok (.aload_n 1, 1) := by decide +kernel
theorem dJx4a65c_add_72be8_14 : decode cJx4a65c_add_72be8 14 = .ok (.aastore, 1) := by decide +kernel
theorem dJx4a65c_add_72be8_15 : decode cJx4a65c_add_72be8 15 = .ok (.aload_n 0, 1) := by decide +kernel
theorem dJx4a65c_add_72be8_16 : decode cJx4a65c_add_72be8 16 = .ok (.iload_n 3, 1) := by decide +kernel
theorem dJx4a65c_add_72be8_17 : decode cJx4a65c_add_72be8 17 = .ok (.iconst 1, 1) := by decide +kernel
theorem dJx4a65c_add_72be8_18 : decode cJx4a65c_add_72be8 18 = .ok (.iadd, 1) := by decide +kernel
theorem dJx4a65c_add_72be8_19 : decode cJx4a65c_add_72be8 19 = .ok (.putfield 48, 3) := by decide +kernel
theorem dJx4a65c_add_72be8_22 : decode cJx4a65c_add_72be8 22 = .ok (.return_, 1) := by decide +kernel
set_option maxRecDepth 20000 in
theorem ggJx4a65c_add_9ea2d_Jx4a65c_add_72be8 : GoodIn wsJx4a65c_add_9ea2d wsJx4a65c_add_72be8 := goodIn_r _ [9, 4, 10, 11, 12, 8, 13, 14, 15, 16, 17, 3, 18, 19, 20, 21, 22, 23, 24, 25, 26, 27, 28, 29, 30, 31, 32, 33, 34, 35, 36, 37, 38, 39, 40, 41, 42, 43, 44, 45, 46, 47, 48, 49, 50, 51, 52, 53, 54, 55] (by decide +kernel) (by decide +kernel)
set_option maxRecDepth 20000 in
theorem gJx4a65c_add_9ea2d_Jx4a65c_add_72be8 : GoodIn wsJx4a65c_add_9ea2d (wsV RJx4a65c 131 RJx4a65c yJx4a65c_add_72be8 wsJx4a65c_add_72be8) := goodIn_app (goodIn_of _ (by decide +kernel)) ggJx4a65c_add_9ea2d_Jx4a65c_add_72be8
theorem dJx4a65c_add_9ea2d_0 : decode cJx4a65c_add_9ea2d 0 = .ok (.aload_n 0, 1) := by decide +kernel
theorem dJx4a65c_add_9ea2d_1 : decode cJx4a65c_add_9ea2d 1 = .ok (.dup, 1) := by decide +kernel
theorem dJx4a65c_add_9ea2d_2 : decode cJx4a65c_add_9ea2d 2 = .ok (.getfield 63, 3) := by decide +kernel
theorem dJx4a65c_add_9ea2d_5 : decode cJx4a65c_add_9ea2d 5 = .ok (.iconst 1, 1) := by decide +kernel
theorem dJx4a65c_add_9ea2d_6 : decode cJx4a65c_add_9ea2d 6 = .ok (.iadd, 1) := by decide +kernel
theorem dJx4a65c_add_9ea2d_7 : decode cJx4a65c_add_9ea2d 7 = .ok (.putfield 63, 3) := by decide +kernel
theorem dJx4a65c_add_9ea2d_10 : decode cJx4a65c_add_9ea2d 10 = .ok (.aload_n 0, 1) := by decide +kernel
theorem dJx4a65c_add_9ea2d_11 : decode cJx4a65c_add_9ea2d 11 = .ok (.aload_n 1, 1) := by decide +kernel
theorem dJx4a65c_add_9ea2d_12 : decode cJx4a65c_add_9ea2d 12 = .ok (.aload_n 0, 1) := by decide +kernel
theorem dJx4a65c_add_9ea2d_13 : decode cJx4a65c_add_9ea2d 13 = .ok (.getfield 9, 3) := by decide +kernel
theorem dJx4a65c_add_9ea2d_16 : decode cJx4a65c_add_9ea2d 16 = .ok (.aload_n 0, 1) := by decide +kernel
theorem dJx4a65c_add_9ea2d_17 : decode cJx4a65c_add_9ea2d 17 = .ok (.getfield 48, 3) := by decide +kernel
theorem dJx4a65c_add_9ea2d_20 : decode cJx4a65c_add_9ea2d 20 = .ok (.invokevirtual 131, 3) := by decide +kernel
theorem dJx4a65c_add_9ea2d_23 : decode cJx4a65c_add_9ea2d 23 = .ok (.iconst 1, 1) := by decide +kernel
theorem dJx4a65c_add_9ea2d_24 : decode cJx4a65c_add_9ea2d 24 = .ok (.ireturn, 1) := by decide +kernel
set_option maxRecDepth 20000 in
theorem ggJ7_copyOf_1904c_J7_copyOf_6403c : GoodIn wsJ7_copyOf_1904c wsJ7_copyOf_6403c := goodIn_r _ [8, 9, 10, 11, 12, 13, 14, 15, 16, 17, 18] (by decide +kernel) (by decide +kernel)
set_option maxRecDepth 20000 in
theorem gJ7_copyOf_1904c_J7_copyOf_6403c : GoodIn wsJ7_copyOf_1904c (va_wsS RJ7 300 yJ7_copyOf_6403c wsJ7_copyOf_6403c) := goodIn_app (goodIn_of _ (by decide +kernel)) ggJ7_copyOf_1904c_J7_copyOf_6403c
theorem dJ7_copyOf_1904c_0 : decode cJ7_copyOf_1904c 0 = .ok (.aload_n 0, 1) := by decide +kernel
theorem dJ7_copyOf_1904c_1 : decode cJ7_copyOf_1904c 1 = .ok (.iload_n 1, 1) := by decide +kernel
theorem dJ7_copyOf_1904c_2 : decode cJ7_copyOf_1904c 2 = .ok (.aload_n 0, 1) := by decide +kernel
theorem dJ7_copyOf_1904c_3 : decode cJ7_copyOf_1904c 3 = .ok (.invokevirtual 86, 3) := by decide +kernel
theorem dJ7_copyOf_1904c_6 : decode cJ7_copyOf_1904c 6 = .ok (.invokestatic 300, 3) := by decide +kernel
theorem dJ7_copyOf_1904c_9 : decode cJ7_copyOf_1904c 9 = .ok (.areturn, 1) := by decide +kernel
theorem dJ7_copyOf_6403c_0 : decode cJ7_copyOf_6403c 0 = .ok (.aload_n 2, 1) := by decide +kernel
theorem dJ7_copyOf_6403c_1 : decode cJ7_copyOf_6403c 1 = .ok (.ldc 110, 2) := by decide +kernel
theorem dJ7_copyOf_6403c_3 : decode cJ7_copyOf_6403c 3 = .ok (.if_acmp .ne 10, 3) := by decide +kernel
theorem dJ7_copyOf_6403c_6 : decode cJ7_copyOf_6403c 6 = .ok (.iload_n 1, 1) := by decide +kernel
theorem dJ7_copyOf_6403c_7 : decode cJ7_copyOf_6403c 7 = .ok (.anewarray 2, 3) := by decide +kernel
theorem dJ7_copyOf_6403c_10 : decode cJ7_copyOf_6403c 10 = .ok (.goto 14, 3) := by decide +kernel
theorem dJ7_copyOf_6403c_13 : decode cJ7_copyOf_6403c 13 = .ok (.aload_n 2, 1) := by decide +kernel
theorem dJ7_copyOf_6403c_14 : decode cJ7_copyOf_6403c 14 = .ok (.invokevirtual 90, 3) := by decide +kernel
theorem dJ7_copyOf_6403c_17 : decode cJ7_copyOf_6403c 17 = .ok (.iload_n 1, 1) := by decide +kernel
theorem dJ7_copyOf_6403c_18 : decode cJ7_copyOf_6403c 18 = .ok (.invokestatic 95, 3) := by decide +kernel
theorem dJ7_copyOf_6403c_21 : decode cJ7_copyOf_6403c 21 = .ok (.checkcast 110, 3) := by decide +kernel
theorem dJ7_copyOf_6403c_24 : decode cJ7_copyOf_6403c 24 = .ok (.astore_n 3, 1) := by decide +kernel
theorem dJ7_copyOf_6403c_25 : decode cJ7_copyOf_6403c 25 = .ok (.aload_n 0, 1) := by decide +kernel
theorem dJ7_copyOf_6403c_26 : decode cJ7_copyOf_6403c 26 = .ok (.iconst 0, 1) := by decide +kernel
theorem dJ7_copyOf_6403c_27 : decode cJ7_copyOf_6403c 27 = .ok (.aload_n 3, 1) := by decide +kernel
theorem dJ7_copyOf_6403c_28 : decode cJ7_copyOf_6403c 28 = .ok (.iconst 0, 1) := by decide +kernel
theorem dJ7_copyOf_6403c_29 : decode cJ7_copyOf_6403c 29 = .ok (.aload_n 0, 1) := by decide +kernel
theorem dJ7_copyOf_6403c_30 : decode cJ7_copyOf_6403c 30 = .ok (.arraylength, 1) := by decide +kernel
theorem dJ7_copyOf_6403c_31 : decode cJ7_copyOf_6403c 31 = .ok (.iload_n 1, 1) := by decide +kernel
theorem dJ7_copyOf_6403c_32 : decode cJ7_copyOf_6403c 32 = .ok (.invokestatic 304, 3) := by decide +kernel
theorem dJ7_copyOf_6403c_35 : decode cJ7_copyOf_6403c 35 = .ok (.invokestatic 150, 3) := by decide +kernel
theorem dJ7_copyOf_6403c_38 : decode cJ7_copyOf_6403c 38 = .ok (.aload_n 3, 1) := by decide +kernel
theorem dJ7_copyOf_6403c_39 : decode cJ7_copyOf_6403c 39 = .ok (.areturn, 1) := by decide +kernel
set_option maxRecDepth 20000 in
theorem ggJ15_checkIndex_7cf53_J3_checkIndex_8e157 : GoodIn wsJ15_checkIndex_7cf53 wsJ3_checkIndex_8e157 := goodIn_r _ [4] (by decide +kernel) (by decide +kernel)
set_option maxRecDepth 20000 in
theorem gJ15_checkIndex_7cf53_J3_checkIndex_8e157 : GoodIn wsJ15_checkIndex_7cf53 (va_wsS RJ15 105 yJ3_checkIndex_8e157 wsJ3_checkIndex_8e157) := goodIn_app (goodIn_of _ (by decide +kernel)) ggJ15_checkIndex_7cf53_J3_checkIndex_8e157
theorem dJ15_checkIndex_7cf53_0 : decode cJ15_checkIndex_7cf53 0 = .ok (.iload_n 0, 1) := by decide +kernel
theorem dJ15_checkIndex_7cf53_1 : decode cJ15_checkIndex_7cf53 1 = .ok (.iload_n 1, 1) := by decide +kernel
theorem dJ15_checkIndex_7cf53_2 : decode cJ15_checkIndex_7cf53 2 = .ok (.aconst_null, 1) := by decide +kernel
theorem dJ15_checkIndex_7cf53_3 : decode cJ15_checkIndex_7cf53 3 = .ok (.invokestatic 105, 3) := by decide +kernel
theorem dJ15_checkIndex_7cf53_6 : decode cJ15_checkIndex_7cf53 6 = .ok (.ireturn, 1) := by decide +kernel
set_option maxRecDepth 20000 in
theorem ggJ8_newLength_cabcc_J8_hugeLength_7cf53 : GoodIn wsJ8_newLength_cabcc wsJ8_hugeLength_7cf53 := goodIn_r _ [9, 5] (by decide +kernel) (by decide +kernel)
set_option maxRecDepth 20000 in
theorem gJ8_newLength_cabcc_J8_hugeLength_7cf53 : GoodIn wsJ8_newLength_cabcc (va_wsS RJ8 201 yJ8_hugeLength_7cf53 wsJ8_hugeLength_7cf53) := goodIn_app (goodIn_of _ (by decide +kernel)) ggJ8_newLength_cabcc_J8_hugeLength_7cf53
theorem dJ8_newLength_cabcc_0 : decode cJ8_newLength_cabcc 0 = .ok (.iload_n 0, 1) := by decide +kernel
theorem dJ8_newLength_cabcc_1 : decode cJ8_newLength_cabcc 1 = .ok (.iload_n 1, 1) := by decide +kernel
theorem dJ8_newLength_cabcc_2 : decode cJ8_newLength_cabcc 2 = .ok (.iload_n 2, 1) := by decide +kernel
theorem dJ8_newLength_cabcc_3 : decode cJ8_newLength_cabcc 3 = .ok (.invokestatic 194, 3) := by decide +kernel
theorem dJ8_newLength_cabcc_6 : decode cJ8_newLength_cabcc 6 = .ok (.iadd, 1) := by decide +kernel
theorem dJ8_newLength_cabcc_7 : decode cJ8_newLength_cabcc 7 = .ok (.istore_n 3, 1) := by decide +kernel
theorem dJ8_newLength_cabcc_8 : decode cJ8_newLength_cabcc 8 = .ok (.iconst 0, 1) := by decide +kernel
theorem dJ8_newLength_cabcc_9 : decode cJ8_newLength_cabcc 9 = .ok (.iload_n 3, 1) := by decide +kernel
theorem dJ8_newLength_cabcc_10 : decode cJ8_newLength_cabcc 10 = .ok (.if_icmp .ge 11, 3) := by decide +kernel
theorem dJ8_newLength_cabcc_13 : decode cJ8_newLength_cabcc 13 = .ok (.iload_n 3, 1) := by decide +kernel
theorem dJ8_newLength_cabcc_14 : decode cJ8_newLength_cabcc 14 = .ok (.ldc 200, 2) := by decide +kernel
theorem dJ8_newLength_cabcc_16 : decode cJ8_newLength_cabcc 16 = .ok (.if_icmp .gt 5, 3) := by decide +kernel
theorem dJ8_newLength_cabcc_19 : decode cJ8_newLength_cabcc 19 = .ok (.iload_n 3, 1) := by decide +kernel
theorem dJ8_newLength_cabcc_20 : decode cJ8_newLength_cabcc 20 = .ok (.ireturn, 1) := by decide +kernel
theorem dJ8_newLength_cabcc_21 : decode cJ8_newLength_cabcc 21 = .ok (.iload_n 0, 1) := by decide +kernel
theorem dJ8_newLength_cabcc_22 : decode cJ8_newLength_cabcc 22 = .ok (.iload_n 1, 1) := by decide +kernel
theorem dJ8_newLength_cabcc_23 : decode cJ8_newLength_cabcc 23 = .ok (.invokestatic 201, 3) := by decide +kernel
