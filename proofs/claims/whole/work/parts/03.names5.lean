theorem dX10_age_91 : decode cX10_age 91 = .ok (.lreturn, 1) := by decide +kernel
theorem dX10_age_92 : decode cX10_age 92 = .ok (.aload_n 0, 1) := by decide +kernel
theorem dX10_age_93 : decode cX10_age 93 = .ok (.aload_n 0, 1) := by decide +kernel
theorem dX10_age_94 : decode cX10_age 94 = .ok (.iload_n 1, 1) := by decide +kernel
theorem dX10_age_95 : decode cX10_age 95 = .ok (.iload_n 2, 1) := by decide +kernel
theorem dX10_age_96 : decode cX10_age 96 = .ok (.iload_n 3, 1) := by decide +kernel
theorem dX10_age_97 : decode cX10_age 97 = .ok (.iload 4, 2) := by decide +kernel
theorem dX10_age_99 : decode cX10_age 99 = .ok (.iload 5, 2) := by decide +kernel
theorem dX10_age_101 : decode cX10_age 101 = .ok (.invokevirtual 113, 3) := by decide +kernel
theorem dX10_age_104 : decode cX10_age 104 = .ok (.invokevirtual 121, 3) := by decide +kernel
theorem dX10_age_107 : decode cX10_age 107 = .ok (.lreturn, 1) := by decide +kernel
set_option maxRecDepth 20000 in
theorem ggX10_whyNot_X10_isEye : GoodIn wsX10_whyNot wsX10_isEye := goodIn_r _ [5, 6, 7, 8, 4, 9, 46, 47, 48, 49, 50, 51, 52, 53, 54, 55, 56, 57, 58, 59] (by decide +kernel) (by decide +kernel)
set_option maxRecDepth 20000 in
theorem gX10_whyNot_X10_isEye : GoodIn wsX10_whyNot (wsV RX10 104 RX10 yX10_isEye wsX10_isEye) := goodIn_app (goodIn_of _ (by decide +kernel)) ggX10_whyNot_X10_isEye
set_option maxRecDepth 20000 in
theorem ggX10_whyNot_X10_areCells : GoodIn wsX10_whyNot wsX10_areCells := goodIn_r _ [12, 13, 14, 4, 15, 7, 8, 9] (by decide +kernel) (by decide +kernel)
set_option maxRecDepth 20000 in
theorem gX10_whyNot_X10_areCells : GoodIn wsX10_whyNot (va_wsS RX10 83 yX10_areCells wsX10_areCells) := goodIn_app (goodIn_of _ (by decide +kernel)) ggX10_whyNot_X10_areCells
set_option maxRecDepth 20000 in
theorem ggX10_whyNot_X10_can : GoodIn wsX10_whyNot wsX10_can := goodIn_r _ [19, 20, 46, 47, 48, 49, 50, 51, 52, 53, 54, 55, 56, 57, 58, 59] (by decide +kernel) (by decide +kernel)
set_option maxRecDepth 20000 in
theorem gX10_whyNot_X10_can : GoodIn wsX10_whyNot (wsV RX10 56 RX10 yX10_can wsX10_can) := goodIn_app (goodIn_of _ (by decide +kernel)) ggX10_whyNot_X10_can
set_option maxRecDepth 20000 in
theorem ggX10_whyNot_X10_reason : GoodIn wsX10_whyNot wsX10_reason := goodIn_r _ [24, 25, 26, 27, 28, 29, 4, 30, 31, 32, 33, 34, 35, 36, 37, 38, 39, 40, 41, 42, 43, 44, 45, 7, 8, 9, 46, 47, 48, 49, 50, 51, 52, 53, 54, 55, 56, 57, 58, 59] (by decide +kernel) (by decide +kernel)
set_option maxRecDepth 20000 in
theorem gX10_whyNot_X10_reason : GoodIn wsX10_whyNot (wsV RX10 117 RX10 yX10_reason wsX10_reason) := goodIn_app (goodIn_of _ (by decide +kernel)) ggX10_whyNot_X10_reason
theorem dX10_whyNot_0 : decode cX10_whyNot 0 = .ok (.aload_n 0, 1) := by decide +kernel
theorem dX10_whyNot_1 : decode cX10_whyNot 1 = .ok (.iload_n 1, 1) := by decide +kernel
theorem dX10_whyNot_2 : decode cX10_whyNot 2 = .ok (.invokevirtual 104, 3) := by decide +kernel
theorem dX10_whyNot_5 : decode cX10_whyNot 5 = .ok (.ifCond .eq 19, 3) := by decide +kernel
theorem dX10_whyNot_8 : decode cX10_whyNot 8 = .ok (.iload_n 2, 1) := by decide +kernel
theorem dX10_whyNot_9 : decode cX10_whyNot 9 = .ok (.iload_n 3, 1) := by decide +kernel
theorem dX10_whyNot_10 : decode cX10_whyNot 10 = .ok (.iload 4, 2) := by decide +kernel
theorem dX10_whyNot_12 : decode cX10_whyNot 12 = .ok (.iload 5, 2) := by decide +kernel
theorem dX10_whyNot_14 : decode cX10_whyNot 14 = .ok (.invokestatic 83, 3) := by decide +kernel
theorem dX10_whyNot_17 : decode cX10_whyNot 17 = .ok (.ifCond .eq 7, 3) := by decide +kernel
theorem dX10_whyNot_20 : decode cX10_whyNot 20 = .ok (.iconst 1, 1) := by decide +kernel
theorem dX10_whyNot_21 : decode cX10_whyNot 21 = .ok (.goto 4, 3) := by decide +kernel
theorem dX10_whyNot_24 : decode cX10_whyNot 24 = .ok (.iconst 0, 1) := by decide +kernel
theorem dX10_whyNot_25 : decode cX10_whyNot 25 = .ok (.istore 6, 2) := by decide +kernel
theorem dX10_whyNot_27 : decode cX10_whyNot 27 = .ok (.iload 4, 2) := by decide +kernel
theorem dX10_whyNot_29 : decode cX10_whyNot 29 = .ok (.iload_n 2, 1) := by decide +kernel
theorem dX10_whyNot_30 : decode cX10_whyNot 30 = .ok (.if_icmp .lt 13, 3) := by decide +kernel
theorem dX10_whyNot_33 : decode cX10_whyNot 33 = .ok (.iload 5, 2) := by decide +kernel
theorem dX10_whyNot_35 : decode cX10_whyNot 35 = .ok (.iload_n 3, 1) := by decide +kernel
theorem dX10_whyNot_36 : decode cX10_whyNot 36 = .ok (.if_icmp .lt 7, 3) := by decide +kernel
theorem dX10_whyNot_39 : decode cX10_whyNot 39 = .ok (.iconst 1, 1) := by decide +kernel
theorem dX10_whyNot_40 : decode cX10_whyNot 40 = .ok (.goto 4, 3) := by decide +kernel
theorem dX10_whyNot_43 : decode cX10_whyNot 43 = .ok (.iconst 0, 1) := by decide +kernel
theorem dX10_whyNot_44 : decode cX10_whyNot 44 = .ok (.istore 7, 2) := by decide +kernel
theorem dX10_whyNot_46 : decode cX10_whyNot 46 = .ok (.aload_n 0, 1) := by decide +kernel
theorem dX10_whyNot_47 : decode cX10_whyNot 47 = .ok (.iload 6, 2) := by decide +kernel
theorem dX10_whyNot_49 : decode cX10_whyNot 49 = .ok (.ifCond .ne 7, 3) := by decide +kernel
theorem dX10_whyNot_52 : decode cX10_whyNot 52 = .ok (.iconst 1, 1) := by decide +kernel
theorem dX10_whyNot_53 : decode cX10_whyNot 53 = .ok (.goto 13, 3) := by decide +kernel
theorem dX10_whyNot_56 : decode cX10_whyNot 56 = .ok (.iload 7, 2) := by decide +kernel
theorem dX10_whyNot_58 : decode cX10_whyNot 58 = .ok (.ifCond .eq 7, 3) := by decide +kernel
theorem dX10_whyNot_61 : decode cX10_whyNot 61 = .ok (.iconst 0, 1) := by decide +kernel
theorem dX10_whyNot_62 : decode cX10_whyNot 62 = .ok (.goto 4, 3) := by decide +kernel
theorem dX10_whyNot_65 : decode cX10_whyNot 65 = .ok (.iconst 2, 1) := by decide +kernel
theorem dX10_whyNot_66 : decode cX10_whyNot 66 = .ok (.invokevirtual 56, 3) := by decide +kernel
theorem dX10_whyNot_69 : decode cX10_whyNot 69 = .ok (.ifCond .eq 17, 3) := by decide +kernel
theorem dX10_whyNot_72 : decode cX10_whyNot 72 = .ok (.aload_n 0, 1) := by decide +kernel
theorem dX10_whyNot_73 : decode cX10_whyNot 73 = .ok (.iload_n 1, 1) := by decide +kernel
theorem dX10_whyNot_74 : decode cX10_whyNot 74 = .ok (.iload_n 2, 1) := by decide +kernel
theorem dX10_whyNot_75 : decode cX10_whyNot 75 = .ok (.iload_n 3, 1) := by decide +kernel
theorem dX10_whyNot_76 : decode cX10_whyNot 76 = .ok (.iload 4, 2) := by decide +kernel
theorem dX10_whyNot_78 : decode cX10_whyNot 78 = .ok (.iload 5, 2) := by decide +kernel
theorem dX10_whyNot_80 : decode cX10_whyNot 80 = .ok (.invokevirtual 117, 3) := by decide +kernel
theorem dX10_whyNot_83 : decode cX10_whyNot 83 = .ok (.goto 4, 3) := by decide +kernel
theorem dX10_whyNot_86 : decode cX10_whyNot 86 = .ok (.iconst 0, 1) := by decide +kernel
theorem dX10_whyNot_87 : decode cX10_whyNot 87 = .ok (.ireturn, 1) := by decide +kernel
theorem dX10_craters_0 : decode cX10_craters 0 = .ok (.aload_n 0, 1) := by decide +kernel
theorem dX10_craters_1 : decode cX10_craters 1 = .ok (.iconst 0, 1) := by decide +kernel
theorem dX10_craters_2 : decode cX10_craters 2 = .ok (.putfield 39, 3) := by decide +kernel
theorem dX10_craters_5 : decode cX10_craters 5 = .ok (.aload_n 0, 1) := by decide +kernel
theorem dX10_craters_6 : decode cX10_craters 6 = .ok (.getfield 53, 3) := by decide +kernel
theorem dX10_craters_9 : decode cX10_craters 9 = .ok (.ireturn, 1) := by decide +kernel
set_option maxRecDepth 20000 in
theorem ggX10_about_X10_isCrater : GoodIn wsX10_about wsX10_isCrater := goodIn_r _ [9, 10, 11, 12, 8, 13, 19, 20, 21, 22, 23, 24, 25, 26, 27, 28, 29, 30, 31, 32] (by decide +kernel) (by decide +kernel)
set_option maxRecDepth 20000 in
theorem gX10_about_X10_isCrater : GoodIn wsX10_about (wsV RX10 125 RX10 yX10_isCrater wsX10_isCrater) := goodIn_app (goodIn_of _ (by decide +kernel)) ggX10_about_X10_isCrater
set_option maxRecDepth 20000 in
theorem ggX10_about_X10_isIn : GoodIn wsX10_about wsX10_isIn := goodIn_r _ [13] (by decide +kernel) (by decide +kernel)
set_option maxRecDepth 20000 in
theorem gX10_about_X10_isIn : GoodIn wsX10_about (va_wsS RX10 42 yX10_isIn wsX10_isIn) := goodIn_app (goodIn_of _ (by decide +kernel)) ggX10_about_X10_isIn
set_option maxRecDepth 20000 in
theorem ggX10_about_X10_can : GoodIn wsX10_about wsX10_can := goodIn_r _ [17, 18, 19, 20, 21, 22, 23, 24, 25, 26, 27, 28, 29, 30, 31, 32] (by decide +kernel) (by decide +kernel)
set_option maxRecDepth 20000 in
theorem gX10_about_X10_can : GoodIn wsX10_about (wsV RX10 56 RX10 yX10_can wsX10_can) := goodIn_app (goodIn_of _ (by decide +kernel)) ggX10_about_X10_can
theorem dX10_about_0 : decode cX10_about 0 = .ok (.aload_n 0, 1) := by decide +kernel
theorem dX10_about_1 : decode cX10_about 1 = .ok (.aload_n 0, 1) := by decide +kernel
theorem dX10_about_2 : decode cX10_about 2 = .ok (.iload_n 1, 1) := by decide +kernel
theorem dX10_about_3 : decode cX10_about 3 = .ok (.invokevirtual 125, 3) := by decide +kernel
theorem dX10_about_6 : decode cX10_about 6 = .ok (.ifCond .ne 7, 3) := by decide +kernel
theorem dX10_about_9 : decode cX10_about 9 = .ok (.iconst 1, 1) := by decide +kernel
theorem dX10_about_10 : decode cX10_about 10 = .ok (.goto 17, 3) := by decide +kernel
theorem dX10_about_13 : decode cX10_about 13 = .ok (.iload_n 2, 1) := by decide +kernel
theorem dX10_about_14 : decode cX10_about 14 = .ok (.iconst 0, 1) := by decide +kernel
theorem dX10_about_15 : decode cX10_about 15 = .ok (.iconst 3, 1) := by decide +kernel
theorem dX10_about_16 : decode cX10_about 16 = .ok (.invokestatic 42, 3) := by decide +kernel
theorem dX10_about_19 : decode cX10_about 19 = .ok (.ifCond .eq 7, 3) := by decide +kernel
theorem dX10_about_22 : decode cX10_about 22 = .ok (.iconst 0, 1) := by decide +kernel
theorem dX10_about_23 : decode cX10_about 23 = .ok (.goto 4, 3) := by decide +kernel
theorem dX10_about_26 : decode cX10_about 26 = .ok (.iconst 2, 1) := by decide +kernel
theorem dX10_about_27 : decode cX10_about 27 = .ok (.invokevirtual 56, 3) := by decide +kernel
theorem dX10_about_30 : decode cX10_about 30 = .ok (.ifCond .ne 5, 3) := by decide +kernel
theorem dX10_about_33 : decode cX10_about 33 = .ok (.iconst 0, 1) := by decide +kernel
theorem dX10_about_34 : decode cX10_about 34 = .ok (.ireturn, 1) := by decide +kernel
theorem dX10_about_35 : decode cX10_about 35 = .ok (.iload_n 2, 1) := by decide +kernel
theorem dX10_about_36 : decode cX10_about 36 = .ok (.ifCond .ne 12, 3) := by decide +kernel
theorem dX10_about_39 : decode cX10_about 39 = .ok (.aload_n 0, 1) := by decide +kernel
theorem dX10_about_40 : decode cX10_about 40 = .ok (.getfield 13, 3) := by decide +kernel
theorem dX10_about_43 : decode cX10_about 43 = .ok (.iload_n 1, 1) := by decide +kernel
theorem dX10_about_44 : decode cX10_about 44 = .ok (.iaload, 1) := by decide +kernel
theorem dX10_about_45 : decode cX10_about 45 = .ok (.goto 37, 3) := by decide +kernel
theorem dX10_about_48 : decode cX10_about 48 = .ok (.iload_n 2, 1) := by decide +kernel
theorem dX10_about_49 : decode cX10_about 49 = .ok (.iconst 1, 1) := by decide +kernel
theorem dX10_about_50 : decode cX10_about 50 = .ok (.if_icmp .ne 12, 3) := by decide +kernel
theorem dX10_about_53 : decode cX10_about 53 = .ok (.aload_n 0, 1) := by decide +kernel
theorem dX10_about_54 : decode cX10_about 54 = .ok (.getfield 16, 3) := by decide +kernel
theorem dX10_about_57 : decode cX10_about 57 = .ok (.iload_n 1, 1) := by decide +kernel
theorem dX10_about_58 : decode cX10_about 58 = .ok (.iaload, 1) := by decide +kernel
theorem dX10_about_59 : decode cX10_about 59 = .ok (.goto 23, 3) := by decide +kernel
theorem dX10_about_62 : decode cX10_about 62 = .ok (.iload_n 2, 1) := by decide +kernel
theorem dX10_about_63 : decode cX10_about 63 = .ok (.iconst 2, 1) := by decide +kernel
theorem dX10_about_64 : decode cX10_about 64 = .ok (.if_icmp .ne 12, 3) := by decide +kernel
theorem dX10_about_67 : decode cX10_about 67 = .ok (.aload_n 0, 1) := by decide +kernel
theorem dX10_about_68 : decode cX10_about 68 = .ok (.getfield 19, 3) := by decide +kernel
theorem dX10_about_71 : decode cX10_about 71 = .ok (.iload_n 1, 1) := by decide +kernel
theorem dX10_about_72 : decode cX10_about 72 = .ok (.iaload, 1) := by decide +kernel
theorem dX10_about_73 : decode cX10_about 73 = .ok (.goto 9, 3) := by decide +kernel
theorem dX10_about_76 : decode cX10_about 76 = .ok (.aload_n 0, 1) := by decide +kernel
theorem dX10_about_77 : decode cX10_about 77 = .ok (.getfield 22, 3) := by decide +kernel
theorem dX10_about_80 : decode cX10_about 80 = .ok (.iload_n 1, 1) := by decide +kernel
theorem dX10_about_81 : decode cX10_about 81 = .ok (.iaload, 1) := by decide +kernel
theorem dX10_about_82 : decode cX10_about 82 = .ok (.ireturn, 1) := by decide +kernel
set_option maxRecDepth 20000 in
theorem ggX10_depthAnew_X10_isCrater : GoodIn wsX10_depthAnew wsX10_isCrater := goodIn_r _ [6, 7, 8, 9, 5, 10, 16, 17, 18, 19, 20, 21, 22, 23, 24, 25, 26, 27, 28, 29] (by decide +kernel) (by decide +kernel)
set_option maxRecDepth 20000 in
theorem gX10_depthAnew_X10_isCrater : GoodIn wsX10_depthAnew (wsV RX10 125 RX10 yX10_isCrater wsX10_isCrater) := goodIn_app (goodIn_of _ (by decide +kernel)) ggX10_depthAnew_X10_isCrater
set_option maxRecDepth 20000 in
theorem ggX10_depthAnew_X10_can : GoodIn wsX10_depthAnew wsX10_can := goodIn_r _ [14, 15, 16, 17, 18, 19, 20, 21, 22, 23, 24, 25, 26, 27, 28, 29] (by decide +kernel) (by decide +kernel)
set_option maxRecDepth 20000 in
theorem gX10_depthAnew_X10_can : GoodIn wsX10_depthAnew (wsV RX10 56 RX10 yX10_can wsX10_can) := goodIn_app (goodIn_of _ (by decide +kernel)) ggX10_depthAnew_X10_can
theorem dX10_depthAnew_0 : decode cX10_depthAnew 0 = .ok (.aload_n 0, 1) := by decide +kernel
theorem dX10_depthAnew_1 : decode cX10_depthAnew 1 = .ok (.aload_n 0, 1) := by decide +kernel
theorem dX10_depthAnew_2 : decode cX10_depthAnew 2 = .ok (.iload_n 1, 1) := by decide +kernel
theorem dX10_depthAnew_3 : decode cX10_depthAnew 3 = .ok (.invokevirtual 125, 3) := by decide +kernel
theorem dX10_depthAnew_6 : decode cX10_depthAnew 6 = .ok (.ifCond .eq 7, 3) := by decide +kernel
theorem dX10_depthAnew_9 : decode cX10_depthAnew 9 = .ok (.iconst 0, 1) := by decide +kernel
theorem dX10_depthAnew_10 : decode cX10_depthAnew 10 = .ok (.goto 4, 3) := by decide +kernel
theorem dX10_depthAnew_13 : decode cX10_depthAnew 13 = .ok (.iconst 1, 1) := by decide +kernel
theorem dX10_depthAnew_14 : decode cX10_depthAnew 14 = .ok (.invokevirtual 56, 3) := by decide +kernel
theorem dX10_depthAnew_17 : decode cX10_depthAnew 17 = .ok (.ifCond .eq 12, 3) := by decide +kernel
theorem dX10_depthAnew_20 : decode cX10_depthAnew 20 = .ok (.aload_n 0, 1) := by decide +kernel
theorem dX10_depthAnew_21 : decode cX10_depthAnew 21 = .ok (.getfield 22, 3) := by decide +kernel
theorem dX10_depthAnew_24 : decode cX10_depthAnew 24 = .ok (.iload_n 1, 1) := by decide +kernel
theorem dX10_depthAnew_25 : decode cX10_depthAnew 25 = .ok (.iaload, 1) := by decide +kernel
theorem dX10_depthAnew_26 : decode cX10_depthAnew 26 = .ok (.goto 4, 3) := by decide +kernel
theorem dX10_depthAnew_29 : decode cX10_depthAnew 29 = .ok (.iconst 0, 1) := by decide +kernel
theorem dX10_depthAnew_30 : decode cX10_depthAnew 30 = .ok (.ireturn, 1) := by decide +kernel
set_option maxRecDepth 20000 in
theorem ggX10_topOf_X10_square : GoodIn wsX10_topOf wsX10_square := goodIn_r _ [8, 9, 10, 11, 12, 13, 14, 15, 16, 17, 18, 19, 20, 21, 22, 23, 24] (by decide +kernel) (by decide +kernel)
set_option maxRecDepth 20000 in
theorem gX10_topOf_X10_square : GoodIn wsX10_topOf (wsV RX10 60 RX10 yX10_square wsX10_square) := goodIn_app (goodIn_of _ (by decide +kernel)) ggX10_topOf_X10_square
theorem dX10_topOf_0 : decode cX10_topOf 0 = .ok (.iconst (-1), 1) := by decide +kernel
theorem dX10_topOf_1 : decode cX10_topOf 1 = .ok (.istore_n 3, 1) := by decide +kernel
theorem dX10_topOf_2 : decode cX10_topOf 2 = .ok (.iconst 0, 1) := by decide +kernel
theorem dX10_topOf_3 : decode cX10_topOf 3 = .ok (.istore 4, 2) := by decide +kernel
theorem dX10_topOf_5 : decode cX10_topOf 5 = .ok (.iload 4, 2) := by decide +kernel
theorem dX10_topOf_7 : decode cX10_topOf 7 = .ok (.aload_n 0, 1) := by decide +kernel
theorem dX10_topOf_8 : decode cX10_topOf 8 = .ok (.getfield 53, 3) := by decide +kernel
theorem dX10_topOf_11 : decode cX10_topOf 11 = .ok (.if_icmp .ge 52, 3) := by decide +kernel
theorem dX10_topOf_14 : decode cX10_topOf 14 = .ok (.aload_n 0, 1) := by decide +kernel
theorem dX10_topOf_15 : decode cX10_topOf 15 = .ok (.getfield 22, 3) := by decide +kernel
theorem dX10_topOf_18 : decode cX10_topOf 18 = .ok (.iload 4, 2) := by decide +kernel
theorem dX10_topOf_20 : decode cX10_topOf 20 = .ok (.iaload, 1) := by decide +kernel
theorem dX10_topOf_21 : decode cX10_topOf 21 = .ok (.ifCond .le 34, 3) := by decide +kernel
theorem dX10_topOf_24 : decode cX10_topOf 24 = .ok (.aload_n 0, 1) := by decide +kernel
theorem dX10_topOf_25 : decode cX10_topOf 25 = .ok (.iload 4, 2) := by decide +kernel
theorem dX10_topOf_27 : decode cX10_topOf 27 = .ok (.iload_n 1, 1) := by decide +kernel
theorem dX10_topOf_28 : decode cX10_topOf 28 = .ok (.iload_n 2, 1) := by decide +kernel
theorem dX10_topOf_29 : decode cX10_topOf 29 = .ok (.invokevirtual 60, 3) := by decide +kernel
theorem dX10_topOf_32 : decode cX10_topOf 32 = .ok (.aload_n 0, 1) := by decide +kernel
theorem dX10_topOf_33 : decode cX10_topOf 33 = .ok (.getfield 19, 3) := by decide +kernel
theorem dX10_topOf_36 : decode cX10_topOf 36 = .ok (.iload 4, 2) := by decide +kernel
theorem dX10_topOf_38 : decode cX10_topOf 38 = .ok (.iaload, 1) := by decide +kernel
theorem dX10_topOf_39 : decode cX10_topOf 39 = .ok (.aload_n 0, 1) := by decide +kernel
theorem dX10_topOf_40 : decode cX10_topOf 40 = .ok (.getfield 19, 3) := by decide +kernel
theorem dX10_topOf_43 : decode cX10_topOf 43 = .ok (.iload 4, 2) := by decide +kernel
theorem dX10_topOf_45 : decode cX10_topOf 45 = .ok (.iaload, 1) := by decide +kernel
theorem dX10_topOf_46 : decode cX10_topOf 46 = .ok (.imul, 1) := by decide +kernel
theorem dX10_topOf_47 : decode cX10_topOf 47 = .ok (.if_icmp .gt 8, 3) := by decide +kernel
theorem dX10_topOf_50 : decode cX10_topOf 50 = .ok (.iload 4, 2) := by decide +kernel
theorem dX10_topOf_52 : decode cX10_topOf 52 = .ok (.goto 4, 3) := by decide +kernel
theorem dX10_topOf_55 : decode cX10_topOf 55 = .ok (.iload_n 3, 1) := by decide +kernel
theorem dX10_topOf_56 : decode cX10_topOf 56 = .ok (.istore_n 3, 1) := by decide +kernel
theorem dX10_topOf_57 : decode cX10_topOf 57 = .ok (.iinc 4 1, 3) := by decide +kernel
theorem dX10_topOf_60 : decode cX10_topOf 60 = .ok (.goto (-55), 3) := by decide +kernel
theorem dX10_topOf_63 : decode cX10_topOf 63 = .ok (.iload_n 3, 1) := by decide +kernel
theorem dX10_topOf_64 : decode cX10_topOf 64 = .ok (.ireturn, 1) := by decide +kernel
set_option maxRecDepth 20000 in
theorem ggX10_top_X10_isCell : GoodIn wsX10_top wsX10_isCell := goodIn_r _ [4, 5, 6, 3, 7] (by decide +kernel) (by decide +kernel)
set_option maxRecDepth 20000 in
theorem gX10_top_X10_isCell : GoodIn wsX10_top (va_wsS RX10 46 yX10_isCell wsX10_isCell) := goodIn_app (goodIn_of _ (by decide +kernel)) ggX10_top_X10_isCell
set_option maxRecDepth 20000 in
theorem ggX10_top_X10_can : GoodIn wsX10_top wsX10_can := goodIn_r _ [11, 12, 26, 27, 28, 29, 30, 31, 32, 33, 34, 35, 36, 37, 38, 39] (by decide +kernel) (by decide +kernel)
set_option maxRecDepth 20000 in
theorem gX10_top_X10_can : GoodIn wsX10_top (wsV RX10 56 RX10 yX10_can wsX10_can) := goodIn_app (goodIn_of _ (by decide +kernel)) ggX10_top_X10_can
set_option maxRecDepth 20000 in
theorem ggX10_top_X10_topOf : GoodIn wsX10_top wsX10_topOf := goodIn_r _ [16, 17, 18, 19, 20, 21, 22, 3, 23, 24, 25, 26, 27, 28, 29, 30, 31, 32, 33, 34, 35, 36, 37, 38, 39] (by decide +kernel) (by decide +kernel)
set_option maxRecDepth 20000 in
theorem gX10_top_X10_topOf : GoodIn wsX10_top (wsV RX10 128 RX10 yX10_topOf wsX10_topOf) := goodIn_app (goodIn_of _ (by decide +kernel)) ggX10_top_X10_topOf
theorem dX10_top_0 : decode cX10_top 0 = .ok (.aload_n 0, 1) := by decide +kernel
theorem dX10_top_1 : decode cX10_top 1 = .ok (.iload_n 1, 1) := by decide +kernel
theorem dX10_top_2 : decode cX10_top 2 = .ok (.iload_n 2, 1) := by decide +kernel
theorem dX10_top_3 : decode cX10_top 3 = .ok (.invokestatic 46, 3) := by decide +kernel
theorem dX10_top_6 : decode cX10_top 6 = .ok (.ifCond .eq 7, 3) := by decide +kernel
theorem dX10_top_9 : decode cX10_top 9 = .ok (.iconst 0, 1) := by decide +kernel
theorem dX10_top_10 : decode cX10_top 10 = .ok (.goto 4, 3) := by decide +kernel
theorem dX10_top_13 : decode cX10_top 13 = .ok (.iconst 1, 1) := by decide +kernel
theorem dX10_top_14 : decode cX10_top 14 = .ok (.invokevirtual 56, 3) := by decide +kernel
theorem dX10_top_17 : decode cX10_top 17 = .ok (.ifCond .eq 12, 3) := by decide +kernel
theorem dX10_top_20 : decode cX10_top 20 = .ok (.aload_n 0, 1) := by decide +kernel
theorem dX10_top_21 : decode cX10_top 21 = .ok (.iload_n 1, 1) := by decide +kernel
theorem dX10_top_22 : decode cX10_top 22 = .ok (.iload_n 2, 1) := by decide +kernel
theorem dX10_top_23 : decode cX10_top 23 = .ok (.invokevirtual 128, 3) := by decide +kernel
theorem dX10_top_26 : decode cX10_top 26 = .ok (.goto 4, 3) := by decide +kernel
theorem dX10_top_29 : decode cX10_top 29 = .ok (.iconst 0, 1) := by decide +kernel
theorem dX10_top_30 : decode cX10_top 30 = .ok (.ireturn, 1) := by decide +kernel
set_option maxRecDepth 20000 in
theorem ggX10_topAnew_X10_isCell : GoodIn wsX10_topAnew wsX10_isCell := goodIn_r _ [4, 5, 6, 3, 7] (by decide +kernel) (by decide +kernel)
set_option maxRecDepth 20000 in
theorem gX10_topAnew_X10_isCell : GoodIn wsX10_topAnew (va_wsS RX10 46 yX10_isCell wsX10_isCell) := goodIn_app (goodIn_of _ (by decide +kernel)) ggX10_topAnew_X10_isCell
set_option maxRecDepth 20000 in
theorem ggX10_topAnew_X10_can : GoodIn wsX10_topAnew wsX10_can := goodIn_r _ [11, 12, 26, 27, 28, 29, 30, 31, 32, 33, 34, 35, 36, 37, 38, 39] (by decide +kernel) (by decide +kernel)
set_option maxRecDepth 20000 in
theorem gX10_topAnew_X10_can : GoodIn wsX10_topAnew (wsV RX10 56 RX10 yX10_can wsX10_can) := goodIn_app (goodIn_of _ (by decide +kernel)) ggX10_topAnew_X10_can
set_option maxRecDepth 20000 in
theorem ggX10_topAnew_X10_topOf : GoodIn wsX10_topAnew wsX10_topOf := goodIn_r _ [16, 17, 18, 19, 20, 21, 22, 3, 23, 24, 25, 26, 27, 28, 29, 30, 31, 32, 33, 34, 35, 36, 37, 38, 39] (by decide +kernel) (by decide +kernel)
set_option maxRecDepth 20000 in
theorem gX10_topAnew_X10_topOf : GoodIn wsX10_topAnew (wsV RX10 128 RX10 yX10_topOf wsX10_topOf) := goodIn_app (goodIn_of _ (by decide +kernel)) ggX10_topAnew_X10_topOf
theorem dX10_topAnew_0 : decode cX10_topAnew 0 = .ok (.aload_n 0, 1) := by decide +kernel
theorem dX10_topAnew_1 : decode cX10_topAnew 1 = .ok (.iload_n 1, 1) := by decide +kernel
theorem dX10_topAnew_2 : decode cX10_topAnew 2 = .ok (.iload_n 2, 1) := by decide +kernel
theorem dX10_topAnew_3 : decode cX10_topAnew 3 = .ok (.invokestatic 46, 3) := by decide +kernel
theorem dX10_topAnew_6 : decode cX10_topAnew 6 = .ok (.ifCond .eq 7, 3) := by decide +kernel
theorem dX10_topAnew_9 : decode cX10_topAnew 9 = .ok (.iconst 0, 1) := by decide +kernel
theorem dX10_topAnew_10 : decode cX10_topAnew 10 = .ok (.goto 4, 3) := by decide +kernel
theorem dX10_topAnew_13 : decode cX10_topAnew 13 = .ok (.iconst 1, 1) := by decide +kernel
theorem dX10_topAnew_14 : decode cX10_topAnew 14 = .ok (.invokevirtual 56, 3) := by decide +kernel
theorem dX10_topAnew_17 : decode cX10_topAnew 17 = .ok (.ifCond .eq 12, 3) := by decide +kernel
theorem dX10_topAnew_20 : decode cX10_topAnew 20 = .ok (.aload_n 0, 1) := by decide +kernel
theorem dX10_topAnew_21 : decode cX10_topAnew 21 = .ok (.iload_n 1, 1) := by decide +kernel
theorem dX10_topAnew_22 : decode cX10_topAnew 22 = .ok (.iload_n 2, 1) := by decide +kernel
theorem dX10_topAnew_23 : decode cX10_topAnew 23 = .ok (.invokevirtual 128, 3) := by decide +kernel
theorem dX10_topAnew_26 : decode cX10_topAnew 26 = .ok (.goto 4, 3) := by decide +kernel
theorem dX10_topAnew_29 : decode cX10_topAnew 29 = .ok (.iconst 0, 1) := by decide +kernel
theorem dX10_topAnew_30 : decode cX10_topAnew 30 = .ok (.ireturn, 1) := by decide +kernel
theorem dJ9_max_7cf53_0 : decode cJ9_max_7cf53 0 = .ok (.iload_n 0, 1) := by decide +kernel
theorem dJ9_max_7cf53_1 : decode cJ9_max_7cf53 1 = .ok (.iload_n 1, 1) := by decide +kernel
theorem dJ9_max_7cf53_2 : decode cJ9_max_7cf53 2 = .ok (.if_icmp .lt 7, 3) := by decide +kernel
theorem dJ9_max_7cf53_5 : decode cJ9_max_7cf53 5 = .ok (.iload_n 0, 1) := by decide +kernel
theorem dJ9_max_7cf53_6 : decode cJ9_max_7cf53 6 = .ok (.goto 4, 3) := by decide +kernel
theorem dJ9_max_7cf53_9 : decode cJ9_max_7cf53 9 = .ok (.iload_n 1, 1) := by decide +kernel
theorem dJ9_max_7cf53_10 : decode cJ9_max_7cf53 10 = .ok (.ireturn, 1) := by decide +kernel
theorem dJ9_min_7cf53_0 : decode cJ9_min_7cf53 0 = .ok (.iload_n 0, 1) := by decide +kernel
theorem dJ9_min_7cf53_1 : decode cJ9_min_7cf53 1 = .ok (.iload_n 1, 1) := by decide +kernel
theorem dJ9_min_7cf53_2 : decode cJ9_min_7cf53 2 = .ok (.if_icmp .gt 7, 3) := by decide +kernel
theorem dJ9_min_7cf53_5 : decode cJ9_min_7cf53 5 = .ok (.iload_n 0, 1) := by decide +kernel
theorem dJ9_min_7cf53_6 : decode cJ9_min_7cf53 6 = .ok (.goto 4, 3) := by decide +kernel
theorem dJ9_min_7cf53_9 : decode cJ9_min_7cf53 9 = .ok (.iload_n 1, 1) := by decide +kernel
theorem dJ9_min_7cf53_10 : decode cJ9_min_7cf53 10 = .ok (.ireturn, 1) := by decide +kernel
theorem dJxa1e45_init_da8c8_0 : decode cJxa1e45_init_da8c8 0 = .ok (.aload_n 0, 1) := by decide +kernel
theorem dJxa1e45_init_da8c8_1 : decode cJxa1e45_init_da8c8 1 = .ok (.invokespecial 1, 3) := by decide +kernel
theorem dJxa1e45_init_da8c8_4 : decode cJxa1e45_init_da8c8 4 = .ok (.return_, 1) := by decide +kernel
set_option maxRecDepth 20000 in
theorem ggJxc12de_init_da8c8_Jxa1e45_init_da8c8 : GoodIn wsJxc12de_init_da8c8 wsJxa1e45_init_da8c8 := goodIn_r _ [5, 6, 7, 8] (by decide +kernel) (by decide +kernel)
set_option maxRecDepth 20000 in
theorem gJxc12de_init_da8c8_Jxa1e45_init_da8c8 : GoodIn wsJxc12de_init_da8c8 (wsJxa1e45_init_da8c8) := ggJxc12de_init_da8c8_Jxa1e45_init_da8c8
theorem dJxc12de_init_da8c8_0 : decode cJxc12de_init_da8c8 0 = .ok (.aload_n 0, 1) := by decide +kernel
theorem dJxc12de_init_da8c8_1 : decode cJxc12de_init_da8c8 1 = .ok (.invokespecial 1, 3) := by decide +kernel
theorem dJxc12de_init_da8c8_4 : decode cJxc12de_init_da8c8 4 = .ok (.aload_n 0, 1) := by decide +kernel
theorem dJxc12de_init_da8c8_5 : decode cJxc12de_init_da8c8 5 = .ok (.iconst 0, 1) := by decide +kernel
theorem dJxc12de_init_da8c8_6 : decode cJxc12de_init_da8c8 6 = .ok (.putfield 7, 3) := by decide +kernel
theorem dJxc12de_init_da8c8_9 : decode cJxc12de_init_da8c8 9 = .ok (.return_, 1) := by decide +kernel
set_option maxRecDepth 20000 in
theorem ggJx4a65c_init_da8c8_Jxc12de_init_da8c8 : GoodIn wsJx4a65c_init_da8c8 wsJxc12de_init_da8c8 := goodIn_r _ [6, 7, 8, 9, 10, 11, 12, 13, 14, 15, 16, 17] (by decide +kernel) (by decide +kernel)
set_option maxRecDepth 20000 in
theorem gJx4a65c_init_da8c8_Jxc12de_init_da8c8 : GoodIn wsJx4a65c_init_da8c8 (wsJxc12de_init_da8c8) := ggJx4a65c_init_da8c8_Jxc12de_init_da8c8
theorem dJx4a65c_init_da8c8_0 : decode cJx4a65c_init_da8c8 0 = .ok (.aload_n 0, 1) := by decide +kernel
theorem dJx4a65c_init_da8c8_1 : decode cJx4a65c_init_da8c8 1 = .ok (.invokespecial 1, 3) := by decide +kernel
theorem dJx4a65c_init_da8c8_4 : decode cJx4a65c_init_da8c8 4 = .ok (.aload_n 0, 1) := by decide +kernel
theorem dJx4a65c_init_da8c8_5 : decode cJx4a65c_init_da8c8 5 = .ok (.getstatic 39, 3) := by decide +kernel
theorem dJx4a65c_init_da8c8_8 : decode cJx4a65c_init_da8c8 8 = .ok (.putfield 9, 3) := by decide +kernel
theorem dJx4a65c_init_da8c8_11 : decode cJx4a65c_init_da8c8 11 = .ok (.return_, 1) := by decide +kernel
set_option maxRecDepth 20000 in
theorem ggJx4a65c_grow_92f84_J8_newLength_cabcc : GoodIn wsJx4a65c_grow_92f84 wsJ8_newLength_cabcc := goodIn_r _ [11, 12, 4, 5, 6, 13, 14, 15, 10, 16] (by decide +kernel) (by decide +kernel)
set_option maxRecDepth 20000 in
theorem gJx4a65c_grow_92f84_J8_newLength_cabcc : GoodIn wsJx4a65c_grow_92f84 (va_wsS RJx4a65c 73 yJ8_newLength_cabcc wsJ8_newLength_cabcc) := goodIn_app (goodIn_of _ (by decide +kernel)) ggJx4a65c_grow_92f84_J8_newLength_cabcc
set_option maxRecDepth 20000 in
theorem ggJx4a65c_grow_92f84_J7_copyOf_1904c : GoodIn wsJx4a65c_grow_92f84 wsJ7_copyOf_1904c := goodIn_r _ [20, 21, 22, 23, 24, 25, 26, 19, 27, 28, 29, 30, 31, 5, 32, 33, 34, 35, 36] (by decide +kernel) (by decide +kernel)
set_option maxRecDepth 20000 in
theorem gJx4a65c_grow_92f84_J7_copyOf_1904c : GoodIn wsJx4a65c_grow_92f84 (va_wsS RJx4a65c 66 yJ7_copyOf_1904c wsJ7_copyOf_1904c) := goodIn_app (goodIn_of _ (by decide +kernel)) ggJx4a65c_grow_92f84_J7_copyOf_1904c
theorem dJx4a65c_grow_92f84_0 : decode cJx4a65c_grow_92f84 0 = .ok (.aload_n 0, 1) := by decide +kernel
theorem dJx4a65c_grow_92f84_1 : decode cJx4a65c_grow_92f84 1 = .ok (.getfield 9, 3) := by decide +kernel
theorem dJx4a65c_grow_92f84_4 : decode cJx4a65c_grow_92f84 4 = .ok (.arraylength, 1) := by decide +kernel
theorem dJx4a65c_grow_92f84_5 : decode cJx4a65c_grow_92f84 5 = .ok (.istore_n 2, 1) := by decide +kernel
theorem dJx4a65c_grow_92f84_6 : decode cJx4a65c_grow_92f84 6 = .ok (.iload_n 2, 1) := by decide +kernel
theorem dJx4a65c_grow_92f84_7 : decode cJx4a65c_grow_92f84 7 = .ok (.ifCond .gt 13, 3) := by decide +kernel
theorem dJx4a65c_grow_92f84_10 : decode cJx4a65c_grow_92f84 10 = .ok (.aload_n 0, 1) := by decide +kernel
theorem dJx4a65c_grow_92f84_11 : decode cJx4a65c_grow_92f84 11 = .ok (.getfield 9, 3) := by decide +kernel
theorem dJx4a65c_grow_92f84_14 : decode cJx4a65c_grow_92f84 14 = .ok (.getstatic 39, 3) := by decide +kernel
theorem dJx4a65c_grow_92f84_17 : decode cJx4a65c_grow_92f84 17 = .ok (.if_acmp .eq 28, 3) := by decide +kernel
theorem dJx4a65c_grow_92f84_20 : decode cJx4a65c_grow_92f84 20 = .ok (.iload_n 2, 1) := by decide +kernel
theorem dJx4a65c_grow_92f84_21 : decode cJx4a65c_grow_92f84 21 = .ok (.iload_n 1, 1) := by decide +kernel
theorem dJx4a65c_grow_92f84_22 : decode cJx4a65c_grow_92f84 22 = .ok (.iload_n 2, 1) := by decide +kernel
theorem dJx4a65c_grow_92f84_23 : decode cJx4a65c_grow_92f84 23 = .ok (.isub, 1) := by decide +kernel
theorem dJx4a65c_grow_92f84_24 : decode cJx4a65c_grow_92f84 24 = .ok (.iload_n 2, 1) := by decide +kernel
theorem dJx4a65c_grow_92f84_25 : decode cJx4a65c_grow_92f84 25 = .ok (.iconst 1, 1) := by decide +kernel
theorem dJx4a65c_grow_92f84_26 : decode cJx4a65c_grow_92f84 26 = .ok (.ishr, 1) := by decide +kernel
theorem dJx4a65c_grow_92f84_27 : decode cJx4a65c_grow_92f84 27 = .ok (.invokestatic 73, 3) := by decide +kernel
theorem dJx4a65c_grow_92f84_30 : decode cJx4a65c_grow_92f84 30 = .ok (.istore_n 3, 1) := by decide +kernel
theorem dJx4a65c_grow_92f84_31 : decode cJx4a65c_grow_92f84 31 = .ok (.aload_n 0, 1) := by decide +kernel
theorem dJx4a65c_grow_92f84_32 : decode cJx4a65c_grow_92f84 32 = .ok (.aload_n 0, 1) := by decide +kernel
theorem dJx4a65c_grow_92f84_33 : decode cJx4a65c_grow_92f84 33 = .ok (.getfield 9, 3) := by decide +kernel
theorem dJx4a65c_grow_92f84_36 : decode cJx4a65c_grow_92f84 36 = .ok (.iload_n 3, 1) := by decide +kernel
theorem dJx4a65c_grow_92f84_37 : decode cJx4a65c_grow_92f84 37 = .ok (.invokestatic 66, 3) := by decide +kernel
theorem dJx4a65c_grow_92f84_40 : decode cJx4a65c_grow_92f84 40 = .ok (.dup_x1, 1) := by decide +kernel
theorem dJx4a65c_grow_92f84_41 : decode cJx4a65c_grow_92f84 41 = .ok (.putfield 9, 3) := by decide +kernel
theorem dJx4a65c_grow_92f84_44 : decode cJx4a65c_grow_92f84 44 = .ok (.areturn, 1) := by decide +kernel
theorem dJx4a65c_grow_92f84_45 : decode cJx4a65c_grow_92f84 45 = .ok (.aload_n 0, 1) := by decide +kernel
theorem dJx4a65c_grow_92f84_46 : decode cJx4a65c_grow_92f84 46 = .ok (.bipush 10, 2) := by decide +kernel
theorem dJx4a65c_grow_92f84_48 : decode cJx4a65c_grow_92f84 48 = .ok (.iload_n 1, 1) := by decide +kernel
theorem dJx4a65c_grow_92f84_49 : decode cJx4a65c_grow_92f84 49 = .ok (.invokestatic 79, 3) := by decide +kernel
theorem dJx4a65c_grow_92f84_52 : decode cJx4a65c_grow_92f84 52 = .ok (.anewarray 7, 3) := by decide +kernel
theorem dJx4a65c_grow_92f84_55 : decode cJx4a65c_grow_92f84 55 = .ok (.dup_x1, 1) := by decide +kernel
theorem dJx4a65c_grow_92f84_56 : decode cJx4a65c_grow_92f84 56 = .ok (.putfield 9, 3) := by decide +kernel
theorem dJx4a65c_grow_92f84_59 : decode cJx4a65c_grow_92f84 59 = .ok (.areturn, 1) := by decide +kernel
set_option maxRecDepth 20000 in
theorem ggJx4a65c_grow_d5877_Jx4a65c_grow_92f84 : GoodIn wsJx4a65c_grow_d5877 wsJx4a65c_grow_92f84 := goodIn_r _ [6, 7, 8, 9, 10, 11, 12, 13, 14, 15, 16, 17, 18, 19, 20, 21, 22, 23, 24, 25, 26, 27, 28, 29, 30, 31, 32, 33, 34, 35, 36, 37, 38, 39, 40, 41, 42, 43, 44, 45] (by decide +kernel) (by decide +kernel)
set_option maxRecDepth 20000 in
theorem gJx4a65c_grow_d5877_Jx4a65c_grow_92f84 : GoodIn wsJx4a65c_grow_d5877 (wsV RJx4a65c 69 RJx4a65c yJx4a65c_grow_92f84 wsJx4a65c_grow_92f84) := goodIn_app (goodIn_of _ (by decide +kernel)) ggJx4a65c_grow_d5877_Jx4a65c_grow_92f84
theorem dJx4a65c_grow_d5877_0 : decode cJx4a65c_grow_d5877 0 = .ok (.aload_n 0, 1) := by decide +kernel
theorem dJx4a65c_grow_d5877_1 : decode cJx4a65c_grow_d5877 1 = .ok (.aload_n 0, 1) := by decide +kernel
theorem dJx4a65c_grow_d5877_2 : decode cJx4a65c_grow_d5877 2 = .ok (.getfield 48, 3) := by decide +kernel
theorem dJx4a65c_grow_d5877_5 : decode cJx4a65c_grow_d5877 5 = .ok (.iconst 1, 1) := by decide +kernel
theorem dJx4a65c_grow_d5877_6 : decode cJx4a65c_grow_d5877 6 = .ok (.iadd, 1) := by decide +kernel
theorem dJx4a65c_grow_d5877_7 : decode cJx4a65c_grow_d5877 7 = .ok (.invokevirtual 69, 3) := by decide +kernel
theorem dJx4a65c_grow_d5877_10 : decode cJx4a65c_grow_d5877 10 = .ok (.areturn, 1) := by decide +kernel
theorem dJx4a65c_size_8abf5_0 : decode cJx4a65c_size_8abf5 0 = .ok (.aload_n 0, 1) := by decide +kernel
theorem dJx4a65c_size_8abf5_1 : decode cJx4a65c_size_8abf5 1 = .ok (.getfield 48, 3) := by decide +kernel
theorem dJx4a65c_size_8abf5_4 : decode cJx4a65c_size_8abf5 4 = .ok (.ireturn, 1) := by decide +kernel
theorem dJx4a65c_elementData_915e3_0 : decode cJx4a65c_elementData_915e3 0 = .ok (.aload_n 0, 1) := by decide +kernel
theorem dJx4a65c_elementData_915e3_1 : decode cJx4a65c_elementData_915e3 1 = .ok (.getfield 9, 3) := by decide +kernel
theorem dJx4a65c_elementData_915e3_4 : decode cJx4a65c_elementData_915e3 4 = .ok (.iload_n 1, 1) := by decide +kernel
theorem dJx4a65c_elementData_915e3_5 : decode cJx4a65c_elementData_915e3 5 = .ok (.aaload, 1) := by decide +kernel
theorem dJx4a65c_elementData_915e3_6 : decode cJx4a65c_elementData_915e3 6 = .ok (.areturn, 1) := by decide +kernel
set_option maxRecDepth 20000 in
theorem ggJx4a65c_get_915e3_J15_checkIndex_7cf53 : GoodIn wsJx4a65c_get_915e3 wsJ15_checkIndex_7cf53 := goodIn_r _ [5, 6, 7, 8, 9] (by decide +kernel) (by decide +kernel)
set_option maxRecDepth 20000 in
theorem gJx4a65c_get_915e3_J15_checkIndex_7cf53 : GoodIn wsJx4a65c_get_915e3 (va_wsS RJx4a65c 118 yJ15_checkIndex_7cf53 wsJ15_checkIndex_7cf53) := goodIn_app (goodIn_of _ (by decide +kernel)) ggJx4a65c_get_915e3_J15_checkIndex_7cf53
set_option maxRecDepth 20000 in
theorem ggJx4a65c_get_915e3_Jx4a65c_elementData_915e3 : GoodIn wsJx4a65c_get_915e3 wsJx4a65c_elementData_915e3 := goodIn_r _ [14, 15, 16, 17, 18] (by decide +kernel) (by decide +kernel)
set_option maxRecDepth 20000 in
theorem gJx4a65c_get_915e3_Jx4a65c_elementData_915e3 : GoodIn wsJx4a65c_get_915e3 (wsV RJx4a65c 123 RJx4a65c yJx4a65c_elementData_915e3 wsJx4a65c_elementData_915e3) := goodIn_app (goodIn_of _ (by decide +kernel)) ggJx4a65c_get_915e3_Jx4a65c_elementData_915e3
theorem dJx4a65c_get_915e3_0 : decode cJx4a65c_get_915e3 0 = .ok (.iload_n 1, 1) := by decide +kernel
theorem dJx4a65c_get_915e3_1 : decode cJx4a65c_get_915e3 1 = .ok (.aload_n 0, 1) := by decide +kernel
theorem dJx4a65c_get_915e3_2 : decode cJx4a65c_get_915e3 2 = .ok (.getfield 48, 3) := by decide +kernel
theorem dJx4a65c_get_915e3_5 : decode cJx4a65c_get_915e3 5 = .ok (.invokestatic 118, 3) := by decide +kernel
theorem dJx4a65c_get_915e3_8 : decode cJx4a65c_get_915e3 8 = .ok (.pop, 1) := by decide +kernel
theorem dJx4a65c_get_915e3_9 : decode cJx4a65c_get_915e3 9 = .ok (.aload_n 0, 1) := by decide +kernel
theorem dJx4a65c_get_915e3_10 : decode cJx4a65c_get_915e3 10 = .ok (.iload_n 1, 1) := by decide +kernel
theorem dJx4a65c_get_915e3_11 : decode cJx4a65c_get_915e3 11 = .ok (.invokevirtual 123, 3) := by decide +kernel
theorem dJx4a65c_get_915e3_14 : decode cJx4a65c_get_915e3 14 = .ok (.areturn, 1) := by decide +kernel
set_option maxRecDepth 20000 in
theorem ggJx4a65c_add_72be8_Jx4a65c_grow_d5877 : GoodIn wsJx4a65c_add_72be8 wsJx4a65c_grow_d5877 := goodIn_r _ [6, 1, 7, 8, 9, 5, 10, 11, 12, 13, 14, 15, 16, 17, 18, 19, 20, 21, 22, 23, 24, 25, 26, 27, 28, 29, 30, 31, 32, 33, 34, 35, 36, 37, 38, 39, 40, 41, 42, 43, 44, 45, 46, 47, 48, 49] (by decide +kernel) (by decide +kernel)
set_option maxRecDepth 20000 in
theorem gJx4a65c_add_72be8_Jx4a65c_grow_d5877 : GoodIn wsJx4a65c_add_72be8 (wsV RJx4a65c 129 RJx4a65c yJx4a65c_grow_d5877 wsJx4a65c_grow_d5877) := goodIn_app (goodIn_of _ (by decide +kernel)) ggJx4a65c_add_72be8_Jx4a65c_grow_d5877
theorem dJx4a65c_add_72be8_0 : decode cJx4a65c_add_72be8 0 = .ok (.iload_n 3, 1) := by decide +kernel
theorem dJx4a65c_add_72be8_1 : decode cJx4a65c_add_72be8 1 = .ok (.aload_n 2, 1) := by decide +kernel
theorem dJx4a65c_add_72be8_2 : decode cJx4a65c_add_72be8 2 = .ok (.arraylength, 1) := by decide +kernel
theorem dJx4a65c_add_72be8_3 : decode cJx4a65c_add_72be8 3 = .ok (.if_icmp .ne 8, 3) := by decide +kernel
theorem dJx4a65c_add_72be8_6 : decode cJx4a65c_add_72be8 6 = .ok (.aload_n 0, 1) := by decide +kernel
theorem dJx4a65c_add_72be8_7 : decode cJx4a65c_add_72be8 7 = .ok (.invokevirtual 129, 3) := by decide +kernel
theorem dJx4a65c_add_72be8_10 : decode cJx4a65c_add_72be8 10 = .ok (.astore_n 2, 1) := by decide +kernel
theorem dJx4a65c_add_72be8_11 : decode cJx4a65c_add_72be8 11 = .ok (.aload_n 2, 1) := by decide +kernel
theorem dJx4a65c_add_72be8_12 : decode cJx4a65c_add_72be8 12 = .ok (.iload_n 3, 1) := by decide +kernel
theorem dJx4a65c_add_72be8_13 : decode cJx4a65c_add_72be8 13 = .ok (.aload_n 1, 1) := by decide +kernel
theorem dJx4a65c_add_72be8_14 : decode cJx4a65c_add_72be8 14 = .ok (.aastore, 1) := by decide +kernel
theorem dJx4a65c_add_72be8_15 : decode cJx4a65c_add_72be8 15 = .ok (.aload_n 0, 1) := by decide +kernel
theorem dJx4a65c_add_72be8_16 : decode cJx4a65c_add_72be8 16 = .ok (.iload_n 3, 1) := by decide +kernel
theorem dJx4a65c_add_72be8_17 : decode cJx4a65c_add_72be8 17 = .ok (.iconst 1, 1) := by decide +kernel
theorem dJx4a65c_add_72be8_18 : decode cJx4a65c_add_72be8 18 = .ok (.iadd, 1) := by decide +kernel
theorem dJx4a65c_add_72be8_19 : decode cJx4a65c_add_72be8 19 = .ok (.putfield 48, 3) := by decide +kernel
theorem dJx4a65c_add_72be8_22 : decode cJx4a65c_add_72be8 22 = .ok (.return_, 1) := by decide +kernel
set_option maxRecDepth 20000 in
theorem ggJx4a65c_add_9ea2d_Jx4a65c_add_72be8 : GoodIn wsJx4a65c_add_9ea2d wsJx4a65c_add_72be8 := goodIn_r _ [9, 4, 10, 11, 12, 8, 13, 14, 15, 16, 17, 3, 18, 19, 20, 21, 22, 23, 24, 25, 26, 27, 28, 29, 30, 31, 32, 33, 34, 35, 36, 37, 38, 39, 40, 41, 42, 43, 44, 45, 46, 47, 48, 49, 50, 51, 52, 53, 54, 55] (by decide +kernel) (by decide +kernel)
set_option maxRecDepth 20000 in
theorem gJx4a65c_add_9ea2d_Jx4a65c_add_72be8 : GoodIn wsJx4a65c_add_9ea2d (wsV RJx4a65c 131 RJx4a65c yJx4a65c_add_72be8 wsJx4a65c_add_72be8) := goodIn_app (goodIn_of _ (by decide +kernel)) ggJx4a65c_add_9ea2d_Jx4a65c_add_72be8
theorem dJx4a65c_add_9ea2d_0 : decode cJx4a65c_add_9ea2d 0 = .ok (.aload_n 0, 1) := by decide +kernel
theorem dJx4a65c_add_9ea2d_1 : decode cJx4a65c_add_9ea2d 1 = .ok (.dup, 1) := by decide +kernel
theorem dJx4a65c_add_9ea2d_2 : decode cJx4a65c_add_9ea2d 2 = .ok (.getfield 63, 3) := by decide +kernel
theorem dJx4a65c_add_9ea2d_5 : decode cJx4a65c_add_9ea2d 5 = .ok (.iconst 1, 1) := by decide +kernel
theorem dJx4a65c_add_9ea2d_6 : decode cJx4a65c_add_9ea2d 6 = .ok (.iadd, 1) := by decide +kernel
theorem dJx4a65c_add_9ea2d_7 : decode cJx4a65c_add_9ea2d 7 = .ok (.putfield 63, 3) := by decide +kernel
theorem dJx4a65c_add_9ea2d_10 : decode cJx4a65c_add_9ea2d 10 = .ok (.aload_n 0, 1) := by decide +kernel
theorem dJx4a65c_add_9ea2d_11 : decode cJx4a65c_add_9ea2d 11 = .ok (.aload_n 1, 1) := by decide +kernel
theorem dJx4a65c_add_9ea2d_12 : decode cJx4a65c_add_9ea2d 12 = .ok (.aload_n 0, 1) := by decide +kernel
theorem dJx4a65c_add_9ea2d_13 : decode cJx4a65c_add_9ea2d 13 = .ok (.getfield 9, 3) := by decide +kernel
theorem dJx4a65c_add_9ea2d_16 : decode cJx4a65c_add_9ea2d 16 = .ok (.aload_n 0, 1) := by decide +kernel
theorem dJx4a65c_add_9ea2d_17 : decode cJx4a65c_add_9ea2d 17 = .ok (.getfield 48, 3) := by decide +kernel
theorem dJx4a65c_add_9ea2d_20 : decode cJx4a65c_add_9ea2d 20 = .ok (.invokevirtual 131, 3) := by decide +kernel
theorem dJx4a65c_add_9ea2d_23 : decode cJx4a65c_add_9ea2d 23 = .ok (.iconst 1, 1) := by decide +kernel
theorem dJx4a65c_add_9ea2d_24 : decode cJx4a65c_add_9ea2d 24 = .ok (.ireturn, 1) := by decide +kernel
set_option maxRecDepth 20000 in
theorem ggJ7_copyOf_1904c_J7_copyOf_6403c : GoodIn wsJ7_copyOf_1904c wsJ7_copyOf_6403c := goodIn_r _ [8, 9, 10, 11, 12, 13, 14, 15, 16, 17, 18] (by decide +kernel) (by decide +kernel)
set_option maxRecDepth 20000 in
theorem gJ7_copyOf_1904c_J7_copyOf_6403c : GoodIn wsJ7_copyOf_1904c (va_wsS RJ7 300 yJ7_copyOf_6403c wsJ7_copyOf_6403c) := goodIn_app (goodIn_of _ (by decide +kernel)) ggJ7_copyOf_1904c_J7_copyOf_6403c
theorem dJ7_copyOf_1904c_0 : decode cJ7_copyOf_1904c 0 = .ok (.aload_n 0, 1) := by decide +kernel
theorem dJ7_copyOf_1904c_1 : decode cJ7_copyOf_1904c 1 = .ok (.iload_n 1, 1) := by decide +kernel
theorem dJ7_copyOf_1904c_2 : decode cJ7_copyOf_1904c 2 = .ok (.aload_n 0, 1) := by decide +kernel
theorem dJ7_copyOf_1904c_3 : decode cJ7_copyOf_1904c 3 = .ok (.invokevirtual 86, 3) := by decide +kernel
theorem dJ7_copyOf_1904c_6 : decode cJ7_copyOf_1904c 6 = .ok (.invokestatic 300, 3) := by decide +kernel
theorem dJ7_copyOf_1904c_9 : decode cJ7_copyOf_1904c 9 = .ok (.areturn, 1) := by decide +kernel
theorem dJ7_copyOf_6403c_0 : decode cJ7_copyOf_6403c 0 = .ok (.aload_n 2, 1) := by decide +kernel
theorem dJ7_copyOf_6403c_1 : decode cJ7_copyOf_6403c 1 = .ok (.ldc 110, 2) := by decide +kernel
theorem dJ7_copyOf_6403c_3 : decode cJ7_copyOf_6403c 3 = .ok (.if_acmp .ne 10, 3) := by decide +kernel
theorem dJ7_copyOf_6403c_6 : decode cJ7_copyOf_6403c 6 = .ok (.iload_n 1, 1) := by decide +kernel
theorem dJ7_copyOf_6403c_7 : decode cJ7_copyOf_6403c 7 = .ok (.anewarray 2, 3) := by decide +kernel
theorem dJ7_copyOf_6403c_10 : decode cJ7_copyOf_6403c 10 = .ok (.goto 14, 3) := by decide +kernel
theorem dJ7_copyOf_6403c_13 : decode cJ7_copyOf_6403c 13 = .ok (.aload_n 2, 1) := by decide +kernel
theorem dJ7_copyOf_6403c_14 : decode cJ7_copyOf_6403c 14 = .ok (.invokevirtual 90, 3) := by decide +kernel
theorem dJ7_copyOf_6403c_17 : decode cJ7_copyOf_6403c 17 = .ok (.iload_n 1, 1) := by decide +kernel
theorem dJ7_copyOf_6403c_18 : decode cJ7_copyOf_6403c 18 = .ok (.invokestatic 95, 3) := by decide +kernel
theorem dJ7_copyOf_6403c_21 : decode cJ7_copyOf_6403c 21 = .ok (.checkcast 110, 3) := by decide +kernel
theorem dJ7_copyOf_6403c_24 : decode cJ7_copyOf_6403c 24 = .ok (.astore_n 3, 1) := by decide +kernel
theorem dJ7_copyOf_6403c_25 : decode cJ7_copyOf_6403c 25 = .ok (.aload_n 0, 1) := by decide +kernel
theorem dJ7_copyOf_6403c_26 : decode cJ7_copyOf_6403c 26 = .ok (.iconst 0, 1) := by decide +kernel
theorem dJ7_copyOf_6403c_27 : decode cJ7_copyOf_6403c 27 = .ok (.aload_n 3, 1) := by decide +kernel
theorem dJ7_copyOf_6403c_28 : decode cJ7_copyOf_6403c 28 = .ok (.iconst 0, 1) := by decide +kernel
theorem dJ7_copyOf_6403c_29 : decode cJ7_copyOf_6403c 29 = .ok (.aload_n 0, 1) := by decide +kernel
theorem dJ7_copyOf_6403c_30 : decode cJ7_copyOf_6403c 30 = .ok (.arraylength, 1) := by decide +kernel
theorem dJ7_copyOf_6403c_31 : decode cJ7_copyOf_6403c 31 = .ok (.iload_n 1, 1) := by decide +kernel
theorem dJ7_copyOf_6403c_32 : decode cJ7_copyOf_6403c 32 = .ok (.invokestatic 304, 3) := by decide +kernel
theorem dJ7_copyOf_6403c_35 : decode cJ7_copyOf_6403c 35 = .ok (.invokestatic 150, 3) := by decide +kernel
theorem dJ7_copyOf_6403c_38 : decode cJ7_copyOf_6403c 38 = .ok (.aload_n 3, 1) := by decide +kernel
theorem dJ7_copyOf_6403c_39 : decode cJ7_copyOf_6403c 39 = .ok (.areturn, 1) := by decide +kernel
set_option maxRecDepth 20000 in
theorem ggJ15_checkIndex_7cf53_J3_checkIndex_8e157 : GoodIn wsJ15_checkIndex_7cf53 wsJ3_checkIndex_8e157 := goodIn_r _ [4] (by decide +kernel) (by decide +kernel)
set_option maxRecDepth 20000 in
theorem gJ15_checkIndex_7cf53_J3_checkIndex_8e157 : GoodIn wsJ15_checkIndex_7cf53 (va_wsS RJ15 105 yJ3_checkIndex_8e157 wsJ3_checkIndex_8e157) := goodIn_app (goodIn_of _ (by decide +kernel)) ggJ15_checkIndex_7cf53_J3_checkIndex_8e157
theorem dJ15_checkIndex_7cf53_0 : decode cJ15_checkIndex_7cf53 0 = .ok (.iload_n 0, 1) := by decide +kernel
theorem dJ15_checkIndex_7cf53_1 : decode cJ15_checkIndex_7cf53 1 = .ok (.iload_n 1, 1) := by decide +kernel
theorem dJ15_checkIndex_7cf53_2 : decode cJ15_checkIndex_7cf53 2 = .ok (.aconst_null, 1) := by decide +kernel
theorem dJ15_checkIndex_7cf53_3 : decode cJ15_checkIndex_7cf53 3 = .ok (.invokestatic 105, 3) := by decide +kernel
theorem dJ15_checkIndex_7cf53_6 : decode cJ15_checkIndex_7cf53 6 = .ok (.ireturn, 1) := by decide +kernel
set_option maxRecDepth 20000 in
theorem ggJ8_newLength_cabcc_J8_hugeLength_7cf53 : GoodIn wsJ8_newLength_cabcc wsJ8_hugeLength_7cf53 := goodIn_r _ [9, 5] (by decide +kernel) (by decide +kernel)
set_option maxRecDepth 20000 in
theorem gJ8_newLength_cabcc_J8_hugeLength_7cf53 : GoodIn wsJ8_newLength_cabcc (va_wsS RJ8 201 yJ8_hugeLength_7cf53 wsJ8_hugeLength_7cf53) := goodIn_app (goodIn_of _ (by decide +kernel)) ggJ8_newLength_cabcc_J8_hugeLength_7cf53
theorem dJ8_newLength_cabcc_0 : decode cJ8_newLength_cabcc 0 = .ok (.iload_n 0, 1) := by decide +kernel
theorem dJ8_newLength_cabcc_1 : decode cJ8_newLength_cabcc 1 = .ok (.iload_n 1, 1) := by decide +kernel
theorem dJ8_newLength_cabcc_2 : decode cJ8_newLength_cabcc 2 = .ok (.iload_n 2, 1) := by decide +kernel
theorem dJ8_newLength_cabcc_3 : decode cJ8_newLength_cabcc 3 = .ok (.invokestatic 194, 3) := by decide +kernel
theorem dJ8_newLength_cabcc_6 : decode cJ8_newLength_cabcc 6 = .ok (.iadd, 1) := by decide +kernel
theorem dJ8_newLength_cabcc_7 : decode cJ8_newLength_cabcc 7 = .ok (.istore_n 3, 1) := by decide +kernel
theorem dJ8_newLength_cabcc_8 : decode cJ8_newLength_cabcc 8 = .ok (.iconst 0, 1) := by decide +kernel
theorem dJ8_newLength_cabcc_9 : decode cJ8_newLength_cabcc 9 = .ok (.iload_n 3, 1) := by decide +kernel
theorem dJ8_newLength_cabcc_10 : decode cJ8_newLength_cabcc 10 = .ok (.if_icmp .ge 11, 3) := by decide +kernel
theorem dJ8_newLength_cabcc_13 : decode cJ8_newLength_cabcc 13 = .ok (.iload_n 3, 1) := by decide +kernel
theorem dJ8_newLength_cabcc_14 : decode cJ8_newLength_cabcc 14 = .ok (.ldc 200, 2) := by decide +kernel
theorem dJ8_newLength_cabcc_16 : decode cJ8_newLength_cabcc 16 = .ok (.if_icmp .gt 5, 3) := by decide +kernel
theorem dJ8_newLength_cabcc_19 : decode cJ8_newLength_cabcc 19 = .ok (.iload_n 3, 1) := by decide +kernel
theorem dJ8_newLength_cabcc_20 : decode cJ8_newLength_cabcc 20 = .ok (.ireturn, 1) := by decide +kernel
theorem dJ8_newLength_cabcc_21 : decode cJ8_newLength_cabcc 21 = .ok (.iload_n 0, 1) := by decide +kernel
theorem dJ8_newLength_cabcc_22 : decode cJ8_newLength_cabcc 22 = .ok (.iload_n 1, 1) := by decide +kernel
theorem dJ8_newLength_cabcc_23 : decode cJ8_newLength_cabcc 23 = .ok (.invokestatic 201, 3) := by decide +kernel
theorem dJ8_newLength_cabcc_26 : decode cJ8_newLength_cabcc 26 = .ok (.ireturn, 1) := by decide +kernel
theorem dJ8_hugeLength_7cf53_0 : decode cJ8_hugeLength_7cf53 0 = .ok (.iload_n 0, 1) := by decide +kernel
theorem dJ8_hugeLength_7cf53_1 : decode cJ8_hugeLength_7cf53 1 = .ok (.iload_n 1, 1) := by decide +kernel
theorem dJ8_hugeLength_7cf53_2 : decode cJ8_hugeLength_7cf53 2 = .ok (.iadd, 1) := by decide +kernel
theorem dJ8_hugeLength_7cf53_3 : decode cJ8_hugeLength_7cf53 3 = .ok (.istore_n 2, 1) := by decide +kernel
theorem dJ8_hugeLength_7cf53_4 : decode cJ8_hugeLength_7cf53 4 = .ok (.iload_n 2, 1) := by decide +kernel
theorem dJ8_hugeLength_7cf53_5 : decode cJ8_hugeLength_7cf53 5 = .ok (.ifCond .ge 44, 3) := by decide +kernel
theorem dJ8_hugeLength_7cf53_8 : decode cJ8_hugeLength_7cf53 8 = .ok (.new 204, 3) := by decide +kernel
theorem dJ8_hugeLength_7cf53_11 : decode cJ8_hugeLength_7cf53 11 = .ok (.dup, 1) := by decide +kernel
theorem dJ8_hugeLength_7cf53_12 : decode cJ8_hugeLength_7cf53 12 = .ok (.new 89, 3) := by decide +kernel
theorem dJ8_hugeLength_7cf53_15 : decode cJ8_hugeLength_7cf53 15 = .ok (.dup, 1) := by decide +kernel
theorem dJ8_hugeLength_7cf53_16 : decode cJ8_hugeLength_7cf53 16 = .ok (.invokespecial 91, 3) := by decide +kernel
theorem dJ8_hugeLength_7cf53_19 : decode cJ8_hugeLength_7cf53 19 = .ok (.ldc 206, 2) := by decide +kernel
theorem dJ8_hugeLength_7cf53_21 : decode cJ8_hugeLength_7cf53 21 = .ok (.invokevirtual 94, 3) := by decide +kernel
theorem dJ8_hugeLength_7cf53_24 : decode cJ8_hugeLength_7cf53 24 = .ok (.iload_n 0, 1) := by decide +kernel
theorem dJ8_hugeLength_7cf53_25 : decode cJ8_hugeLength_7cf53 25 = .ok (.invokevirtual 98, 3) := by decide +kernel
theorem dJ8_hugeLength_7cf53_28 : decode cJ8_hugeLength_7cf53 28 = .ok (.ldc 208, 2) := by decide +kernel
theorem dJ8_hugeLength_7cf53_30 : decode cJ8_hugeLength_7cf53 30 = .ok (.invokevirtual 94, 3) := by decide +kernel
theorem dJ8_hugeLength_7cf53_33 : decode cJ8_hugeLength_7cf53 33 = .ok (.iload_n 1, 1) := by decide +kernel
theorem dJ8_hugeLength_7cf53_34 : decode cJ8_hugeLength_7cf53 34 = .ok (.invokevirtual 98, 3) := by decide +kernel
theorem dJ8_hugeLength_7cf53_37 : decode cJ8_hugeLength_7cf53 37 = .ok (.ldc 210, 2) := by decide +kernel
theorem dJ8_hugeLength_7cf53_39 : decode cJ8_hugeLength_7cf53 39 = .ok (.invokevirtual 94, 3) := by decide +kernel
theorem dJ8_hugeLength_7cf53_42 : decode cJ8_hugeLength_7cf53 42 = .ok (.invokevirtual 101, 3) := by decide +kernel
theorem dJ8_hugeLength_7cf53_45 : decode cJ8_hugeLength_7cf53 45 = .ok (.invokespecial 212, 3) := by decide +kernel
theorem dJ8_hugeLength_7cf53_48 : decode cJ8_hugeLength_7cf53 48 = .ok (.athrow, 1) := by decide +kernel
theorem dJ8_hugeLength_7cf53_49 : decode cJ8_hugeLength_7cf53 49 = .ok (.iload_n 2, 1) := by decide +kernel
theorem dJ8_hugeLength_7cf53_50 : decode cJ8_hugeLength_7cf53 50 = .ok (.ldc 200, 2) := by decide +kernel
theorem dJ8_hugeLength_7cf53_52 : decode cJ8_hugeLength_7cf53 52 = .ok (.if_icmp .gt 6, 3) := by decide +kernel
theorem dJ8_hugeLength_7cf53_55 : decode cJ8_hugeLength_7cf53 55 = .ok (.ldc 200, 2) := by decide +kernel
theorem dJ8_hugeLength_7cf53_57 : decode cJ8_hugeLength_7cf53 57 = .ok (.ireturn, 1) := by decide +kernel
theorem dJ8_hugeLength_7cf53_58 : decode cJ8_hugeLength_7cf53 58 = .ok (.iload_n 2, 1) := by decide +kernel
theorem dJ8_hugeLength_7cf53_59 : decode cJ8_hugeLength_7cf53 59 = .ok (.ireturn, 1) := by decide +kernel
theorem dJ3_checkIndex_8e157_0 : decode cJ3_checkIndex_8e157 0 = .ok (.iload_n 0, 1) := by decide +kernel
theorem dJ3_checkIndex_8e157_1 : decode cJ3_checkIndex_8e157 1 = .ok (.ifCond .lt 8, 3) := by decide +kernel
theorem dJ3_checkIndex_8e157_4 : decode cJ3_checkIndex_8e157 4 = .ok (.iload_n 0, 1) := by decide +kernel
theorem dJ3_checkIndex_8e157_5 : decode cJ3_checkIndex_8e157 5 = .ok (.iload_n 1, 1) := by decide +kernel
theorem dJ3_checkIndex_8e157_6 : decode cJ3_checkIndex_8e157 6 = .ok (.if_icmp .lt 10, 3) := by decide +kernel
theorem dJ3_checkIndex_8e157_9 : decode cJ3_checkIndex_8e157 9 = .ok (.aload_n 2, 1) := by decide +kernel
theorem dJ3_checkIndex_8e157_10 : decode cJ3_checkIndex_8e157 10 = .ok (.iload_n 0, 1) := by decide +kernel
theorem dJ3_checkIndex_8e157_11 : decode cJ3_checkIndex_8e157 11 = .ok (.iload_n 1, 1) := by decide +kernel
theorem dJ3_checkIndex_8e157_12 : decode cJ3_checkIndex_8e157 12 = .ok (.invokestatic 95, 3) := by decide +kernel
theorem dJ3_checkIndex_8e157_15 : decode cJ3_checkIndex_8e157 15 = .ok (.athrow, 1) := by decide +kernel
theorem dJ3_checkIndex_8e157_16 : decode cJ3_checkIndex_8e157 16 = .ok (.iload_n 0, 1) := by decide +kernel
theorem dJ3_checkIndex_8e157_17 : decode cJ3_checkIndex_8e157 17 = .ok (.ireturn, 1) := by decide +kernel
set_option maxRecDepth 20000 in
theorem ggL_ground_X9_ground : GoodIn wsL_ground wsX9_ground := goodIn_ca (goodIn_ca (goodIn_r _ [7, 8, 9, 10, 11, 6, 12, 13, 14, 15, 16, 17, 18, 19, 20, 21, 22, 23, 24, 25, 26, 27, 28, 29, 30, 31, 32, 33, 34, 35, 36] (by decide +kernel) (by decide +kernel)) (goodIn_sub (fun _ h => List.mem_cons_of_mem _ (List.mem_append_left _ (List.mem_append_right _ h))) (by decide +kernel))) (goodIn_sub (fun _ h => List.mem_cons_of_mem _ (List.mem_append_right _ h)) (by decide +kernel))
set_option maxRecDepth 20000 in
theorem gL_ground_X9_ground : GoodIn wsL_ground (wsV RL 7 RX9 yX9_ground wsX9_ground) := goodIn_app (goodIn_of _ (by decide +kernel)) ggL_ground_X9_ground
theorem dL_ground_0 : decode cL_ground 0 = .ok (.aload 4, 2) := by decide +kernel
theorem dL_ground_2 : decode cL_ground 2 = .ok (.iconst 0, 1) := by decide +kernel
theorem dL_ground_3 : decode cL_ground 3 = .ok (.aload_n 0, 1) := by decide +kernel
theorem dL_ground_4 : decode cL_ground 4 = .ok (.iload_n 1, 1) := by decide +kernel
theorem dL_ground_5 : decode cL_ground 5 = .ok (.iload_n 2, 1) := by decide +kernel
theorem dL_ground_6 : decode cL_ground 6 = .ok (.iload_n 3, 1) := by decide +kernel
theorem dL_ground_7 : decode cL_ground 7 = .ok (.invokevirtual 7, 3) := by decide +kernel
theorem dL_ground_10 : decode cL_ground 10 = .ok (.i2l, 1) := by decide +kernel
theorem dL_ground_11 : decode cL_ground 11 = .ok (.lastore, 1) := by decide +kernel
theorem dL_ground_12 : decode cL_ground 12 = .ok (.goto 11, 3) := by decide +kernel
theorem dL_ground_15 : decode cL_ground 15 = .ok (.astore 5, 2) := by decide +kernel
theorem dL_ground_17 : decode cL_ground 17 = .ok (.iconst 1, 1) := by decide +kernel
theorem dL_ground_18 : decode cL_ground 18 = .ok (.ireturn, 1) := by decide +kernel
theorem dL_ground_19 : decode cL_ground 19 = .ok (.astore 5, 2) := by decide +kernel
theorem dL_ground_21 : decode cL_ground 21 = .ok (.iconst 2, 1) := by decide +kernel
theorem dL_ground_22 : decode cL_ground 22 = .ok (.ireturn, 1) := by decide +kernel
theorem dL_ground_23 : decode cL_ground 23 = .ok (.iconst 0, 1) := by decide +kernel
theorem dL_ground_24 : decode cL_ground 24 = .ok (.ireturn, 1) := by decide +kernel
set_option maxRecDepth 20000 in
theorem ggL_stone_X9_stone : GoodIn wsL_stone wsX9_stone := goodIn_ca (goodIn_ca (goodIn_ca (goodIn_r _ [8, 9, 10, 11, 7, 12, 13, 14, 15, 16, 17, 18, 19, 20, 21, 22, 23, 24, 25, 26, 27, 28, 29, 30, 31, 32, 33, 34, 35, 36, 37, 38, 39, 40, 41, 42, 43, 44, 45, 46, 47, 48, 49, 50, 51, 52, 53, 54, 55, 56, 57, 58, 59, 60, 61, 62, 63, 64, 65, 66, 67, 68, 69, 70, 71, 72, 73, 74, 75, 76, 77, 78, 79, 80, 81, 82, 83, 84, 85, 86, 87, 88, 89, 90, 91, 92, 93, 94, 95, 96, 97, 98, 99, 100, 101, 102, 103, 104, 105, 106, 107, 108, 109, 110, 111, 112, 113, 114, 115, 116, 117, 118, 119, 120, 121, 122, 123, 124, 125, 126, 127, 128, 129, 130, 131, 132, 133, 134, 135, 136, 137, 138, 139, 140, 141, 142, 143, 144, 145, 146, 147, 148, 149, 150, 151, 152, 153, 154, 155, 156, 157, 158, 159, 160, 161, 162, 163, 164] (by decide +kernel) (by decide +kernel)) (goodIn_sub (fun _ h => List.mem_cons_of_mem _ (List.mem_append_left _ (List.mem_append_left _ (List.mem_append_right _ h)))) (by decide +kernel))) (goodIn_sub (fun _ h => List.mem_cons_of_mem _ (List.mem_append_left _ (List.mem_append_right _ h))) (by decide +kernel))) (goodIn_sub (fun _ h => List.mem_cons_of_mem _ (List.mem_append_right _ h)) (by decide +kernel))
set_option maxRecDepth 20000 in
theorem gL_stone_X9_stone : GoodIn wsL_stone (wsV RL 17 RX9 yX9_stone wsX9_stone) := goodIn_app (goodIn_of _ (by decide +kernel)) ggL_stone_X9_stone
theorem dL_stone_0 : decode cL_stone 0 = .ok (.aload 4, 2) := by decide +kernel
theorem dL_stone_2 : decode cL_stone 2 = .ok (.iconst 0, 1) := by decide +kernel
theorem dL_stone_3 : decode cL_stone 3 = .ok (.aload_n 0, 1) := by decide +kernel
theorem dL_stone_4 : decode cL_stone 4 = .ok (.iload_n 1, 1) := by decide +kernel
theorem dL_stone_5 : decode cL_stone 5 = .ok (.iload_n 2, 1) := by decide +kernel
theorem dL_stone_6 : decode cL_stone 6 = .ok (.iload_n 3, 1) := by decide +kernel
theorem dL_stone_7 : decode cL_stone 7 = .ok (.invokevirtual 17, 3) := by decide +kernel
theorem dL_stone_10 : decode cL_stone 10 = .ok (.i2l, 1) := by decide +kernel
theorem dL_stone_11 : decode cL_stone 11 = .ok (.lastore, 1) := by decide +kernel
theorem dL_stone_12 : decode cL_stone 12 = .ok (.goto 15, 3) := by decide +kernel
theorem dL_stone_15 : decode cL_stone 15 = .ok (.astore 5, 2) := by decide +kernel
theorem dL_stone_17 : decode cL_stone 17 = .ok (.iconst 1, 1) := by decide +kernel
theorem dL_stone_18 : decode cL_stone 18 = .ok (.ireturn, 1) := by decide +kernel
theorem dL_stone_19 : decode cL_stone 19 = .ok (.astore 5, 2) := by decide +kernel
theorem dL_stone_21 : decode cL_stone 21 = .ok (.iconst 2, 1) := by decide +kernel
theorem dL_stone_22 : decode cL_stone 22 = .ok (.ireturn, 1) := by decide +kernel
theorem dL_stone_23 : decode cL_stone 23 = .ok (.astore 5, 2) := by decide +kernel
theorem dL_stone_25 : decode cL_stone 25 = .ok (.iconst 3, 1) := by decide +kernel
theorem dL_stone_26 : decode cL_stone 26 = .ok (.ireturn, 1) := by decide +kernel
theorem dL_stone_27 : decode cL_stone 27 = .ok (.iconst 0, 1) := by decide +kernel
theorem dL_stone_28 : decode cL_stone 28 = .ok (.ireturn, 1) := by decide +kernel
set_option maxRecDepth 20000 in
theorem ggL_draw_X9_draw : GoodIn wsL_draw wsX9_draw := goodIn_ca (goodIn_r _ [6, 7, 8, 9, 10, 5, 11, 12, 13, 14, 15, 16, 17, 18, 19] (by decide +kernel) (by decide +kernel)) (goodIn_sub (fun _ h => List.mem_cons_of_mem _ (List.mem_append_right _ h)) (by decide +kernel))
set_option maxRecDepth 20000 in
theorem gL_draw_X9_draw : GoodIn wsL_draw (wsV RL 22 RX9 yX9_draw wsX9_draw) := goodIn_app (goodIn_of _ (by decide +kernel)) ggL_draw_X9_draw
theorem dL_draw_0 : decode cL_draw 0 = .ok (.aload_n 2, 1) := by decide +kernel
theorem dL_draw_1 : decode cL_draw 1 = .ok (.iconst 0, 1) := by decide +kernel
theorem dL_draw_2 : decode cL_draw 2 = .ok (.aload_n 0, 1) := by decide +kernel
theorem dL_draw_3 : decode cL_draw 3 = .ok (.iload_n 1, 1) := by decide +kernel
theorem dL_draw_4 : decode cL_draw 4 = .ok (.invokevirtual 22, 3) := by decide +kernel
theorem dL_draw_7 : decode cL_draw 7 = .ok (.i2l, 1) := by decide +kernel
theorem dL_draw_8 : decode cL_draw 8 = .ok (.lastore, 1) := by decide +kernel
theorem dL_draw_9 : decode cL_draw 9 = .ok (.goto 6, 3) := by decide +kernel
theorem dL_draw_12 : decode cL_draw 12 = .ok (.astore_n 3, 1) := by decide +kernel
theorem dL_draw_13 : decode cL_draw 13 = .ok (.iconst 1, 1) := by decide +kernel
theorem dL_draw_14 : decode cL_draw 14 = .ok (.ireturn, 1) := by decide +kernel
theorem dL_draw_15 : decode cL_draw 15 = .ok (.iconst 0, 1) := by decide +kernel
theorem dL_draw_16 : decode cL_draw 16 = .ok (.ireturn, 1) := by decide +kernel
set_option maxRecDepth 20000 in
theorem ggL_rain_X9_rain : GoodIn wsL_rain wsX9_rain := goodIn_ca (goodIn_ca (goodIn_r _ [7, 8, 9, 10, 6, 11, 12, 13, 14, 15, 16, 17, 18, 19, 20, 21, 22, 23, 24, 25, 26, 27, 28, 29, 30, 31, 32, 33, 34, 35, 36, 37, 38, 39, 40, 41, 42, 43, 44, 45, 46, 47, 48, 49, 50, 51, 52, 53, 54, 55, 56, 57, 58, 59, 60, 61, 62, 63, 64, 65, 66, 67, 68, 69, 70, 71, 72, 73, 74, 75, 76, 77, 78, 79, 80, 81, 82, 83, 84, 85, 86, 87, 88, 89, 90, 91, 92, 93, 94, 95, 96, 97, 98, 99, 100, 101, 102, 103, 104, 105, 106, 107, 108, 109, 110, 111, 112, 113, 114, 115, 116, 117, 118, 119, 120, 121, 122, 123, 124, 125, 126, 127, 128, 129, 130, 131, 132, 133, 134, 135, 136, 137, 138, 139, 140, 141, 142, 143, 144, 145, 146, 147, 148, 149, 150, 151, 152, 153, 154, 155, 156, 157, 158, 159, 160, 161, 162, 163, 164, 165, 166, 167, 168, 169, 170, 171, 172] (by decide +kernel) (by decide +kernel)) (goodIn_sub (fun _ h => List.mem_cons_of_mem _ (List.mem_append_left _ (List.mem_append_right _ h))) (by decide +kernel))) (goodIn_sub (fun _ h => List.mem_cons_of_mem _ (List.mem_append_right _ h)) (by decide +kernel))
set_option maxRecDepth 20000 in
theorem gL_rain_X9_rain : GoodIn wsL_rain (wsV RL 26 RX9 yX9_rain wsX9_rain) := goodIn_app (goodIn_of _ (by decide +kernel)) ggL_rain_X9_rain
theorem dL_rain_0 : decode cL_rain 0 = .ok (.aload_n 2, 1) := by decide +kernel
theorem dL_rain_1 : decode cL_rain 1 = .ok (.iconst 0, 1) := by decide +kernel
theorem dL_rain_2 : decode cL_rain 2 = .ok (.aload_n 0, 1) := by decide +kernel
theorem dL_rain_3 : decode cL_rain 3 = .ok (.iload_n 1, 1) := by decide +kernel
theorem dL_rain_4 : decode cL_rain 4 = .ok (.invokevirtual 26, 3) := by decide +kernel
theorem dL_rain_7 : decode cL_rain 7 = .ok (.i2l, 1) := by decide +kernel
theorem dL_rain_8 : decode cL_rain 8 = .ok (.lastore, 1) := by decide +kernel
theorem dL_rain_9 : decode cL_rain 9 = .ok (.goto 9, 3) := by decide +kernel
theorem dL_rain_12 : decode cL_rain 12 = .ok (.astore_n 3, 1) := by decide +kernel
theorem dL_rain_13 : decode cL_rain 13 = .ok (.iconst 1, 1) := by decide +kernel
theorem dL_rain_14 : decode cL_rain 14 = .ok (.ireturn, 1) := by decide +kernel
theorem dL_rain_15 : decode cL_rain 15 = .ok (.astore_n 3, 1) := by decide +kernel
theorem dL_rain_16 : decode cL_rain 16 = .ok (.iconst 2, 1) := by decide +kernel
theorem dL_rain_17 : decode cL_rain 17 = .ok (.ireturn, 1) := by decide +kernel
theorem dL_rain_18 : decode cL_rain 18 = .ok (.iconst 0, 1) := by decide +kernel
theorem dL_rain_19 : decode cL_rain 19 = .ok (.ireturn, 1) := by decide +kernel
set_option maxRecDepth 20000 in
theorem ggL_flood_X9_flood : GoodIn wsL_flood wsX9_flood := goodIn_ca (goodIn_ca (goodIn_ca (goodIn_r _ [8, 9, 10, 11, 12, 13, 14, 15, 16, 17, 18, 7, 19, 20, 21, 22, 23, 24, 25, 26, 27, 28, 29, 30, 31, 32, 33, 34, 35, 36, 37, 38, 39, 40, 41, 42, 43, 44, 45, 46, 47, 48, 49, 50, 51, 52, 53, 54, 55, 56, 57, 58, 59, 60, 61, 62, 63, 64, 65, 66, 67, 68, 69, 70, 71, 72, 73, 74, 75, 76, 77, 78, 79, 80, 81, 82, 83, 84, 85, 86, 87, 88, 89, 90, 91, 92, 93, 94, 95, 96, 97, 98, 99, 100, 101, 102, 103, 104, 105, 106, 107, 108, 109, 110, 111, 112, 113, 114, 115, 116, 117, 118, 119, 120, 121, 122, 123, 124, 125, 126, 127, 128, 129, 130, 131, 132, 133, 134, 135, 136, 137, 138, 139, 140, 141, 142, 143, 144, 145, 146, 147, 148, 149, 150, 151, 152, 153, 154, 155, 156, 157, 158, 159, 160, 161, 162, 163, 164, 165, 166, 167, 168, 169, 170, 171, 172, 173, 174, 175, 176, 177, 178, 179, 180, 181, 182, 183, 184, 185, 186, 187, 188, 189, 190, 191, 192, 193, 194, 195, 196] (by decide +kernel) (by decide +kernel)) (goodIn_sub (fun _ h => List.mem_cons_of_mem _ (List.mem_append_left _ (List.mem_append_left _ (List.mem_append_right _ h)))) (by decide +kernel))) (goodIn_sub (fun _ h => List.mem_cons_of_mem _ (List.mem_append_left _ (List.mem_append_right _ h))) (by decide +kernel))) (goodIn_sub (fun _ h => List.mem_cons_of_mem _ (List.mem_append_right _ h)) (by decide +kernel))
set_option maxRecDepth 20000 in
theorem gL_flood_X9_flood : GoodIn wsL_flood (wsV RL 29 RX9 yX9_flood wsX9_flood) := goodIn_app (goodIn_of _ (by decide +kernel)) ggL_flood_X9_flood
theorem dL_flood_0 : decode cL_flood 0 = .ok (.aload 6, 2) := by decide +kernel
theorem dL_flood_2 : decode cL_flood 2 = .ok (.iconst 0, 1) := by decide +kernel
theorem dL_flood_3 : decode cL_flood 3 = .ok (.aload_n 0, 1) := by decide +kernel
theorem dL_flood_4 : decode cL_flood 4 = .ok (.iload_n 1, 1) := by decide +kernel
theorem dL_flood_5 : decode cL_flood 5 = .ok (.iload_n 2, 1) := by decide +kernel
theorem dL_flood_6 : decode cL_flood 6 = .ok (.iload_n 3, 1) := by decide +kernel
theorem dL_flood_7 : decode cL_flood 7 = .ok (.iload 4, 2) := by decide +kernel
theorem dL_flood_9 : decode cL_flood 9 = .ok (.iload 5, 2) := by decide +kernel
theorem dL_flood_11 : decode cL_flood 11 = .ok (.invokevirtual 29, 3) := by decide +kernel
theorem dL_flood_14 : decode cL_flood 14 = .ok (.i2l, 1) := by decide +kernel
theorem dL_flood_15 : decode cL_flood 15 = .ok (.lastore, 1) := by decide +kernel
theorem dL_flood_16 : decode cL_flood 16 = .ok (.goto 15, 3) := by decide +kernel
theorem dL_flood_19 : decode cL_flood 19 = .ok (.astore 7, 2) := by decide +kernel
theorem dL_flood_21 : decode cL_flood 21 = .ok (.iconst 1, 1) := by decide +kernel
theorem dL_flood_22 : decode cL_flood 22 = .ok (.ireturn, 1) := by decide +kernel
theorem dL_flood_23 : decode cL_flood 23 = .ok (.astore 7, 2) := by decide +kernel
theorem dL_flood_25 : decode cL_flood 25 = .ok (.iconst 2, 1) := by decide +kernel
theorem dL_flood_26 : decode cL_flood 26 = .ok (.ireturn, 1) := by decide +kernel
theorem dL_flood_27 : decode cL_flood 27 = .ok (.astore 7, 2) := by decide +kernel
theorem dL_flood_29 : decode cL_flood 29 = .ok (.iconst 3, 1) := by decide +kernel
theorem dL_flood_30 : decode cL_flood 30 = .ok (.ireturn, 1) := by decide +kernel
theorem dL_flood_31 : decode cL_flood 31 = .ok (.iconst 0, 1) := by decide +kernel
theorem dL_flood_32 : decode cL_flood 32 = .ok (.ireturn, 1) := by decide +kernel
set_option maxRecDepth 20000 in
theorem ggL_soften_X9_soften : GoodIn wsL_soften wsX9_soften := goodIn_ca (goodIn_ca (goodIn_r _ [7, 8, 9, 10, 11, 12, 13, 14, 15, 6, 16, 17, 18, 19, 20, 21, 22, 23, 24, 25, 26, 27, 28, 29, 30, 31, 32, 33, 34, 35, 36, 37, 38, 39, 40, 41, 42, 43, 44, 45, 46, 47, 48, 49, 50, 51, 52, 53, 54, 55, 56, 57, 58, 59, 60, 61, 62, 63, 64, 65, 66, 67, 68, 69, 70, 71, 72, 73, 74, 75, 76, 77, 78, 79, 80, 81, 82, 83, 84, 85, 86, 87, 88, 89, 90, 91, 92, 93, 94, 95, 96, 97, 98, 99, 100, 101, 102, 103, 104, 105, 106, 107, 108, 109, 110, 111, 112, 113, 114, 115, 116, 117, 118, 119, 120, 121, 122, 123, 124, 125, 126, 127, 128, 129, 130, 131, 132, 133, 134, 135, 136, 137, 138, 139, 140, 141, 142, 143, 144, 145, 146, 147, 148, 149, 150, 151, 152, 153, 154, 155, 156, 157, 158, 159, 160, 161, 162, 163, 164, 165, 166, 167, 168, 169, 170, 171, 172, 173, 174, 175, 176, 177, 178, 179, 180, 181, 182, 183, 184, 185, 186, 187, 188, 189, 190, 191, 192, 193, 194, 195, 196, 197, 198] (by decide +kernel) (by decide +kernel)) (goodIn_sub (fun _ h => List.mem_cons_of_mem _ (List.mem_append_left _ (List.mem_append_right _ h))) (by decide +kernel))) (goodIn_sub (fun _ h => List.mem_cons_of_mem _ (List.mem_append_right _ h)) (by decide +kernel))
set_option maxRecDepth 20000 in
theorem gL_soften_X9_soften : GoodIn wsL_soften (wsV RL 33 RX9 yX9_soften wsX9_soften) := goodIn_app (goodIn_of _ (by decide +kernel)) ggL_soften_X9_soften
theorem dL_soften_0 : decode cL_soften 0 = .ok (.aload_n 2, 1) := by decide +kernel
theorem dL_soften_1 : decode cL_soften 1 = .ok (.iconst 0, 1) := by decide +kernel
theorem dL_soften_2 : decode cL_soften 2 = .ok (.aload_n 0, 1) := by decide +kernel
theorem dL_soften_3 : decode cL_soften 3 = .ok (.iload_n 1, 1) := by decide +kernel
theorem dL_soften_4 : decode cL_soften 4 = .ok (.invokevirtual 33, 3) := by decide +kernel
theorem dL_soften_7 : decode cL_soften 7 = .ok (.i2l, 1) := by decide +kernel
theorem dL_soften_8 : decode cL_soften 8 = .ok (.lastore, 1) := by decide +kernel
theorem dL_soften_9 : decode cL_soften 9 = .ok (.goto 9, 3) := by decide +kernel
theorem dL_soften_12 : decode cL_soften 12 = .ok (.astore_n 3, 1) := by decide +kernel
theorem dL_soften_13 : decode cL_soften 13 = .ok (.iconst 1, 1) := by decide +kernel
theorem dL_soften_14 : decode cL_soften 14 = .ok (.ireturn, 1) := by decide +kernel
theorem dL_soften_15 : decode cL_soften 15 = .ok (.astore_n 3, 1) := by decide +kernel
theorem dL_soften_16 : decode cL_soften 16 = .ok (.iconst 2, 1) := by decide +kernel
theorem dL_soften_17 : decode cL_soften 17 = .ok (.ireturn, 1) := by decide +kernel
theorem dL_soften_18 : decode cL_soften 18 = .ok (.iconst 0, 1) := by decide +kernel
theorem dL_soften_19 : decode cL_soften 19 = .ok (.ireturn, 1) := by decide +kernel
set_option maxRecDepth 20000 in
theorem ggL_eye_X9_eye : GoodIn wsL_eye wsX9_eye := goodIn_ca (goodIn_ca (goodIn_r _ [7, 8, 9, 10, 11, 12, 13, 14, 15, 16, 6, 17, 18, 19, 20, 21, 22, 23, 24, 25, 26, 27, 28, 29, 30, 31, 32, 33, 34, 35, 36, 37, 38, 39, 40, 41, 42, 43, 44, 45, 46, 47, 48, 49, 50, 51, 52, 53, 54, 55, 56, 57, 58, 59, 60, 61, 62, 63, 64, 65, 66, 67, 68, 69, 70, 71, 72, 73, 74, 75, 76, 77, 78, 79, 80, 81, 82, 83, 84, 85, 86, 87, 88, 89, 90, 91, 92, 93, 94, 95, 96] (by decide +kernel) (by decide +kernel)) (goodIn_sub (fun _ h => List.mem_cons_of_mem _ (List.mem_append_left _ (List.mem_append_right _ h))) (by decide +kernel))) (goodIn_sub (fun _ h => List.mem_cons_of_mem _ (List.mem_append_right _ h)) (by decide +kernel))
set_option maxRecDepth 20000 in
theorem gL_eye_X9_eye : GoodIn wsL_eye (wsV RL 36 RX9 yX9_eye wsX9_eye) := goodIn_app (goodIn_of _ (by decide +kernel)) ggL_eye_X9_eye
theorem dL_eye_0 : decode cL_eye 0 = .ok (.aload_n 2, 1) := by decide +kernel
theorem dL_eye_1 : decode cL_eye 1 = .ok (.iconst 0, 1) := by decide +kernel
theorem dL_eye_2 : decode cL_eye 2 = .ok (.aload_n 0, 1) := by decide +kernel
theorem dL_eye_3 : decode cL_eye 3 = .ok (.iload_n 1, 1) := by decide +kernel
theorem dL_eye_4 : decode cL_eye 4 = .ok (.invokevirtual 36, 3) := by decide +kernel
theorem dL_eye_7 : decode cL_eye 7 = .ok (.i2l, 1) := by decide +kernel
theorem dL_eye_8 : decode cL_eye 8 = .ok (.lastore, 1) := by decide +kernel
theorem dL_eye_9 : decode cL_eye 9 = .ok (.goto 9, 3) := by decide +kernel
theorem dL_eye_12 : decode cL_eye 12 = .ok (.astore_n 3, 1) := by decide +kernel
theorem dL_eye_13 : decode cL_eye 13 = .ok (.iconst 1, 1) := by decide +kernel
theorem dL_eye_14 : decode cL_eye 14 = .ok (.ireturn, 1) := by decide +kernel
theorem dL_eye_15 : decode cL_eye 15 = .ok (.astore_n 3, 1) := by decide +kernel
theorem dL_eye_16 : decode cL_eye 16 = .ok (.iconst 2, 1) := by decide +kernel
theorem dL_eye_17 : decode cL_eye 17 = .ok (.ireturn, 1) := by decide +kernel
theorem dL_eye_18 : decode cL_eye 18 = .ok (.iconst 0, 1) := by decide +kernel
theorem dL_eye_19 : decode cL_eye 19 = .ok (.ireturn, 1) := by decide +kernel
set_option maxRecDepth 20000 in
theorem ggL_anchor_X9_anchor : GoodIn wsL_anchor wsX9_anchor := goodIn_ca (goodIn_ca (goodIn_r _ [7, 8, 9, 10, 11, 12, 13, 14, 6, 15, 16, 17, 18, 19, 20, 21, 22, 23, 24, 25, 26, 27, 28, 29, 30, 31, 32, 33, 34, 35, 36, 37, 38, 39, 40, 41, 42, 43, 44, 45, 46, 47, 48, 49, 50, 51, 52, 53, 54, 55, 56, 57, 58, 59, 60, 61, 62, 63, 64, 65, 66, 67, 68, 69, 70, 71, 72, 73, 74, 75, 76, 77, 78, 79, 80, 81, 82, 83, 84, 85, 86, 87, 88, 89, 90, 91, 92, 93, 94, 95, 96, 97, 98, 99, 100, 101, 102, 103, 104, 105, 106, 107, 108, 109, 110, 111, 112, 113, 114, 115, 116, 117, 118, 119, 120, 121, 122, 123, 124, 125, 126, 127, 128, 129] (by decide +kernel) (by decide +kernel)) (goodIn_sub (fun _ h => List.mem_cons_of_mem _ (List.mem_append_left _ (List.mem_append_right _ h))) (by decide +kernel))) (goodIn_sub (fun _ h => List.mem_cons_of_mem _ (List.mem_append_right _ h)) (by decide +kernel))
set_option maxRecDepth 20000 in
theorem gL_anchor_X9_anchor : GoodIn wsL_anchor (wsV RL 39 RX9 yX9_anchor wsX9_anchor) := goodIn_app (goodIn_of _ (by decide +kernel)) ggL_anchor_X9_anchor
theorem dL_anchor_0 : decode cL_anchor 0 = .ok (.aload 5, 2) := by decide +kernel
theorem dL_anchor_2 : decode cL_anchor 2 = .ok (.iconst 0, 1) := by decide +kernel
theorem dL_anchor_3 : decode cL_anchor 3 = .ok (.aload_n 0, 1) := by decide +kernel
theorem dL_anchor_4 : decode cL_anchor 4 = .ok (.lload_n 1, 1) := by decide +kernel
theorem dL_anchor_5 : decode cL_anchor 5 = .ok (.lload_n 3, 1) := by decide +kernel
theorem dL_anchor_6 : decode cL_anchor 6 = .ok (.invokevirtual 39, 3) := by decide +kernel
theorem dL_anchor_9 : decode cL_anchor 9 = .ok (.i2l, 1) := by decide +kernel
theorem dL_anchor_10 : decode cL_anchor 10 = .ok (.lastore, 1) := by decide +kernel
theorem dL_anchor_11 : decode cL_anchor 11 = .ok (.goto 11, 3) := by decide +kernel
theorem dL_anchor_14 : decode cL_anchor 14 = .ok (.astore 6, 2) := by decide +kernel
theorem dL_anchor_16 : decode cL_anchor 16 = .ok (.iconst 1, 1) := by decide +kernel
theorem dL_anchor_17 : decode cL_anchor 17 = .ok (.ireturn, 1) := by decide +kernel
theorem dL_anchor_18 : decode cL_anchor 18 = .ok (.astore 6, 2) := by decide +kernel
theorem dL_anchor_20 : decode cL_anchor 20 = .ok (.iconst 2, 1) := by decide +kernel
theorem dL_anchor_21 : decode cL_anchor 21 = .ok (.ireturn, 1) := by decide +kernel
theorem dL_anchor_22 : decode cL_anchor 22 = .ok (.iconst 0, 1) := by decide +kernel
theorem dL_anchor_23 : decode cL_anchor 23 = .ok (.ireturn, 1) := by decide +kernel
set_option maxRecDepth 20000 in
theorem ggL_count_X9_count : GoodIn wsL_count wsX9_count := goodIn_ca (goodIn_ca (goodIn_r _ [7, 8, 9, 10, 11, 12, 13, 14, 6, 15, 16, 17, 18, 19, 20, 21, 22, 23, 24, 25, 26, 27, 28, 29, 30, 31, 32, 33, 34, 35, 36, 37, 38, 39, 40, 41, 42, 43, 44, 45, 46, 47, 48, 49, 50, 51, 52, 53, 54, 55, 56, 57, 58, 59, 60, 61, 62, 63, 64, 65, 66, 67, 68, 69, 70, 71, 72, 73, 74, 75, 76, 77, 78, 79, 80, 81, 82, 83, 84, 85, 86, 87, 88, 89, 90, 91, 92, 93, 94, 95, 96, 97, 98, 99, 100, 101, 102, 103] (by decide +kernel) (by decide +kernel)) (goodIn_sub (fun _ h => List.mem_cons_of_mem _ (List.mem_append_left _ (List.mem_append_right _ h))) (by decide +kernel))) (goodIn_sub (fun _ h => List.mem_cons_of_mem _ (List.mem_append_right _ h)) (by decide +kernel))
set_option maxRecDepth 20000 in
theorem gL_count_X9_count : GoodIn wsL_count (wsV RL 43 RX9 yX9_count wsX9_count) := goodIn_app (goodIn_of _ (by decide +kernel)) ggL_count_X9_count
theorem dL_count_0 : decode cL_count 0 = .ok (.aload 7, 2) := by decide +kernel
theorem dL_count_2 : decode cL_count 2 = .ok (.iconst 0, 1) := by decide +kernel
theorem dL_count_3 : decode cL_count 3 = .ok (.aload_n 0, 1) := by decide +kernel
theorem dL_count_4 : decode cL_count 4 = .ok (.iload_n 1, 1) := by decide +kernel
theorem dL_count_5 : decode cL_count 5 = .ok (.iload_n 2, 1) := by decide +kernel
theorem dL_count_6 : decode cL_count 6 = .ok (.iload_n 3, 1) := by decide +kernel
theorem dL_count_7 : decode cL_count 7 = .ok (.iload 4, 2) := by decide +kernel
theorem dL_count_9 : decode cL_count 9 = .ok (.iload 5, 2) := by decide +kernel
theorem dL_count_11 : decode cL_count 11 = .ok (.iload 6, 2) := by decide +kernel
theorem dL_count_13 : decode cL_count 13 = .ok (.invokevirtual 43, 3) := by decide +kernel
theorem dL_count_16 : decode cL_count 16 = .ok (.i2l, 1) := by decide +kernel
theorem dL_count_17 : decode cL_count 17 = .ok (.lastore, 1) := by decide +kernel
theorem dL_count_18 : decode cL_count 18 = .ok (.goto 11, 3) := by decide +kernel
theorem dL_count_21 : decode cL_count 21 = .ok (.astore 8, 2) := by decide +kernel
theorem dL_count_23 : decode cL_count 23 = .ok (.iconst 1, 1) := by decide +kernel
theorem dL_count_24 : decode cL_count 24 = .ok (.ireturn, 1) := by decide +kernel
theorem dL_count_25 : decode cL_count 25 = .ok (.astore 8, 2) := by decide +kernel
theorem dL_count_27 : decode cL_count 27 = .ok (.iconst 2, 1) := by decide +kernel
theorem dL_count_28 : decode cL_count 28 = .ok (.ireturn, 1) := by decide +kernel
theorem dL_count_29 : decode cL_count 29 = .ok (.iconst 0, 1) := by decide +kernel
theorem dL_count_30 : decode cL_count 30 = .ok (.ireturn, 1) := by decide +kernel
set_option maxRecDepth 20000 in
theorem ggL_age_X9_age : GoodIn wsL_age wsX9_age := goodIn_ca (goodIn_ca (goodIn_ca (goodIn_r _ [8, 9, 10, 11, 12, 13, 14, 15, 16, 17, 7, 18, 19, 20, 21, 22, 23, 24, 25, 26, 27, 28, 29, 30, 31, 32, 33, 34, 35, 36, 37, 38, 39, 40, 41, 42, 43, 44, 45, 46, 47, 48, 49, 50, 51, 52, 53, 54, 55, 56, 57, 58, 59, 60, 61, 62, 63, 64, 65, 66, 67, 68, 69, 70, 71, 72, 73, 74, 75, 76, 77, 78, 79, 80, 81, 82, 83, 84, 85, 86, 87, 88, 89, 90, 91, 92, 93, 94, 95, 96, 97, 98, 99, 100, 101, 102, 103, 104, 105, 106, 107, 108, 109, 110, 111, 112, 113, 114, 115, 116, 117, 118, 119, 120, 121, 122, 123, 124, 125, 126, 127, 128, 129, 130, 131, 132, 133, 134] (by decide +kernel) (by decide +kernel)) (goodIn_sub (fun _ h => List.mem_cons_of_mem _ (List.mem_append_left _ (List.mem_append_left _ (List.mem_append_right _ h)))) (by decide +kernel))) (goodIn_sub (fun _ h => List.mem_cons_of_mem _ (List.mem_append_left _ (List.mem_append_right _ h))) (by decide +kernel))) (goodIn_sub (fun _ h => List.mem_cons_of_mem _ (List.mem_append_right _ h)) (by decide +kernel))
set_option maxRecDepth 20000 in
theorem gL_age_X9_age : GoodIn wsL_age (wsV RL 47 RX9 yX9_age wsX9_age) := goodIn_app (goodIn_of _ (by decide +kernel)) ggL_age_X9_age
theorem dL_age_0 : decode cL_age 0 = .ok (.aload 6, 2) := by decide +kernel
theorem dL_age_2 : decode cL_age 2 = .ok (.iconst 0, 1) := by decide +kernel
theorem dL_age_3 : decode cL_age 3 = .ok (.aload_n 0, 1) := by decide +kernel
theorem dL_age_4 : decode cL_age 4 = .ok (.iload_n 1, 1) := by decide +kernel
theorem dL_age_5 : decode cL_age 5 = .ok (.iload_n 2, 1) := by decide +kernel
theorem dL_age_6 : decode cL_age 6 = .ok (.iload_n 3, 1) := by decide +kernel
theorem dL_age_7 : decode cL_age 7 = .ok (.iload 4, 2) := by decide +kernel
theorem dL_age_9 : decode cL_age 9 = .ok (.iload 5, 2) := by decide +kernel
theorem dL_age_11 : decode cL_age 11 = .ok (.invokevirtual 47, 3) := by decide +kernel
theorem dL_age_14 : decode cL_age 14 = .ok (.lastore, 1) := by decide +kernel
theorem dL_age_15 : decode cL_age 15 = .ok (.goto 15, 3) := by decide +kernel
theorem dL_age_18 : decode cL_age 18 = .ok (.astore 7, 2) := by decide +kernel
theorem dL_age_20 : decode cL_age 20 = .ok (.iconst 1, 1) := by decide +kernel
theorem dL_age_21 : decode cL_age 21 = .ok (.ireturn, 1) := by decide +kernel
theorem dL_age_22 : decode cL_age 22 = .ok (.astore 7, 2) := by decide +kernel
theorem dL_age_24 : decode cL_age 24 = .ok (.iconst 2, 1) := by decide +kernel
theorem dL_age_25 : decode cL_age 25 = .ok (.ireturn, 1) := by decide +kernel
theorem dL_age_26 : decode cL_age 26 = .ok (.astore 7, 2) := by decide +kernel
theorem dL_age_28 : decode cL_age 28 = .ok (.iconst 3, 1) := by decide +kernel
theorem dL_age_29 : decode cL_age 29 = .ok (.ireturn, 1) := by decide +kernel
theorem dL_age_30 : decode cL_age 30 = .ok (.iconst 0, 1) := by decide +kernel
theorem dL_age_31 : decode cL_age 31 = .ok (.ireturn, 1) := by decide +kernel
set_option maxRecDepth 20000 in
theorem ggL_whyNot_X9_whyNot : GoodIn wsL_whyNot wsX9_whyNot := goodIn_ca (goodIn_ca (goodIn_r _ [7, 8, 9, 10, 11, 12, 13, 14, 6, 15, 16, 17, 18, 19, 20, 21, 22, 23, 24, 25, 26, 27, 28, 29, 30, 31, 32, 33, 34, 35, 36, 37, 38, 39, 40, 41, 42, 43, 44, 45, 46, 47, 48, 49, 50, 51, 52, 53, 54, 55, 56, 57, 58, 59, 60, 61, 62, 63, 64, 65, 66, 67, 68, 69, 70, 71, 72, 73, 74, 75, 76, 77, 78, 79, 80, 81, 82, 83, 84, 85, 86, 87, 88, 89, 90, 91, 92, 93, 94, 95, 96, 97, 98, 99, 100, 101, 102, 103, 104, 105, 106, 107, 108, 109, 110, 111, 112, 113, 114, 115, 116, 117, 118, 119, 120, 121, 122, 123, 124, 125] (by decide +kernel) (by decide +kernel)) (goodIn_sub (fun _ h => List.mem_cons_of_mem _ (List.mem_append_left _ (List.mem_append_right _ h))) (by decide +kernel))) (goodIn_sub (fun _ h => List.mem_cons_of_mem _ (List.mem_append_right _ h)) (by decide +kernel))
set_option maxRecDepth 20000 in
theorem gL_whyNot_X9_whyNot : GoodIn wsL_whyNot (wsV RL 51 RX9 yX9_whyNot wsX9_whyNot) := goodIn_app (goodIn_of _ (by decide +kernel)) ggL_whyNot_X9_whyNot
theorem dL_whyNot_0 : decode cL_whyNot 0 = .ok (.aload 6, 2) := by decide +kernel
theorem dL_whyNot_2 : decode cL_whyNot 2 = .ok (.iconst 0, 1) := by decide +kernel
theorem dL_whyNot_3 : decode cL_whyNot 3 = .ok (.aload_n 0, 1) := by decide +kernel
theorem dL_whyNot_4 : decode cL_whyNot 4 = .ok (.iload_n 1, 1) := by decide +kernel
theorem dL_whyNot_5 : decode cL_whyNot 5 = .ok (.iload_n 2, 1) := by decide +kernel
theorem dL_whyNot_6 : decode cL_whyNot 6 = .ok (.iload_n 3, 1) := by decide +kernel
theorem dL_whyNot_7 : decode cL_whyNot 7 = .ok (.iload 4, 2) := by decide +kernel
theorem dL_whyNot_9 : decode cL_whyNot 9 = .ok (.iload 5, 2) := by decide +kernel
theorem dL_whyNot_11 : decode cL_whyNot 11 = .ok (.invokevirtual 51, 3) := by decide +kernel
theorem dL_whyNot_14 : decode cL_whyNot 14 = .ok (.i2l, 1) := by decide +kernel
theorem dL_whyNot_15 : decode cL_whyNot 15 = .ok (.lastore, 1) := by decide +kernel
theorem dL_whyNot_16 : decode cL_whyNot 16 = .ok (.goto 11, 3) := by decide +kernel
theorem dL_whyNot_19 : decode cL_whyNot 19 = .ok (.astore 7, 2) := by decide +kernel
theorem dL_whyNot_21 : decode cL_whyNot 21 = .ok (.iconst 1, 1) := by decide +kernel
theorem dL_whyNot_22 : decode cL_whyNot 22 = .ok (.ireturn, 1) := by decide +kernel
theorem dL_whyNot_23 : decode cL_whyNot 23 = .ok (.astore 7, 2) := by decide +kernel
theorem dL_whyNot_25 : decode cL_whyNot 25 = .ok (.iconst 2, 1) := by decide +kernel
theorem dL_whyNot_26 : decode cL_whyNot 26 = .ok (.ireturn, 1) := by decide +kernel
theorem dL_whyNot_27 : decode cL_whyNot 27 = .ok (.iconst 0, 1) := by decide +kernel
theorem dL_whyNot_28 : decode cL_whyNot 28 = .ok (.ireturn, 1) := by decide +kernel
set_option maxRecDepth 20000 in
theorem ggL_about_X9_about : GoodIn wsL_about wsX9_about := goodIn_ca (goodIn_ca (goodIn_r _ [7, 8, 9, 10, 11, 12, 13, 14, 15, 16, 17, 6, 18, 19, 20, 21, 22, 23, 24, 25, 26, 27, 28, 29, 30, 31, 32, 33, 34, 35, 36, 37, 38, 39, 40, 41, 42, 43, 44, 45, 46, 47, 48, 49, 50, 51, 52, 53, 54, 55, 56, 57, 58, 59, 60, 61, 62, 63] (by decide +kernel) (by decide +kernel)) (goodIn_sub (fun _ h => List.mem_cons_of_mem _ (List.mem_append_left _ (List.mem_append_right _ h))) (by decide +kernel))) (goodIn_sub (fun _ h => List.mem_cons_of_mem _ (List.mem_append_right _ h)) (by decide +kernel))
set_option maxRecDepth 20000 in
theorem gL_about_X9_about : GoodIn wsL_about (wsV RL 54 RX9 yX9_about wsX9_about) := goodIn_app (goodIn_of _ (by decide +kernel)) ggL_about_X9_about
theorem dL_about_0 : decode cL_about 0 = .ok (.aload_n 3, 1) := by decide +kernel
theorem dL_about_1 : decode cL_about 1 = .ok (.iconst 0, 1) := by decide +kernel
theorem dL_about_2 : decode cL_about 2 = .ok (.aload_n 0, 1) := by decide +kernel
theorem dL_about_3 : decode cL_about 3 = .ok (.iload_n 1, 1) := by decide +kernel
theorem dL_about_4 : decode cL_about 4 = .ok (.iload_n 2, 1) := by decide +kernel
theorem dL_about_5 : decode cL_about 5 = .ok (.invokevirtual 54, 3) := by decide +kernel
theorem dL_about_8 : decode cL_about 8 = .ok (.i2l, 1) := by decide +kernel
theorem dL_about_9 : decode cL_about 9 = .ok (.lastore, 1) := by decide +kernel
theorem dL_about_10 : decode cL_about 10 = .ok (.goto 11, 3) := by decide +kernel
theorem dL_about_13 : decode cL_about 13 = .ok (.astore 4, 2) := by decide +kernel
theorem dL_about_15 : decode cL_about 15 = .ok (.iconst 1, 1) := by decide +kernel
theorem dL_about_16 : decode cL_about 16 = .ok (.ireturn, 1) := by decide +kernel
theorem dL_about_17 : decode cL_about 17 = .ok (.astore 4, 2) := by decide +kernel
theorem dL_about_19 : decode cL_about 19 = .ok (.iconst 2, 1) := by decide +kernel
theorem dL_about_20 : decode cL_about 20 = .ok (.ireturn, 1) := by decide +kernel
theorem dL_about_21 : decode cL_about 21 = .ok (.iconst 0, 1) := by decide +kernel
theorem dL_about_22 : decode cL_about 22 = .ok (.ireturn, 1) := by decide +kernel
set_option maxRecDepth 20000 in
theorem ggL_depthAnew_X9_depthAnew : GoodIn wsL_depthAnew wsX9_depthAnew := goodIn_ca (goodIn_r _ [6, 7, 8, 9, 5, 10, 11, 12, 13, 14, 15, 16, 17, 18, 19, 20, 21, 22, 23, 24, 25, 26, 27, 28, 29, 30, 31, 32, 33, 34, 35, 36, 37, 38, 39, 40, 41, 42, 43, 44, 45, 46, 47, 48, 49, 50, 51, 52, 53, 54, 55, 56, 57, 58, 59, 60, 61, 62, 63, 64, 65, 66, 67, 68, 69, 70, 71, 72, 73, 74, 75, 76, 77, 78, 79, 80, 81, 82, 83, 84, 85, 86, 87, 88, 89, 90, 91, 92, 93, 94, 95, 96, 97, 98, 99, 100, 101, 102, 103, 104, 105, 106, 107, 108, 109, 110, 111, 112, 113, 114, 115, 116, 117, 118, 119, 120, 121, 122] (by decide +kernel) (by decide +kernel)) (goodIn_sub (fun _ h => List.mem_cons_of_mem _ (List.mem_append_right _ h)) (by decide +kernel))
set_option maxRecDepth 20000 in
theorem gL_depthAnew_X9_depthAnew : GoodIn wsL_depthAnew (wsV RL 58 RX9 yX9_depthAnew wsX9_depthAnew) := goodIn_app (goodIn_of _ (by decide +kernel)) ggL_depthAnew_X9_depthAnew
theorem dL_depthAnew_0 : decode cL_depthAnew 0 = .ok (.aload_n 2, 1) := by decide +kernel
theorem dL_depthAnew_1 : decode cL_depthAnew 1 = .ok (.iconst 0, 1) := by decide +kernel
theorem dL_depthAnew_2 : decode cL_depthAnew 2 = .ok (.aload_n 0, 1) := by decide +kernel
theorem dL_depthAnew_3 : decode cL_depthAnew 3 = .ok (.iload_n 1, 1) := by decide +kernel
theorem dL_depthAnew_4 : decode cL_depthAnew 4 = .ok (.invokevirtual 58, 3) := by decide +kernel
theorem dL_depthAnew_7 : decode cL_depthAnew 7 = .ok (.i2l, 1) := by decide +kernel
theorem dL_depthAnew_8 : decode cL_depthAnew 8 = .ok (.lastore, 1) := by decide +kernel
theorem dL_depthAnew_9 : decode cL_depthAnew 9 = .ok (.goto 6, 3) := by decide +kernel
theorem dL_depthAnew_12 : decode cL_depthAnew 12 = .ok (.astore_n 3, 1) := by decide +kernel
theorem dL_depthAnew_13 : decode cL_depthAnew 13 = .ok (.iconst 1, 1) := by decide +kernel
theorem dL_depthAnew_14 : decode cL_depthAnew 14 = .ok (.ireturn, 1) := by decide +kernel
theorem dL_depthAnew_15 : decode cL_depthAnew 15 = .ok (.iconst 0, 1) := by decide +kernel
theorem dL_depthAnew_16 : decode cL_depthAnew 16 = .ok (.ireturn, 1) := by decide +kernel
set_option maxRecDepth 20000 in
theorem ggL_top_X9_top : GoodIn wsL_top wsX9_top := goodIn_ca (goodIn_r _ [6, 7, 8, 9, 10, 11, 5, 12, 13, 14, 15, 16, 17, 18, 19, 20, 21, 22, 23, 24, 25, 26, 27, 28, 29, 30, 31, 32, 33, 34, 35, 36, 37, 38, 39, 40, 41, 42, 43, 44, 45, 46, 47, 48, 49, 50, 51, 52, 53, 54, 55, 56, 57, 58, 59, 60, 61, 62, 63, 64] (by decide +kernel) (by decide +kernel)) (goodIn_sub (fun _ h => List.mem_cons_of_mem _ (List.mem_append_right _ h)) (by decide +kernel))
set_option maxRecDepth 20000 in
theorem gL_top_X9_top : GoodIn wsL_top (wsV RL 61 RX9 yX9_top wsX9_top) := goodIn_app (goodIn_of _ (by decide +kernel)) ggL_top_X9_top
theorem dL_top_0 : decode cL_top 0 = .ok (.aload_n 3, 1) := by decide +kernel
theorem dL_top_1 : decode cL_top 1 = .ok (.iconst 0, 1) := by decide +kernel
theorem dL_top_2 : decode cL_top 2 = .ok (.aload_n 0, 1) := by decide +kernel
theorem dL_top_3 : decode cL_top 3 = .ok (.iload_n 1, 1) := by decide +kernel
theorem dL_top_4 : decode cL_top 4 = .ok (.iload_n 2, 1) := by decide +kernel
theorem dL_top_5 : decode cL_top 5 = .ok (.invokevirtual 61, 3) := by decide +kernel
theorem dL_top_8 : decode cL_top 8 = .ok (.i2l, 1) := by decide +kernel
theorem dL_top_9 : decode cL_top 9 = .ok (.lastore, 1) := by decide +kernel
theorem dL_top_10 : decode cL_top 10 = .ok (.goto 7, 3) := by decide +kernel
theorem dL_top_13 : decode cL_top 13 = .ok (.astore 4, 2) := by decide +kernel
theorem dL_top_15 : decode cL_top 15 = .ok (.iconst 1, 1) := by decide +kernel
theorem dL_top_16 : decode cL_top 16 = .ok (.ireturn, 1) := by decide +kernel
theorem dL_top_17 : decode cL_top 17 = .ok (.iconst 0, 1) := by decide +kernel
theorem dL_top_18 : decode cL_top 18 = .ok (.ireturn, 1) := by decide +kernel
set_option maxRecDepth 20000 in
theorem ggL_topAnew_X9_topAnew : GoodIn wsL_topAnew wsX9_topAnew := goodIn_ca (goodIn_r _ [6, 7, 8, 9, 10, 5, 11, 12, 13, 14, 15, 16, 17, 18, 19, 20, 21, 22, 23, 24, 25, 26, 27, 28, 29, 30, 31, 32, 33, 34, 35, 36, 37, 38, 39, 40, 41, 42, 43, 44, 45, 46, 47, 48, 49, 50, 51, 52, 53, 54, 55, 56, 57, 58, 59, 60, 61, 62, 63, 64, 65, 66, 67, 68, 69, 70, 71, 72, 73, 74, 75, 76, 77, 78, 79, 80, 81, 82, 83, 84, 85, 86, 87, 88, 89, 90, 91, 92, 93, 94, 95, 96, 97, 98, 99, 100, 101, 102, 103, 104, 105, 106, 107, 108, 109, 110, 111, 112, 113, 114, 115, 116, 117, 118, 119, 120, 121, 122, 123, 124, 125] (by decide +kernel) (by decide +kernel)) (goodIn_sub (fun _ h => List.mem_cons_of_mem _ (List.mem_append_right _ h)) (by decide +kernel))
set_option maxRecDepth 20000 in
theorem gL_topAnew_X9_topAnew : GoodIn wsL_topAnew (wsV RL 64 RX9 yX9_topAnew wsX9_topAnew) := goodIn_app (goodIn_of _ (by decide +kernel)) ggL_topAnew_X9_topAnew
theorem dL_topAnew_0 : decode cL_topAnew 0 = .ok (.aload_n 3, 1) := by decide +kernel
theorem dL_topAnew_1 : decode cL_topAnew 1 = .ok (.iconst 0, 1) := by decide +kernel
theorem dL_topAnew_2 : decode cL_topAnew 2 = .ok (.aload_n 0, 1) := by decide +kernel
theorem dL_topAnew_3 : decode cL_topAnew 3 = .ok (.iload_n 1, 1) := by decide +kernel
theorem dL_topAnew_4 : decode cL_topAnew 4 = .ok (.iload_n 2, 1) := by decide +kernel
theorem dL_topAnew_5 : decode cL_topAnew 5 = .ok (.invokevirtual 64, 3) := by decide +kernel
theorem dL_topAnew_8 : decode cL_topAnew 8 = .ok (.i2l, 1) := by decide +kernel
theorem dL_topAnew_9 : decode cL_topAnew 9 = .ok (.lastore, 1) := by decide +kernel
theorem dL_topAnew_10 : decode cL_topAnew 10 = .ok (.goto 7, 3) := by decide +kernel
theorem dL_topAnew_13 : decode cL_topAnew 13 = .ok (.astore 4, 2) := by decide +kernel
theorem dL_topAnew_15 : decode cL_topAnew 15 = .ok (.iconst 1, 1) := by decide +kernel
theorem dL_topAnew_16 : decode cL_topAnew 16 = .ok (.ireturn, 1) := by decide +kernel
theorem dL_topAnew_17 : decode cL_topAnew 17 = .ok (.iconst 0, 1) := by decide +kernel
theorem dL_topAnew_18 : decode cL_topAnew 18 = .ok (.ireturn, 1) := by decide +kernel
set_option maxRecDepth 20000 in
theorem ggL_law_X9_init : GoodIn wsL_law wsX9_init := goodIn_r _ [10, 11, 12, 13, 14, 15, 16, 17, 18, 19, 20, 21, 22, 23, 24, 25, 26, 27, 28, 29, 30, 31, 32, 33, 34, 35, 36, 37, 38, 39, 40, 41, 42, 43, 44, 45, 46, 47, 48, 49, 50, 51, 52, 53, 54, 55, 56, 670, 650, 651, 652, 653, 654, 655, 671, 672, 673, 674] (by decide +kernel) (by decide +kernel)
set_option maxRecDepth 20000 in
theorem gL_law_X9_init : GoodIn wsL_law (wsX9_init) := ggL_law_X9_init
set_option maxRecDepth 20000 in
theorem ggL_law_X10_init : GoodIn wsL_law wsX10_init := goodIn_r _ [59, 60, 12, 13, 17, 61, 62, 63, 64, 65, 66, 67, 6, 68, 69, 656, 657, 658, 659, 660, 661, 662, 663, 664, 665, 666, 667, 668, 669] (by decide +kernel) (by decide +kernel)
set_option maxRecDepth 20000 in
theorem gL_law_X10_init : GoodIn wsL_law (wsX10_init) := ggL_law_X10_init
set_option maxRecDepth 20000 in
theorem ggL_law_L_ground : GoodIn wsL_law wsL_ground := goodIn_ca (goodIn_ca (goodIn_r _ [73, 74, 75, 76, 77, 78, 2, 79, 80, 18, 81, 82, 83, 84, 85, 86, 87, 88, 89, 90, 91, 92, 93, 16, 94, 34, 95, 96, 97, 98, 650, 651, 652, 653, 654, 655, 670] (by decide +kernel) (by decide +kernel)) (goodIn_sub (fun _ h => List.mem_append_left _ (List.mem_append_left _ (List.mem_append_right _ h))) (by decide +kernel))) (goodIn_sub (fun _ h => List.mem_append_left _ (List.mem_append_right _ h)) (by decide +kernel))
set_option maxRecDepth 20000 in
theorem gL_law_L_ground : GoodIn wsL_law (va_wsS RL 71 yL_ground wsL_ground) := goodIn_app (goodIn_of _ (by decide +kernel)) ggL_law_L_ground
set_option maxRecDepth 20000 in
theorem ggL_law_X10_ground : GoodIn wsL_law wsX10_ground := goodIn_r _ [102, 61, 103, 104, 5, 105, 106, 107, 108, 109, 110, 111, 112, 113, 656, 657, 658, 659, 660, 661, 662, 663, 664, 665, 666, 667, 668, 669] (by decide +kernel) (by decide +kernel)
set_option maxRecDepth 20000 in
theorem gL_law_X10_ground : GoodIn wsL_law (wsV RL 76 RX10 yX10_ground wsX10_ground) := goodIn_app (goodIn_of _ (by decide +kernel)) ggL_law_X10_ground
set_option maxRecDepth 20000 in
theorem ggL_law_X10_thrown : GoodIn wsL_law wsX10_thrown := goodIn_r _ [117, 113, 656, 657, 658, 659, 660, 661, 662, 663, 664, 665, 666, 667, 668, 669] (by decide +kernel) (by decide +kernel)
set_option maxRecDepth 20000 in
theorem gL_law_X10_thrown : GoodIn wsL_law (wsV RL 77 RX10 yX10_thrown wsX10_thrown) := goodIn_app (goodIn_of _ (by decide +kernel)) ggL_law_X10_thrown
set_option maxRecDepth 20000 in
theorem ggL_law_L_stone : GoodIn wsL_law wsL_stone := goodIn_ca (goodIn_ca (goodIn_ca (goodIn_r _ [120, 74, 75, 121, 122, 123, 124, 2, 125, 126, 81, 82, 83, 84, 85, 86, 87, 88, 89, 90, 127, 128, 129, 130, 131, 132, 22, 133, 134, 135, 21, 136, 137, 138, 139, 140, 141, 142, 143, 144, 18, 145, 91, 92, 93, 16, 94, 34, 146, 147, 148, 149, 12, 13, 150, 151, 152, 153, 154, 155, 156, 157, 158, 159, 160, 161, 162, 163, 164, 165, 166, 167, 168, 169, 170, 171, 172, 173, 174, 175, 176, 177, 178, 179, 180, 181, 39, 182, 183, 184, 185, 186, 187, 188, 189, 190, 191, 192, 193, 194, 195, 196, 197, 198, 199, 200, 201, 202, 203, 204, 205, 206, 207, 208, 209, 210, 211, 38, 212, 213, 214, 215, 216, 217, 218, 219, 220, 221, 222, 223, 224, 225, 226, 227, 228, 229, 230, 231, 232, 233, 234, 235, 236, 237, 238, 239, 240, 241, 242, 650, 651, 652, 653, 654, 655, 671, 672, 673, 675, 676, 677, 678, 679, 680, 670] (by decide +kernel) (by decide +kernel)) (goodIn_sub (fun _ h => List.mem_append_left _ (List.mem_append_left _ (List.mem_append_right _ h))) (by decide +kernel))) (goodIn_sub (fun _ h => List.mem_append_left _ (List.mem_append_right _ h)) (by decide +kernel))) (goodIn_sub (fun _ h => List.mem_append_right _ h) (by decide +kernel))
set_option maxRecDepth 20000 in
theorem gL_law_L_stone : GoodIn wsL_law (va_wsS RL 81 yL_stone wsL_stone) := goodIn_app (goodIn_of _ (by decide +kernel)) ggL_law_L_stone
set_option maxRecDepth 20000 in
theorem ggL_law_X10_stone : GoodIn wsL_law wsX10_stone := goodIn_r _ [246, 247, 103, 104, 5, 105, 106, 107, 108, 109, 110, 111, 112, 113, 248, 249, 250, 251, 61, 64, 65, 62, 63, 252, 253, 254, 255, 256, 257, 258, 259, 656, 657, 658, 659, 660, 661, 662, 663, 664, 665, 666, 667, 668, 669] (by decide +kernel) (by decide +kernel)
set_option maxRecDepth 20000 in
theorem gL_law_X10_stone : GoodIn wsL_law (wsV RL 83 RX10 yX10_stone wsX10_stone) := goodIn_app (goodIn_of _ (by decide +kernel)) ggL_law_X10_stone
set_option maxRecDepth 20000 in
theorem ggL_law_L_draw : GoodIn wsL_law wsL_draw := goodIn_ca (goodIn_r _ [262, 75, 263, 264, 265, 2, 266, 267, 29, 86, 87, 88, 89, 90, 650, 651, 652, 653, 654, 655] (by decide +kernel) (by decide +kernel)) (goodIn_sub (fun _ h => List.mem_append_left _ (List.mem_append_right _ h)) (by decide +kernel))
set_option maxRecDepth 20000 in
theorem gL_law_L_draw : GoodIn wsL_law (va_wsS RL 84 yL_draw wsL_draw) := goodIn_app (goodIn_of _ (by decide +kernel)) ggL_law_L_draw
set_option maxRecDepth 20000 in
theorem ggL_law_X10_draw : GoodIn wsL_law wsX10_draw := goodIn_r _ [271, 272, 66, 106, 107, 5, 108, 109, 110, 111, 112, 113, 656, 657, 658, 659, 660, 661, 662, 663, 664, 665, 666, 667, 668, 669] (by decide +kernel) (by decide +kernel)
set_option maxRecDepth 20000 in
theorem gL_law_X10_draw : GoodIn wsL_law (wsV RL 87 RX10 yX10_draw wsX10_draw) := goodIn_app (goodIn_of _ (by decide +kernel)) ggL_law_X10_draw
set_option maxRecDepth 20000 in
theorem ggL_law_L_rain : GoodIn wsL_law wsL_rain := goodIn_ca (goodIn_ca (goodIn_r _ [275, 75, 121, 276, 277, 278, 2, 279, 280, 86, 87, 88, 89, 90, 127, 128, 129, 130, 131, 132, 22, 133, 134, 135, 21, 136, 137, 281, 282, 283, 284, 29, 285, 286, 287, 288, 138, 139, 140, 141, 142, 143, 144, 18, 145, 91, 92, 93, 16, 94, 34, 146, 147, 148, 149, 12, 13, 150, 151, 152, 153, 154, 155, 156, 157, 158, 159, 160, 161, 162, 163, 164, 165, 166, 167, 168, 169, 170, 171, 172, 173, 174, 175, 176, 177, 178, 179, 180, 181, 39, 182, 183, 184, 185, 186, 187, 188, 189, 190, 191, 192, 193, 194, 195, 196, 197, 198, 199, 200, 201, 202, 203, 204, 205, 206, 207, 208, 209, 210, 211, 38, 212, 213, 214, 215, 216, 217, 218, 219, 220, 221, 222, 223, 224, 225, 226, 227, 228, 229, 230, 231, 232, 233, 234, 235, 236, 237, 238, 239, 240, 241, 242, 289, 290, 291, 292, 293, 650, 651, 652, 653, 654, 655, 671, 672, 673, 675, 676, 677, 678, 679, 680, 670] (by decide +kernel) (by decide +kernel)) (goodIn_sub (fun _ h => List.mem_append_left _ (List.mem_append_right _ h)) (by decide +kernel))) (goodIn_sub (fun _ h => List.mem_append_right _ h) (by decide +kernel))
set_option maxRecDepth 20000 in
theorem gL_law_L_rain : GoodIn wsL_law (va_wsS RL 88 yL_rain wsL_rain) := goodIn_app (goodIn_of _ (by decide +kernel)) ggL_law_L_rain
set_option maxRecDepth 20000 in
theorem ggL_law_X10_rain : GoodIn wsL_law wsX10_rain := goodIn_r _ [297, 247, 106, 107, 5, 108, 109, 110, 111, 112, 113, 298, 299, 300, 301, 66, 302, 303, 304, 305, 248, 249, 250, 251, 61, 64, 65, 62, 63, 252, 253, 254, 255, 256, 257, 258, 259, 306, 307, 308, 309, 656, 657, 658, 659, 660, 661, 662, 663, 664, 665, 666, 667, 668, 669] (by decide +kernel) (by decide +kernel)
set_option maxRecDepth 20000 in
theorem gL_law_X10_rain : GoodIn wsL_law (wsV RL 90 RX10 yX10_rain wsX10_rain) := goodIn_app (goodIn_of _ (by decide +kernel)) ggL_law_X10_rain
set_option maxRecDepth 20000 in
theorem ggL_law_L_flood : GoodIn wsL_law wsL_flood := goodIn_ca (goodIn_ca (goodIn_ca (goodIn_r _ [312, 74, 75, 121, 313, 314, 315, 2, 316, 317, 318, 319, 320, 22, 321, 322, 323, 81, 82, 83, 84, 85, 86, 87, 88, 89, 90, 324, 325, 326, 327, 328, 329, 330, 131, 132, 23, 133, 134, 135, 21, 136, 137, 331, 332, 333, 334, 12, 13, 335, 336, 337, 338, 339, 340, 341, 342, 343, 344, 345, 346, 347, 348, 349, 350, 351, 352, 353, 145, 194, 195, 196, 197, 198, 199, 39, 200, 201, 202, 203, 204, 205, 206, 207, 208, 209, 210, 211, 38, 212, 160, 161, 162, 213, 214, 215, 216, 217, 218, 219, 220, 221, 222, 223, 224, 225, 226, 227, 228, 229, 230, 231, 232, 233, 234, 235, 236, 237, 238, 239, 240, 241, 242, 166, 167, 168, 169, 170, 171, 172, 173, 174, 175, 176, 177, 178, 179, 180, 181, 354, 355, 356, 357, 358, 359, 360, 361, 362, 363, 364, 365, 366, 367, 368, 369, 370, 371, 372, 373, 92, 93, 16, 94, 34, 190, 191, 192, 144, 193, 155, 159, 681, 682, 683, 650, 651, 652, 653, 654, 655, 684, 685, 686, 687, 671, 672, 673, 688, 689, 690, 675, 676, 677, 678, 679, 680, 670] (by decide +kernel) (by decide +kernel)) (goodIn_sub (fun _ h => List.mem_append_left _ (List.mem_append_left _ (List.mem_append_right _ h))) (by decide +kernel))) (goodIn_sub (fun _ h => List.mem_append_left _ (List.mem_append_right _ h)) (by decide +kernel))) (goodIn_sub (fun _ h => List.mem_append_right _ h) (by decide +kernel))
set_option maxRecDepth 20000 in
theorem gL_law_L_flood : GoodIn wsL_law (va_wsS RL 91 yL_flood wsL_flood) := goodIn_app (goodIn_of _ (by decide +kernel)) ggL_law_L_flood
set_option maxRecDepth 20000 in
theorem ggL_law_X10_flood : GoodIn wsL_law wsX10_flood := goodIn_r _ [377, 378, 247, 379, 380, 5, 381, 103, 104, 105, 106, 107, 108, 109, 110, 111, 112, 113, 382, 383, 384, 385, 62, 63, 256, 257, 258, 259, 65, 656, 657, 658, 659, 660, 661, 662, 663, 664, 665, 666, 667, 668, 669] (by decide +kernel) (by decide +kernel)
set_option maxRecDepth 20000 in
theorem gL_law_X10_flood : GoodIn wsL_law (wsV RL 94 RX10 yX10_flood wsX10_flood) := goodIn_app (goodIn_of _ (by decide +kernel)) ggL_law_X10_flood
set_option maxRecDepth 20000 in
theorem ggL_law_L_soften : GoodIn wsL_law wsL_soften := goodIn_ca (goodIn_ca (goodIn_r _ [388, 75, 121, 389, 390, 391, 2, 392, 317, 393, 394, 367, 22, 18, 86, 87, 88, 89, 90, 327, 328, 329, 330, 131, 132, 23, 133, 134, 135, 21, 136, 137, 395, 396, 397, 16, 398, 399, 15, 34, 400, 401, 402, 403, 404, 405, 406, 31, 32, 33, 12, 13, 407, 408, 409, 369, 372, 410, 345, 346, 347, 348, 349, 350, 351, 352, 353, 145, 194, 195, 196, 197, 198, 199, 39, 200, 201, 202, 203, 204, 205, 206, 207, 208, 209, 210, 211, 38, 212, 160, 161, 162, 213, 214, 215, 216, 217, 218, 219, 220, 221, 222, 223, 224, 225, 226, 227, 228, 229, 230, 231, 232, 233, 234, 235, 236, 237, 238, 239, 240, 241, 242, 166, 167, 168, 169, 170, 171, 172, 173, 174, 175, 176, 177, 178, 179, 180, 181, 354, 355, 356, 357, 320, 358, 342, 359, 360, 343, 361, 362, 363, 323, 364, 335, 337, 336, 338, 365, 366, 368, 370, 371, 373, 92, 93, 94, 190, 191, 192, 144, 193, 155, 159, 688, 689, 690, 650, 651, 652, 653, 654, 655, 671, 672, 673, 670, 681, 682, 683, 675, 676, 677, 678, 679, 680, 684, 685, 686, 687] (by decide +kernel) (by decide +kernel)) (goodIn_sub (fun _ h => List.mem_append_left _ (List.mem_append_right _ h)) (by decide +kernel))) (goodIn_sub (fun _ h => List.mem_append_right _ h) (by decide +kernel))
set_option maxRecDepth 20000 in
theorem gL_law_L_soften : GoodIn wsL_law (va_wsS RL 95 yL_soften wsL_soften) := goodIn_app (goodIn_of _ (by decide +kernel)) ggL_law_L_soften
