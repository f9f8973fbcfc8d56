theorem dX1_covers_7 : decode cX1_covers 7 = .ok (.invokevirtual 42, 3) := by decide +kernel
theorem dX1_covers_10 : decode cX1_covers 10 = .ok (.ireturn, 1) := by decide +kernel
theorem dX1_isWithin_0 : decode cX1_isWithin 0 = .ok (.iload_n 2, 1) := by decide +kernel
theorem dX1_isWithin_1 : decode cX1_isWithin 1 = .ok (.aload_n 0, 1) := by decide +kernel
theorem dX1_isWithin_2 : decode cX1_isWithin 2 = .ok (.getfield 9, 3) := by decide +kernel
theorem dX1_isWithin_5 : decode cX1_isWithin 5 = .ok (.isub, 1) := by decide +kernel
theorem dX1_isWithin_6 : decode cX1_isWithin 6 = .ok (.istore 4, 2) := by decide +kernel
theorem dX1_isWithin_8 : decode cX1_isWithin 8 = .ok (.iload_n 3, 1) := by decide +kernel
theorem dX1_isWithin_9 : decode cX1_isWithin 9 = .ok (.aload_n 0, 1) := by decide +kernel
theorem dX1_isWithin_10 : decode cX1_isWithin 10 = .ok (.getfield 15, 3) := by decide +kernel
theorem dX1_isWithin_13 : decode cX1_isWithin 13 = .ok (.isub, 1) := by decide +kernel
theorem dX1_isWithin_14 : decode cX1_isWithin 14 = .ok (.istore 5, 2) := by decide +kernel
theorem dX1_isWithin_16 : decode cX1_isWithin 16 = .ok (.iload 4, 2) := by decide +kernel
theorem dX1_isWithin_18 : decode cX1_isWithin 18 = .ok (.iload 4, 2) := by decide +kernel
theorem dX1_isWithin_20 : decode cX1_isWithin 20 = .ok (.imul, 1) := by decide +kernel
theorem dX1_isWithin_21 : decode cX1_isWithin 21 = .ok (.iload 5, 2) := by decide +kernel
theorem dX1_isWithin_23 : decode cX1_isWithin 23 = .ok (.iload 5, 2) := by decide +kernel
theorem dX1_isWithin_25 : decode cX1_isWithin 25 = .ok (.imul, 1) := by decide +kernel
theorem dX1_isWithin_26 : decode cX1_isWithin 26 = .ok (.iadd, 1) := by decide +kernel
theorem dX1_isWithin_27 : decode cX1_isWithin 27 = .ok (.iload_n 1, 1) := by decide +kernel
theorem dX1_isWithin_28 : decode cX1_isWithin 28 = .ok (.iload_n 1, 1) := by decide +kernel
theorem dX1_isWithin_29 : decode cX1_isWithin 29 = .ok (.imul, 1) := by decide +kernel
theorem dX1_isWithin_30 : decode cX1_isWithin 30 = .ok (.if_icmp .gt 7, 3) := by decide +kernel
theorem dX1_isWithin_33 : decode cX1_isWithin 33 = .ok (.iconst 1, 1) := by decide +kernel
theorem dX1_isWithin_34 : decode cX1_isWithin 34 = .ok (.goto 4, 3) := by decide +kernel
theorem dX1_isWithin_37 : decode cX1_isWithin 37 = .ok (.iconst 0, 1) := by decide +kernel
theorem dX1_isWithin_38 : decode cX1_isWithin 38 = .ok (.ireturn, 1) := by decide +kernel
set_option maxRecDepth 20000 in
theorem ggX1_lossBy_X1_isWithin : GoodIn wsX1_lossBy wsX1_isWithin := goodIn_r _ [10, 2, 3, 11, 12, 13, 14, 15, 16] (by decide +kernel) (by decide +kernel)
set_option maxRecDepth 20000 in
theorem gX1_lossBy_X1_isWithin : GoodIn wsX1_lossBy (wsV RX1 42 RX1 yX1_isWithin wsX1_isWithin) := goodIn_app (goodIn_of _ (by decide +kernel)) ggX1_lossBy_X1_isWithin
theorem dX1_lossBy_0 : decode cX1_lossBy 0 = .ok (.aload_n 0, 1) := by decide +kernel
theorem dX1_lossBy_1 : decode cX1_lossBy 1 = .ok (.getfield 25, 3) := by decide +kernel
theorem dX1_lossBy_4 : decode cX1_lossBy 4 = .ok (.aload_n 1, 1) := by decide +kernel
theorem dX1_lossBy_5 : decode cX1_lossBy 5 = .ok (.getfield 25, 3) := by decide +kernel
theorem dX1_lossBy_8 : decode cX1_lossBy 8 = .ok (.if_icmp .gt 27, 3) := by decide +kernel
theorem dX1_lossBy_11 : decode cX1_lossBy 11 = .ok (.aload_n 0, 1) := by decide +kernel
theorem dX1_lossBy_12 : decode cX1_lossBy 12 = .ok (.aload_n 1, 1) := by decide +kernel
theorem dX1_lossBy_13 : decode cX1_lossBy 13 = .ok (.getfield 25, 3) := by decide +kernel
theorem dX1_lossBy_16 : decode cX1_lossBy 16 = .ok (.aload_n 1, 1) := by decide +kernel
theorem dX1_lossBy_17 : decode cX1_lossBy 17 = .ok (.getfield 9, 3) := by decide +kernel
theorem dX1_lossBy_20 : decode cX1_lossBy 20 = .ok (.aload_n 1, 1) := by decide +kernel
theorem dX1_lossBy_21 : decode cX1_lossBy 21 = .ok (.getfield 15, 3) := by decide +kernel
theorem dX1_lossBy_24 : decode cX1_lossBy 24 = .ok (.invokevirtual 42, 3) := by decide +kernel
theorem dX1_lossBy_27 : decode cX1_lossBy 27 = .ok (.ifCond .eq 8, 3) := by decide +kernel
theorem dX1_lossBy_30 : decode cX1_lossBy 30 = .ok (.aload_n 0, 1) := by decide +kernel
theorem dX1_lossBy_31 : decode cX1_lossBy 31 = .ok (.getfield 31, 3) := by decide +kernel
theorem dX1_lossBy_34 : decode cX1_lossBy 34 = .ok (.ireturn, 1) := by decide +kernel
theorem dX1_lossBy_35 : decode cX1_lossBy 35 = .ok (.aload_n 0, 1) := by decide +kernel
theorem dX1_lossBy_36 : decode cX1_lossBy 36 = .ok (.aload_n 0, 1) := by decide +kernel
theorem dX1_lossBy_37 : decode cX1_lossBy 37 = .ok (.getfield 25, 3) := by decide +kernel
theorem dX1_lossBy_40 : decode cX1_lossBy 40 = .ok (.aload_n 1, 1) := by decide +kernel
theorem dX1_lossBy_41 : decode cX1_lossBy 41 = .ok (.getfield 25, 3) := by decide +kernel
theorem dX1_lossBy_44 : decode cX1_lossBy 44 = .ok (.iadd, 1) := by decide +kernel
theorem dX1_lossBy_45 : decode cX1_lossBy 45 = .ok (.aload_n 1, 1) := by decide +kernel
theorem dX1_lossBy_46 : decode cX1_lossBy 46 = .ok (.getfield 9, 3) := by decide +kernel
theorem dX1_lossBy_49 : decode cX1_lossBy 49 = .ok (.aload_n 1, 1) := by decide +kernel
theorem dX1_lossBy_50 : decode cX1_lossBy 50 = .ok (.getfield 15, 3) := by decide +kernel
theorem dX1_lossBy_53 : decode cX1_lossBy 53 = .ok (.invokevirtual 42, 3) := by decide +kernel
theorem dX1_lossBy_56 : decode cX1_lossBy 56 = .ok (.ifCond .eq 10, 3) := by decide +kernel
theorem dX1_lossBy_59 : decode cX1_lossBy 59 = .ok (.aload_n 1, 1) := by decide +kernel
theorem dX1_lossBy_60 : decode cX1_lossBy 60 = .ok (.getfield 18, 3) := by decide +kernel
theorem dX1_lossBy_63 : decode cX1_lossBy 63 = .ok (.goto 4, 3) := by decide +kernel
theorem dX1_lossBy_66 : decode cX1_lossBy 66 = .ok (.iconst 0, 1) := by decide +kernel
theorem dX1_lossBy_67 : decode cX1_lossBy 67 = .ok (.ireturn, 1) := by decide +kernel
theorem dX1_lessen_0 : decode cX1_lessen 0 = .ok (.aload_n 0, 1) := by decide +kernel
theorem dX1_lessen_1 : decode cX1_lessen 1 = .ok (.getfield 34, 3) := by decide +kernel
theorem dX1_lessen_4 : decode cX1_lessen 4 = .ok (.ifCond .gt 5, 3) := by decide +kernel
theorem dX1_lessen_7 : decode cX1_lessen 7 = .ok (.iconst 0, 1) := by decide +kernel
theorem dX1_lessen_8 : decode cX1_lessen 8 = .ok (.ireturn, 1) := by decide +kernel
theorem dX1_lessen_9 : decode cX1_lessen 9 = .ok (.aload_n 0, 1) := by decide +kernel
theorem dX1_lessen_10 : decode cX1_lessen 10 = .ok (.iconst 0, 1) := by decide +kernel
theorem dX1_lessen_11 : decode cX1_lessen 11 = .ok (.aload_n 0, 1) := by decide +kernel
theorem dX1_lessen_12 : decode cX1_lessen 12 = .ok (.getfield 34, 3) := by decide +kernel
theorem dX1_lessen_15 : decode cX1_lessen 15 = .ok (.iload_n 1, 1) := by decide +kernel
theorem dX1_lessen_16 : decode cX1_lessen 16 = .ok (.isub, 1) := by decide +kernel
theorem dX1_lessen_17 : decode cX1_lessen 17 = .ok (.invokestatic 37, 3) := by decide +kernel
theorem dX1_lessen_20 : decode cX1_lessen 20 = .ok (.putfield 34, 3) := by decide +kernel
theorem dX1_lessen_23 : decode cX1_lessen 23 = .ok (.aload_n 0, 1) := by decide +kernel
theorem dX1_lessen_24 : decode cX1_lessen 24 = .ok (.getfield 34, 3) := by decide +kernel
theorem dX1_lessen_27 : decode cX1_lessen 27 = .ok (.ifCond .ne 7, 3) := by decide +kernel
theorem dX1_lessen_30 : decode cX1_lessen 30 = .ok (.iconst 1, 1) := by decide +kernel
theorem dX1_lessen_31 : decode cX1_lessen 31 = .ok (.goto 4, 3) := by decide +kernel
theorem dX1_lessen_34 : decode cX1_lessen 34 = .ok (.iconst 0, 1) := by decide +kernel
theorem dX1_lessen_35 : decode cX1_lessen 35 = .ok (.ireturn, 1) := by decide +kernel
set_option maxRecDepth 20000 in
theorem ggX2_init_Jx4a65c_init_da8c8 : GoodIn wsX2_init wsJx4a65c_init_da8c8 := goodIn_r _ [10, 11, 12, 13, 14, 15, 16, 17, 18, 19, 20, 21, 22, 2, 3, 23, 24, 25] (by decide +kernel) (by decide +kernel)
set_option maxRecDepth 20000 in
theorem gX2_init_Jx4a65c_init_da8c8 : GoodIn wsX2_init (wsJx4a65c_init_da8c8) := ggX2_init_Jx4a65c_init_da8c8
theorem dX2_init_0 : decode cX2_init 0 = .ok (.aload_n 0, 1) := by decide +kernel
theorem dX2_init_1 : decode cX2_init 1 = .ok (.invokespecial 3, 3) := by decide +kernel
theorem dX2_init_4 : decode cX2_init 4 = .ok (.aload_n 0, 1) := by decide +kernel
theorem dX2_init_5 : decode cX2_init 5 = .ok (.new 9, 3) := by decide +kernel
theorem dX2_init_8 : decode cX2_init 8 = .ok (.dup, 1) := by decide +kernel
theorem dX2_init_9 : decode cX2_init 9 = .ok (.invokespecial 11, 3) := by decide +kernel
theorem dX2_init_12 : decode cX2_init 12 = .ok (.putfield 12, 3) := by decide +kernel
theorem dX2_init_15 : decode cX2_init 15 = .ok (.return_, 1) := by decide +kernel
set_option maxRecDepth 20000 in
theorem ggX2_canTake_Jx4a65c_size_8abf5 : GoodIn wsX2_canTake wsJx4a65c_size_8abf5 := goodIn_r _ [9, 10, 31, 32, 33] (by decide +kernel) (by decide +kernel)
set_option maxRecDepth 20000 in
theorem gX2_canTake_Jx4a65c_size_8abf5 : GoodIn wsX2_canTake (wsV RX2 18 RJx4a65c yJx4a65c_size_8abf5 wsJx4a65c_size_8abf5) := goodIn_app (goodIn_of _ (by decide +kernel)) ggX2_canTake_Jx4a65c_size_8abf5
set_option maxRecDepth 20000 in
theorem ggX2_canTake_Jx4a65c_get_915e3 : GoodIn wsX2_canTake wsJx4a65c_get_915e3 := goodIn_r _ [14, 10, 15, 16, 17, 18, 19, 20, 21, 22, 23, 24, 25, 8, 26, 27, 31, 32, 33] (by decide +kernel) (by decide +kernel)
set_option maxRecDepth 20000 in
theorem gX2_canTake_Jx4a65c_get_915e3 : GoodIn wsX2_canTake (wsV RX2 22 RJx4a65c yJx4a65c_get_915e3 wsJx4a65c_get_915e3) := goodIn_app (goodIn_of _ (by decide +kernel)) ggX2_canTake_Jx4a65c_get_915e3
theorem dX2_canTake_0 : decode cX2_canTake 0 = .ok (.aload_n 0, 1) := by decide +kernel
theorem dX2_canTake_1 : decode cX2_canTake 1 = .ok (.getfield 12, 3) := by decide +kernel
theorem dX2_canTake_4 : decode cX2_canTake 4 = .ok (.invokevirtual 18, 3) := by decide +kernel
theorem dX2_canTake_7 : decode cX2_canTake 7 = .ok (.istore 5, 2) := by decide +kernel
theorem dX2_canTake_9 : decode cX2_canTake 9 = .ok (.iload 5, 2) := by decide +kernel
theorem dX2_canTake_11 : decode cX2_canTake 11 = .ok (.ifCond .ne 5, 3) := by decide +kernel
theorem dX2_canTake_14 : decode cX2_canTake 14 = .ok (.iconst 1, 1) := by decide +kernel
theorem dX2_canTake_15 : decode cX2_canTake 15 = .ok (.ireturn, 1) := by decide +kernel
theorem dX2_canTake_16 : decode cX2_canTake 16 = .ok (.aload_n 0, 1) := by decide +kernel
theorem dX2_canTake_17 : decode cX2_canTake 17 = .ok (.getfield 12, 3) := by decide +kernel
theorem dX2_canTake_20 : decode cX2_canTake 20 = .ok (.iload 5, 2) := by decide +kernel
theorem dX2_canTake_22 : decode cX2_canTake 22 = .ok (.iconst 1, 1) := by decide +kernel
theorem dX2_canTake_23 : decode cX2_canTake 23 = .ok (.isub, 1) := by decide +kernel
theorem dX2_canTake_24 : decode cX2_canTake 24 = .ok (.invokevirtual 22, 3) := by decide +kernel
theorem dX2_canTake_27 : decode cX2_canTake 27 = .ok (.checkcast 26, 3) := by decide +kernel
theorem dX2_canTake_30 : decode cX2_canTake 30 = .ok (.astore 6, 2) := by decide +kernel
theorem dX2_canTake_32 : decode cX2_canTake 32 = .ok (.iload 5, 2) := by decide +kernel
theorem dX2_canTake_34 : decode cX2_canTake 34 = .ok (.bipush 8, 2) := by decide +kernel
theorem dX2_canTake_36 : decode cX2_canTake 36 = .ok (.if_icmp .ge 27, 3) := by decide +kernel
theorem dX2_canTake_39 : decode cX2_canTake 39 = .ok (.lload_n 1, 1) := by decide +kernel
theorem dX2_canTake_40 : decode cX2_canTake 40 = .ok (.aload 6, 2) := by decide +kernel
theorem dX2_canTake_42 : decode cX2_canTake 42 = .ok (.getfield 28, 3) := by decide +kernel
theorem dX2_canTake_45 : decode cX2_canTake 45 = .ok (.lcmp, 1) := by decide +kernel
theorem dX2_canTake_46 : decode cX2_canTake 46 = .ok (.ifCond .le 17, 3) := by decide +kernel
theorem dX2_canTake_49 : decode cX2_canTake 49 = .ok (.lload_n 3, 1) := by decide +kernel
theorem dX2_canTake_50 : decode cX2_canTake 50 = .ok (.aload 6, 2) := by decide +kernel
theorem dX2_canTake_52 : decode cX2_canTake 52 = .ok (.getfield 32, 3) := by decide +kernel
theorem dX2_canTake_55 : decode cX2_canTake 55 = .ok (.lcmp, 1) := by decide +kernel
theorem dX2_canTake_56 : decode cX2_canTake 56 = .ok (.ifCond .le 7, 3) := by decide +kernel
theorem dX2_canTake_59 : decode cX2_canTake 59 = .ok (.iconst 1, 1) := by decide +kernel
theorem dX2_canTake_60 : decode cX2_canTake 60 = .ok (.goto 4, 3) := by decide +kernel
theorem dX2_canTake_63 : decode cX2_canTake 63 = .ok (.iconst 0, 1) := by decide +kernel
theorem dX2_canTake_64 : decode cX2_canTake 64 = .ok (.ireturn, 1) := by decide +kernel
set_option maxRecDepth 20000 in
theorem ggX2_take_X0_init : GoodIn wsX2_take wsX0_init := goodIn_r _ [7, 8, 9, 10, 11, 12, 74, 75] (by decide +kernel) (by decide +kernel)
set_option maxRecDepth 20000 in
theorem gX2_take_X0_init : GoodIn wsX2_take (wsX0_init) := ggX2_take_X0_init
set_option maxRecDepth 20000 in
theorem ggX2_take_Jx4a65c_add_9ea2d : GoodIn wsX2_take wsJx4a65c_add_9ea2d := goodIn_r _ [17, 18, 19, 20, 21, 22, 23, 24, 16, 25, 26, 27, 28, 29, 30, 31, 32, 33, 34, 35, 36, 37, 38, 39, 40, 41, 42, 43, 44, 45, 46, 47, 48, 49, 50, 51, 52, 53, 54, 55, 56, 57, 58, 59, 60, 61, 62, 63, 64, 65, 66, 67, 68, 76, 77, 78] (by decide +kernel) (by decide +kernel)
set_option maxRecDepth 20000 in
theorem gX2_take_Jx4a65c_add_9ea2d : GoodIn wsX2_take (wsV RX2 38 RJx4a65c yJx4a65c_add_9ea2d wsJx4a65c_add_9ea2d) := goodIn_app (goodIn_of _ (by decide +kernel)) ggX2_take_Jx4a65c_add_9ea2d
set_option maxRecDepth 20000 in
theorem ggX2_take_Jx4a65c_size_8abf5 : GoodIn wsX2_take wsJx4a65c_size_8abf5 := goodIn_r _ [72, 21, 76, 77, 78] (by decide +kernel) (by decide +kernel)
set_option maxRecDepth 20000 in
theorem gX2_take_Jx4a65c_size_8abf5 : GoodIn wsX2_take (wsV RX2 18 RJx4a65c yJx4a65c_size_8abf5 wsJx4a65c_size_8abf5) := goodIn_app (goodIn_of _ (by decide +kernel)) ggX2_take_Jx4a65c_size_8abf5
theorem dX2_take_0 : decode cX2_take 0 = .ok (.aload_n 0, 1) := by decide +kernel
theorem dX2_take_1 : decode cX2_take 1 = .ok (.getfield 12, 3) := by decide +kernel
theorem dX2_take_4 : decode cX2_take 4 = .ok (.new 26, 3) := by decide +kernel
theorem dX2_take_7 : decode cX2_take 7 = .ok (.dup, 1) := by decide +kernel
theorem dX2_take_8 : decode cX2_take 8 = .ok (.lload_n 1, 1) := by decide +kernel
theorem dX2_take_9 : decode cX2_take 9 = .ok (.lload_n 3, 1) := by decide +kernel
theorem dX2_take_10 : decode cX2_take 10 = .ok (.invokespecial 35, 3) := by decide +kernel
theorem dX2_take_13 : decode cX2_take 13 = .ok (.invokevirtual 38, 3) := by decide +kernel
theorem dX2_take_16 : decode cX2_take 16 = .ok (.pop, 1) := by decide +kernel
theorem dX2_take_17 : decode cX2_take 17 = .ok (.aload_n 0, 1) := by decide +kernel
theorem dX2_take_18 : decode cX2_take 18 = .ok (.getfield 12, 3) := by decide +kernel
theorem dX2_take_21 : decode cX2_take 21 = .ok (.invokevirtual 18, 3) := by decide +kernel
theorem dX2_take_24 : decode cX2_take 24 = .ok (.ireturn, 1) := by decide +kernel
set_option maxRecDepth 20000 in
theorem ggX2_lackFor_Jx4a65c_size_8abf5 : GoodIn wsX2_lackFor wsJx4a65c_size_8abf5 := goodIn_r _ [8, 9, 30, 31, 32] (by decide +kernel) (by decide +kernel)
set_option maxRecDepth 20000 in
theorem gX2_lackFor_Jx4a65c_size_8abf5 : GoodIn wsX2_lackFor (wsV RX2 18 RJx4a65c yJx4a65c_size_8abf5 wsJx4a65c_size_8abf5) := goodIn_app (goodIn_of _ (by decide +kernel)) ggX2_lackFor_Jx4a65c_size_8abf5
set_option maxRecDepth 20000 in
theorem ggX2_lackFor_Jx4a65c_get_915e3 : GoodIn wsX2_lackFor wsJx4a65c_get_915e3 := goodIn_r _ [13, 9, 14, 15, 16, 17, 18, 19, 20, 21, 22, 23, 24, 7, 25, 26, 30, 31, 32] (by decide +kernel) (by decide +kernel)
set_option maxRecDepth 20000 in
theorem gX2_lackFor_Jx4a65c_get_915e3 : GoodIn wsX2_lackFor (wsV RX2 22 RJx4a65c yJx4a65c_get_915e3 wsJx4a65c_get_915e3) := goodIn_app (goodIn_of _ (by decide +kernel)) ggX2_lackFor_Jx4a65c_get_915e3
theorem dX2_lackFor_0 : decode cX2_lackFor 0 = .ok (.aload_n 0, 1) := by decide +kernel
theorem dX2_lackFor_1 : decode cX2_lackFor 1 = .ok (.getfield 12, 3) := by decide +kernel
theorem dX2_lackFor_4 : decode cX2_lackFor 4 = .ok (.invokevirtual 18, 3) := by decide +kernel
theorem dX2_lackFor_7 : decode cX2_lackFor 7 = .ok (.istore_n 3, 1) := by decide +kernel
theorem dX2_lackFor_8 : decode cX2_lackFor 8 = .ok (.iload_n 3, 1) := by decide +kernel
theorem dX2_lackFor_9 : decode cX2_lackFor 9 = .ok (.iconst 2, 1) := by decide +kernel
theorem dX2_lackFor_10 : decode cX2_lackFor 10 = .ok (.if_icmp .ge 5, 3) := by decide +kernel
theorem dX2_lackFor_13 : decode cX2_lackFor 13 = .ok (.iconst 1, 1) := by decide +kernel
theorem dX2_lackFor_14 : decode cX2_lackFor 14 = .ok (.ireturn, 1) := by decide +kernel
theorem dX2_lackFor_15 : decode cX2_lackFor 15 = .ok (.lload_n 1, 1) := by decide +kernel
theorem dX2_lackFor_16 : decode cX2_lackFor 16 = .ok (.aload_n 0, 1) := by decide +kernel
theorem dX2_lackFor_17 : decode cX2_lackFor 17 = .ok (.getfield 12, 3) := by decide +kernel
theorem dX2_lackFor_20 : decode cX2_lackFor 20 = .ok (.iload_n 3, 1) := by decide +kernel
theorem dX2_lackFor_21 : decode cX2_lackFor 21 = .ok (.iconst 1, 1) := by decide +kernel
theorem dX2_lackFor_22 : decode cX2_lackFor 22 = .ok (.isub, 1) := by decide +kernel
theorem dX2_lackFor_23 : decode cX2_lackFor 23 = .ok (.invokevirtual 22, 3) := by decide +kernel
theorem dX2_lackFor_26 : decode cX2_lackFor 26 = .ok (.checkcast 26, 3) := by decide +kernel
theorem dX2_lackFor_29 : decode cX2_lackFor 29 = .ok (.getfield 32, 3) := by decide +kernel
theorem dX2_lackFor_32 : decode cX2_lackFor 32 = .ok (.lcmp, 1) := by decide +kernel
theorem dX2_lackFor_33 : decode cX2_lackFor 33 = .ok (.ifCond .le 7, 3) := by decide +kernel
theorem dX2_lackFor_36 : decode cX2_lackFor 36 = .ok (.iconst 2, 1) := by decide +kernel
theorem dX2_lackFor_37 : decode cX2_lackFor 37 = .ok (.goto 4, 3) := by decide +kernel
theorem dX2_lackFor_40 : decode cX2_lackFor 40 = .ok (.iconst 0, 1) := by decide +kernel
theorem dX2_lackFor_41 : decode cX2_lackFor 41 = .ok (.ireturn, 1) := by decide +kernel
set_option maxRecDepth 20000 in
theorem ggX2_yearsOf_Jx4a65c_size_8abf5 : GoodIn wsX2_yearsOf wsJx4a65c_size_8abf5 := goodIn_r _ [9, 10, 35, 36, 37] (by decide +kernel) (by decide +kernel)
set_option maxRecDepth 20000 in
theorem gX2_yearsOf_Jx4a65c_size_8abf5 : GoodIn wsX2_yearsOf (wsV RX2 18 RJx4a65c yJx4a65c_size_8abf5 wsJx4a65c_size_8abf5) := goodIn_app (goodIn_of _ (by decide +kernel)) ggX2_yearsOf_Jx4a65c_size_8abf5
set_option maxRecDepth 20000 in
theorem ggX2_yearsOf_Jx4a65c_get_915e3 : GoodIn wsX2_yearsOf wsJx4a65c_get_915e3 := goodIn_r _ [14, 10, 15, 16, 17, 18, 19, 20, 21, 22, 23, 24, 25, 8, 26, 27, 35, 36, 37] (by decide +kernel) (by decide +kernel)
set_option maxRecDepth 20000 in
theorem gX2_yearsOf_Jx4a65c_get_915e3 : GoodIn wsX2_yearsOf (wsV RX2 22 RJx4a65c yJx4a65c_get_915e3 wsJx4a65c_get_915e3) := goodIn_app (goodIn_of _ (by decide +kernel)) ggX2_yearsOf_Jx4a65c_get_915e3
set_option maxRecDepth 20000 in
theorem ggX2_yearsOf_X2_dividedDown : GoodIn wsX2_yearsOf wsX2_dividedDown := goodIn_r _ [31] (by decide +kernel) (by decide +kernel)
set_option maxRecDepth 20000 in
theorem gX2_yearsOf_X2_dividedDown : GoodIn wsX2_yearsOf (va_wsS RX2 42 yX2_dividedDown wsX2_dividedDown) := goodIn_app (goodIn_of _ (by decide +kernel)) ggX2_yearsOf_X2_dividedDown
theorem dX2_yearsOf_0 : decode cX2_yearsOf 0 = .ok (.lconst 0, 1) := by decide +kernel
theorem dX2_yearsOf_1 : decode cX2_yearsOf 1 = .ok (.lstore_n 3, 1) := by decide +kernel
theorem dX2_yearsOf_2 : decode cX2_yearsOf 2 = .ok (.lconst 0, 1) := by decide +kernel
theorem dX2_yearsOf_3 : decode cX2_yearsOf 3 = .ok (.lstore 5, 2) := by decide +kernel
theorem dX2_yearsOf_5 : decode cX2_yearsOf 5 = .ok (.iconst 0, 1) := by decide +kernel
theorem dX2_yearsOf_6 : decode cX2_yearsOf 6 = .ok (.istore 7, 2) := by decide +kernel
theorem dX2_yearsOf_8 : decode cX2_yearsOf 8 = .ok (.iload 7, 2) := by decide +kernel
theorem dX2_yearsOf_10 : decode cX2_yearsOf 10 = .ok (.aload_n 0, 1) := by decide +kernel
theorem dX2_yearsOf_11 : decode cX2_yearsOf 11 = .ok (.getfield 12, 3) := by decide +kernel
theorem dX2_yearsOf_14 : decode cX2_yearsOf 14 = .ok (.invokevirtual 18, 3) := by decide +kernel
theorem dX2_yearsOf_17 : decode cX2_yearsOf 17 = .ok (.if_icmp .ge 76, 3) := by decide +kernel
theorem dX2_yearsOf_20 : decode cX2_yearsOf 20 = .ok (.aload_n 0, 1) := by decide +kernel
theorem dX2_yearsOf_21 : decode cX2_yearsOf 21 = .ok (.getfield 12, 3) := by decide +kernel
theorem dX2_yearsOf_24 : decode cX2_yearsOf 24 = .ok (.iload 7, 2) := by decide +kernel
theorem dX2_yearsOf_26 : decode cX2_yearsOf 26 = .ok (.invokevirtual 22, 3) := by decide +kernel
theorem dX2_yearsOf_29 : decode cX2_yearsOf 29 = .ok (.checkcast 26, 3) := by decide +kernel
theorem dX2_yearsOf_32 : decode cX2_yearsOf 32 = .ok (.astore 8, 2) := by decide +kernel
theorem dX2_yearsOf_34 : decode cX2_yearsOf 34 = .ok (.lload_n 1, 1) := by decide +kernel
theorem dX2_yearsOf_35 : decode cX2_yearsOf 35 = .ok (.aload 8, 2) := by decide +kernel
theorem dX2_yearsOf_37 : decode cX2_yearsOf 37 = .ok (.getfield 32, 3) := by decide +kernel
theorem dX2_yearsOf_40 : decode cX2_yearsOf 40 = .ok (.lcmp, 1) := by decide +kernel
theorem dX2_yearsOf_41 : decode cX2_yearsOf 41 = .ok (.ifCond .gt 33, 3) := by decide +kernel
theorem dX2_yearsOf_44 : decode cX2_yearsOf 44 = .ok (.aload 8, 2) := by decide +kernel
theorem dX2_yearsOf_46 : decode cX2_yearsOf 46 = .ok (.getfield 28, 3) := by decide +kernel
theorem dX2_yearsOf_49 : decode cX2_yearsOf 49 = .ok (.lload_n 3, 1) := by decide +kernel
theorem dX2_yearsOf_50 : decode cX2_yearsOf 50 = .ok (.lsub, 1) := by decide +kernel
theorem dX2_yearsOf_51 : decode cX2_yearsOf 51 = .ok (.lload_n 1, 1) := by decide +kernel
theorem dX2_yearsOf_52 : decode cX2_yearsOf 52 = .ok (.lload 5, 2) := by decide +kernel
theorem dX2_yearsOf_54 : decode cX2_yearsOf 54 = .ok (.lsub, 1) := by decide +kernel
theorem dX2_yearsOf_55 : decode cX2_yearsOf 55 = .ok (.lmul, 1) := by decide +kernel
theorem dX2_yearsOf_56 : decode cX2_yearsOf 56 = .ok (.lstore 9, 2) := by decide +kernel
theorem dX2_yearsOf_58 : decode cX2_yearsOf 58 = .ok (.lload_n 3, 1) := by decide +kernel
theorem dX2_yearsOf_59 : decode cX2_yearsOf 59 = .ok (.lload 9, 2) := by decide +kernel
theorem dX2_yearsOf_61 : decode cX2_yearsOf 61 = .ok (.aload 8, 2) := by decide +kernel
theorem dX2_yearsOf_63 : decode cX2_yearsOf 63 = .ok (.getfield 32, 3) := by decide +kernel
theorem dX2_yearsOf_66 : decode cX2_yearsOf 66 = .ok (.lload 5, 2) := by decide +kernel
theorem dX2_yearsOf_68 : decode cX2_yearsOf 68 = .ok (.lsub, 1) := by decide +kernel
theorem dX2_yearsOf_69 : decode cX2_yearsOf 69 = .ok (.invokestatic 42, 3) := by decide +kernel
theorem dX2_yearsOf_72 : decode cX2_yearsOf 72 = .ok (.ladd, 1) := by decide +kernel
theorem dX2_yearsOf_73 : decode cX2_yearsOf 73 = .ok (.lreturn, 1) := by decide +kernel
theorem dX2_yearsOf_74 : decode cX2_yearsOf 74 = .ok (.aload 8, 2) := by decide +kernel
theorem dX2_yearsOf_76 : decode cX2_yearsOf 76 = .ok (.getfield 28, 3) := by decide +kernel
theorem dX2_yearsOf_79 : decode cX2_yearsOf 79 = .ok (.lstore_n 3, 1) := by decide +kernel
theorem dX2_yearsOf_80 : decode cX2_yearsOf 80 = .ok (.aload 8, 2) := by decide +kernel
theorem dX2_yearsOf_82 : decode cX2_yearsOf 82 = .ok (.getfield 32, 3) := by decide +kernel
theorem dX2_yearsOf_85 : decode cX2_yearsOf 85 = .ok (.lstore 5, 2) := by decide +kernel
theorem dX2_yearsOf_87 : decode cX2_yearsOf 87 = .ok (.iinc 7 1, 3) := by decide +kernel
theorem dX2_yearsOf_90 : decode cX2_yearsOf 90 = .ok (.goto (-82), 3) := by decide +kernel
theorem dX2_yearsOf_93 : decode cX2_yearsOf 93 = .ok (.lload_n 3, 1) := by decide +kernel
theorem dX2_yearsOf_94 : decode cX2_yearsOf 94 = .ok (.lreturn, 1) := by decide +kernel
theorem dX2_dividedDown_0 : decode cX2_dividedDown 0 = .ok (.lload_n 2, 1) := by decide +kernel
theorem dX2_dividedDown_1 : decode cX2_dividedDown 1 = .ok (.lconst 0, 1) := by decide +kernel
theorem dX2_dividedDown_2 : decode cX2_dividedDown 2 = .ok (.lcmp, 1) := by decide +kernel
theorem dX2_dividedDown_3 : decode cX2_dividedDown 3 = .ok (.ifCond .le 9, 3) := by decide +kernel
theorem dX2_dividedDown_6 : decode cX2_dividedDown 6 = .ok (.lload_n 0, 1) := by decide +kernel
theorem dX2_dividedDown_7 : decode cX2_dividedDown 7 = .ok (.lload_n 2, 1) := by decide +kernel
theorem dX2_dividedDown_8 : decode cX2_dividedDown 8 = .ok (.ldiv, 1) := by decide +kernel
theorem dX2_dividedDown_9 : decode cX2_dividedDown 9 = .ok (.goto 4, 3) := by decide +kernel
theorem dX2_dividedDown_12 : decode cX2_dividedDown 12 = .ok (.lconst 0, 1) := by decide +kernel
theorem dX2_dividedDown_13 : decode cX2_dividedDown 13 = .ok (.lreturn, 1) := by decide +kernel
theorem dX3_init_0 : decode cX3_init 0 = .ok (.aload_n 0, 1) := by decide +kernel
theorem dX3_init_1 : decode cX3_init 1 = .ok (.invokespecial 1, 3) := by decide +kernel
theorem dX3_init_4 : decode cX3_init 4 = .ok (.aload_n 0, 1) := by decide +kernel
theorem dX3_init_5 : decode cX3_init 5 = .ok (.iload_n 1, 1) := by decide +kernel
theorem dX3_init_6 : decode cX3_init 6 = .ok (.putfield 7, 3) := by decide +kernel
theorem dX3_init_9 : decode cX3_init 9 = .ok (.return_, 1) := by decide +kernel
theorem dX3_sees_0 : decode cX3_sees 0 = .ok (.aload_n 1, 1) := by decide +kernel
theorem dX3_sees_1 : decode cX3_sees 1 = .ok (.getfield 13, 3) := by decide +kernel
theorem dX3_sees_4 : decode cX3_sees 4 = .ok (.ifCond .le 21, 3) := by decide +kernel
theorem dX3_sees_7 : decode cX3_sees 7 = .ok (.aload_n 1, 1) := by decide +kernel
theorem dX3_sees_8 : decode cX3_sees 8 = .ok (.getfield 13, 3) := by decide +kernel
theorem dX3_sees_11 : decode cX3_sees 11 = .ok (.bipush 10, 2) := by decide +kernel
theorem dX3_sees_13 : decode cX3_sees 13 = .ok (.aload_n 0, 1) := by decide +kernel
theorem dX3_sees_14 : decode cX3_sees 14 = .ok (.getfield 7, 3) := by decide +kernel
theorem dX3_sees_17 : decode cX3_sees 17 = .ok (.isub, 1) := by decide +kernel
theorem dX3_sees_18 : decode cX3_sees 18 = .ok (.if_icmp .lt 7, 3) := by decide +kernel
theorem dX3_sees_21 : decode cX3_sees 21 = .ok (.iconst 1, 1) := by decide +kernel
theorem dX3_sees_22 : decode cX3_sees 22 = .ok (.goto 4, 3) := by decide +kernel
theorem dX3_sees_25 : decode cX3_sees 25 = .ok (.iconst 0, 1) := by decide +kernel
theorem dX3_sees_26 : decode cX3_sees 26 = .ok (.ireturn, 1) := by decide +kernel
theorem dX4_init_0 : decode cX4_init 0 = .ok (.aload_n 0, 1) := by decide +kernel
theorem dX4_init_1 : decode cX4_init 1 = .ok (.invokespecial 1, 3) := by decide +kernel
theorem dX4_init_4 : decode cX4_init 4 = .ok (.aload_n 0, 1) := by decide +kernel
theorem dX4_init_5 : decode cX4_init 5 = .ok (.iload_n 1, 1) := by decide +kernel
theorem dX4_init_6 : decode cX4_init 6 = .ok (.putfield 7, 3) := by decide +kernel
theorem dX4_init_9 : decode cX4_init 9 = .ok (.aload_n 0, 1) := by decide +kernel
theorem dX4_init_10 : decode cX4_init 10 = .ok (.iload_n 2, 1) := by decide +kernel
theorem dX4_init_11 : decode cX4_init 11 = .ok (.putfield 13, 3) := by decide +kernel
theorem dX4_init_14 : decode cX4_init 14 = .ok (.aload_n 0, 1) := by decide +kernel
theorem dX4_init_15 : decode cX4_init 15 = .ok (.iload_n 3, 1) := by decide +kernel
theorem dX4_init_16 : decode cX4_init 16 = .ok (.putfield 16, 3) := by decide +kernel
theorem dX4_init_19 : decode cX4_init 19 = .ok (.aload_n 0, 1) := by decide +kernel
theorem dX4_init_20 : decode cX4_init 20 = .ok (.iload 4, 2) := by decide +kernel
theorem dX4_init_22 : decode cX4_init 22 = .ok (.putfield 19, 3) := by decide +kernel
theorem dX4_init_25 : decode cX4_init 25 = .ok (.return_, 1) := by decide +kernel
theorem dX4_has_0 : decode cX4_has 0 = .ok (.iload_n 1, 1) := by decide +kernel
theorem dX4_has_1 : decode cX4_has 1 = .ok (.aload_n 0, 1) := by decide +kernel
theorem dX4_has_2 : decode cX4_has 2 = .ok (.getfield 7, 3) := by decide +kernel
theorem dX4_has_5 : decode cX4_has 5 = .ok (.if_icmp .lt 31, 3) := by decide +kernel
theorem dX4_has_8 : decode cX4_has 8 = .ok (.iload_n 1, 1) := by decide +kernel
theorem dX4_has_9 : decode cX4_has 9 = .ok (.aload_n 0, 1) := by decide +kernel
theorem dX4_has_10 : decode cX4_has 10 = .ok (.getfield 16, 3) := by decide +kernel
theorem dX4_has_13 : decode cX4_has 13 = .ok (.if_icmp .gt 23, 3) := by decide +kernel
theorem dX4_has_16 : decode cX4_has 16 = .ok (.iload_n 2, 1) := by decide +kernel
theorem dX4_has_17 : decode cX4_has 17 = .ok (.aload_n 0, 1) := by decide +kernel
theorem dX4_has_18 : decode cX4_has 18 = .ok (.getfield 13, 3) := by decide +kernel
theorem dX4_has_21 : decode cX4_has 21 = .ok (.if_icmp .lt 15, 3) := by decide +kernel
theorem dX4_has_24 : decode cX4_has 24 = .ok (.iload_n 2, 1) := by decide +kernel
theorem dX4_has_25 : decode cX4_has 25 = .ok (.aload_n 0, 1) := by decide +kernel
theorem dX4_has_26 : decode cX4_has 26 = .ok (.getfield 19, 3) := by decide +kernel
theorem dX4_has_29 : decode cX4_has 29 = .ok (.if_icmp .gt 7, 3) := by decide +kernel
theorem dX4_has_32 : decode cX4_has 32 = .ok (.iconst 1, 1) := by decide +kernel
theorem dX4_has_33 : decode cX4_has 33 = .ok (.goto 4, 3) := by decide +kernel
theorem dX4_has_36 : decode cX4_has 36 = .ok (.iconst 0, 1) := by decide +kernel
theorem dX4_has_37 : decode cX4_has 37 = .ok (.ireturn, 1) := by decide +kernel
theorem dX4_cells_0 : decode cX4_cells 0 = .ok (.aload_n 0, 1) := by decide +kernel
theorem dX4_cells_1 : decode cX4_cells 1 = .ok (.getfield 16, 3) := by decide +kernel
theorem dX4_cells_4 : decode cX4_cells 4 = .ok (.aload_n 0, 1) := by decide +kernel
theorem dX4_cells_5 : decode cX4_cells 5 = .ok (.getfield 7, 3) := by decide +kernel
theorem dX4_cells_8 : decode cX4_cells 8 = .ok (.isub, 1) := by decide +kernel
theorem dX4_cells_9 : decode cX4_cells 9 = .ok (.iconst 1, 1) := by decide +kernel
theorem dX4_cells_10 : decode cX4_cells 10 = .ok (.iadd, 1) := by decide +kernel
theorem dX4_cells_11 : decode cX4_cells 11 = .ok (.aload_n 0, 1) := by decide +kernel
theorem dX4_cells_12 : decode cX4_cells 12 = .ok (.getfield 19, 3) := by decide +kernel
theorem dX4_cells_15 : decode cX4_cells 15 = .ok (.aload_n 0, 1) := by decide +kernel
theorem dX4_cells_16 : decode cX4_cells 16 = .ok (.getfield 13, 3) := by decide +kernel
theorem dX4_cells_19 : decode cX4_cells 19 = .ok (.isub, 1) := by decide +kernel
theorem dX4_cells_20 : decode cX4_cells 20 = .ok (.iconst 1, 1) := by decide +kernel
theorem dX4_cells_21 : decode cX4_cells 21 = .ok (.iadd, 1) := by decide +kernel
theorem dX4_cells_22 : decode cX4_cells 22 = .ok (.imul, 1) := by decide +kernel
theorem dX4_cells_23 : decode cX4_cells 23 = .ok (.ireturn, 1) := by decide +kernel
set_option maxRecDepth 20000 in
theorem ggX5_init_X7_init : GoodIn wsX5_init wsX7_init := goodIn_r _ [6, 7, 8, 9, 10, 11, 12, 13, 14, 15, 16] (by decide +kernel) (by decide +kernel)
set_option maxRecDepth 20000 in
theorem gX5_init_X7_init : GoodIn wsX5_init (wsX7_init) := ggX5_init_X7_init
theorem dX5_init_0 : decode cX5_init 0 = .ok (.aload_n 0, 1) := by decide +kernel
theorem dX5_init_1 : decode cX5_init 1 = .ok (.iload_n 1, 1) := by decide +kernel
theorem dX5_init_2 : decode cX5_init 2 = .ok (.invokespecial 1, 3) := by decide +kernel
theorem dX5_init_5 : decode cX5_init 5 = .ok (.aload_n 0, 1) := by decide +kernel
theorem dX5_init_6 : decode cX5_init 6 = .ok (.aload_n 2, 1) := by decide +kernel
theorem dX5_init_7 : decode cX5_init 7 = .ok (.putfield 7, 3) := by decide +kernel
theorem dX5_init_10 : decode cX5_init 10 = .ok (.aload_n 0, 1) := by decide +kernel
theorem dX5_init_11 : decode cX5_init 11 = .ok (.iload_n 3, 1) := by decide +kernel
theorem dX5_init_12 : decode cX5_init 12 = .ok (.putfield 13, 3) := by decide +kernel
theorem dX5_init_15 : decode cX5_init 15 = .ok (.return_, 1) := by decide +kernel
set_option maxRecDepth 20000 in
theorem ggX5_lossOf_X4_has : GoodIn wsX5_lossOf wsX4_has := goodIn_r _ [9, 10, 11, 12, 13, 23, 24, 25, 26] (by decide +kernel) (by decide +kernel)
set_option maxRecDepth 20000 in
theorem gX5_lossOf_X4_has : GoodIn wsX5_lossOf (wsV RX5 25 RX4 yX4_has wsX4_has) := goodIn_app (goodIn_of _ (by decide +kernel)) ggX5_lossOf_X4_has
theorem dX5_lossOf_0 : decode cX5_lossOf 0 = .ok (.aload_n 0, 1) := by decide +kernel
theorem dX5_lossOf_1 : decode cX5_lossOf 1 = .ok (.getfield 7, 3) := by decide +kernel
theorem dX5_lossOf_4 : decode cX5_lossOf 4 = .ok (.aload_n 1, 1) := by decide +kernel
theorem dX5_lossOf_5 : decode cX5_lossOf 5 = .ok (.getfield 17, 3) := by decide +kernel
theorem dX5_lossOf_8 : decode cX5_lossOf 8 = .ok (.aload_n 1, 1) := by decide +kernel
theorem dX5_lossOf_9 : decode cX5_lossOf 9 = .ok (.getfield 22, 3) := by decide +kernel
theorem dX5_lossOf_12 : decode cX5_lossOf 12 = .ok (.invokevirtual 25, 3) := by decide +kernel
theorem dX5_lossOf_15 : decode cX5_lossOf 15 = .ok (.ifCond .eq 10, 3) := by decide +kernel
theorem dX5_lossOf_18 : decode cX5_lossOf 18 = .ok (.aload_n 0, 1) := by decide +kernel
theorem dX5_lossOf_19 : decode cX5_lossOf 19 = .ok (.getfield 13, 3) := by decide +kernel
theorem dX5_lossOf_22 : decode cX5_lossOf 22 = .ok (.goto 4, 3) := by decide +kernel
theorem dX5_lossOf_25 : decode cX5_lossOf 25 = .ok (.iconst 0, 1) := by decide +kernel
theorem dX5_lossOf_26 : decode cX5_lossOf 26 = .ok (.ireturn, 1) := by decide +kernel
theorem dX6_init_0 : decode cX6_init 0 = .ok (.aload_n 0, 1) := by decide +kernel
theorem dX6_init_1 : decode cX6_init 1 = .ok (.invokespecial 3, 3) := by decide +kernel
theorem dX6_init_4 : decode cX6_init 4 = .ok (.aload_n 0, 1) := by decide +kernel
theorem dX6_init_5 : decode cX6_init 5 = .ok (.aload_n 1, 1) := by decide +kernel
theorem dX6_init_6 : decode cX6_init 6 = .ok (.putfield 9, 3) := by decide +kernel
theorem dX6_init_9 : decode cX6_init 9 = .ok (.return_, 1) := by decide +kernel
set_option maxRecDepth 20000 in
theorem ggX6_copy_X6_init : GoodIn wsX6_copy wsX6_init := goodIn_r _ [13, 14, 15, 16, 4, 17] (by decide +kernel) (by decide +kernel)
set_option maxRecDepth 20000 in
theorem gX6_copy_X6_init : GoodIn wsX6_copy (wsX6_init) := ggX6_copy_X6_init
theorem dX6_copy_0 : decode cX6_copy 0 = .ok (.new 10, 3) := by decide +kernel
theorem dX6_copy_3 : decode cX6_copy 3 = .ok (.dup, 1) := by decide +kernel
theorem dX6_copy_4 : decode cX6_copy 4 = .ok (.aload_n 0, 1) := by decide +kernel
theorem dX6_copy_5 : decode cX6_copy 5 = .ok (.getfield 9, 3) := by decide +kernel
theorem dX6_copy_8 : decode cX6_copy 8 = .ok (.invokevirtual 15, 3) := by decide +kernel
theorem dX6_copy_11 : decode cX6_copy 11 = .ok (.checkcast 16, 3) := by decide +kernel
theorem dX6_copy_14 : decode cX6_copy 14 = .ok (.invokespecial 20, 3) := by decide +kernel
theorem dX6_copy_17 : decode cX6_copy 17 = .ok (.areturn, 1) := by decide +kernel
theorem dX6_kindAt_0 : decode cX6_kindAt 0 = .ok (.iload_n 2, 1) := by decide +kernel
theorem dX6_kindAt_1 : decode cX6_kindAt 1 = .ok (.ifCond .lt 12, 3) := by decide +kernel
theorem dX6_kindAt_4 : decode cX6_kindAt 4 = .ok (.iload_n 2, 1) := by decide +kernel
theorem dX6_kindAt_5 : decode cX6_kindAt 5 = .ok (.aload_n 0, 1) := by decide +kernel
theorem dX6_kindAt_6 : decode cX6_kindAt 6 = .ok (.getfield 9, 3) := by decide +kernel
theorem dX6_kindAt_9 : decode cX6_kindAt 9 = .ok (.arraylength, 1) := by decide +kernel
theorem dX6_kindAt_10 : decode cX6_kindAt 10 = .ok (.if_icmp .lt 5, 3) := by decide +kernel
theorem dX6_kindAt_13 : decode cX6_kindAt 13 = .ok (.iconst 0, 1) := by decide +kernel
theorem dX6_kindAt_14 : decode cX6_kindAt 14 = .ok (.ireturn, 1) := by decide +kernel
theorem dX6_kindAt_15 : decode cX6_kindAt 15 = .ok (.aload_n 0, 1) := by decide +kernel
theorem dX6_kindAt_16 : decode cX6_kindAt 16 = .ok (.getfield 9, 3) := by decide +kernel
theorem dX6_kindAt_19 : decode cX6_kindAt 19 = .ok (.iload_n 2, 1) := by decide +kernel
theorem dX6_kindAt_20 : decode cX6_kindAt 20 = .ok (.iaload, 1) := by decide +kernel
theorem dX6_kindAt_21 : decode cX6_kindAt 21 = .ok (.iconst 2, 1) := by decide +kernel
theorem dX6_kindAt_22 : decode cX6_kindAt 22 = .ok (.iload_n 1, 1) := by decide +kernel
theorem dX6_kindAt_23 : decode cX6_kindAt 23 = .ok (.imul, 1) := by decide +kernel
theorem dX6_kindAt_24 : decode cX6_kindAt 24 = .ok (.iushr, 1) := by decide +kernel
theorem dX6_kindAt_25 : decode cX6_kindAt 25 = .ok (.iconst 3, 1) := by decide +kernel
theorem dX6_kindAt_26 : decode cX6_kindAt 26 = .ok (.iand, 1) := by decide +kernel
theorem dX6_kindAt_27 : decode cX6_kindAt 27 = .ok (.ireturn, 1) := by decide +kernel
theorem dX6_setKind_0 : decode cX6_setKind 0 = .ok (.iload_n 2, 1) := by decide +kernel
theorem dX6_setKind_1 : decode cX6_setKind 1 = .ok (.ifCond .lt 38, 3) := by decide +kernel
theorem dX6_setKind_4 : decode cX6_setKind 4 = .ok (.iload_n 2, 1) := by decide +kernel
theorem dX6_setKind_5 : decode cX6_setKind 5 = .ok (.aload_n 0, 1) := by decide +kernel
theorem dX6_setKind_6 : decode cX6_setKind 6 = .ok (.getfield 9, 3) := by decide +kernel
theorem dX6_setKind_9 : decode cX6_setKind 9 = .ok (.arraylength, 1) := by decide +kernel
theorem dX6_setKind_10 : decode cX6_setKind 10 = .ok (.if_icmp .ge 29, 3) := by decide +kernel
theorem dX6_setKind_13 : decode cX6_setKind 13 = .ok (.aload_n 0, 1) := by decide +kernel
theorem dX6_setKind_14 : decode cX6_setKind 14 = .ok (.getfield 9, 3) := by decide +kernel
theorem dX6_setKind_17 : decode cX6_setKind 17 = .ok (.iload_n 2, 1) := by decide +kernel
theorem dX6_setKind_18 : decode cX6_setKind 18 = .ok (.aload_n 0, 1) := by decide +kernel
theorem dX6_setKind_19 : decode cX6_setKind 19 = .ok (.getfield 9, 3) := by decide +kernel
theorem dX6_setKind_22 : decode cX6_setKind 22 = .ok (.iload_n 2, 1) := by decide +kernel
theorem dX6_setKind_23 : decode cX6_setKind 23 = .ok (.iaload, 1) := by decide +kernel
theorem dX6_setKind_24 : decode cX6_setKind 24 = .ok (.iconst 3, 1) := by decide +kernel
theorem dX6_setKind_25 : decode cX6_setKind 25 = .ok (.iconst 2, 1) := by decide +kernel
theorem dX6_setKind_26 : decode cX6_setKind 26 = .ok (.iload_n 1, 1) := by decide +kernel
theorem dX6_setKind_27 : decode cX6_setKind 27 = .ok (.imul, 1) := by decide +kernel
theorem dX6_setKind_28 : decode cX6_setKind 28 = .ok (.ishl, 1) := by decide +kernel
theorem dX6_setKind_29 : decode cX6_setKind 29 = .ok (.iconst (-1), 1) := by decide +kernel
theorem dX6_setKind_30 : decode cX6_setKind 30 = .ok (.ixor, 1) := by decide +kernel
theorem dX6_setKind_31 : decode cX6_setKind 31 = .ok (.iand, 1) := by decide +kernel
theorem dX6_setKind_32 : decode cX6_setKind 32 = .ok (.iload_n 3, 1) := by decide +kernel
theorem dX6_setKind_33 : decode cX6_setKind 33 = .ok (.iconst 2, 1) := by decide +kernel
theorem dX6_setKind_34 : decode cX6_setKind 34 = .ok (.iload_n 1, 1) := by decide +kernel
theorem dX6_setKind_35 : decode cX6_setKind 35 = .ok (.imul, 1) := by decide +kernel
theorem dX6_setKind_36 : decode cX6_setKind 36 = .ok (.ishl, 1) := by decide +kernel
theorem dX6_setKind_37 : decode cX6_setKind 37 = .ok (.ior, 1) := by decide +kernel
theorem dX6_setKind_38 : decode cX6_setKind 38 = .ok (.iastore, 1) := by decide +kernel
theorem dX6_setKind_39 : decode cX6_setKind 39 = .ok (.return_, 1) := by decide +kernel
theorem dX7_init_0 : decode cX7_init 0 = .ok (.aload_n 0, 1) := by decide +kernel
theorem dX7_init_1 : decode cX7_init 1 = .ok (.invokespecial 1, 3) := by decide +kernel
theorem dX7_init_4 : decode cX7_init 4 = .ok (.aload_n 0, 1) := by decide +kernel
theorem dX7_init_5 : decode cX7_init 5 = .ok (.iload_n 1, 1) := by decide +kernel
theorem dX7_init_6 : decode cX7_init 6 = .ok (.putfield 7, 3) := by decide +kernel
theorem dX7_init_9 : decode cX7_init 9 = .ok (.return_, 1) := by decide +kernel
set_option maxRecDepth 20000 in
theorem ggX8_init_X7_init : GoodIn wsX8_init wsX7_init := goodIn_r _ [6, 7, 8, 9, 10, 14, 15, 16, 11, 12, 13] (by decide +kernel) (by decide +kernel)
set_option maxRecDepth 20000 in
theorem gX8_init_X7_init : GoodIn wsX8_init (wsX7_init) := ggX8_init_X7_init
theorem dX8_init_0 : decode cX8_init 0 = .ok (.aload_n 0, 1) := by decide +kernel
theorem dX8_init_1 : decode cX8_init 1 = .ok (.iload_n 1, 1) := by decide +kernel
theorem dX8_init_2 : decode cX8_init 2 = .ok (.invokespecial 3, 3) := by decide +kernel
theorem dX8_init_5 : decode cX8_init 5 = .ok (.aload_n 0, 1) := by decide +kernel
theorem dX8_init_6 : decode cX8_init 6 = .ok (.aload_n 2, 1) := by decide +kernel
theorem dX8_init_7 : decode cX8_init 7 = .ok (.putfield 9, 3) := by decide +kernel
theorem dX8_init_10 : decode cX8_init 10 = .ok (.aload_n 0, 1) := by decide +kernel
theorem dX8_init_11 : decode cX8_init 11 = .ok (.iload_n 3, 1) := by decide +kernel
theorem dX8_init_12 : decode cX8_init 12 = .ok (.putfield 15, 3) := by decide +kernel
theorem dX8_init_15 : decode cX8_init 15 = .ok (.return_, 1) := by decide +kernel
set_option maxRecDepth 20000 in
theorem ggX8_lossOf_X6_kindAt : GoodIn wsX8_lossOf wsX6_kindAt := goodIn_r _ [9, 10, 20] (by decide +kernel) (by decide +kernel)
set_option maxRecDepth 20000 in
theorem gX8_lossOf_X6_kindAt : GoodIn wsX8_lossOf (wsV RX8 27 RX6 yX6_kindAt wsX6_kindAt) := goodIn_app (goodIn_of _ (by decide +kernel)) ggX8_lossOf_X6_kindAt
theorem dX8_lossOf_0 : decode cX8_lossOf 0 = .ok (.aload_n 0, 1) := by decide +kernel
theorem dX8_lossOf_1 : decode cX8_lossOf 1 = .ok (.getfield 9, 3) := by decide +kernel
theorem dX8_lossOf_4 : decode cX8_lossOf 4 = .ok (.aload_n 1, 1) := by decide +kernel
theorem dX8_lossOf_5 : decode cX8_lossOf 5 = .ok (.getfield 19, 3) := by decide +kernel
theorem dX8_lossOf_8 : decode cX8_lossOf 8 = .ok (.aload_n 1, 1) := by decide +kernel
theorem dX8_lossOf_9 : decode cX8_lossOf 9 = .ok (.getfield 24, 3) := by decide +kernel
theorem dX8_lossOf_12 : decode cX8_lossOf 12 = .ok (.invokevirtual 27, 3) := by decide +kernel
theorem dX8_lossOf_15 : decode cX8_lossOf 15 = .ok (.lookupswitch 37 #[(1, 25), (2, 30)], 25) := by decide +kernel
theorem dX8_lossOf_40 : decode cX8_lossOf 40 = .ok (.aload_n 0, 1) := by decide +kernel
theorem dX8_lossOf_41 : decode cX8_lossOf 41 = .ok (.getfield 15, 3) := by decide +kernel
theorem dX8_lossOf_44 : decode cX8_lossOf 44 = .ok (.ireturn, 1) := by decide +kernel
theorem dX8_lossOf_45 : decode cX8_lossOf 45 = .ok (.iconst 2, 1) := by decide +kernel
theorem dX8_lossOf_46 : decode cX8_lossOf 46 = .ok (.aload_n 0, 1) := by decide +kernel
theorem dX8_lossOf_47 : decode cX8_lossOf 47 = .ok (.getfield 15, 3) := by decide +kernel
theorem dX8_lossOf_50 : decode cX8_lossOf 50 = .ok (.imul, 1) := by decide +kernel
theorem dX8_lossOf_51 : decode cX8_lossOf 51 = .ok (.ireturn, 1) := by decide +kernel
theorem dX8_lossOf_52 : decode cX8_lossOf 52 = .ok (.aload_n 0, 1) := by decide +kernel
theorem dX8_lossOf_53 : decode cX8_lossOf 53 = .ok (.getfield 15, 3) := by decide +kernel
theorem dX8_lossOf_56 : decode cX8_lossOf 56 = .ok (.iconst 2, 1) := by decide +kernel
theorem dX8_lossOf_57 : decode cX8_lossOf 57 = .ok (.idiv, 1) := by decide +kernel
theorem dX8_lossOf_58 : decode cX8_lossOf 58 = .ok (.ireturn, 1) := by decide +kernel
set_option maxRecDepth 20000 in
theorem ggX9_init_X6_init : GoodIn wsX9_init wsX6_init := goodIn_r _ [22, 23, 2, 3, 24, 47] (by decide +kernel) (by decide +kernel)
set_option maxRecDepth 20000 in
theorem gX9_init_X6_init : GoodIn wsX9_init (wsX6_init) := ggX9_init_X6_init
set_option maxRecDepth 20000 in
theorem ggX9_init_Jx4a65c_init_da8c8 : GoodIn wsX9_init wsJx4a65c_init_da8c8 := goodIn_r _ [27, 28, 29, 30, 31, 32, 33, 34, 35, 36, 37, 38, 39, 2, 3, 54, 55, 56] (by decide +kernel) (by decide +kernel)
set_option maxRecDepth 20000 in
theorem gX9_init_Jx4a65c_init_da8c8 : GoodIn wsX9_init (wsJx4a65c_init_da8c8) := ggX9_init_Jx4a65c_init_da8c8
set_option maxRecDepth 20000 in
theorem ggX9_init_X2_init : GoodIn wsX9_init wsX2_init := goodIn_r _ [42, 43, 2, 3, 44, 10, 11, 45, 46, 26, 27, 28, 29, 30, 31, 32, 33, 34, 35, 36, 37, 38, 39, 54, 55, 56, 57] (by decide +kernel) (by decide +kernel)
set_option maxRecDepth 20000 in
theorem gX9_init_X2_init : GoodIn wsX9_init (wsX2_init) := ggX9_init_X2_init
theorem dX9_init_0 : decode cX9_init 0 = .ok (.aload_n 0, 1) := by decide +kernel
theorem dX9_init_1 : decode cX9_init 1 = .ok (.invokespecial 1, 3) := by decide +kernel
theorem dX9_init_4 : decode cX9_init 4 = .ok (.aload_n 0, 1) := by decide +kernel
theorem dX9_init_5 : decode cX9_init 5 = .ok (.new 7, 3) := by decide +kernel
theorem dX9_init_8 : decode cX9_init 8 = .ok (.dup, 1) := by decide +kernel
theorem dX9_init_9 : decode cX9_init 9 = .ok (.bipush 16, 2) := by decide +kernel
theorem dX9_init_11 : decode cX9_init 11 = .ok (.newarray .int, 2) := by decide +kernel
theorem dX9_init_13 : decode cX9_init 13 = .ok (.invokespecial 11, 3) := by decide +kernel
theorem dX9_init_16 : decode cX9_init 16 = .ok (.putfield 14, 3) := by decide +kernel
theorem dX9_init_19 : decode cX9_init 19 = .ok (.aload_n 0, 1) := by decide +kernel
theorem dX9_init_20 : decode cX9_init 20 = .ok (.new 18, 3) := by decide +kernel
theorem dX9_init_23 : decode cX9_init 23 = .ok (.dup, 1) := by decide +kernel
theorem dX9_init_24 : decode cX9_init 24 = .ok (.invokespecial 20, 3) := by decide +kernel
theorem dX9_init_27 : decode cX9_init 27 = .ok (.putfield 21, 3) := by decide +kernel
theorem dX9_init_30 : decode cX9_init 30 = .ok (.aload_n 0, 1) := by decide +kernel
theorem dX9_init_31 : decode cX9_init 31 = .ok (.new 18, 3) := by decide +kernel
theorem dX9_init_34 : decode cX9_init 34 = .ok (.dup, 1) := by decide +kernel
theorem dX9_init_35 : decode cX9_init 35 = .ok (.invokespecial 20, 3) := by decide +kernel
theorem dX9_init_38 : decode cX9_init 38 = .ok (.putfield 25, 3) := by decide +kernel
theorem dX9_init_41 : decode cX9_init 41 = .ok (.aload_n 0, 1) := by decide +kernel
theorem dX9_init_42 : decode cX9_init 42 = .ok (.new 18, 3) := by decide +kernel
theorem dX9_init_45 : decode cX9_init 45 = .ok (.dup, 1) := by decide +kernel
theorem dX9_init_46 : decode cX9_init 46 = .ok (.invokespecial 20, 3) := by decide +kernel
theorem dX9_init_49 : decode cX9_init 49 = .ok (.putfield 28, 3) := by decide +kernel
theorem dX9_init_52 : decode cX9_init 52 = .ok (.aload_n 0, 1) := by decide +kernel
theorem dX9_init_53 : decode cX9_init 53 = .ok (.new 31, 3) := by decide +kernel
theorem dX9_init_56 : decode cX9_init 56 = .ok (.dup, 1) := by decide +kernel
theorem dX9_init_57 : decode cX9_init 57 = .ok (.invokespecial 33, 3) := by decide +kernel
theorem dX9_init_60 : decode cX9_init 60 = .ok (.putfield 34, 3) := by decide +kernel
theorem dX9_init_63 : decode cX9_init 63 = .ok (.aload_n 0, 1) := by decide +kernel
theorem dX9_init_64 : decode cX9_init 64 = .ok (.iconst 1, 1) := by decide +kernel
theorem dX9_init_65 : decode cX9_init 65 = .ok (.putfield 38, 3) := by decide +kernel
theorem dX9_init_68 : decode cX9_init 68 = .ok (.return_, 1) := by decide +kernel
set_option maxRecDepth 20000 in
theorem ggX9_ground_X9_requireCell : GoodIn wsX9_ground wsX9_requireCell := goodIn_ca (goodIn_r _ [6, 7, 8] (by decide +kernel) (by decide +kernel)) (goodIn_sub (fun _ h => List.mem_cons_of_mem _ (List.mem_append_left _ (List.mem_append_right _ h))) (by decide +kernel))
set_option maxRecDepth 20000 in
theorem gX9_ground_X9_requireCell : GoodIn wsX9_ground (va_wsS RX9 42 yX9_requireCell wsX9_requireCell) := goodIn_app (goodIn_of _ (by decide +kernel)) ggX9_ground_X9_requireCell
set_option maxRecDepth 20000 in
theorem ggX9_ground_X9_requireRange : GoodIn wsX9_ground wsX9_requireRange := goodIn_ca (goodIn_r _ [11, 12, 13] (by decide +kernel) (by decide +kernel)) (goodIn_sub (fun _ h => List.mem_cons_of_mem _ (List.mem_append_right _ h)) (by decide +kernel))
set_option maxRecDepth 20000 in
theorem gX9_ground_X9_requireRange : GoodIn wsX9_ground (va_wsS RX9 48 yX9_requireRange wsX9_requireRange) := goodIn_app (goodIn_of _ (by decide +kernel)) ggX9_ground_X9_requireRange
set_option maxRecDepth 20000 in
theorem ggX9_ground_X6_kindAt : GoodIn wsX9_ground wsX6_kindAt := goodIn_r _ [18, 19, 30] (by decide +kernel) (by decide +kernel)
set_option maxRecDepth 20000 in
theorem gX9_ground_X6_kindAt : GoodIn wsX9_ground (wsV RX9 52 RX6 yX6_kindAt wsX6_kindAt) := goodIn_app (goodIn_of _ (by decide +kernel)) ggX9_ground_X6_kindAt
set_option maxRecDepth 20000 in
theorem ggX9_ground_X6_setKind : GoodIn wsX9_ground wsX6_setKind := goodIn_r _ [23, 19, 30] (by decide +kernel) (by decide +kernel)
set_option maxRecDepth 20000 in
theorem gX9_ground_X6_setKind : GoodIn wsX9_ground (wsV RX9 56 RX6 yX6_setKind wsX6_setKind) := goodIn_app (goodIn_of _ (by decide +kernel)) ggX9_ground_X6_setKind
theorem dX9_ground_0 : decode cX9_ground 0 = .ok (.iload_n 1, 1) := by decide +kernel
theorem dX9_ground_1 : decode cX9_ground 1 = .ok (.iload_n 2, 1) := by decide +kernel
theorem dX9_ground_2 : decode cX9_ground 2 = .ok (.invokestatic 42, 3) := by decide +kernel
theorem dX9_ground_5 : decode cX9_ground 5 = .ok (.iload_n 3, 1) := by decide +kernel
theorem dX9_ground_6 : decode cX9_ground 6 = .ok (.i2l, 1) := by decide +kernel
theorem dX9_ground_7 : decode cX9_ground 7 = .ok (.lconst 0, 1) := by decide +kernel
theorem dX9_ground_8 : decode cX9_ground 8 = .ok (.ldc2_w 46, 3) := by decide +kernel
theorem dX9_ground_11 : decode cX9_ground 11 = .ok (.invokestatic 48, 3) := by decide +kernel
theorem dX9_ground_14 : decode cX9_ground 14 = .ok (.aload_n 0, 1) := by decide +kernel
theorem dX9_ground_15 : decode cX9_ground 15 = .ok (.getfield 14, 3) := by decide +kernel
theorem dX9_ground_18 : decode cX9_ground 18 = .ok (.iload_n 1, 1) := by decide +kernel
theorem dX9_ground_19 : decode cX9_ground 19 = .ok (.iload_n 2, 1) := by decide +kernel
theorem dX9_ground_20 : decode cX9_ground 20 = .ok (.invokevirtual 52, 3) := by decide +kernel
theorem dX9_ground_23 : decode cX9_ground 23 = .ok (.istore 4, 2) := by decide +kernel
theorem dX9_ground_25 : decode cX9_ground 25 = .ok (.aload_n 0, 1) := by decide +kernel
theorem dX9_ground_26 : decode cX9_ground 26 = .ok (.getfield 14, 3) := by decide +kernel
theorem dX9_ground_29 : decode cX9_ground 29 = .ok (.iload_n 1, 1) := by decide +kernel
theorem dX9_ground_30 : decode cX9_ground 30 = .ok (.iload_n 2, 1) := by decide +kernel
theorem dX9_ground_31 : decode cX9_ground 31 = .ok (.iload_n 3, 1) := by decide +kernel
theorem dX9_ground_32 : decode cX9_ground 32 = .ok (.invokevirtual 56, 3) := by decide +kernel
theorem dX9_ground_35 : decode cX9_ground 35 = .ok (.iload 4, 2) := by decide +kernel
theorem dX9_ground_37 : decode cX9_ground 37 = .ok (.ireturn, 1) := by decide +kernel
set_option maxRecDepth 20000 in
theorem ggX9_stone_X9_requireCell : GoodIn wsX9_stone wsX9_requireCell := goodIn_ca (goodIn_r _ [5, 6, 7] (by decide +kernel) (by decide +kernel)) (goodIn_sub (fun _ h => List.mem_cons_of_mem _ (List.mem_append_left _ (List.mem_append_left _ (List.mem_append_right _ h)))) (by decide +kernel))
set_option maxRecDepth 20000 in
theorem gX9_stone_X9_requireCell : GoodIn wsX9_stone (va_wsS RX9 42 yX9_requireCell wsX9_requireCell) := goodIn_app (goodIn_of _ (by decide +kernel)) ggX9_stone_X9_requireCell
set_option maxRecDepth 20000 in
theorem ggX9_stone_X9_requireRange : GoodIn wsX9_stone wsX9_requireRange := goodIn_ca (goodIn_r _ [10, 11, 12] (by decide +kernel) (by decide +kernel)) (goodIn_sub (fun _ h => List.mem_cons_of_mem _ (List.mem_append_left _ (List.mem_append_right _ h))) (by decide +kernel))
set_option maxRecDepth 20000 in
theorem gX9_stone_X9_requireRange : GoodIn wsX9_stone (va_wsS RX9 48 yX9_requireRange wsX9_requireRange) := goodIn_app (goodIn_of _ (by decide +kernel)) ggX9_stone_X9_requireRange
set_option maxRecDepth 20000 in
theorem ggX9_stone_X9_requireRoomForCraters : GoodIn wsX9_stone wsX9_requireRoomForCraters := goodIn_ca (goodIn_r _ [16, 17, 18, 19, 20, 21, 22, 23, 24, 25, 142, 143, 144, 145, 146, 147, 148, 149, 150] (by decide +kernel) (by decide +kernel)) (goodIn_sub (fun _ h => List.mem_cons_of_mem _ (List.mem_append_right _ h)) (by decide +kernel))
set_option maxRecDepth 20000 in
theorem gX9_stone_X9_requireRoomForCraters : GoodIn wsX9_stone (wsV RX9 62 RX9 yX9_requireRoomForCraters wsX9_requireRoomForCraters) := goodIn_app (goodIn_of _ (by decide +kernel)) ggX9_stone_X9_requireRoomForCraters
set_option maxRecDepth 20000 in
theorem ggX9_stone_X9_dropStone : GoodIn wsX9_stone wsX9_dropStone := goodIn_r _ [29, 30, 31, 32, 33, 19, 34, 35, 36, 37, 38, 39, 40, 41, 42, 43, 44, 45, 46, 47, 48, 49, 50, 51, 52, 53, 54, 55, 56, 57, 58, 59, 60, 61, 62, 20, 21, 22, 23, 24, 25, 63, 64, 65, 66, 67, 68, 69, 70, 71, 72, 73, 74, 75, 76, 77, 78, 79, 80, 81, 82, 83, 84, 85, 86, 87, 88, 89, 90, 91, 92, 93, 94, 95, 96, 97, 98, 99, 100, 101, 102, 103, 104, 105, 106, 107, 108, 109, 110, 111, 112, 113, 114, 115, 116, 117, 118, 119, 120, 121, 122, 123, 124, 125, 126, 127, 128, 129, 130, 131, 132, 133, 134, 135, 136, 137, 138, 139, 140, 141, 151, 152, 153, 154, 155, 156, 142, 143, 144, 145, 146, 147, 157, 148, 149, 150] (by decide +kernel) (by decide +kernel)
set_option maxRecDepth 20000 in
theorem gX9_stone_X9_dropStone : GoodIn wsX9_stone (wsV RX9 66 RX9 yX9_dropStone wsX9_dropStone) := goodIn_app (goodIn_of _ (by decide +kernel)) ggX9_stone_X9_dropStone
theorem dX9_stone_0 : decode cX9_stone 0 = .ok (.iload_n 1, 1) := by decide +kernel
theorem dX9_stone_1 : decode cX9_stone 1 = .ok (.iload_n 2, 1) := by decide +kernel
theorem dX9_stone_2 : decode cX9_stone 2 = .ok (.invokestatic 42, 3) := by decide +kernel
theorem dX9_stone_5 : decode cX9_stone 5 = .ok (.iload_n 3, 1) := by decide +kernel
theorem dX9_stone_6 : decode cX9_stone 6 = .ok (.i2l, 1) := by decide +kernel
theorem dX9_stone_7 : decode cX9_stone 7 = .ok (.lconst 1, 1) := by decide +kernel
theorem dX9_stone_8 : decode cX9_stone 8 = .ok (.ldc2_w 60, 3) := by decide +kernel
theorem dX9_stone_11 : decode cX9_stone 11 = .ok (.invokestatic 48, 3) := by decide +kernel
theorem dX9_stone_14 : decode cX9_stone 14 = .ok (.aload_n 0, 1) := by decide +kernel
theorem dX9_stone_15 : decode cX9_stone 15 = .ok (.iconst 1, 1) := by decide +kernel
theorem dX9_stone_16 : decode cX9_stone 16 = .ok (.invokevirtual 62, 3) := by decide +kernel
theorem dX9_stone_19 : decode cX9_stone 19 = .ok (.aload_n 0, 1) := by decide +kernel
theorem dX9_stone_20 : decode cX9_stone 20 = .ok (.iload_n 1, 1) := by decide +kernel
theorem dX9_stone_21 : decode cX9_stone 21 = .ok (.iload_n 2, 1) := by decide +kernel
theorem dX9_stone_22 : decode cX9_stone 22 = .ok (.iload_n 3, 1) := by decide +kernel
theorem dX9_stone_23 : decode cX9_stone 23 = .ok (.invokevirtual 66, 3) := by decide +kernel
theorem dX9_stone_26 : decode cX9_stone 26 = .ok (.ireturn, 1) := by decide +kernel
set_option maxRecDepth 20000 in
theorem ggX9_draw_X9_requireRange : GoodIn wsX9_draw wsX9_requireRange := goodIn_ca (goodIn_r _ [6, 7, 8] (by decide +kernel) (by decide +kernel)) (goodIn_sub (fun _ h => List.mem_cons_of_mem _ (List.mem_append_right _ h)) (by decide +kernel))
set_option maxRecDepth 20000 in
theorem gX9_draw_X9_requireRange : GoodIn wsX9_draw (va_wsS RX9 48 yX9_requireRange wsX9_requireRange) := goodIn_app (goodIn_of _ (by decide +kernel)) ggX9_draw_X9_requireRange
theorem dX9_draw_0 : decode cX9_draw 0 = .ok (.iload_n 1, 1) := by decide +kernel
theorem dX9_draw_1 : decode cX9_draw 1 = .ok (.i2l, 1) := by decide +kernel
theorem dX9_draw_2 : decode cX9_draw 2 = .ok (.lconst 1, 1) := by decide +kernel
theorem dX9_draw_3 : decode cX9_draw 3 = .ok (.ldc2_w 70, 3) := by decide +kernel
theorem dX9_draw_6 : decode cX9_draw 6 = .ok (.invokestatic 48, 3) := by decide +kernel
theorem dX9_draw_9 : decode cX9_draw 9 = .ok (.aload_n 0, 1) := by decide +kernel
theorem dX9_draw_10 : decode cX9_draw 10 = .ok (.getfield 38, 3) := by decide +kernel
theorem dX9_draw_13 : decode cX9_draw 13 = .ok (.istore_n 2, 1) := by decide +kernel
theorem dX9_draw_14 : decode cX9_draw 14 = .ok (.aload_n 0, 1) := by decide +kernel
theorem dX9_draw_15 : decode cX9_draw 15 = .ok (.iload_n 1, 1) := by decide +kernel
theorem dX9_draw_16 : decode cX9_draw 16 = .ok (.putfield 38, 3) := by decide +kernel
theorem dX9_draw_19 : decode cX9_draw 19 = .ok (.iload_n 2, 1) := by decide +kernel
theorem dX9_draw_20 : decode cX9_draw 20 = .ok (.ireturn, 1) := by decide +kernel
set_option maxRecDepth 20000 in
theorem ggX9_rain_X9_requireRange : GoodIn wsX9_rain wsX9_requireRange := goodIn_ca (goodIn_r _ [5, 6, 7] (by decide +kernel) (by decide +kernel)) (goodIn_sub (fun _ h => List.mem_cons_of_mem _ (List.mem_append_left _ (List.mem_append_right _ h))) (by decide +kernel))
set_option maxRecDepth 20000 in
theorem gX9_rain_X9_requireRange : GoodIn wsX9_rain (va_wsS RX9 48 yX9_requireRange wsX9_requireRange) := goodIn_app (goodIn_of _ (by decide +kernel)) ggX9_rain_X9_requireRange
set_option maxRecDepth 20000 in
theorem ggX9_rain_X9_requireRoomForCraters : GoodIn wsX9_rain wsX9_requireRoomForCraters := goodIn_ca (goodIn_r _ [11, 12, 13, 14, 15, 16, 17, 18, 19, 20, 151, 152, 153, 154, 155, 156, 157, 158, 159] (by decide +kernel) (by decide +kernel)) (goodIn_sub (fun _ h => List.mem_cons_of_mem _ (List.mem_append_right _ h)) (by decide +kernel))
set_option maxRecDepth 20000 in
theorem gX9_rain_X9_requireRoomForCraters : GoodIn wsX9_rain (wsV RX9 62 RX9 yX9_requireRoomForCraters wsX9_requireRoomForCraters) := goodIn_app (goodIn_of _ (by decide +kernel)) ggX9_rain_X9_requireRoomForCraters
set_option maxRecDepth 20000 in
theorem ggX9_rain_X9_drawNext : GoodIn wsX9_rain wsX9_drawNext := goodIn_r _ [24, 25, 26, 151, 152, 153, 154, 155, 156] (by decide +kernel) (by decide +kernel)
set_option maxRecDepth 20000 in
theorem gX9_rain_X9_drawNext : GoodIn wsX9_rain (wsV RX9 74 RX9 yX9_drawNext wsX9_drawNext) := goodIn_app (goodIn_of _ (by decide +kernel)) ggX9_rain_X9_drawNext
set_option maxRecDepth 20000 in
theorem ggX9_rain_X9_sizeDrawn : GoodIn wsX9_rain wsX9_sizeDrawn := goodIn_r _ [29] (by decide +kernel) (by decide +kernel)
set_option maxRecDepth 20000 in
theorem gX9_rain_X9_sizeDrawn : GoodIn wsX9_rain (va_wsS RX9 78 yX9_sizeDrawn wsX9_sizeDrawn) := goodIn_app (goodIn_of _ (by decide +kernel)) ggX9_rain_X9_sizeDrawn
set_option maxRecDepth 20000 in
theorem ggX9_rain_X9_dropStone : GoodIn wsX9_rain wsX9_dropStone := goodIn_r _ [33, 34, 35, 36, 37, 14, 38, 39, 40, 41, 42, 43, 44, 45, 46, 47, 48, 49, 50, 51, 52, 53, 54, 55, 56, 57, 58, 59, 60, 61, 62, 63, 64, 65, 66, 15, 16, 17, 18, 19, 20, 67, 68, 69, 70, 71, 72, 73, 74, 75, 76, 77, 78, 79, 80, 81, 82, 83, 84, 85, 86, 87, 88, 89, 90, 91, 92, 93, 94, 95, 96, 97, 98, 99, 100, 101, 102, 103, 104, 105, 106, 107, 108, 109, 110, 111, 112, 113, 114, 115, 116, 117, 118, 119, 120, 121, 122, 123, 124, 125, 126, 127, 128, 129, 130, 131, 132, 133, 134, 135, 136, 137, 138, 139, 140, 141, 142, 143, 144, 145, 160, 161, 162, 163, 164, 165, 151, 152, 153, 154, 155, 156, 166, 157, 158, 159] (by decide +kernel) (by decide +kernel)
set_option maxRecDepth 20000 in
theorem gX9_rain_X9_dropStone : GoodIn wsX9_rain (wsV RX9 66 RX9 yX9_dropStone wsX9_dropStone) := goodIn_app (goodIn_of _ (by decide +kernel)) ggX9_rain_X9_dropStone
set_option maxRecDepth 20000 in
theorem ggX9_rain_X9_countLeft : GoodIn wsX9_rain wsX9_countLeft := goodIn_r _ [149, 14, 38, 150, 15, 16, 17, 18, 19, 20, 67, 68, 69, 70, 71, 72, 73, 74, 75, 76, 77, 78, 79, 80, 81, 82, 83, 151, 152, 153, 154, 155, 156, 160, 161, 162, 163, 164, 165, 157, 158, 159] (by decide +kernel) (by decide +kernel)
set_option maxRecDepth 20000 in
theorem gX9_rain_X9_countLeft : GoodIn wsX9_rain (wsV RX9 82 RX9 yX9_countLeft wsX9_countLeft) := goodIn_app (goodIn_of _ (by decide +kernel)) ggX9_rain_X9_countLeft
theorem dX9_rain_0 : decode cX9_rain 0 = .ok (.iload_n 1, 1) := by decide +kernel
theorem dX9_rain_1 : decode cX9_rain 1 = .ok (.i2l, 1) := by decide +kernel
theorem dX9_rain_2 : decode cX9_rain 2 = .ok (.lconst 1, 1) := by decide +kernel
theorem dX9_rain_3 : decode cX9_rain 3 = .ok (.ldc2_w 72, 3) := by decide +kernel
theorem dX9_rain_6 : decode cX9_rain 6 = .ok (.invokestatic 48, 3) := by decide +kernel
theorem dX9_rain_9 : decode cX9_rain 9 = .ok (.aload_n 0, 1) := by decide +kernel
theorem dX9_rain_10 : decode cX9_rain 10 = .ok (.iload_n 1, 1) := by decide +kernel
theorem dX9_rain_11 : decode cX9_rain 11 = .ok (.invokevirtual 62, 3) := by decide +kernel
theorem dX9_rain_14 : decode cX9_rain 14 = .ok (.iconst 0, 1) := by decide +kernel
theorem dX9_rain_15 : decode cX9_rain 15 = .ok (.istore_n 2, 1) := by decide +kernel
theorem dX9_rain_16 : decode cX9_rain 16 = .ok (.iload_n 2, 1) := by decide +kernel
theorem dX9_rain_17 : decode cX9_rain 17 = .ok (.iload_n 1, 1) := by decide +kernel
theorem dX9_rain_18 : decode cX9_rain 18 = .ok (.if_icmp .ge 48, 3) := by decide +kernel
theorem dX9_rain_21 : decode cX9_rain 21 = .ok (.aload_n 0, 1) := by decide +kernel
theorem dX9_rain_22 : decode cX9_rain 22 = .ok (.invokevirtual 74, 3) := by decide +kernel
theorem dX9_rain_25 : decode cX9_rain 25 = .ok (.bipush 16, 2) := by decide +kernel
theorem dX9_rain_27 : decode cX9_rain 27 = .ok (.irem, 1) := by decide +kernel
theorem dX9_rain_28 : decode cX9_rain 28 = .ok (.istore_n 3, 1) := by decide +kernel
theorem dX9_rain_29 : decode cX9_rain 29 = .ok (.aload_n 0, 1) := by decide +kernel
theorem dX9_rain_30 : decode cX9_rain 30 = .ok (.invokevirtual 74, 3) := by decide +kernel
theorem dX9_rain_33 : decode cX9_rain 33 = .ok (.bipush 16, 2) := by decide +kernel
theorem dX9_rain_35 : decode cX9_rain 35 = .ok (.irem, 1) := by decide +kernel
theorem dX9_rain_36 : decode cX9_rain 36 = .ok (.istore 4, 2) := by decide +kernel
theorem dX9_rain_38 : decode cX9_rain 38 = .ok (.aload_n 0, 1) := by decide +kernel
theorem dX9_rain_39 : decode cX9_rain 39 = .ok (.invokevirtual 74, 3) := by decide +kernel
theorem dX9_rain_42 : decode cX9_rain 42 = .ok (.bipush 64, 2) := by decide +kernel
theorem dX9_rain_44 : decode cX9_rain 44 = .ok (.irem, 1) := by decide +kernel
theorem dX9_rain_45 : decode cX9_rain 45 = .ok (.invokestatic 78, 3) := by decide +kernel
theorem dX9_rain_48 : decode cX9_rain 48 = .ok (.istore 5, 2) := by decide +kernel
theorem dX9_rain_50 : decode cX9_rain 50 = .ok (.aload_n 0, 1) := by decide +kernel
theorem dX9_rain_51 : decode cX9_rain 51 = .ok (.iload_n 3, 1) := by decide +kernel
theorem dX9_rain_52 : decode cX9_rain 52 = .ok (.iload 4, 2) := by decide +kernel
theorem dX9_rain_54 : decode cX9_rain 54 = .ok (.iload 5, 2) := by decide +kernel
theorem dX9_rain_56 : decode cX9_rain 56 = .ok (.invokevirtual 66, 3) := by decide +kernel
theorem dX9_rain_59 : decode cX9_rain 59 = .ok (.pop, 1) := by decide +kernel
theorem dX9_rain_60 : decode cX9_rain 60 = .ok (.iinc 2 1, 3) := by decide +kernel
theorem dX9_rain_63 : decode cX9_rain 63 = .ok (.goto (-47), 3) := by decide +kernel
theorem dX9_rain_66 : decode cX9_rain 66 = .ok (.aload_n 0, 1) := by decide +kernel
theorem dX9_rain_67 : decode cX9_rain 67 = .ok (.invokevirtual 82, 3) := by decide +kernel
theorem dX9_rain_70 : decode cX9_rain 70 = .ok (.ireturn, 1) := by decide +kernel
set_option maxRecDepth 20000 in
theorem ggX9_flood_X9_requireCell : GoodIn wsX9_flood wsX9_requireCell := goodIn_ca (goodIn_r _ [12, 13, 14] (by decide +kernel) (by decide +kernel)) (goodIn_sub (fun _ h => List.mem_cons_of_mem _ (List.mem_append_left _ (List.mem_append_left _ (List.mem_append_right _ h)))) (by decide +kernel))
set_option maxRecDepth 20000 in
theorem gX9_flood_X9_requireCell : GoodIn wsX9_flood (va_wsS RX9 42 yX9_requireCell wsX9_requireCell) := goodIn_app (goodIn_of _ (by decide +kernel)) ggX9_flood_X9_requireCell
set_option maxRecDepth 20000 in
theorem ggX9_flood_X9_requireRange : GoodIn wsX9_flood wsX9_requireRange := goodIn_ca (goodIn_r _ [17, 18, 19] (by decide +kernel) (by decide +kernel)) (goodIn_sub (fun _ h => List.mem_cons_of_mem _ (List.mem_append_left _ (List.mem_append_right _ h))) (by decide +kernel))
set_option maxRecDepth 20000 in
theorem gX9_flood_X9_requireRange : GoodIn wsX9_flood (va_wsS RX9 48 yX9_requireRange wsX9_requireRange) := goodIn_app (goodIn_of _ (by decide +kernel)) ggX9_flood_X9_requireRange
set_option maxRecDepth 20000 in
theorem ggX9_flood_X9_requireOrder : GoodIn wsX9_flood wsX9_requireOrder := goodIn_ca (goodIn_r _ [22, 18, 19] (by decide +kernel) (by decide +kernel)) (goodIn_sub (fun _ h => List.mem_cons_of_mem _ (List.mem_append_left _ (List.mem_append_right _ h))) (by decide +kernel))
set_option maxRecDepth 20000 in
theorem gX9_flood_X9_requireOrder : GoodIn wsX9_flood (va_wsS RX9 87 yX9_requireOrder wsX9_requireOrder) := goodIn_app (goodIn_of _ (by decide +kernel)) ggX9_flood_X9_requireOrder
set_option maxRecDepth 20000 in
theorem ggX9_flood_X9_requireRoomForLessening : GoodIn wsX9_flood wsX9_requireRoomForLessening := goodIn_ca (goodIn_r _ [26, 27, 28, 29, 30, 31, 32, 33, 34, 35, 167, 168, 169, 170, 171, 172, 177, 178, 179] (by decide +kernel) (by decide +kernel)) (goodIn_sub (fun _ h => List.mem_cons_of_mem _ (List.mem_append_right _ h)) (by decide +kernel))
set_option maxRecDepth 20000 in
theorem gX9_flood_X9_requireRoomForLessening : GoodIn wsX9_flood (wsV RX9 91 RX9 yX9_requireRoomForLessening wsX9_requireRoomForLessening) := goodIn_app (goodIn_of _ (by decide +kernel)) ggX9_flood_X9_requireRoomForLessening
set_option maxRecDepth 20000 in
theorem ggX9_flood_Jx4a65c_size_8abf5 : GoodIn wsX9_flood wsJx4a65c_size_8abf5 := goodIn_r _ [34, 35, 177, 178, 179] (by decide +kernel) (by decide +kernel)
set_option maxRecDepth 20000 in
theorem gX9_flood_Jx4a65c_size_8abf5 : GoodIn wsX9_flood (wsV RX9 96 RJx4a65c yJx4a65c_size_8abf5 wsJx4a65c_size_8abf5) := goodIn_app (goodIn_of _ (by decide +kernel)) ggX9_flood_Jx4a65c_size_8abf5
set_option maxRecDepth 20000 in
theorem ggX9_flood_X4_init : GoodIn wsX9_flood wsX4_init := goodIn_r _ [38, 39, 40, 41, 42, 43, 44, 45, 173, 174, 175, 176] (by decide +kernel) (by decide +kernel)
set_option maxRecDepth 20000 in
theorem gX9_flood_X4_init : GoodIn wsX9_flood (wsX4_init) := ggX9_flood_X4_init
set_option maxRecDepth 20000 in
theorem ggX9_flood_X5_init : GoodIn wsX9_flood wsX5_init := goodIn_r _ [48, 49, 50, 51, 52, 53, 54, 55, 40, 41, 56, 164, 165, 166, 180, 181, 182] (by decide +kernel) (by decide +kernel)
set_option maxRecDepth 20000 in
theorem gX9_flood_X5_init : GoodIn wsX9_flood (wsX5_init) := ggX9_flood_X5_init
set_option maxRecDepth 20000 in
theorem ggX9_flood_X9_lessenAll : GoodIn wsX9_flood wsX9_lessenAll := goodIn_r _ [60, 29, 5, 61, 62, 63, 64, 33, 65, 66, 67, 68, 35, 69, 70, 71, 72, 73, 74, 75, 76, 77, 78, 79, 80, 81, 82, 83, 84, 85, 86, 87, 88, 89, 90, 91, 92, 93, 94, 95, 96, 97, 98, 99, 100, 101, 102, 103, 104, 105, 106, 107, 108, 109, 110, 111, 112, 113, 114, 115, 30, 31, 32, 34, 116, 117, 118, 119, 120, 121, 122, 123, 124, 125, 126, 127, 128, 129, 130, 131, 132, 133, 134, 135, 4, 136, 49, 137, 138, 50, 139, 140, 141, 8, 142, 42, 44, 43, 45, 143, 144, 145, 146, 147, 148, 149, 150, 151, 152, 153, 154, 155, 156, 157, 158, 159, 160, 161, 162, 163, 167, 168, 169, 170, 171, 172, 177, 178, 179, 164, 165, 166, 183, 184, 185, 186, 187, 188, 173, 174, 175, 176, 180, 181, 182, 189] (by decide +kernel) (by decide +kernel)
set_option maxRecDepth 20000 in
theorem gX9_flood_X9_lessenAll : GoodIn wsX9_flood (wsV RX9 106 RX9 yX9_lessenAll wsX9_lessenAll) := goodIn_app (goodIn_of _ (by decide +kernel)) ggX9_flood_X9_lessenAll
theorem dX9_flood_0 : decode cX9_flood 0 = .ok (.iload_n 1, 1) := by decide +kernel
theorem dX9_flood_1 : decode cX9_flood 1 = .ok (.iload_n 2, 1) := by decide +kernel
theorem dX9_flood_2 : decode cX9_flood 2 = .ok (.invokestatic 42, 3) := by decide +kernel
theorem dX9_flood_5 : decode cX9_flood 5 = .ok (.iload_n 3, 1) := by decide +kernel
theorem dX9_flood_6 : decode cX9_flood 6 = .ok (.iload 4, 2) := by decide +kernel
theorem dX9_flood_8 : decode cX9_flood 8 = .ok (.invokestatic 42, 3) := by decide +kernel
theorem dX9_flood_11 : decode cX9_flood 11 = .ok (.iload 5, 2) := by decide +kernel
theorem dX9_flood_13 : decode cX9_flood 13 = .ok (.i2l, 1) := by decide +kernel
theorem dX9_flood_14 : decode cX9_flood 14 = .ok (.lconst 1, 1) := by decide +kernel
theorem dX9_flood_15 : decode cX9_flood 15 = .ok (.ldc2_w 85, 3) := by decide +kernel
theorem dX9_flood_18 : decode cX9_flood 18 = .ok (.invokestatic 48, 3) := by decide +kernel
theorem dX9_flood_21 : decode cX9_flood 21 = .ok (.iload_n 1, 1) := by decide +kernel
theorem dX9_flood_22 : decode cX9_flood 22 = .ok (.iload_n 2, 1) := by decide +kernel
theorem dX9_flood_23 : decode cX9_flood 23 = .ok (.iload_n 3, 1) := by decide +kernel
theorem dX9_flood_24 : decode cX9_flood 24 = .ok (.iload 4, 2) := by decide +kernel
theorem dX9_flood_26 : decode cX9_flood 26 = .ok (.invokestatic 87, 3) := by decide +kernel
theorem dX9_flood_29 : decode cX9_flood 29 = .ok (.aload_n 0, 1) := by decide +kernel
theorem dX9_flood_30 : decode cX9_flood 30 = .ok (.invokevirtual 91, 3) := by decide +kernel
theorem dX9_flood_33 : decode cX9_flood 33 = .ok (.aload_n 0, 1) := by decide +kernel
theorem dX9_flood_34 : decode cX9_flood 34 = .ok (.new 94, 3) := by decide +kernel
theorem dX9_flood_37 : decode cX9_flood 37 = .ok (.dup, 1) := by decide +kernel
theorem dX9_flood_38 : decode cX9_flood 38 = .ok (.aload_n 0, 1) := by decide +kernel
theorem dX9_flood_39 : decode cX9_flood 39 = .ok (.getfield 21, 3) := by decide +kernel
theorem dX9_flood_42 : decode cX9_flood 42 = .ok (.invokevirtual 96, 3) := by decide +kernel
theorem dX9_flood_45 : decode cX9_flood 45 = .ok (.new 99, 3) := by decide +kernel
theorem dX9_flood_48 : decode cX9_flood 48 = .ok (.dup, 1) := by decide +kernel
theorem dX9_flood_49 : decode cX9_flood 49 = .ok (.iload_n 1, 1) := by decide +kernel
theorem dX9_flood_50 : decode cX9_flood 50 = .ok (.iload_n 2, 1) := by decide +kernel
theorem dX9_flood_51 : decode cX9_flood 51 = .ok (.iload_n 3, 1) := by decide +kernel
theorem dX9_flood_52 : decode cX9_flood 52 = .ok (.iload 4, 2) := by decide +kernel
theorem dX9_flood_54 : decode cX9_flood 54 = .ok (.invokespecial 101, 3) := by decide +kernel
theorem dX9_flood_57 : decode cX9_flood 57 = .ok (.iload 5, 2) := by decide +kernel
theorem dX9_flood_59 : decode cX9_flood 59 = .ok (.invokespecial 103, 3) := by decide +kernel
theorem dX9_flood_62 : decode cX9_flood 62 = .ok (.invokevirtual 106, 3) := by decide +kernel
theorem dX9_flood_65 : decode cX9_flood 65 = .ok (.ireturn, 1) := by decide +kernel
set_option maxRecDepth 20000 in
theorem ggX9_soften_X9_requireRange : GoodIn wsX9_soften wsX9_requireRange := goodIn_ca (goodIn_r _ [10, 11, 12] (by decide +kernel) (by decide +kernel)) (goodIn_sub (fun _ h => List.mem_cons_of_mem _ (List.mem_append_left _ (List.mem_append_right _ h))) (by decide +kernel))
set_option maxRecDepth 20000 in
theorem gX9_soften_X9_requireRange : GoodIn wsX9_soften (va_wsS RX9 48 yX9_requireRange wsX9_requireRange) := goodIn_app (goodIn_of _ (by decide +kernel)) ggX9_soften_X9_requireRange
set_option maxRecDepth 20000 in
theorem ggX9_soften_X9_requireRoomForLessening : GoodIn wsX9_soften wsX9_requireRoomForLessening := goodIn_ca (goodIn_r _ [16, 17, 18, 19, 20, 21, 22, 23, 24, 25, 170, 171, 172, 173, 174, 175, 176, 177, 178] (by decide +kernel) (by decide +kernel)) (goodIn_sub (fun _ h => List.mem_cons_of_mem _ (List.mem_append_right _ h)) (by decide +kernel))
set_option maxRecDepth 20000 in
theorem gX9_soften_X9_requireRoomForLessening : GoodIn wsX9_soften (wsV RX9 91 RX9 yX9_requireRoomForLessening wsX9_requireRoomForLessening) := goodIn_app (goodIn_of _ (by decide +kernel)) ggX9_soften_X9_requireRoomForLessening
set_option maxRecDepth 20000 in
theorem ggX9_soften_Jx4a65c_size_8abf5 : GoodIn wsX9_soften wsJx4a65c_size_8abf5 := goodIn_r _ [24, 25, 176, 177, 178] (by decide +kernel) (by decide +kernel)
set_option maxRecDepth 20000 in
theorem gX9_soften_Jx4a65c_size_8abf5 : GoodIn wsX9_soften (wsV RX9 96 RJx4a65c yJx4a65c_size_8abf5 wsJx4a65c_size_8abf5) := goodIn_app (goodIn_of _ (by decide +kernel)) ggX9_soften_Jx4a65c_size_8abf5
set_option maxRecDepth 20000 in
theorem ggX9_soften_X6_copy : GoodIn wsX9_soften wsX6_copy := goodIn_r _ [30, 31, 32, 29, 33, 34, 35, 36, 37, 38, 39, 40, 41, 42, 43, 44, 45, 179] (by decide +kernel) (by decide +kernel)
set_option maxRecDepth 20000 in
theorem gX9_soften_X6_copy : GoodIn wsX9_soften (wsV RX9 112 RX6 yX6_copy wsX6_copy) := goodIn_app (goodIn_of _ (by decide +kernel)) ggX9_soften_X6_copy
set_option maxRecDepth 20000 in
theorem ggX9_soften_X8_init : GoodIn wsX9_soften wsX8_init := goodIn_r _ [48, 49, 50, 51, 52, 53, 54, 55, 44, 45, 56, 167, 168, 169, 180, 181, 182] (by decide +kernel) (by decide +kernel)
set_option maxRecDepth 20000 in
theorem gX9_soften_X8_init : GoodIn wsX9_soften (wsX8_init) := ggX9_soften_X8_init
set_option maxRecDepth 20000 in
theorem ggX9_soften_X9_lessenAll : GoodIn wsX9_soften wsX9_lessenAll := goodIn_r _ [60, 19, 5, 61, 62, 63, 64, 23, 65, 66, 67, 68, 25, 69, 70, 71, 72, 73, 74, 75, 76, 77, 78, 79, 80, 81, 82, 83, 84, 85, 86, 87, 88, 89, 90, 91, 92, 93, 94, 95, 96, 97, 98, 99, 100, 101, 102, 103, 104, 105, 106, 107, 108, 109, 110, 111, 112, 113, 114, 115, 20, 21, 22, 24, 116, 117, 118, 119, 120, 121, 122, 123, 124, 125, 126, 127, 128, 129, 130, 131, 132, 133, 134, 135, 136, 137, 138, 139, 140, 141, 142, 143, 144, 145, 146, 147, 148, 149, 150, 151, 152, 4, 153, 49, 154, 155, 50, 156, 157, 158, 29, 159, 33, 160, 161, 162, 163, 164, 165, 166, 170, 171, 172, 173, 174, 175, 176, 177, 178, 180, 181, 182, 183, 184, 185, 186, 187, 188, 189, 190, 191, 192, 167, 168, 169, 179] (by decide +kernel) (by decide +kernel)
set_option maxRecDepth 20000 in
theorem gX9_soften_X9_lessenAll : GoodIn wsX9_soften (wsV RX9 106 RX9 yX9_lessenAll wsX9_lessenAll) := goodIn_app (goodIn_of _ (by decide +kernel)) ggX9_soften_X9_lessenAll
theorem dX9_soften_0 : decode cX9_soften 0 = .ok (.iload_n 1, 1) := by decide +kernel
theorem dX9_soften_1 : decode cX9_soften 1 = .ok (.i2l, 1) := by decide +kernel
theorem dX9_soften_2 : decode cX9_soften 2 = .ok (.lconst 1, 1) := by decide +kernel
theorem dX9_soften_3 : decode cX9_soften 3 = .ok (.ldc2_w 85, 3) := by decide +kernel
theorem dX9_soften_6 : decode cX9_soften 6 = .ok (.invokestatic 48, 3) := by decide +kernel
theorem dX9_soften_9 : decode cX9_soften 9 = .ok (.aload_n 0, 1) := by decide +kernel
theorem dX9_soften_10 : decode cX9_soften 10 = .ok (.invokevirtual 91, 3) := by decide +kernel
theorem dX9_soften_13 : decode cX9_soften 13 = .ok (.aload_n 0, 1) := by decide +kernel
theorem dX9_soften_14 : decode cX9_soften 14 = .ok (.new 110, 3) := by decide +kernel
theorem dX9_soften_17 : decode cX9_soften 17 = .ok (.dup, 1) := by decide +kernel
theorem dX9_soften_18 : decode cX9_soften 18 = .ok (.aload_n 0, 1) := by decide +kernel
theorem dX9_soften_19 : decode cX9_soften 19 = .ok (.getfield 21, 3) := by decide +kernel
theorem dX9_soften_22 : decode cX9_soften 22 = .ok (.invokevirtual 96, 3) := by decide +kernel
theorem dX9_soften_25 : decode cX9_soften 25 = .ok (.aload_n 0, 1) := by decide +kernel
theorem dX9_soften_26 : decode cX9_soften 26 = .ok (.getfield 14, 3) := by decide +kernel
theorem dX9_soften_29 : decode cX9_soften 29 = .ok (.invokevirtual 112, 3) := by decide +kernel
theorem dX9_soften_32 : decode cX9_soften 32 = .ok (.iload_n 1, 1) := by decide +kernel
theorem dX9_soften_33 : decode cX9_soften 33 = .ok (.invokespecial 116, 3) := by decide +kernel
theorem dX9_soften_36 : decode cX9_soften 36 = .ok (.invokevirtual 106, 3) := by decide +kernel
theorem dX9_soften_39 : decode cX9_soften 39 = .ok (.ireturn, 1) := by decide +kernel
set_option maxRecDepth 20000 in
theorem ggX9_eye_X9_requireRange : GoodIn wsX9_eye wsX9_requireRange := goodIn_ca (goodIn_r _ [11, 12, 13] (by decide +kernel) (by decide +kernel)) (goodIn_sub (fun _ h => List.mem_cons_of_mem _ (List.mem_append_right _ h)) (by decide +kernel))
set_option maxRecDepth 20000 in
theorem gX9_eye_X9_requireRange : GoodIn wsX9_eye (va_wsS RX9 48 yX9_requireRange wsX9_requireRange) := goodIn_app (goodIn_of _ (by decide +kernel)) ggX9_eye_X9_requireRange
set_option maxRecDepth 20000 in
theorem ggX9_eye_Jx4a65c_size_8abf5 : GoodIn wsX9_eye wsJx4a65c_size_8abf5 := goodIn_r _ [18, 19, 88, 89, 90] (by decide +kernel) (by decide +kernel)
set_option maxRecDepth 20000 in
theorem gX9_eye_Jx4a65c_size_8abf5 : GoodIn wsX9_eye (wsV RX9 96 RJx4a65c yJx4a65c_size_8abf5 wsJx4a65c_size_8abf5) := goodIn_app (goodIn_of _ (by decide +kernel)) ggX9_eye_Jx4a65c_size_8abf5
set_option maxRecDepth 20000 in
theorem ggX9_eye_X3_init : GoodIn wsX9_eye wsX3_init := goodIn_r _ [22, 23, 24, 25, 26, 87] (by decide +kernel) (by decide +kernel)
set_option maxRecDepth 20000 in
theorem gX9_eye_X3_init : GoodIn wsX9_eye (wsX3_init) := ggX9_eye_X3_init
set_option maxRecDepth 20000 in
theorem ggX9_eye_Jx4a65c_add_9ea2d : GoodIn wsX9_eye wsJx4a65c_add_9ea2d := goodIn_r _ [30, 31, 32, 33, 19, 34, 35, 36, 17, 37, 38, 39, 40, 41, 42, 43, 44, 45, 46, 47, 48, 49, 50, 51, 52, 53, 54, 55, 56, 57, 58, 59, 60, 61, 62, 63, 64, 65, 66, 67, 68, 69, 70, 71, 72, 73, 74, 75, 76, 77, 78, 79, 80, 88, 89, 90] (by decide +kernel) (by decide +kernel)
set_option maxRecDepth 20000 in
theorem gX9_eye_Jx4a65c_add_9ea2d : GoodIn wsX9_eye (wsV RX9 132 RJx4a65c yJx4a65c_add_9ea2d wsJx4a65c_add_9ea2d) := goodIn_app (goodIn_of _ (by decide +kernel)) ggX9_eye_Jx4a65c_add_9ea2d
theorem dX9_eye_0 : decode cX9_eye 0 = .ok (.iload_n 1, 1) := by decide +kernel
theorem dX9_eye_1 : decode cX9_eye 1 = .ok (.i2l, 1) := by decide +kernel
theorem dX9_eye_2 : decode cX9_eye 2 = .ok (.lconst 1, 1) := by decide +kernel
theorem dX9_eye_3 : decode cX9_eye 3 = .ok (.ldc2_w 119, 3) := by decide +kernel
theorem dX9_eye_6 : decode cX9_eye 6 = .ok (.invokestatic 48, 3) := by decide +kernel
theorem dX9_eye_9 : decode cX9_eye 9 = .ok (.aload_n 0, 1) := by decide +kernel
theorem dX9_eye_10 : decode cX9_eye 10 = .ok (.getfield 28, 3) := by decide +kernel
theorem dX9_eye_13 : decode cX9_eye 13 = .ok (.invokevirtual 96, 3) := by decide +kernel
theorem dX9_eye_16 : decode cX9_eye 16 = .ok (.bipush 6, 2) := by decide +kernel
theorem dX9_eye_18 : decode cX9_eye 18 = .ok (.if_icmp .lt 13, 3) := by decide +kernel
theorem dX9_eye_21 : decode cX9_eye 21 = .ok (.new 121, 3) := by decide +kernel
theorem dX9_eye_24 : decode cX9_eye 24 = .ok (.dup, 1) := by decide +kernel
theorem dX9_eye_25 : decode cX9_eye 25 = .ok (.ldc 123, 2) := by decide +kernel
theorem dX9_eye_27 : decode cX9_eye 27 = .ok (.invokespecial 125, 3) := by decide +kernel
theorem dX9_eye_30 : decode cX9_eye 30 = .ok (.athrow, 1) := by decide +kernel
theorem dX9_eye_31 : decode cX9_eye 31 = .ok (.aload_n 0, 1) := by decide +kernel
theorem dX9_eye_32 : decode cX9_eye 32 = .ok (.getfield 28, 3) := by decide +kernel
theorem dX9_eye_35 : decode cX9_eye 35 = .ok (.new 128, 3) := by decide +kernel
theorem dX9_eye_38 : decode cX9_eye 38 = .ok (.dup, 1) := by decide +kernel
theorem dX9_eye_39 : decode cX9_eye 39 = .ok (.iload_n 1, 1) := by decide +kernel
theorem dX9_eye_40 : decode cX9_eye 40 = .ok (.invokespecial 130, 3) := by decide +kernel
theorem dX9_eye_43 : decode cX9_eye 43 = .ok (.invokevirtual 132, 3) := by decide +kernel
theorem dX9_eye_46 : decode cX9_eye 46 = .ok (.pop, 1) := by decide +kernel
theorem dX9_eye_47 : decode cX9_eye 47 = .ok (.aload_n 0, 1) := by decide +kernel
theorem dX9_eye_48 : decode cX9_eye 48 = .ok (.getfield 28, 3) := by decide +kernel
theorem dX9_eye_51 : decode cX9_eye 51 = .ok (.invokevirtual 96, 3) := by decide +kernel
theorem dX9_eye_54 : decode cX9_eye 54 = .ok (.iconst 1, 1) := by decide +kernel
theorem dX9_eye_55 : decode cX9_eye 55 = .ok (.isub, 1) := by decide +kernel
theorem dX9_eye_56 : decode cX9_eye 56 = .ok (.ireturn, 1) := by decide +kernel
set_option maxRecDepth 20000 in
theorem ggX9_anchor_X9_requireRange : GoodIn wsX9_anchor wsX9_requireRange := goodIn_ca (goodIn_r _ [9, 10, 11] (by decide +kernel) (by decide +kernel)) (goodIn_sub (fun _ h => List.mem_cons_of_mem _ (List.mem_append_right _ h)) (by decide +kernel))
set_option maxRecDepth 20000 in
theorem gX9_anchor_X9_requireRange : GoodIn wsX9_anchor (va_wsS RX9 48 yX9_requireRange wsX9_requireRange) := goodIn_app (goodIn_of _ (by decide +kernel)) ggX9_anchor_X9_requireRange
set_option maxRecDepth 20000 in
theorem ggX9_anchor_X2_canTake : GoodIn wsX9_anchor wsX2_canTake := goodIn_r _ [16, 17, 18, 19, 20, 21, 22, 23, 24, 25, 26, 27, 28, 29, 30, 31, 32, 33, 34, 35, 36, 37, 38, 39, 40, 41, 42, 43, 118, 119, 120, 121, 122, 123] (by decide +kernel) (by decide +kernel)
set_option maxRecDepth 20000 in
theorem gX9_anchor_X2_canTake : GoodIn wsX9_anchor (wsV RX9 140 RX2 yX2_canTake wsX2_canTake) := goodIn_app (goodIn_of _ (by decide +kernel)) ggX9_anchor_X2_canTake
set_option maxRecDepth 20000 in
theorem ggX9_anchor_X2_take : GoodIn wsX9_anchor wsX2_take := goodIn_r _ [47, 17, 48, 49, 50, 51, 52, 53, 54, 55, 56, 57, 58, 59, 60, 61, 24, 62, 63, 64, 43, 26, 65, 66, 67, 68, 69, 70, 71, 72, 73, 74, 75, 76, 77, 78, 79, 80, 81, 82, 83, 84, 85, 86, 87, 88, 89, 90, 91, 92, 93, 94, 95, 96, 97, 98, 99, 100, 101, 102, 103, 104, 105, 106, 107, 108, 109, 110, 111, 21, 22, 23, 25, 118, 119, 120, 121, 122, 123] (by decide +kernel) (by decide +kernel)
set_option maxRecDepth 20000 in
theorem gX9_anchor_X2_take : GoodIn wsX9_anchor (wsV RX9 146 RX2 yX2_take wsX2_take) := goodIn_app (goodIn_of _ (by decide +kernel)) ggX9_anchor_X2_take
theorem dX9_anchor_0 : decode cX9_anchor 0 = .ok (.lload_n 1, 1) := by decide +kernel
theorem dX9_anchor_1 : decode cX9_anchor 1 = .ok (.lconst 1, 1) := by decide +kernel
theorem dX9_anchor_2 : decode cX9_anchor 2 = .ok (.ldc2_w 136, 3) := by decide +kernel
theorem dX9_anchor_5 : decode cX9_anchor 5 = .ok (.invokestatic 48, 3) := by decide +kernel
theorem dX9_anchor_8 : decode cX9_anchor 8 = .ok (.lload_n 3, 1) := by decide +kernel
theorem dX9_anchor_9 : decode cX9_anchor 9 = .ok (.lconst 1, 1) := by decide +kernel
theorem dX9_anchor_10 : decode cX9_anchor 10 = .ok (.ldc2_w 138, 3) := by decide +kernel
theorem dX9_anchor_13 : decode cX9_anchor 13 = .ok (.invokestatic 48, 3) := by decide +kernel
theorem dX9_anchor_16 : decode cX9_anchor 16 = .ok (.aload_n 0, 1) := by decide +kernel
theorem dX9_anchor_17 : decode cX9_anchor 17 = .ok (.getfield 34, 3) := by decide +kernel
theorem dX9_anchor_20 : decode cX9_anchor 20 = .ok (.lload_n 1, 1) := by decide +kernel
theorem dX9_anchor_21 : decode cX9_anchor 21 = .ok (.lload_n 3, 1) := by decide +kernel
theorem dX9_anchor_22 : decode cX9_anchor 22 = .ok (.invokevirtual 140, 3) := by decide +kernel
theorem dX9_anchor_25 : decode cX9_anchor 25 = .ok (.ifCond .ne 13, 3) := by decide +kernel
theorem dX9_anchor_28 : decode cX9_anchor 28 = .ok (.new 121, 3) := by decide +kernel
theorem dX9_anchor_31 : decode cX9_anchor 31 = .ok (.dup, 1) := by decide +kernel
theorem dX9_anchor_32 : decode cX9_anchor 32 = .ok (.ldc 144, 2) := by decide +kernel
theorem dX9_anchor_34 : decode cX9_anchor 34 = .ok (.invokespecial 125, 3) := by decide +kernel
theorem dX9_anchor_37 : decode cX9_anchor 37 = .ok (.athrow, 1) := by decide +kernel
theorem dX9_anchor_38 : decode cX9_anchor 38 = .ok (.aload_n 0, 1) := by decide +kernel
theorem dX9_anchor_39 : decode cX9_anchor 39 = .ok (.getfield 34, 3) := by decide +kernel
theorem dX9_anchor_42 : decode cX9_anchor 42 = .ok (.lload_n 1, 1) := by decide +kernel
theorem dX9_anchor_43 : decode cX9_anchor 43 = .ok (.lload_n 3, 1) := by decide +kernel
theorem dX9_anchor_44 : decode cX9_anchor 44 = .ok (.invokevirtual 146, 3) := by decide +kernel
theorem dX9_anchor_47 : decode cX9_anchor 47 = .ok (.ireturn, 1) := by decide +kernel
set_option maxRecDepth 20000 in
theorem ggX9_count_X9_requireEyeAndCells : GoodIn wsX9_count wsX9_requireEyeAndCells := goodIn_ca (goodIn_r _ [9, 10, 11, 12, 13, 14, 15, 16, 17, 18, 19, 20, 8, 21, 82, 83, 84, 85, 86, 87, 88, 89, 90] (by decide +kernel) (by decide +kernel)) (goodIn_sub (fun _ h => List.mem_cons_of_mem _ (List.mem_append_left _ (List.mem_append_right _ h))) (by decide +kernel))
set_option maxRecDepth 20000 in
theorem gX9_count_X9_requireEyeAndCells : GoodIn wsX9_count (wsV RX9 150 RX9 yX9_requireEyeAndCells wsX9_requireEyeAndCells) := goodIn_app (goodIn_of _ (by decide +kernel)) ggX9_count_X9_requireEyeAndCells
set_option maxRecDepth 20000 in
theorem ggX9_count_X9_requireRange : GoodIn wsX9_count wsX9_requireRange := goodIn_ca (goodIn_r _ [24, 25, 26] (by decide +kernel) (by decide +kernel)) (goodIn_sub (fun _ h => List.mem_cons_of_mem _ (List.mem_append_right _ h)) (by decide +kernel))
set_option maxRecDepth 20000 in
theorem gX9_count_X9_requireRange : GoodIn wsX9_count (va_wsS RX9 48 yX9_requireRange wsX9_requireRange) := goodIn_app (goodIn_of _ (by decide +kernel)) ggX9_count_X9_requireRange
set_option maxRecDepth 20000 in
theorem ggX9_count_X9_requireOrder : GoodIn wsX9_count wsX9_requireOrder := goodIn_ca (goodIn_r _ [29, 25, 26] (by decide +kernel) (by decide +kernel)) (goodIn_sub (fun _ h => List.mem_cons_of_mem _ (List.mem_append_right _ h)) (by decide +kernel))
set_option maxRecDepth 20000 in
theorem gX9_count_X9_requireOrder : GoodIn wsX9_count (va_wsS RX9 87 yX9_requireOrder wsX9_requireOrder) := goodIn_app (goodIn_of _ (by decide +kernel)) ggX9_count_X9_requireOrder
set_option maxRecDepth 20000 in
theorem ggX9_count_X4_init : GoodIn wsX9_count wsX4_init := goodIn_r _ [32, 33, 34, 35, 36, 37, 38, 39, 78, 79, 80, 81] (by decide +kernel) (by decide +kernel)
set_option maxRecDepth 20000 in
theorem gX9_count_X4_init : GoodIn wsX9_count (wsX4_init) := ggX9_count_X4_init
set_option maxRecDepth 20000 in
theorem ggX9_count_X9_countSeen : GoodIn wsX9_count wsX9_countSeen := goodIn_r _ [43, 12, 44, 45, 46, 47, 48, 49, 13, 14, 15, 16, 17, 18, 50, 51, 52, 53, 54, 55, 56, 57, 58, 59, 60, 61, 62, 63, 64, 65, 66, 67, 68, 69, 4, 70, 36, 38, 37, 39, 71, 72, 73, 74, 75, 76, 77, 82, 83, 84, 85, 86, 87, 91, 92, 93, 94, 95, 96, 88, 89, 90, 78, 79, 80, 81, 97] (by decide +kernel) (by decide +kernel)
set_option maxRecDepth 20000 in
theorem gX9_count_X9_countSeen : GoodIn wsX9_count (wsV RX9 156 RX9 yX9_countSeen wsX9_countSeen) := goodIn_app (goodIn_of _ (by decide +kernel)) ggX9_count_X9_countSeen
theorem dX9_count_0 : decode cX9_count 0 = .ok (.aload_n 0, 1) := by decide +kernel
theorem dX9_count_1 : decode cX9_count 1 = .ok (.iload_n 1, 1) := by decide +kernel
theorem dX9_count_2 : decode cX9_count 2 = .ok (.iload_n 2, 1) := by decide +kernel
theorem dX9_count_3 : decode cX9_count 3 = .ok (.iload_n 3, 1) := by decide +kernel
theorem dX9_count_4 : decode cX9_count 4 = .ok (.iload 4, 2) := by decide +kernel
theorem dX9_count_6 : decode cX9_count 6 = .ok (.iload 5, 2) := by decide +kernel
theorem dX9_count_8 : decode cX9_count 8 = .ok (.invokevirtual 150, 3) := by decide +kernel
theorem dX9_count_11 : decode cX9_count 11 = .ok (.iload 6, 2) := by decide +kernel
theorem dX9_count_13 : decode cX9_count 13 = .ok (.i2l, 1) := by decide +kernel
theorem dX9_count_14 : decode cX9_count 14 = .ok (.lconst 1, 1) := by decide +kernel
theorem dX9_count_15 : decode cX9_count 15 = .ok (.ldc2_w 154, 3) := by decide +kernel
theorem dX9_count_18 : decode cX9_count 18 = .ok (.invokestatic 48, 3) := by decide +kernel
theorem dX9_count_21 : decode cX9_count 21 = .ok (.iload_n 2, 1) := by decide +kernel
theorem dX9_count_22 : decode cX9_count 22 = .ok (.iload_n 3, 1) := by decide +kernel
theorem dX9_count_23 : decode cX9_count 23 = .ok (.iload 4, 2) := by decide +kernel
theorem dX9_count_25 : decode cX9_count 25 = .ok (.iload 5, 2) := by decide +kernel
theorem dX9_count_27 : decode cX9_count 27 = .ok (.invokestatic 87, 3) := by decide +kernel
theorem dX9_count_30 : decode cX9_count 30 = .ok (.aload_n 0, 1) := by decide +kernel
theorem dX9_count_31 : decode cX9_count 31 = .ok (.iload_n 1, 1) := by decide +kernel
theorem dX9_count_32 : decode cX9_count 32 = .ok (.new 99, 3) := by decide +kernel
theorem dX9_count_35 : decode cX9_count 35 = .ok (.dup, 1) := by decide +kernel
theorem dX9_count_36 : decode cX9_count 36 = .ok (.iload_n 2, 1) := by decide +kernel
theorem dX9_count_37 : decode cX9_count 37 = .ok (.iload_n 3, 1) := by decide +kernel
theorem dX9_count_38 : decode cX9_count 38 = .ok (.iload 4, 2) := by decide +kernel
theorem dX9_count_40 : decode cX9_count 40 = .ok (.iload 5, 2) := by decide +kernel
theorem dX9_count_42 : decode cX9_count 42 = .ok (.invokespecial 101, 3) := by decide +kernel
theorem dX9_count_45 : decode cX9_count 45 = .ok (.iload 6, 2) := by decide +kernel
theorem dX9_count_47 : decode cX9_count 47 = .ok (.invokevirtual 156, 3) := by decide +kernel
theorem dX9_count_50 : decode cX9_count 50 = .ok (.ireturn, 1) := by decide +kernel
set_option maxRecDepth 20000 in
theorem ggX9_age_X9_requireEyeAndCells : GoodIn wsX9_age wsX9_requireEyeAndCells := goodIn_ca (goodIn_r _ [11, 12, 13, 14, 15, 16, 17, 18, 19, 20, 21, 22, 10, 23, 109, 110, 111, 112, 113, 114, 115, 116, 117] (by decide +kernel) (by decide +kernel)) (goodIn_sub (fun _ h => List.mem_cons_of_mem _ (List.mem_append_left _ (List.mem_append_right _ h))) (by decide +kernel))
set_option maxRecDepth 20000 in
theorem gX9_age_X9_requireEyeAndCells : GoodIn wsX9_age (wsV RX9 150 RX9 yX9_requireEyeAndCells wsX9_requireEyeAndCells) := goodIn_app (goodIn_of _ (by decide +kernel)) ggX9_age_X9_requireEyeAndCells
set_option maxRecDepth 20000 in
theorem ggX9_age_X9_requireOrder : GoodIn wsX9_age wsX9_requireOrder := goodIn_ca (goodIn_r _ [26, 27, 28] (by decide +kernel) (by decide +kernel)) (goodIn_sub (fun _ h => List.mem_cons_of_mem _ (List.mem_append_right _ h)) (by decide +kernel))
set_option maxRecDepth 20000 in
theorem gX9_age_X9_requireOrder : GoodIn wsX9_age (va_wsS RX9 87 yX9_requireOrder wsX9_requireOrder) := goodIn_app (goodIn_of _ (by decide +kernel)) ggX9_age_X9_requireOrder
set_option maxRecDepth 20000 in
theorem ggX9_age_X4_init : GoodIn wsX9_age wsX4_init := goodIn_r _ [31, 32, 33, 34, 35, 36, 37, 38, 105, 106, 107, 108] (by decide +kernel) (by decide +kernel)
set_option maxRecDepth 20000 in
theorem gX9_age_X4_init : GoodIn wsX9_age (wsX4_init) := ggX9_age_X4_init
set_option maxRecDepth 20000 in
theorem ggX9_age_X9_densitySeen : GoodIn wsX9_age wsX9_densitySeen := goodIn_r _ [42, 43, 44, 45, 46, 10, 47, 14, 48, 49, 50, 51, 52, 53, 15, 16, 17, 18, 19, 20, 54, 55, 56, 57, 58, 59, 60, 61, 62, 63, 64, 65, 66, 67, 68, 69, 70, 71, 72, 73, 5, 74, 35, 37, 36, 38, 75, 76, 77, 78, 79, 80, 81, 82, 83, 84, 85, 86, 87, 88, 89, 109, 110, 111, 112, 113, 114, 118, 119, 120, 121, 122, 123, 115, 116, 117, 105, 106, 107, 108, 124] (by decide +kernel) (by decide +kernel)
set_option maxRecDepth 20000 in
theorem gX9_age_X9_densitySeen : GoodIn wsX9_age (wsV RX9 160 RX9 yX9_densitySeen wsX9_densitySeen) := goodIn_app (goodIn_of _ (by decide +kernel)) ggX9_age_X9_densitySeen
set_option maxRecDepth 20000 in
theorem ggX9_age_X2_lackFor : GoodIn wsX9_age wsX2_lackFor := goodIn_r _ [93, 94, 95, 96, 97, 16, 17, 18, 19, 20, 98, 55, 56, 57, 58, 59, 60, 61, 62, 63, 64, 65, 66, 67, 68, 69, 70, 125, 126, 127, 115, 116, 117] (by decide +kernel) (by decide +kernel)
set_option maxRecDepth 20000 in
theorem gX9_age_X2_lackFor : GoodIn wsX9_age (wsV RX9 164 RX2 yX2_lackFor wsX2_lackFor) := goodIn_app (goodIn_of _ (by decide +kernel)) ggX9_age_X2_lackFor
set_option maxRecDepth 20000 in
theorem ggX9_age_X2_yearsOf : GoodIn wsX9_age wsX2_yearsOf := goodIn_r _ [102, 94, 95, 96, 103, 97, 16, 17, 18, 19, 20, 98, 55, 56, 57, 58, 59, 60, 61, 62, 63, 64, 65, 66, 67, 68, 69, 70, 104, 87, 88, 89, 125, 126, 127, 115, 116, 117] (by decide +kernel) (by decide +kernel)
set_option maxRecDepth 20000 in
theorem gX9_age_X2_yearsOf : GoodIn wsX9_age (wsV RX9 170 RX2 yX2_yearsOf wsX2_yearsOf) := goodIn_app (goodIn_of _ (by decide +kernel)) ggX9_age_X2_yearsOf
theorem dX9_age_0 : decode cX9_age 0 = .ok (.aload_n 0, 1) := by decide +kernel
theorem dX9_age_1 : decode cX9_age 1 = .ok (.iload_n 1, 1) := by decide +kernel
theorem dX9_age_2 : decode cX9_age 2 = .ok (.iload_n 2, 1) := by decide +kernel
theorem dX9_age_3 : decode cX9_age 3 = .ok (.iload_n 3, 1) := by decide +kernel
theorem dX9_age_4 : decode cX9_age 4 = .ok (.iload 4, 2) := by decide +kernel
