theorem dX2_startBatch_112 : decode cX2_startBatch 112 = .ok (.goto (-108), 3) := by decide +kernel
theorem dX2_startBatch_115 : decode cX2_startBatch 115 = .ok (.return_, 1) := by decide +kernel
theorem dX2_lanesOfInput_0 : decode cX2_lanesOfInput 0 = .ok (.iload_n 1, 1) := by decide +kernel
theorem dX2_lanesOfInput_1 : decode cX2_lanesOfInput 1 = .ok (.ifCond .lt 17, 3) := by decide +kernel
theorem dX2_lanesOfInput_4 : decode cX2_lanesOfInput 4 = .ok (.iload_n 1, 1) := by decide +kernel
theorem dX2_lanesOfInput_5 : decode cX2_lanesOfInput 5 = .ok (.getstatic 22, 3) := by decide +kernel
theorem dX2_lanesOfInput_8 : decode cX2_lanesOfInput 8 = .ok (.arraylength, 1) := by decide +kernel
theorem dX2_lanesOfInput_9 : decode cX2_lanesOfInput 9 = .ok (.if_icmp .ge 9, 3) := by decide +kernel
theorem dX2_lanesOfInput_12 : decode cX2_lanesOfInput 12 = .ok (.getstatic 22, 3) := by decide +kernel
theorem dX2_lanesOfInput_15 : decode cX2_lanesOfInput 15 = .ok (.iload_n 1, 1) := by decide +kernel
theorem dX2_lanesOfInput_16 : decode cX2_lanesOfInput 16 = .ok (.laload, 1) := by decide +kernel
theorem dX2_lanesOfInput_17 : decode cX2_lanesOfInput 17 = .ok (.lreturn, 1) := by decide +kernel
theorem dX2_lanesOfInput_18 : decode cX2_lanesOfInput 18 = .ok (.iload_n 2, 1) := by decide +kernel
theorem dX2_lanesOfInput_19 : decode cX2_lanesOfInput 19 = .ok (.iload_n 1, 1) := by decide +kernel
theorem dX2_lanesOfInput_20 : decode cX2_lanesOfInput 20 = .ok (.getstatic 22, 3) := by decide +kernel
theorem dX2_lanesOfInput_23 : decode cX2_lanesOfInput 23 = .ok (.arraylength, 1) := by decide +kernel
theorem dX2_lanesOfInput_24 : decode cX2_lanesOfInput 24 = .ok (.isub, 1) := by decide +kernel
theorem dX2_lanesOfInput_25 : decode cX2_lanesOfInput 25 = .ok (.ishr, 1) := by decide +kernel
theorem dX2_lanesOfInput_26 : decode cX2_lanesOfInput 26 = .ok (.iconst 1, 1) := by decide +kernel
theorem dX2_lanesOfInput_27 : decode cX2_lanesOfInput 27 = .ok (.iand, 1) := by decide +kernel
theorem dX2_lanesOfInput_28 : decode cX2_lanesOfInput 28 = .ok (.istore_n 3, 1) := by decide +kernel
theorem dX2_lanesOfInput_29 : decode cX2_lanesOfInput 29 = .ok (.iload_n 3, 1) := by decide +kernel
theorem dX2_lanesOfInput_30 : decode cX2_lanesOfInput 30 = .ok (.iconst 1, 1) := by decide +kernel
theorem dX2_lanesOfInput_31 : decode cX2_lanesOfInput 31 = .ok (.if_icmp .ne 9, 3) := by decide +kernel
theorem dX2_lanesOfInput_34 : decode cX2_lanesOfInput 34 = .ok (.ldc2_w 26, 3) := by decide +kernel
theorem dX2_lanesOfInput_37 : decode cX2_lanesOfInput 37 = .ok (.goto 4, 3) := by decide +kernel
theorem dX2_lanesOfInput_40 : decode cX2_lanesOfInput 40 = .ok (.lconst 0, 1) := by decide +kernel
theorem dX2_lanesOfInput_41 : decode cX2_lanesOfInput 41 = .ok (.lreturn, 1) := by decide +kernel
set_option maxRecDepth 20000 in
theorem ggX2_spreadLanes_X2_passForwards : GoodIn wsX2_spreadLanes wsX2_passForwards := goodIn_r _ [6, 7, 8, 9, 10, 11, 12, 13, 14, 15, 16, 17, 18, 19, 20, 21, 22, 23, 24, 25, 26, 27, 28, 29, 30, 31, 32, 33, 34, 35, 36, 37, 38, 39, 40, 41, 42, 43, 44, 45, 46, 47, 48, 49, 50, 51, 52, 53, 54, 55, 56, 57, 58, 59, 60, 61, 62, 63, 68, 69, 70, 71, 72, 73, 74, 75, 76, 77, 78, 79, 80, 81, 82, 83, 84, 85, 86, 87, 88, 89, 90, 91, 92] (by decide +kernel) (by decide +kernel)
set_option maxRecDepth 20000 in
theorem gX2_spreadLanes_X2_passForwards : GoodIn wsX2_spreadLanes (wsV RX2 79 RX2 yX2_passForwards wsX2_passForwards) := goodIn_app (goodIn_of _ (by decide +kernel)) ggX2_spreadLanes_X2_passForwards
set_option maxRecDepth 20000 in
theorem ggX2_spreadLanes_X2_passBackwards : GoodIn wsX2_spreadLanes wsX2_passBackwards := goodIn_r _ [67, 7, 8, 9, 10, 11, 12, 13, 14, 15, 16, 17, 18, 19, 20, 21, 22, 23, 24, 25, 26, 27, 28, 29, 30, 31, 32, 33, 34, 35, 36, 37, 38, 39, 40, 41, 42, 43, 44, 45, 46, 47, 48, 49, 50, 51, 52, 53, 54, 55, 56, 57, 58, 59, 60, 61, 62, 63, 68, 69, 70, 71, 72, 73, 74, 75, 76, 77, 78, 79, 80, 81, 82, 83, 84, 85, 86, 87, 88, 89, 90, 91, 92] (by decide +kernel) (by decide +kernel)
set_option maxRecDepth 20000 in
theorem gX2_spreadLanes_X2_passBackwards : GoodIn wsX2_spreadLanes (wsV RX2 83 RX2 yX2_passBackwards wsX2_passBackwards) := goodIn_app (goodIn_of _ (by decide +kernel)) ggX2_spreadLanes_X2_passBackwards
theorem dX2_spreadLanes_0 : decode cX2_spreadLanes 0 = .ok (.iconst 1, 1) := by decide +kernel
theorem dX2_spreadLanes_1 : decode cX2_spreadLanes 1 = .ok (.istore_n 1, 1) := by decide +kernel
theorem dX2_spreadLanes_2 : decode cX2_spreadLanes 2 = .ok (.iconst 0, 1) := by decide +kernel
theorem dX2_spreadLanes_3 : decode cX2_spreadLanes 3 = .ok (.istore_n 2, 1) := by decide +kernel
theorem dX2_spreadLanes_4 : decode cX2_spreadLanes 4 = .ok (.iload_n 1, 1) := by decide +kernel
theorem dX2_spreadLanes_5 : decode cX2_spreadLanes 5 = .ok (.ifCond .eq 33, 3) := by decide +kernel
theorem dX2_spreadLanes_8 : decode cX2_spreadLanes 8 = .ok (.iload_n 2, 1) := by decide +kernel
theorem dX2_spreadLanes_9 : decode cX2_spreadLanes 9 = .ok (.ldc 78, 2) := by decide +kernel
theorem dX2_spreadLanes_11 : decode cX2_spreadLanes 11 = .ok (.if_icmp .ge 27, 3) := by decide +kernel
theorem dX2_spreadLanes_14 : decode cX2_spreadLanes 14 = .ok (.iload_n 2, 1) := by decide +kernel
theorem dX2_spreadLanes_15 : decode cX2_spreadLanes 15 = .ok (.iconst 1, 1) := by decide +kernel
theorem dX2_spreadLanes_16 : decode cX2_spreadLanes 16 = .ok (.iand, 1) := by decide +kernel
theorem dX2_spreadLanes_17 : decode cX2_spreadLanes 17 = .ok (.ifCond .ne 10, 3) := by decide +kernel
theorem dX2_spreadLanes_20 : decode cX2_spreadLanes 20 = .ok (.aload_n 0, 1) := by decide +kernel
theorem dX2_spreadLanes_21 : decode cX2_spreadLanes 21 = .ok (.invokevirtual 79, 3) := by decide +kernel
theorem dX2_spreadLanes_24 : decode cX2_spreadLanes 24 = .ok (.goto 7, 3) := by decide +kernel
theorem dX2_spreadLanes_27 : decode cX2_spreadLanes 27 = .ok (.aload_n 0, 1) := by decide +kernel
theorem dX2_spreadLanes_28 : decode cX2_spreadLanes 28 = .ok (.invokevirtual 83, 3) := by decide +kernel
theorem dX2_spreadLanes_31 : decode cX2_spreadLanes 31 = .ok (.istore_n 1, 1) := by decide +kernel
theorem dX2_spreadLanes_32 : decode cX2_spreadLanes 32 = .ok (.iinc 2 1, 3) := by decide +kernel
theorem dX2_spreadLanes_35 : decode cX2_spreadLanes 35 = .ok (.goto (-31), 3) := by decide +kernel
theorem dX2_spreadLanes_38 : decode cX2_spreadLanes 38 = .ok (.return_, 1) := by decide +kernel
set_option maxRecDepth 20000 in
theorem ggX2_passForwards_Jx4a65c_size_8abf5 : GoodIn wsX2_passForwards wsJx4a65c_size_8abf5 := goodIn_r _ [7, 8, 60, 61, 62] (by decide +kernel) (by decide +kernel)
set_option maxRecDepth 20000 in
theorem gX2_passForwards_Jx4a65c_size_8abf5 : GoodIn wsX2_passForwards (wsV RX2 45 RJx4a65c yJx4a65c_size_8abf5 wsJx4a65c_size_8abf5) := goodIn_app (goodIn_of _ (by decide +kernel)) ggX2_passForwards_Jx4a65c_size_8abf5
set_option maxRecDepth 20000 in
theorem ggX2_passForwards_Jx4a65c_get_915e3 : GoodIn wsX2_passForwards wsJx4a65c_get_915e3 := goodIn_r _ [12, 8, 13, 14, 15, 16, 17, 18, 19, 20, 21, 22, 23, 6, 24, 25, 60, 61, 62] (by decide +kernel) (by decide +kernel)
set_option maxRecDepth 20000 in
theorem gX2_passForwards_Jx4a65c_get_915e3 : GoodIn wsX2_passForwards (wsV RX2 50 RJx4a65c yJx4a65c_get_915e3 wsJx4a65c_get_915e3) := goodIn_app (goodIn_of _ (by decide +kernel)) ggX2_passForwards_Jx4a65c_get_915e3
set_option maxRecDepth 20000 in
theorem ggX2_passForwards_X1_lanesGrow : GoodIn wsX2_passForwards wsX1_lanesGrow := goodIn_r _ [30, 31, 32, 33, 34, 35, 36, 29, 37, 38, 39, 40, 41, 42, 43, 44, 45, 46, 47, 48, 49, 50, 51, 52, 53, 54, 55, 56, 57, 63, 64, 65, 66, 67, 68, 69, 70, 71, 72, 73, 74, 75, 76, 77, 78, 79, 80, 81, 82] (by decide +kernel) (by decide +kernel)
set_option maxRecDepth 20000 in
theorem gX2_passForwards_X1_lanesGrow : GoodIn wsX2_passForwards (wsV RX2 86 RX1 yX1_lanesGrow wsX1_lanesGrow) := goodIn_app (goodIn_of _ (by decide +kernel)) ggX2_passForwards_X1_lanesGrow
theorem dX2_passForwards_0 : decode cX2_passForwards 0 = .ok (.iconst 0, 1) := by decide +kernel
theorem dX2_passForwards_1 : decode cX2_passForwards 1 = .ok (.istore_n 1, 1) := by decide +kernel
theorem dX2_passForwards_2 : decode cX2_passForwards 2 = .ok (.iconst 0, 1) := by decide +kernel
theorem dX2_passForwards_3 : decode cX2_passForwards 3 = .ok (.istore_n 2, 1) := by decide +kernel
theorem dX2_passForwards_4 : decode cX2_passForwards 4 = .ok (.iload_n 2, 1) := by decide +kernel
theorem dX2_passForwards_5 : decode cX2_passForwards 5 = .ok (.aload_n 0, 1) := by decide +kernel
theorem dX2_passForwards_6 : decode cX2_passForwards 6 = .ok (.getfield 15, 3) := by decide +kernel
theorem dX2_passForwards_9 : decode cX2_passForwards 9 = .ok (.invokevirtual 45, 3) := by decide +kernel
theorem dX2_passForwards_12 : decode cX2_passForwards 12 = .ok (.if_icmp .ge 28, 3) := by decide +kernel
theorem dX2_passForwards_15 : decode cX2_passForwards 15 = .ok (.aload_n 0, 1) := by decide +kernel
theorem dX2_passForwards_16 : decode cX2_passForwards 16 = .ok (.getfield 15, 3) := by decide +kernel
theorem dX2_passForwards_19 : decode cX2_passForwards 19 = .ok (.iload_n 2, 1) := by decide +kernel
theorem dX2_passForwards_20 : decode cX2_passForwards 20 = .ok (.invokevirtual 50, 3) := by decide +kernel
theorem dX2_passForwards_23 : decode cX2_passForwards 23 = .ok (.checkcast 54, 3) := by decide +kernel
theorem dX2_passForwards_26 : decode cX2_passForwards 26 = .ok (.invokevirtual 86, 3) := by decide +kernel
theorem dX2_passForwards_29 : decode cX2_passForwards 29 = .ok (.ifCond .eq 5, 3) := by decide +kernel
theorem dX2_passForwards_32 : decode cX2_passForwards 32 = .ok (.iconst 1, 1) := by decide +kernel
theorem dX2_passForwards_33 : decode cX2_passForwards 33 = .ok (.istore_n 1, 1) := by decide +kernel
theorem dX2_passForwards_34 : decode cX2_passForwards 34 = .ok (.iinc 2 1, 3) := by decide +kernel
theorem dX2_passForwards_37 : decode cX2_passForwards 37 = .ok (.goto (-33), 3) := by decide +kernel
theorem dX2_passForwards_40 : decode cX2_passForwards 40 = .ok (.iload_n 1, 1) := by decide +kernel
theorem dX2_passForwards_41 : decode cX2_passForwards 41 = .ok (.ireturn, 1) := by decide +kernel
set_option maxRecDepth 20000 in
theorem ggX2_passBackwards_Jx4a65c_size_8abf5 : GoodIn wsX2_passBackwards wsJx4a65c_size_8abf5 := goodIn_r _ [7, 8, 60, 61, 62] (by decide +kernel) (by decide +kernel)
set_option maxRecDepth 20000 in
theorem gX2_passBackwards_Jx4a65c_size_8abf5 : GoodIn wsX2_passBackwards (wsV RX2 45 RJx4a65c yJx4a65c_size_8abf5 wsJx4a65c_size_8abf5) := goodIn_app (goodIn_of _ (by decide +kernel)) ggX2_passBackwards_Jx4a65c_size_8abf5
set_option maxRecDepth 20000 in
theorem ggX2_passBackwards_Jx4a65c_get_915e3 : GoodIn wsX2_passBackwards wsJx4a65c_get_915e3 := goodIn_r _ [12, 8, 13, 14, 15, 16, 17, 18, 19, 20, 21, 22, 23, 6, 24, 25, 60, 61, 62] (by decide +kernel) (by decide +kernel)
set_option maxRecDepth 20000 in
theorem gX2_passBackwards_Jx4a65c_get_915e3 : GoodIn wsX2_passBackwards (wsV RX2 50 RJx4a65c yJx4a65c_get_915e3 wsJx4a65c_get_915e3) := goodIn_app (goodIn_of _ (by decide +kernel)) ggX2_passBackwards_Jx4a65c_get_915e3
set_option maxRecDepth 20000 in
theorem ggX2_passBackwards_X1_lanesGrow : GoodIn wsX2_passBackwards wsX1_lanesGrow := goodIn_r _ [30, 31, 32, 33, 34, 35, 36, 29, 37, 38, 39, 40, 41, 42, 43, 44, 45, 46, 47, 48, 49, 50, 51, 52, 53, 54, 55, 56, 57, 63, 64, 65, 66, 67, 68, 69, 70, 71, 72, 73, 74, 75, 76, 77, 78, 79, 80, 81, 82] (by decide +kernel) (by decide +kernel)
set_option maxRecDepth 20000 in
theorem gX2_passBackwards_X1_lanesGrow : GoodIn wsX2_passBackwards (wsV RX2 86 RX1 yX1_lanesGrow wsX1_lanesGrow) := goodIn_app (goodIn_of _ (by decide +kernel)) ggX2_passBackwards_X1_lanesGrow
theorem dX2_passBackwards_0 : decode cX2_passBackwards 0 = .ok (.iconst 0, 1) := by decide +kernel
theorem dX2_passBackwards_1 : decode cX2_passBackwards 1 = .ok (.istore_n 1, 1) := by decide +kernel
theorem dX2_passBackwards_2 : decode cX2_passBackwards 2 = .ok (.aload_n 0, 1) := by decide +kernel
theorem dX2_passBackwards_3 : decode cX2_passBackwards 3 = .ok (.getfield 15, 3) := by decide +kernel
theorem dX2_passBackwards_6 : decode cX2_passBackwards 6 = .ok (.invokevirtual 45, 3) := by decide +kernel
theorem dX2_passBackwards_9 : decode cX2_passBackwards 9 = .ok (.iconst 1, 1) := by decide +kernel
theorem dX2_passBackwards_10 : decode cX2_passBackwards 10 = .ok (.isub, 1) := by decide +kernel
theorem dX2_passBackwards_11 : decode cX2_passBackwards 11 = .ok (.istore_n 2, 1) := by decide +kernel
theorem dX2_passBackwards_12 : decode cX2_passBackwards 12 = .ok (.iload_n 2, 1) := by decide +kernel
theorem dX2_passBackwards_13 : decode cX2_passBackwards 13 = .ok (.ifCond .lt 28, 3) := by decide +kernel
theorem dX2_passBackwards_16 : decode cX2_passBackwards 16 = .ok (.aload_n 0, 1) := by decide +kernel
theorem dX2_passBackwards_17 : decode cX2_passBackwards 17 = .ok (.getfield 15, 3) := by decide +kernel
theorem dX2_passBackwards_20 : decode cX2_passBackwards 20 = .ok (.iload_n 2, 1) := by decide +kernel
theorem dX2_passBackwards_21 : decode cX2_passBackwards 21 = .ok (.invokevirtual 50, 3) := by decide +kernel
theorem dX2_passBackwards_24 : decode cX2_passBackwards 24 = .ok (.checkcast 54, 3) := by decide +kernel
theorem dX2_passBackwards_27 : decode cX2_passBackwards 27 = .ok (.invokevirtual 86, 3) := by decide +kernel
theorem dX2_passBackwards_30 : decode cX2_passBackwards 30 = .ok (.ifCond .eq 5, 3) := by decide +kernel
theorem dX2_passBackwards_33 : decode cX2_passBackwards 33 = .ok (.iconst 1, 1) := by decide +kernel
theorem dX2_passBackwards_34 : decode cX2_passBackwards 34 = .ok (.istore_n 1, 1) := by decide +kernel
theorem dX2_passBackwards_35 : decode cX2_passBackwards 35 = .ok (.iinc 2 (-1), 3) := by decide +kernel
theorem dX2_passBackwards_38 : decode cX2_passBackwards 38 = .ok (.goto (-26), 3) := by decide +kernel
theorem dX2_passBackwards_41 : decode cX2_passBackwards 41 = .ok (.iload_n 1, 1) := by decide +kernel
theorem dX2_passBackwards_42 : decode cX2_passBackwards 42 = .ok (.ireturn, 1) := by decide +kernel
set_option maxRecDepth 20000 in
theorem ggX2_lanesAllKnown_Jx4a65c_size_8abf5 : GoodIn wsX2_lanesAllKnown wsJx4a65c_size_8abf5 := goodIn_r _ [10, 11, 48, 49, 50] (by decide +kernel) (by decide +kernel)
set_option maxRecDepth 20000 in
theorem gX2_lanesAllKnown_Jx4a65c_size_8abf5 : GoodIn wsX2_lanesAllKnown (wsV RX2 45 RJx4a65c yJx4a65c_size_8abf5 wsJx4a65c_size_8abf5) := goodIn_app (goodIn_of _ (by decide +kernel)) ggX2_lanesAllKnown_Jx4a65c_size_8abf5
set_option maxRecDepth 20000 in
theorem ggX2_lanesAllKnown_Jx4a65c_get_915e3 : GoodIn wsX2_lanesAllKnown wsJx4a65c_get_915e3 := goodIn_r _ [15, 11, 16, 17, 18, 19, 20, 21, 22, 23, 24, 25, 26, 9, 27, 28, 48, 49, 50] (by decide +kernel) (by decide +kernel)
set_option maxRecDepth 20000 in
theorem gX2_lanesAllKnown_Jx4a65c_get_915e3 : GoodIn wsX2_lanesAllKnown (wsV RX2 50 RJx4a65c yJx4a65c_get_915e3 wsJx4a65c_get_915e3) := goodIn_app (goodIn_of _ (by decide +kernel)) ggX2_lanesAllKnown_Jx4a65c_get_915e3
theorem dX2_lanesAllKnown_0 : decode cX2_lanesAllKnown 0 = .ok (.ldc2_w 26, 3) := by decide +kernel
theorem dX2_lanesAllKnown_3 : decode cX2_lanesAllKnown 3 = .ok (.lstore_n 1, 1) := by decide +kernel
theorem dX2_lanesAllKnown_4 : decode cX2_lanesAllKnown 4 = .ok (.iconst 0, 1) := by decide +kernel
theorem dX2_lanesAllKnown_5 : decode cX2_lanesAllKnown 5 = .ok (.istore_n 3, 1) := by decide +kernel
theorem dX2_lanesAllKnown_6 : decode cX2_lanesAllKnown 6 = .ok (.iload_n 3, 1) := by decide +kernel
theorem dX2_lanesAllKnown_7 : decode cX2_lanesAllKnown 7 = .ok (.aload_n 0, 1) := by decide +kernel
theorem dX2_lanesAllKnown_8 : decode cX2_lanesAllKnown 8 = .ok (.getfield 9, 3) := by decide +kernel
theorem dX2_lanesAllKnown_11 : decode cX2_lanesAllKnown 11 = .ok (.invokevirtual 45, 3) := by decide +kernel
theorem dX2_lanesAllKnown_14 : decode cX2_lanesAllKnown 14 = .ok (.if_icmp .ge 36, 3) := by decide +kernel
theorem dX2_lanesAllKnown_17 : decode cX2_lanesAllKnown 17 = .ok (.aload_n 0, 1) := by decide +kernel
theorem dX2_lanesAllKnown_18 : decode cX2_lanesAllKnown 18 = .ok (.getfield 9, 3) := by decide +kernel
theorem dX2_lanesAllKnown_21 : decode cX2_lanesAllKnown 21 = .ok (.iload_n 3, 1) := by decide +kernel
theorem dX2_lanesAllKnown_22 : decode cX2_lanesAllKnown 22 = .ok (.invokevirtual 50, 3) := by decide +kernel
theorem dX2_lanesAllKnown_25 : decode cX2_lanesAllKnown 25 = .ok (.checkcast 54, 3) := by decide +kernel
theorem dX2_lanesAllKnown_28 : decode cX2_lanesAllKnown 28 = .ok (.astore 4, 2) := by decide +kernel
theorem dX2_lanesAllKnown_30 : decode cX2_lanesAllKnown 30 = .ok (.lload_n 1, 1) := by decide +kernel
theorem dX2_lanesAllKnown_31 : decode cX2_lanesAllKnown 31 = .ok (.aload 4, 2) := by decide +kernel
theorem dX2_lanesAllKnown_33 : decode cX2_lanesAllKnown 33 = .ok (.getfield 71, 3) := by decide +kernel
theorem dX2_lanesAllKnown_36 : decode cX2_lanesAllKnown 36 = .ok (.aload 4, 2) := by decide +kernel
theorem dX2_lanesAllKnown_38 : decode cX2_lanesAllKnown 38 = .ok (.getfield 75, 3) := by decide +kernel
theorem dX2_lanesAllKnown_41 : decode cX2_lanesAllKnown 41 = .ok (.lor, 1) := by decide +kernel
theorem dX2_lanesAllKnown_42 : decode cX2_lanesAllKnown 42 = .ok (.land, 1) := by decide +kernel
theorem dX2_lanesAllKnown_43 : decode cX2_lanesAllKnown 43 = .ok (.lstore_n 1, 1) := by decide +kernel
theorem dX2_lanesAllKnown_44 : decode cX2_lanesAllKnown 44 = .ok (.iinc 3 1, 3) := by decide +kernel
theorem dX2_lanesAllKnown_47 : decode cX2_lanesAllKnown 47 = .ok (.goto (-41), 3) := by decide +kernel
theorem dX2_lanesAllKnown_50 : decode cX2_lanesAllKnown 50 = .ok (.lload_n 1, 1) := by decide +kernel
theorem dX2_lanesAllKnown_51 : decode cX2_lanesAllKnown 51 = .ok (.lreturn, 1) := by decide +kernel
set_option maxRecDepth 20000 in
theorem ggX3_init_Jx4a65c_init_da8c8 : GoodIn wsX3_init wsJx4a65c_init_da8c8 := goodIn_r _ [13, 14, 15, 16, 17, 18, 19, 20, 21, 22, 23, 24, 25, 2, 3, 26, 27, 28] (by decide +kernel) (by decide +kernel)
set_option maxRecDepth 20000 in
theorem gX3_init_Jx4a65c_init_da8c8 : GoodIn wsX3_init (wsJx4a65c_init_da8c8) := ggX3_init_Jx4a65c_init_da8c8
theorem dX3_init_0 : decode cX3_init 0 = .ok (.aload_n 0, 1) := by decide +kernel
theorem dX3_init_1 : decode cX3_init 1 = .ok (.invokespecial 3, 3) := by decide +kernel
theorem dX3_init_4 : decode cX3_init 4 = .ok (.aload_n 0, 1) := by decide +kernel
theorem dX3_init_5 : decode cX3_init 5 = .ok (.new 9, 3) := by decide +kernel
theorem dX3_init_8 : decode cX3_init 8 = .ok (.dup, 1) := by decide +kernel
theorem dX3_init_9 : decode cX3_init 9 = .ok (.invokespecial 11, 3) := by decide +kernel
theorem dX3_init_12 : decode cX3_init 12 = .ok (.putfield 12, 3) := by decide +kernel
theorem dX3_init_15 : decode cX3_init 15 = .ok (.aload_n 0, 1) := by decide +kernel
theorem dX3_init_16 : decode cX3_init 16 = .ok (.iconst 0, 1) := by decide +kernel
theorem dX3_init_17 : decode cX3_init 17 = .ok (.putfield 18, 3) := by decide +kernel
theorem dX3_init_20 : decode cX3_init 20 = .ok (.aload_n 0, 1) := by decide +kernel
theorem dX3_init_21 : decode cX3_init 21 = .ok (.iconst 0, 1) := by decide +kernel
theorem dX3_init_22 : decode cX3_init 22 = .ok (.putfield 22, 3) := by decide +kernel
theorem dX3_init_25 : decode cX3_init 25 = .ok (.aload_n 0, 1) := by decide +kernel
theorem dX3_init_26 : decode cX3_init 26 = .ok (.aconst_null, 1) := by decide +kernel
theorem dX3_init_27 : decode cX3_init 27 = .ok (.putfield 25, 3) := by decide +kernel
theorem dX3_init_30 : decode cX3_init 30 = .ok (.return_, 1) := by decide +kernel
set_option maxRecDepth 20000 in
theorem ggX3_findIn_Jx4a65c_clear_da8c8 : GoodIn wsX3_findIn wsJx4a65c_clear_da8c8 := goodIn_r _ [11, 12, 13, 14, 15, 147, 148, 149] (by decide +kernel) (by decide +kernel)
set_option maxRecDepth 20000 in
theorem gX3_findIn_Jx4a65c_clear_da8c8 : GoodIn wsX3_findIn (wsV RX3 29 RJx4a65c yJx4a65c_clear_da8c8 wsJx4a65c_clear_da8c8) := goodIn_app (goodIn_of _ (by decide +kernel)) ggX3_findIn_Jx4a65c_clear_da8c8
set_option maxRecDepth 20000 in
theorem ggX3_findIn_Jx4a65c_size_8abf5 : GoodIn wsX3_findIn wsJx4a65c_size_8abf5 := goodIn_r _ [19, 15, 147, 148, 149] (by decide +kernel) (by decide +kernel)
set_option maxRecDepth 20000 in
theorem gX3_findIn_Jx4a65c_size_8abf5 : GoodIn wsX3_findIn (wsV RX3 32 RJx4a65c yJx4a65c_size_8abf5 wsJx4a65c_size_8abf5) := goodIn_app (goodIn_of _ (by decide +kernel)) ggX3_findIn_Jx4a65c_size_8abf5
set_option maxRecDepth 20000 in
theorem ggX3_findIn_Jx4a65c_get_915e3 : GoodIn wsX3_findIn wsJx4a65c_get_915e3 := goodIn_r _ [23, 15, 24, 25, 26, 27, 28, 29, 30, 31, 32, 33, 34, 10, 35, 14, 147, 148, 149] (by decide +kernel) (by decide +kernel)
set_option maxRecDepth 20000 in
theorem gX3_findIn_Jx4a65c_get_915e3 : GoodIn wsX3_findIn (wsV RX3 36 RJx4a65c yJx4a65c_get_915e3 wsJx4a65c_get_915e3) := goodIn_app (goodIn_of _ (by decide +kernel)) ggX3_findIn_Jx4a65c_get_915e3
set_option maxRecDepth 20000 in
theorem ggX3_findIn_X3_walkFrom : GoodIn wsX3_findIn wsX3_walkFrom := goodIn_r _ [40, 41, 42, 43, 44, 45, 46, 39, 47, 3, 6, 48, 49, 50, 51, 52, 4, 53, 54, 55, 56, 57, 58, 59, 60, 61, 62, 63, 1, 64, 65, 66, 67, 68, 69, 70, 10, 71, 12, 13, 14, 15, 72, 73, 74, 75, 76, 77, 78, 79, 80, 81, 82, 83, 84, 85, 86, 87, 88, 89, 90, 91, 92, 93, 94, 95, 96, 97, 98, 99, 100, 101, 102, 103, 104, 105, 106, 107, 108, 109, 110, 111, 112, 113, 114, 115, 116, 117, 118, 119, 120, 121, 2, 122, 123, 124, 125, 130, 131, 132, 133, 134, 135, 136, 137, 138, 139, 140, 141, 142, 143, 144, 145, 146, 150, 151, 152, 126, 127, 128, 129, 147, 148, 149] (by decide +kernel) (by decide +kernel)
set_option maxRecDepth 20000 in
theorem gX3_findIn_X3_walkFrom : GoodIn wsX3_findIn (wsV RX3 45 RX3 yX3_walkFrom wsX3_walkFrom) := goodIn_app (goodIn_of _ (by decide +kernel)) ggX3_findIn_X3_walkFrom
theorem dX3_findIn_0 : decode cX3_findIn 0 = .ok (.aload_n 0, 1) := by decide +kernel
theorem dX3_findIn_1 : decode cX3_findIn 1 = .ok (.getfield 12, 3) := by decide +kernel
theorem dX3_findIn_4 : decode cX3_findIn 4 = .ok (.invokevirtual 29, 3) := by decide +kernel
theorem dX3_findIn_7 : decode cX3_findIn 7 = .ok (.aload_n 0, 1) := by decide +kernel
theorem dX3_findIn_8 : decode cX3_findIn 8 = .ok (.iconst 0, 1) := by decide +kernel
theorem dX3_findIn_9 : decode cX3_findIn 9 = .ok (.putfield 18, 3) := by decide +kernel
theorem dX3_findIn_12 : decode cX3_findIn 12 = .ok (.aload_n 0, 1) := by decide +kernel
theorem dX3_findIn_13 : decode cX3_findIn 13 = .ok (.iconst 0, 1) := by decide +kernel
theorem dX3_findIn_14 : decode cX3_findIn 14 = .ok (.putfield 22, 3) := by decide +kernel
theorem dX3_findIn_17 : decode cX3_findIn 17 = .ok (.aload_n 0, 1) := by decide +kernel
theorem dX3_findIn_18 : decode cX3_findIn 18 = .ok (.aconst_null, 1) := by decide +kernel
theorem dX3_findIn_19 : decode cX3_findIn 19 = .ok (.putfield 25, 3) := by decide +kernel
theorem dX3_findIn_22 : decode cX3_findIn 22 = .ok (.iconst 0, 1) := by decide +kernel
theorem dX3_findIn_23 : decode cX3_findIn 23 = .ok (.istore_n 2, 1) := by decide +kernel
theorem dX3_findIn_24 : decode cX3_findIn 24 = .ok (.iload_n 2, 1) := by decide +kernel
theorem dX3_findIn_25 : decode cX3_findIn 25 = .ok (.aload_n 1, 1) := by decide +kernel
theorem dX3_findIn_26 : decode cX3_findIn 26 = .ok (.invokevirtual 32, 3) := by decide +kernel
theorem dX3_findIn_29 : decode cX3_findIn 29 = .ok (.if_icmp .ge 21, 3) := by decide +kernel
theorem dX3_findIn_32 : decode cX3_findIn 32 = .ok (.aload_n 1, 1) := by decide +kernel
theorem dX3_findIn_33 : decode cX3_findIn 33 = .ok (.iload_n 2, 1) := by decide +kernel
theorem dX3_findIn_34 : decode cX3_findIn 34 = .ok (.invokevirtual 36, 3) := by decide +kernel
theorem dX3_findIn_37 : decode cX3_findIn 37 = .ok (.checkcast 40, 3) := by decide +kernel
theorem dX3_findIn_40 : decode cX3_findIn 40 = .ok (.iconst (-1), 1) := by decide +kernel
theorem dX3_findIn_41 : decode cX3_findIn 41 = .ok (.putfield 42, 3) := by decide +kernel
theorem dX3_findIn_44 : decode cX3_findIn 44 = .ok (.iinc 2 1, 3) := by decide +kernel
theorem dX3_findIn_47 : decode cX3_findIn 47 = .ok (.goto (-23), 3) := by decide +kernel
theorem dX3_findIn_50 : decode cX3_findIn 50 = .ok (.iconst 0, 1) := by decide +kernel
theorem dX3_findIn_51 : decode cX3_findIn 51 = .ok (.istore_n 2, 1) := by decide +kernel
theorem dX3_findIn_52 : decode cX3_findIn 52 = .ok (.iload_n 2, 1) := by decide +kernel
theorem dX3_findIn_53 : decode cX3_findIn 53 = .ok (.aload_n 1, 1) := by decide +kernel
theorem dX3_findIn_54 : decode cX3_findIn 54 = .ok (.invokevirtual 32, 3) := by decide +kernel
theorem dX3_findIn_57 : decode cX3_findIn 57 = .ok (.if_icmp .ge 36, 3) := by decide +kernel
theorem dX3_findIn_60 : decode cX3_findIn 60 = .ok (.aload_n 1, 1) := by decide +kernel
theorem dX3_findIn_61 : decode cX3_findIn 61 = .ok (.iload_n 2, 1) := by decide +kernel
theorem dX3_findIn_62 : decode cX3_findIn 62 = .ok (.invokevirtual 36, 3) := by decide +kernel
theorem dX3_findIn_65 : decode cX3_findIn 65 = .ok (.checkcast 40, 3) := by decide +kernel
theorem dX3_findIn_68 : decode cX3_findIn 68 = .ok (.getfield 42, 3) := by decide +kernel
theorem dX3_findIn_71 : decode cX3_findIn 71 = .ok (.iconst (-1), 1) := by decide +kernel
theorem dX3_findIn_72 : decode cX3_findIn 72 = .ok (.if_icmp .ne 15, 3) := by decide +kernel
theorem dX3_findIn_75 : decode cX3_findIn 75 = .ok (.aload_n 0, 1) := by decide +kernel
theorem dX3_findIn_76 : decode cX3_findIn 76 = .ok (.aload_n 1, 1) := by decide +kernel
theorem dX3_findIn_77 : decode cX3_findIn 77 = .ok (.iload_n 2, 1) := by decide +kernel
theorem dX3_findIn_78 : decode cX3_findIn 78 = .ok (.invokevirtual 36, 3) := by decide +kernel
theorem dX3_findIn_81 : decode cX3_findIn 81 = .ok (.checkcast 40, 3) := by decide +kernel
theorem dX3_findIn_84 : decode cX3_findIn 84 = .ok (.invokevirtual 45, 3) := by decide +kernel
theorem dX3_findIn_87 : decode cX3_findIn 87 = .ok (.iinc 2 1, 3) := by decide +kernel
theorem dX3_findIn_90 : decode cX3_findIn 90 = .ok (.goto (-38), 3) := by decide +kernel
theorem dX3_findIn_93 : decode cX3_findIn 93 = .ok (.return_, 1) := by decide +kernel
set_option maxRecDepth 20000 in
theorem ggX3_walkFrom_X3_enter : GoodIn wsX3_walkFrom wsX3_enter := goodIn_r _ [8, 9, 10, 11, 12, 1, 13, 14, 15, 16, 17, 18, 19, 20, 21, 22, 23, 117, 118, 119, 120, 97, 98, 99, 100, 101, 102, 103, 104, 105, 106, 107, 108, 109, 110, 111, 112, 113] (by decide +kernel) (by decide +kernel)
set_option maxRecDepth 20000 in
theorem gX3_walkFrom_X3_enter : GoodIn wsX3_walkFrom (wsV RX3 49 RX3 yX3_enter wsX3_enter) := goodIn_app (goodIn_of _ (by decide +kernel)) ggX3_walkFrom_X3_enter
set_option maxRecDepth 20000 in
theorem ggX3_walkFrom_X3_leave : GoodIn wsX3_walkFrom wsX3_leave := goodIn_r _ [27, 28, 11, 10, 13, 29, 30, 31, 32, 18, 19, 20, 21, 22, 23, 33, 34, 35, 36, 37, 38, 39, 40, 41, 42, 43, 44, 45, 46, 47, 48, 49, 50, 51, 52, 53, 54, 55, 56, 57, 58, 59, 60, 61, 62, 63, 64, 65, 66, 67, 68, 69, 70, 71, 72, 73, 74, 75, 76, 77, 78, 79, 80, 81, 82, 83, 84, 85, 86, 87, 88, 7, 89, 17, 16, 14, 90, 15, 91, 92, 117, 118, 119, 120, 97, 98, 99, 100, 101, 102, 103, 104, 105, 106, 107, 108, 109, 110, 111, 112, 113, 121, 122, 123] (by decide +kernel) (by decide +kernel)
set_option maxRecDepth 20000 in
theorem gX3_walkFrom_X3_leave : GoodIn wsX3_walkFrom (wsV RX3 57 RX3 yX3_leave wsX3_leave) := goodIn_app (goodIn_of _ (by decide +kernel)) ggX3_walkFrom_X3_leave
set_option maxRecDepth 20000 in
theorem ggX3_walkFrom_X3_follow : GoodIn wsX3_walkFrom wsX3_follow := goodIn_r _ [96, 10, 14, 15, 11, 29, 30, 31, 32, 4, 5, 6, 7, 8, 9, 12, 1, 13, 16, 17, 18, 19, 20, 21, 22, 23, 97, 98, 99, 100, 101, 102, 103, 104, 105, 106, 107, 108, 109, 110, 111, 112, 113, 117, 118, 119, 120] (by decide +kernel) (by decide +kernel)
set_option maxRecDepth 20000 in
theorem gX3_walkFrom_X3_follow : GoodIn wsX3_walkFrom (wsV RX3 69 RX3 yX3_follow wsX3_follow) := goodIn_app (goodIn_of _ (by decide +kernel)) ggX3_walkFrom_X3_follow
theorem dX3_walkFrom_0 : decode cX3_walkFrom 0 = .ok (.aload_n 0, 1) := by decide +kernel
theorem dX3_walkFrom_1 : decode cX3_walkFrom 1 = .ok (.aload_n 1, 1) := by decide +kernel
theorem dX3_walkFrom_2 : decode cX3_walkFrom 2 = .ok (.aconst_null, 1) := by decide +kernel
theorem dX3_walkFrom_3 : decode cX3_walkFrom 3 = .ok (.invokevirtual 49, 3) := by decide +kernel
theorem dX3_walkFrom_6 : decode cX3_walkFrom 6 = .ok (.aload_n 1, 1) := by decide +kernel
theorem dX3_walkFrom_7 : decode cX3_walkFrom 7 = .ok (.astore_n 2, 1) := by decide +kernel
theorem dX3_walkFrom_8 : decode cX3_walkFrom 8 = .ok (.iconst 0, 1) := by decide +kernel
theorem dX3_walkFrom_9 : decode cX3_walkFrom 9 = .ok (.istore_n 3, 1) := by decide +kernel
theorem dX3_walkFrom_10 : decode cX3_walkFrom 10 = .ok (.aload_n 2, 1) := by decide +kernel
theorem dX3_walkFrom_11 : decode cX3_walkFrom 11 = .ok (.ifnull 56, 3) := by decide +kernel
theorem dX3_walkFrom_14 : decode cX3_walkFrom 14 = .ok (.iload_n 3, 1) := by decide +kernel
theorem dX3_walkFrom_15 : decode cX3_walkFrom 15 = .ok (.sipush 3000, 3) := by decide +kernel
theorem dX3_walkFrom_18 : decode cX3_walkFrom 18 = .ok (.if_icmp .ge 49, 3) := by decide +kernel
theorem dX3_walkFrom_21 : decode cX3_walkFrom 21 = .ok (.aload_n 2, 1) := by decide +kernel
theorem dX3_walkFrom_22 : decode cX3_walkFrom 22 = .ok (.getfield 53, 3) := by decide +kernel
theorem dX3_walkFrom_25 : decode cX3_walkFrom 25 = .ok (.astore 4, 2) := by decide +kernel
theorem dX3_walkFrom_27 : decode cX3_walkFrom 27 = .ok (.aload 4, 2) := by decide +kernel
theorem dX3_walkFrom_29 : decode cX3_walkFrom 29 = .ok (.ifnonnull 12, 3) := by decide +kernel
theorem dX3_walkFrom_32 : decode cX3_walkFrom 32 = .ok (.aload_n 0, 1) := by decide +kernel
theorem dX3_walkFrom_33 : decode cX3_walkFrom 33 = .ok (.aload_n 2, 1) := by decide +kernel
theorem dX3_walkFrom_34 : decode cX3_walkFrom 34 = .ok (.invokevirtual 57, 3) := by decide +kernel
theorem dX3_walkFrom_37 : decode cX3_walkFrom 37 = .ok (.astore_n 2, 1) := by decide +kernel
theorem dX3_walkFrom_38 : decode cX3_walkFrom 38 = .ok (.goto 23, 3) := by decide +kernel
theorem dX3_walkFrom_41 : decode cX3_walkFrom 41 = .ok (.aload_n 2, 1) := by decide +kernel
theorem dX3_walkFrom_42 : decode cX3_walkFrom 42 = .ok (.aload 4, 2) := by decide +kernel
theorem dX3_walkFrom_44 : decode cX3_walkFrom 44 = .ok (.getfield 61, 3) := by decide +kernel
theorem dX3_walkFrom_47 : decode cX3_walkFrom 47 = .ok (.putfield 53, 3) := by decide +kernel
theorem dX3_walkFrom_50 : decode cX3_walkFrom 50 = .ok (.aload_n 0, 1) := by decide +kernel
theorem dX3_walkFrom_51 : decode cX3_walkFrom 51 = .ok (.aload_n 2, 1) := by decide +kernel
theorem dX3_walkFrom_52 : decode cX3_walkFrom 52 = .ok (.aload 4, 2) := by decide +kernel
theorem dX3_walkFrom_54 : decode cX3_walkFrom 54 = .ok (.getfield 66, 3) := by decide +kernel
theorem dX3_walkFrom_57 : decode cX3_walkFrom 57 = .ok (.invokevirtual 69, 3) := by decide +kernel
theorem dX3_walkFrom_60 : decode cX3_walkFrom 60 = .ok (.astore_n 2, 1) := by decide +kernel
theorem dX3_walkFrom_61 : decode cX3_walkFrom 61 = .ok (.iinc 3 1, 3) := by decide +kernel
theorem dX3_walkFrom_64 : decode cX3_walkFrom 64 = .ok (.goto (-54), 3) := by decide +kernel
theorem dX3_walkFrom_67 : decode cX3_walkFrom 67 = .ok (.return_, 1) := by decide +kernel
set_option maxRecDepth 20000 in
theorem ggX3_enter_X1_isLogic : GoodIn wsX3_enter wsX1_isLogic := goodIn_r _ [15, 16, 21, 22, 23, 24, 25, 26, 27, 28, 29, 30, 31, 32, 33, 34, 35, 36, 37] (by decide +kernel) (by decide +kernel)
set_option maxRecDepth 20000 in
theorem gX3_enter_X1_isLogic : GoodIn wsX3_enter (wsV RX3 76 RX1 yX1_isLogic wsX1_isLogic) := goodIn_app (goodIn_of _ (by decide +kernel)) ggX3_enter_X1_isLogic
theorem dX3_enter_0 : decode cX3_enter 0 = .ok (.aload_n 1, 1) := by decide +kernel
theorem dX3_enter_1 : decode cX3_enter 1 = .ok (.aload_n 0, 1) := by decide +kernel
theorem dX3_enter_2 : decode cX3_enter 2 = .ok (.getfield 22, 3) := by decide +kernel
theorem dX3_enter_5 : decode cX3_enter 5 = .ok (.putfield 42, 3) := by decide +kernel
theorem dX3_enter_8 : decode cX3_enter 8 = .ok (.aload_n 1, 1) := by decide +kernel
theorem dX3_enter_9 : decode cX3_enter 9 = .ok (.aload_n 0, 1) := by decide +kernel
theorem dX3_enter_10 : decode cX3_enter 10 = .ok (.getfield 22, 3) := by decide +kernel
theorem dX3_enter_13 : decode cX3_enter 13 = .ok (.putfield 73, 3) := by decide +kernel
theorem dX3_enter_16 : decode cX3_enter 16 = .ok (.aload_n 0, 1) := by decide +kernel
theorem dX3_enter_17 : decode cX3_enter 17 = .ok (.dup, 1) := by decide +kernel
theorem dX3_enter_18 : decode cX3_enter 18 = .ok (.getfield 22, 3) := by decide +kernel
theorem dX3_enter_21 : decode cX3_enter 21 = .ok (.iconst 1, 1) := by decide +kernel
theorem dX3_enter_22 : decode cX3_enter 22 = .ok (.iadd, 1) := by decide +kernel
theorem dX3_enter_23 : decode cX3_enter 23 = .ok (.putfield 22, 3) := by decide +kernel
theorem dX3_enter_26 : decode cX3_enter 26 = .ok (.aload_n 1, 1) := by decide +kernel
theorem dX3_enter_27 : decode cX3_enter 27 = .ok (.aload_n 1, 1) := by decide +kernel
theorem dX3_enter_28 : decode cX3_enter 28 = .ok (.invokevirtual 76, 3) := by decide +kernel
theorem dX3_enter_31 : decode cX3_enter 31 = .ok (.ifCond .eq 10, 3) := by decide +kernel
theorem dX3_enter_34 : decode cX3_enter 34 = .ok (.aload_n 1, 1) := by decide +kernel
theorem dX3_enter_35 : decode cX3_enter 35 = .ok (.getfield 80, 3) := by decide +kernel
theorem dX3_enter_38 : decode cX3_enter 38 = .ok (.goto 4, 3) := by decide +kernel
theorem dX3_enter_41 : decode cX3_enter 41 = .ok (.aconst_null, 1) := by decide +kernel
theorem dX3_enter_42 : decode cX3_enter 42 = .ok (.putfield 53, 3) := by decide +kernel
theorem dX3_enter_45 : decode cX3_enter 45 = .ok (.aload_n 1, 1) := by decide +kernel
theorem dX3_enter_46 : decode cX3_enter 46 = .ok (.aload_n 2, 1) := by decide +kernel
theorem dX3_enter_47 : decode cX3_enter 47 = .ok (.putfield 83, 3) := by decide +kernel
theorem dX3_enter_50 : decode cX3_enter 50 = .ok (.aload_n 1, 1) := by decide +kernel
theorem dX3_enter_51 : decode cX3_enter 51 = .ok (.iconst 0, 1) := by decide +kernel
theorem dX3_enter_52 : decode cX3_enter 52 = .ok (.putfield 86, 3) := by decide +kernel
theorem dX3_enter_55 : decode cX3_enter 55 = .ok (.aload_n 1, 1) := by decide +kernel
theorem dX3_enter_56 : decode cX3_enter 56 = .ok (.iconst 1, 1) := by decide +kernel
