theorem dX4_gateAt_36 : decode cX4_gateAt 36 = .ok (.areturn, 1) := by decide +kernel
theorem dX4_forgetAll_0 : decode cX4_forgetAll 0 = .ok (.aload_n 0, 1) := by decide +kernel
theorem dX4_forgetAll_1 : decode cX4_forgetAll 1 = .ok (.iconst 1, 1) := by decide +kernel
theorem dX4_forgetAll_2 : decode cX4_forgetAll 2 = .ok (.putfield 39, 3) := by decide +kernel
theorem dX4_forgetAll_5 : decode cX4_forgetAll 5 = .ok (.aload_n 0, 1) := by decide +kernel
theorem dX4_forgetAll_6 : decode cX4_forgetAll 6 = .ok (.iconst 1, 1) := by decide +kernel
theorem dX4_forgetAll_7 : decode cX4_forgetAll 7 = .ok (.putfield 43, 3) := by decide +kernel
theorem dX4_forgetAll_10 : decode cX4_forgetAll 10 = .ok (.return_, 1) := by decide +kernel
set_option maxRecDepth 20000 in
theorem ggX4_settles_X4_spreadKnown : GoodIn wsX4_settles wsX4_spreadKnown := goodIn_r _ [6, 7, 8, 1, 9, 10, 11, 5, 12, 13, 14, 15, 16, 17, 18, 19, 20, 21, 22, 23, 24, 25, 26, 27, 28, 29, 30, 31, 32, 33, 34, 35, 36, 37, 38, 39, 40, 41, 42, 43, 44, 45, 46, 47, 48, 49, 50, 51, 52, 53, 54, 55, 56, 57, 58, 59, 60, 61, 62, 63, 64, 65, 66, 67, 68, 69, 70, 71, 72, 73, 74, 75, 76, 77, 78, 79, 80, 81, 82, 83, 84, 85, 86, 87, 88, 89, 90, 91, 92, 93, 94, 95, 96, 97, 98, 99, 100, 101, 102, 103, 104, 105, 106, 107] (by decide +kernel) (by decide +kernel)
set_option maxRecDepth 20000 in
theorem gX4_settles_X4_spreadKnown : GoodIn wsX4_settles (wsV RX4 103 RX4 yX4_spreadKnown wsX4_spreadKnown) := goodIn_app (goodIn_of _ (by decide +kernel)) ggX4_settles_X4_spreadKnown
theorem dX4_settles_0 : decode cX4_settles 0 = .ok (.aload_n 0, 1) := by decide +kernel
theorem dX4_settles_1 : decode cX4_settles 1 = .ok (.invokevirtual 103, 3) := by decide +kernel
theorem dX4_settles_4 : decode cX4_settles 4 = .ok (.aload_n 0, 1) := by decide +kernel
theorem dX4_settles_5 : decode cX4_settles 5 = .ok (.getfield 33, 3) := by decide +kernel
theorem dX4_settles_8 : decode cX4_settles 8 = .ok (.ifCond .ne 7, 3) := by decide +kernel
theorem dX4_settles_11 : decode cX4_settles 11 = .ok (.iconst 1, 1) := by decide +kernel
theorem dX4_settles_12 : decode cX4_settles 12 = .ok (.goto 4, 3) := by decide +kernel
theorem dX4_settles_15 : decode cX4_settles 15 = .ok (.iconst 0, 1) := by decide +kernel
theorem dX4_settles_16 : decode cX4_settles 16 = .ok (.ireturn, 1) := by decide +kernel
set_option maxRecDepth 20000 in
theorem ggX4_findParts_X3_findIn : GoodIn wsX4_findParts wsX3_findIn := goodIn_r _ [8, 9, 10, 11, 12, 13, 14, 15, 16, 17, 18, 19, 20, 21, 22, 23, 24, 25, 26, 27, 28, 29, 30, 31, 32, 33, 34, 35, 36, 37, 38, 39, 40, 41, 42, 43, 44, 45, 46, 7, 47, 48, 49, 50, 51, 52, 53, 54, 55, 56, 57, 58, 59, 60, 61, 62, 63, 64, 65, 66, 67, 68, 69, 70, 71, 72, 73, 74, 75, 76, 77, 78, 79, 80, 81, 82, 83, 84, 85, 86, 87, 88, 89, 90, 91, 92, 93, 94, 95, 96, 97, 98, 99, 100, 101, 102, 103, 104, 105, 106, 107, 108, 109, 110, 111, 112, 113, 114, 115, 116, 117, 118, 119, 120, 121, 122, 123, 124, 125, 126, 127, 128, 129, 130, 131, 132, 142, 143, 144, 145, 146, 147, 148, 149, 150, 151, 152, 153, 154, 155, 156, 157, 158, 159, 160, 161, 162, 163, 164, 165, 166, 167, 168] (by decide +kernel) (by decide +kernel)
set_option maxRecDepth 20000 in
theorem gX4_findParts_X3_findIn : GoodIn wsX4_findParts (wsV RX4 150 RX3 yX3_findIn wsX3_findIn) := goodIn_app (goodIn_of _ (by decide +kernel)) ggX4_findParts_X3_findIn
theorem dX4_findParts_0 : decode cX4_findParts 0 = .ok (.aload_n 0, 1) := by decide +kernel
theorem dX4_findParts_1 : decode cX4_findParts 1 = .ok (.getfield 43, 3) := by decide +kernel
theorem dX4_findParts_4 : decode cX4_findParts 4 = .ok (.ifCond .eq 19, 3) := by decide +kernel
theorem dX4_findParts_7 : decode cX4_findParts 7 = .ok (.aload_n 0, 1) := by decide +kernel
theorem dX4_findParts_8 : decode cX4_findParts 8 = .ok (.getfield 19, 3) := by decide +kernel
theorem dX4_findParts_11 : decode cX4_findParts 11 = .ok (.aload_n 0, 1) := by decide +kernel
theorem dX4_findParts_12 : decode cX4_findParts 12 = .ok (.getfield 10, 3) := by decide +kernel
theorem dX4_findParts_15 : decode cX4_findParts 15 = .ok (.invokevirtual 150, 3) := by decide +kernel
theorem dX4_findParts_18 : decode cX4_findParts 18 = .ok (.aload_n 0, 1) := by decide +kernel
theorem dX4_findParts_19 : decode cX4_findParts 19 = .ok (.iconst 0, 1) := by decide +kernel
theorem dX4_findParts_20 : decode cX4_findParts 20 = .ok (.putfield 43, 3) := by decide +kernel
theorem dX4_findParts_23 : decode cX4_findParts 23 = .ok (.return_, 1) := by decide +kernel
set_option maxRecDepth 20000 in
theorem ggX4_spreadKnown_X4_startSpread : GoodIn wsX4_spreadKnown wsX4_startSpread := goodIn_r _ [8, 3, 9, 10, 11, 12, 13, 14, 15, 16, 17, 18, 19, 20, 21, 22, 23, 24, 25, 26, 27, 28, 29, 30, 31, 32, 33, 34, 35, 36, 72, 73, 74, 75, 76, 77, 78, 79, 80, 81, 82, 83, 84, 85, 86, 87, 88, 89, 90, 91, 92, 93, 94, 95, 96, 97, 98, 99, 100] (by decide +kernel) (by decide +kernel)
set_option maxRecDepth 20000 in
theorem gX4_spreadKnown_X4_startSpread : GoodIn wsX4_spreadKnown (wsV RX4 154 RX4 yX4_startSpread wsX4_startSpread) := goodIn_app (goodIn_of _ (by decide +kernel)) ggX4_spreadKnown_X4_startSpread
set_option maxRecDepth 20000 in
theorem ggX4_spreadKnown_X4_spreadRound : GoodIn wsX4_spreadKnown wsX4_spreadRound := goodIn_r _ [40, 9, 10, 12, 14, 15, 16, 17, 18, 19, 20, 21, 22, 23, 24, 25, 26, 27, 28, 29, 30, 31, 32, 33, 34, 35, 36, 41, 42, 43, 44, 45, 46, 47, 48, 49, 50, 51, 52, 53, 54, 55, 56, 57, 58, 59, 60, 61, 62, 63, 64, 65, 66, 67, 68, 69, 70, 71, 72, 73, 74, 75, 76, 77, 78, 79, 80, 81, 82, 83, 84, 85, 86, 87, 88, 89, 90, 91, 92, 93, 94, 95, 96, 97, 98, 99, 100, 101, 102, 103] (by decide +kernel) (by decide +kernel)
set_option maxRecDepth 20000 in
theorem gX4_spreadKnown_X4_spreadRound : GoodIn wsX4_spreadKnown (wsV RX4 157 RX4 yX4_spreadRound wsX4_spreadRound) := goodIn_app (goodIn_of _ (by decide +kernel)) ggX4_spreadKnown_X4_spreadRound
theorem dX4_spreadKnown_0 : decode cX4_spreadKnown 0 = .ok (.aload_n 0, 1) := by decide +kernel
theorem dX4_spreadKnown_1 : decode cX4_spreadKnown 1 = .ok (.getfield 39, 3) := by decide +kernel
theorem dX4_spreadKnown_4 : decode cX4_spreadKnown 4 = .ok (.ifCond .ne 4, 3) := by decide +kernel
theorem dX4_spreadKnown_7 : decode cX4_spreadKnown 7 = .ok (.return_, 1) := by decide +kernel
theorem dX4_spreadKnown_8 : decode cX4_spreadKnown 8 = .ok (.aload_n 0, 1) := by decide +kernel
theorem dX4_spreadKnown_9 : decode cX4_spreadKnown 9 = .ok (.invokevirtual 154, 3) := by decide +kernel
theorem dX4_spreadKnown_12 : decode cX4_spreadKnown 12 = .ok (.aload_n 0, 1) := by decide +kernel
theorem dX4_spreadKnown_13 : decode cX4_spreadKnown 13 = .ok (.iconst 0, 1) := by decide +kernel
theorem dX4_spreadKnown_14 : decode cX4_spreadKnown 14 = .ok (.putfield 36, 3) := by decide +kernel
theorem dX4_spreadKnown_17 : decode cX4_spreadKnown 17 = .ok (.iconst 1, 1) := by decide +kernel
theorem dX4_spreadKnown_18 : decode cX4_spreadKnown 18 = .ok (.istore_n 1, 1) := by decide +kernel
theorem dX4_spreadKnown_19 : decode cX4_spreadKnown 19 = .ok (.iload_n 1, 1) := by decide +kernel
theorem dX4_spreadKnown_20 : decode cX4_spreadKnown 20 = .ok (.sipush 600, 3) := by decide +kernel
theorem dX4_spreadKnown_23 : decode cX4_spreadKnown 23 = .ok (.if_icmp .gt 37, 3) := by decide +kernel
theorem dX4_spreadKnown_26 : decode cX4_spreadKnown 26 = .ok (.aload_n 0, 1) := by decide +kernel
theorem dX4_spreadKnown_27 : decode cX4_spreadKnown 27 = .ok (.iload_n 1, 1) := by decide +kernel
theorem dX4_spreadKnown_28 : decode cX4_spreadKnown 28 = .ok (.invokevirtual 157, 3) := by decide +kernel
theorem dX4_spreadKnown_31 : decode cX4_spreadKnown 31 = .ok (.istore_n 2, 1) := by decide +kernel
theorem dX4_spreadKnown_32 : decode cX4_spreadKnown 32 = .ok (.iload_n 2, 1) := by decide +kernel
theorem dX4_spreadKnown_33 : decode cX4_spreadKnown 33 = .ok (.ifCond .ne 6, 3) := by decide +kernel
theorem dX4_spreadKnown_36 : decode cX4_spreadKnown 36 = .ok (.goto 24, 3) := by decide +kernel
theorem dX4_spreadKnown_39 : decode cX4_spreadKnown 39 = .ok (.aload_n 0, 1) := by decide +kernel
theorem dX4_spreadKnown_40 : decode cX4_spreadKnown 40 = .ok (.dup, 1) := by decide +kernel
theorem dX4_spreadKnown_41 : decode cX4_spreadKnown 41 = .ok (.getfield 33, 3) := by decide +kernel
theorem dX4_spreadKnown_44 : decode cX4_spreadKnown 44 = .ok (.iload_n 2, 1) := by decide +kernel
theorem dX4_spreadKnown_45 : decode cX4_spreadKnown 45 = .ok (.isub, 1) := by decide +kernel
theorem dX4_spreadKnown_46 : decode cX4_spreadKnown 46 = .ok (.putfield 33, 3) := by decide +kernel
theorem dX4_spreadKnown_49 : decode cX4_spreadKnown 49 = .ok (.aload_n 0, 1) := by decide +kernel
theorem dX4_spreadKnown_50 : decode cX4_spreadKnown 50 = .ok (.iload_n 1, 1) := by decide +kernel
theorem dX4_spreadKnown_51 : decode cX4_spreadKnown 51 = .ok (.putfield 36, 3) := by decide +kernel
theorem dX4_spreadKnown_54 : decode cX4_spreadKnown 54 = .ok (.iinc 1 1, 3) := by decide +kernel
theorem dX4_spreadKnown_57 : decode cX4_spreadKnown 57 = .ok (.goto (-38), 3) := by decide +kernel
theorem dX4_spreadKnown_60 : decode cX4_spreadKnown 60 = .ok (.aload_n 0, 1) := by decide +kernel
theorem dX4_spreadKnown_61 : decode cX4_spreadKnown 61 = .ok (.iconst 0, 1) := by decide +kernel
theorem dX4_spreadKnown_62 : decode cX4_spreadKnown 62 = .ok (.putfield 39, 3) := by decide +kernel
theorem dX4_spreadKnown_65 : decode cX4_spreadKnown 65 = .ok (.return_, 1) := by decide +kernel
set_option maxRecDepth 20000 in
theorem ggX4_startSpread_Jx4a65c_size_8abf5 : GoodIn wsX4_startSpread wsJx4a65c_size_8abf5 := goodIn_r _ [11, 12, 56, 57, 58] (by decide +kernel) (by decide +kernel)
set_option maxRecDepth 20000 in
theorem gX4_startSpread_Jx4a65c_size_8abf5 : GoodIn wsX4_startSpread (wsV RX4 53 RJx4a65c yJx4a65c_size_8abf5 wsJx4a65c_size_8abf5) := goodIn_app (goodIn_of _ (by decide +kernel)) ggX4_startSpread_Jx4a65c_size_8abf5
set_option maxRecDepth 20000 in
theorem ggX4_startSpread_Jx4a65c_get_915e3 : GoodIn wsX4_startSpread wsJx4a65c_get_915e3 := goodIn_r _ [16, 12, 17, 18, 19, 20, 21, 22, 23, 24, 25, 26, 27, 10, 28, 29, 56, 57, 58] (by decide +kernel) (by decide +kernel)
set_option maxRecDepth 20000 in
theorem gX4_startSpread_Jx4a65c_get_915e3 : GoodIn wsX4_startSpread (wsV RX4 115 RJx4a65c yJx4a65c_get_915e3 wsJx4a65c_get_915e3) := goodIn_app (goodIn_of _ (by decide +kernel)) ggX4_startSpread_Jx4a65c_get_915e3
theorem dX4_startSpread_0 : decode cX4_startSpread 0 = .ok (.aload_n 0, 1) := by decide +kernel
theorem dX4_startSpread_1 : decode cX4_startSpread 1 = .ok (.iconst 0, 1) := by decide +kernel
theorem dX4_startSpread_2 : decode cX4_startSpread 2 = .ok (.putfield 33, 3) := by decide +kernel
theorem dX4_startSpread_5 : decode cX4_startSpread 5 = .ok (.iconst 0, 1) := by decide +kernel
theorem dX4_startSpread_6 : decode cX4_startSpread 6 = .ok (.istore_n 1, 1) := by decide +kernel
theorem dX4_startSpread_7 : decode cX4_startSpread 7 = .ok (.iload_n 1, 1) := by decide +kernel
theorem dX4_startSpread_8 : decode cX4_startSpread 8 = .ok (.aload_n 0, 1) := by decide +kernel
theorem dX4_startSpread_9 : decode cX4_startSpread 9 = .ok (.getfield 10, 3) := by decide +kernel
theorem dX4_startSpread_12 : decode cX4_startSpread 12 = .ok (.invokevirtual 53, 3) := by decide +kernel
theorem dX4_startSpread_15 : decode cX4_startSpread 15 = .ok (.if_icmp .ge 64, 3) := by decide +kernel
theorem dX4_startSpread_18 : decode cX4_startSpread 18 = .ok (.aload_n 0, 1) := by decide +kernel
theorem dX4_startSpread_19 : decode cX4_startSpread 19 = .ok (.getfield 10, 3) := by decide +kernel
theorem dX4_startSpread_22 : decode cX4_startSpread 22 = .ok (.iload_n 1, 1) := by decide +kernel
theorem dX4_startSpread_23 : decode cX4_startSpread 23 = .ok (.invokevirtual 115, 3) := by decide +kernel
theorem dX4_startSpread_26 : decode cX4_startSpread 26 = .ok (.checkcast 57, 3) := by decide +kernel
theorem dX4_startSpread_29 : decode cX4_startSpread 29 = .ok (.astore_n 2, 1) := by decide +kernel
theorem dX4_startSpread_30 : decode cX4_startSpread 30 = .ok (.aload_n 2, 1) := by decide +kernel
theorem dX4_startSpread_31 : decode cX4_startSpread 31 = .ok (.aload_n 2, 1) := by decide +kernel
theorem dX4_startSpread_32 : decode cX4_startSpread 32 = .ok (.getfield 100, 3) := by decide +kernel
theorem dX4_startSpread_35 : decode cX4_startSpread 35 = .ok (.putfield 106, 3) := by decide +kernel
theorem dX4_startSpread_38 : decode cX4_startSpread 38 = .ok (.aload_n 2, 1) := by decide +kernel
theorem dX4_startSpread_39 : decode cX4_startSpread 39 = .ok (.aload_n 2, 1) := by decide +kernel
theorem dX4_startSpread_40 : decode cX4_startSpread 40 = .ok (.getfield 100, 3) := by decide +kernel
theorem dX4_startSpread_43 : decode cX4_startSpread 43 = .ok (.iconst 2, 1) := by decide +kernel
theorem dX4_startSpread_44 : decode cX4_startSpread 44 = .ok (.if_icmp .ne 7, 3) := by decide +kernel
theorem dX4_startSpread_47 : decode cX4_startSpread 47 = .ok (.iconst (-1), 1) := by decide +kernel
theorem dX4_startSpread_48 : decode cX4_startSpread 48 = .ok (.goto 4, 3) := by decide +kernel
theorem dX4_startSpread_51 : decode cX4_startSpread 51 = .ok (.iconst 0, 1) := by decide +kernel
theorem dX4_startSpread_52 : decode cX4_startSpread 52 = .ok (.putfield 109, 3) := by decide +kernel
theorem dX4_startSpread_55 : decode cX4_startSpread 55 = .ok (.aload_n 2, 1) := by decide +kernel
theorem dX4_startSpread_56 : decode cX4_startSpread 56 = .ok (.getfield 100, 3) := by decide +kernel
theorem dX4_startSpread_59 : decode cX4_startSpread 59 = .ok (.iconst 2, 1) := by decide +kernel
theorem dX4_startSpread_60 : decode cX4_startSpread 60 = .ok (.if_icmp .ne 13, 3) := by decide +kernel
theorem dX4_startSpread_63 : decode cX4_startSpread 63 = .ok (.aload_n 0, 1) := by decide +kernel
theorem dX4_startSpread_64 : decode cX4_startSpread 64 = .ok (.dup, 1) := by decide +kernel
theorem dX4_startSpread_65 : decode cX4_startSpread 65 = .ok (.getfield 33, 3) := by decide +kernel
theorem dX4_startSpread_68 : decode cX4_startSpread 68 = .ok (.iconst 1, 1) := by decide +kernel
theorem dX4_startSpread_69 : decode cX4_startSpread 69 = .ok (.iadd, 1) := by decide +kernel
theorem dX4_startSpread_70 : decode cX4_startSpread 70 = .ok (.putfield 33, 3) := by decide +kernel
theorem dX4_startSpread_73 : decode cX4_startSpread 73 = .ok (.iinc 1 1, 3) := by decide +kernel
theorem dX4_startSpread_76 : decode cX4_startSpread 76 = .ok (.goto (-69), 3) := by decide +kernel
theorem dX4_startSpread_79 : decode cX4_startSpread 79 = .ok (.return_, 1) := by decide +kernel
set_option maxRecDepth 20000 in
theorem ggX4_spreadRound_Jx4a65c_size_8abf5 : GoodIn wsX4_spreadRound wsJx4a65c_size_8abf5 := goodIn_r _ [8, 9, 84, 85, 86] (by decide +kernel) (by decide +kernel)
set_option maxRecDepth 20000 in
theorem gX4_spreadRound_Jx4a65c_size_8abf5 : GoodIn wsX4_spreadRound (wsV RX4 53 RJx4a65c yJx4a65c_size_8abf5 wsJx4a65c_size_8abf5) := goodIn_app (goodIn_of _ (by decide +kernel)) ggX4_spreadRound_Jx4a65c_size_8abf5
set_option maxRecDepth 20000 in
theorem ggX4_spreadRound_Jx4a65c_get_915e3 : GoodIn wsX4_spreadRound wsJx4a65c_get_915e3 := goodIn_r _ [13, 9, 14, 15, 16, 17, 18, 19, 20, 21, 22, 23, 24, 7, 25, 26, 84, 85, 86] (by decide +kernel) (by decide +kernel)
set_option maxRecDepth 20000 in
theorem gX4_spreadRound_Jx4a65c_get_915e3 : GoodIn wsX4_spreadRound (wsV RX4 115 RJx4a65c yJx4a65c_get_915e3 wsJx4a65c_get_915e3) := goodIn_app (goodIn_of _ (by decide +kernel)) ggX4_spreadRound_Jx4a65c_get_915e3
set_option maxRecDepth 20000 in
theorem ggX4_spreadRound_X1_becomesKnown : GoodIn wsX4_spreadRound wsX1_becomesKnown := goodIn_r _ [31, 32, 33, 34, 35, 36, 30, 37, 38, 39, 40, 41, 42, 43, 44, 45, 46, 47, 48, 49, 50, 51, 52, 53, 54, 55, 56, 57, 67, 68, 69, 70, 71, 72, 73, 74, 75, 76, 77, 78, 79, 80, 81, 82, 83, 87, 88, 89] (by decide +kernel) (by decide +kernel)
set_option maxRecDepth 20000 in
theorem gX4_spreadRound_X1_becomesKnown : GoodIn wsX4_spreadRound (wsV RX4 161 RX1 yX1_becomesKnown wsX1_becomesKnown) := goodIn_app (goodIn_of _ (by decide +kernel)) ggX4_spreadRound_X1_becomesKnown
theorem dX4_spreadRound_0 : decode cX4_spreadRound 0 = .ok (.iconst 0, 1) := by decide +kernel
theorem dX4_spreadRound_1 : decode cX4_spreadRound 1 = .ok (.istore_n 2, 1) := by decide +kernel
theorem dX4_spreadRound_2 : decode cX4_spreadRound 2 = .ok (.iconst 0, 1) := by decide +kernel
theorem dX4_spreadRound_3 : decode cX4_spreadRound 3 = .ok (.istore_n 3, 1) := by decide +kernel
theorem dX4_spreadRound_4 : decode cX4_spreadRound 4 = .ok (.iload_n 3, 1) := by decide +kernel
theorem dX4_spreadRound_5 : decode cX4_spreadRound 5 = .ok (.aload_n 0, 1) := by decide +kernel
theorem dX4_spreadRound_6 : decode cX4_spreadRound 6 = .ok (.getfield 10, 3) := by decide +kernel
theorem dX4_spreadRound_9 : decode cX4_spreadRound 9 = .ok (.invokevirtual 53, 3) := by decide +kernel
theorem dX4_spreadRound_12 : decode cX4_spreadRound 12 = .ok (.if_icmp .ge 43, 3) := by decide +kernel
theorem dX4_spreadRound_15 : decode cX4_spreadRound 15 = .ok (.aload_n 0, 1) := by decide +kernel
theorem dX4_spreadRound_16 : decode cX4_spreadRound 16 = .ok (.getfield 10, 3) := by decide +kernel
theorem dX4_spreadRound_19 : decode cX4_spreadRound 19 = .ok (.iload_n 3, 1) := by decide +kernel
theorem dX4_spreadRound_20 : decode cX4_spreadRound 20 = .ok (.invokevirtual 115, 3) := by decide +kernel
theorem dX4_spreadRound_23 : decode cX4_spreadRound 23 = .ok (.checkcast 57, 3) := by decide +kernel
theorem dX4_spreadRound_26 : decode cX4_spreadRound 26 = .ok (.astore 4, 2) := by decide +kernel
theorem dX4_spreadRound_28 : decode cX4_spreadRound 28 = .ok (.aload 4, 2) := by decide +kernel
theorem dX4_spreadRound_30 : decode cX4_spreadRound 30 = .ok (.getfield 106, 3) := by decide +kernel
theorem dX4_spreadRound_33 : decode cX4_spreadRound 33 = .ok (.iconst 2, 1) := by decide +kernel
theorem dX4_spreadRound_34 : decode cX4_spreadRound 34 = .ok (.if_icmp .ne 15, 3) := by decide +kernel
theorem dX4_spreadRound_37 : decode cX4_spreadRound 37 = .ok (.aload 4, 2) := by decide +kernel
theorem dX4_spreadRound_39 : decode cX4_spreadRound 39 = .ok (.iload_n 1, 1) := by decide +kernel
theorem dX4_spreadRound_40 : decode cX4_spreadRound 40 = .ok (.invokevirtual 161, 3) := by decide +kernel
theorem dX4_spreadRound_43 : decode cX4_spreadRound 43 = .ok (.ifCond .eq 6, 3) := by decide +kernel
theorem dX4_spreadRound_46 : decode cX4_spreadRound 46 = .ok (.iinc 2 1, 3) := by decide +kernel
theorem dX4_spreadRound_49 : decode cX4_spreadRound 49 = .ok (.iinc 3 1, 3) := by decide +kernel
theorem dX4_spreadRound_52 : decode cX4_spreadRound 52 = .ok (.goto (-48), 3) := by decide +kernel
theorem dX4_spreadRound_55 : decode cX4_spreadRound 55 = .ok (.iload_n 2, 1) := by decide +kernel
theorem dX4_spreadRound_56 : decode cX4_spreadRound 56 = .ok (.ireturn, 1) := by decide +kernel
theorem dX5_init_0 : decode cX5_init 0 = .ok (.aload_n 0, 1) := by decide +kernel
theorem dX5_init_1 : decode cX5_init 1 = .ok (.invokespecial 1, 3) := by decide +kernel
theorem dX5_init_4 : decode cX5_init 4 = .ok (.aload_n 0, 1) := by decide +kernel
theorem dX5_init_5 : decode cX5_init 5 = .ok (.sipush 600, 3) := by decide +kernel
theorem dX5_init_8 : decode cX5_init 8 = .ok (.newarray .int, 2) := by decide +kernel
theorem dX5_init_10 : decode cX5_init 10 = .ok (.putfield 7, 3) := by decide +kernel
theorem dX5_init_13 : decode cX5_init 13 = .ok (.aload_n 0, 1) := by decide +kernel
theorem dX5_init_14 : decode cX5_init 14 = .ok (.sipush 600, 3) := by decide +kernel
theorem dX5_init_17 : decode cX5_init 17 = .ok (.newarray .int, 2) := by decide +kernel
theorem dX5_init_19 : decode cX5_init 19 = .ok (.putfield 13, 3) := by decide +kernel
theorem dX5_init_22 : decode cX5_init 22 = .ok (.aload_n 0, 1) := by decide +kernel
theorem dX5_init_23 : decode cX5_init 23 = .ok (.sipush 2400, 3) := by decide +kernel
theorem dX5_init_26 : decode cX5_init 26 = .ok (.newarray .int, 2) := by decide +kernel
theorem dX5_init_28 : decode cX5_init 28 = .ok (.putfield 16, 3) := by decide +kernel
theorem dX5_init_31 : decode cX5_init 31 = .ok (.aload_n 0, 1) := by decide +kernel
theorem dX5_init_32 : decode cX5_init 32 = .ok (.sipush 2400, 3) := by decide +kernel
theorem dX5_init_35 : decode cX5_init 35 = .ok (.newarray .int, 2) := by decide +kernel
theorem dX5_init_37 : decode cX5_init 37 = .ok (.putfield 19, 3) := by decide +kernel
theorem dX5_init_40 : decode cX5_init 40 = .ok (.aload_n 0, 1) := by decide +kernel
theorem dX5_init_41 : decode cX5_init 41 = .ok (.sipush 2400, 3) := by decide +kernel
theorem dX5_init_44 : decode cX5_init 44 = .ok (.newarray .boolean, 2) := by decide +kernel
theorem dX5_init_46 : decode cX5_init 46 = .ok (.putfield 22, 3) := by decide +kernel
theorem dX5_init_49 : decode cX5_init 49 = .ok (.aload_n 0, 1) := by decide +kernel
theorem dX5_init_50 : decode cX5_init 50 = .ok (.sipush 600, 3) := by decide +kernel
theorem dX5_init_53 : decode cX5_init 53 = .ok (.newarray .int, 2) := by decide +kernel
theorem dX5_init_55 : decode cX5_init 55 = .ok (.putfield 26, 3) := by decide +kernel
theorem dX5_init_58 : decode cX5_init 58 = .ok (.aload_n 0, 1) := by decide +kernel
theorem dX5_init_59 : decode cX5_init 59 = .ok (.sipush 600, 3) := by decide +kernel
theorem dX5_init_62 : decode cX5_init 62 = .ok (.newarray .int, 2) := by decide +kernel
theorem dX5_init_64 : decode cX5_init 64 = .ok (.putfield 29, 3) := by decide +kernel
theorem dX5_init_67 : decode cX5_init 67 = .ok (.aload_n 0, 1) := by decide +kernel
theorem dX5_init_68 : decode cX5_init 68 = .ok (.sipush 600, 3) := by decide +kernel
theorem dX5_init_71 : decode cX5_init 71 = .ok (.newarray .int, 2) := by decide +kernel
theorem dX5_init_73 : decode cX5_init 73 = .ok (.putfield 32, 3) := by decide +kernel
theorem dX5_init_76 : decode cX5_init 76 = .ok (.aload_n 0, 1) := by decide +kernel
theorem dX5_init_77 : decode cX5_init 77 = .ok (.sipush 600, 3) := by decide +kernel
theorem dX5_init_80 : decode cX5_init 80 = .ok (.newarray .boolean, 2) := by decide +kernel
theorem dX5_init_82 : decode cX5_init 82 = .ok (.putfield 35, 3) := by decide +kernel
theorem dX5_init_85 : decode cX5_init 85 = .ok (.aload_n 0, 1) := by decide +kernel
theorem dX5_init_86 : decode cX5_init 86 = .ok (.sipush 600, 3) := by decide +kernel
theorem dX5_init_89 : decode cX5_init 89 = .ok (.newarray .boolean, 2) := by decide +kernel
theorem dX5_init_91 : decode cX5_init 91 = .ok (.putfield 38, 3) := by decide +kernel
theorem dX5_init_94 : decode cX5_init 94 = .ok (.aload_n 0, 1) := by decide +kernel
theorem dX5_init_95 : decode cX5_init 95 = .ok (.bipush 12, 2) := by decide +kernel
theorem dX5_init_97 : decode cX5_init 97 = .ok (.newarray .int, 2) := by decide +kernel
theorem dX5_init_99 : decode cX5_init 99 = .ok (.putfield 41, 3) := by decide +kernel
theorem dX5_init_102 : decode cX5_init 102 = .ok (.return_, 1) := by decide +kernel
theorem dX5_thrown_0 : decode cX5_thrown 0 = .ok (.aload_n 0, 1) := by decide +kernel
theorem dX5_thrown_1 : decode cX5_thrown 1 = .ok (.getfield 44, 3) := by decide +kernel
theorem dX5_thrown_4 : decode cX5_thrown 4 = .ok (.ireturn, 1) := by decide +kernel
theorem dX5_isGate_0 : decode cX5_isGate 0 = .ok (.iload_n 1, 1) := by decide +kernel
theorem dX5_isGate_1 : decode cX5_isGate 1 = .ok (.ifCond .lt 15, 3) := by decide +kernel
theorem dX5_isGate_4 : decode cX5_isGate 4 = .ok (.iload_n 1, 1) := by decide +kernel
theorem dX5_isGate_5 : decode cX5_isGate 5 = .ok (.aload_n 0, 1) := by decide +kernel
theorem dX5_isGate_6 : decode cX5_isGate 6 = .ok (.getfield 48, 3) := by decide +kernel
theorem dX5_isGate_9 : decode cX5_isGate 9 = .ok (.if_icmp .ge 7, 3) := by decide +kernel
theorem dX5_isGate_12 : decode cX5_isGate 12 = .ok (.iconst 1, 1) := by decide +kernel
theorem dX5_isGate_13 : decode cX5_isGate 13 = .ok (.goto 4, 3) := by decide +kernel
theorem dX5_isGate_16 : decode cX5_isGate 16 = .ok (.iconst 0, 1) := by decide +kernel
theorem dX5_isGate_17 : decode cX5_isGate 17 = .ok (.ireturn, 1) := by decide +kernel
theorem dX5_fails_0 : decode cX5_fails 0 = .ok (.aload_n 0, 1) := by decide +kernel
theorem dX5_fails_1 : decode cX5_fails 1 = .ok (.iload_n 1, 1) := by decide +kernel
theorem dX5_fails_2 : decode cX5_fails 2 = .ok (.ifCond .eq 7, 3) := by decide +kernel
theorem dX5_fails_5 : decode cX5_fails 5 = .ok (.iconst 1, 1) := by decide +kernel
theorem dX5_fails_6 : decode cX5_fails 6 = .ok (.goto 12, 3) := by decide +kernel
theorem dX5_fails_9 : decode cX5_fails 9 = .ok (.iload_n 2, 1) := by decide +kernel
theorem dX5_fails_10 : decode cX5_fails 10 = .ok (.ifCond .eq 7, 3) := by decide +kernel
theorem dX5_fails_13 : decode cX5_fails 13 = .ok (.iconst 2, 1) := by decide +kernel
theorem dX5_fails_14 : decode cX5_fails 14 = .ok (.goto 4, 3) := by decide +kernel
theorem dX5_fails_17 : decode cX5_fails 17 = .ok (.iconst 0, 1) := by decide +kernel
theorem dX5_fails_18 : decode cX5_fails 18 = .ok (.putfield 44, 3) := by decide +kernel
theorem dX5_fails_21 : decode cX5_fails 21 = .ok (.aload_n 0, 1) := by decide +kernel
theorem dX5_fails_22 : decode cX5_fails 22 = .ok (.getfield 44, 3) := by decide +kernel
theorem dX5_fails_25 : decode cX5_fails 25 = .ok (.ifCond .le 7, 3) := by decide +kernel
theorem dX5_fails_28 : decode cX5_fails 28 = .ok (.iconst 1, 1) := by decide +kernel
theorem dX5_fails_29 : decode cX5_fails 29 = .ok (.goto 4, 3) := by decide +kernel
theorem dX5_fails_32 : decode cX5_fails 32 = .ok (.iconst 0, 1) := by decide +kernel
theorem dX5_fails_33 : decode cX5_fails 33 = .ok (.ireturn, 1) := by decide +kernel
set_option maxRecDepth 20000 in
theorem ggX5_gate_X5_fails : GoodIn wsX5_gate wsX5_fails := goodIn_r _ [9, 10, 11, 12, 13, 14, 15, 16, 17, 18, 19, 20, 21, 22, 23, 24, 25, 26] (by decide +kernel) (by decide +kernel)
set_option maxRecDepth 20000 in
theorem gX5_gate_X5_fails : GoodIn wsX5_gate (wsV RX5 51 RX5 yX5_fails wsX5_fails) := goodIn_app (goodIn_of _ (by decide +kernel)) ggX5_gate_X5_fails
theorem dX5_gate_0 : decode cX5_gate 0 = .ok (.aload_n 0, 1) := by decide +kernel
theorem dX5_gate_1 : decode cX5_gate 1 = .ok (.iload_n 1, 1) := by decide +kernel
theorem dX5_gate_2 : decode cX5_gate 2 = .ok (.ifCond .lt 8, 3) := by decide +kernel
theorem dX5_gate_5 : decode cX5_gate 5 = .ok (.iload_n 1, 1) := by decide +kernel
theorem dX5_gate_6 : decode cX5_gate 6 = .ok (.iconst 3, 1) := by decide +kernel
theorem dX5_gate_7 : decode cX5_gate 7 = .ok (.if_icmp .le 7, 3) := by decide +kernel
theorem dX5_gate_10 : decode cX5_gate 10 = .ok (.iconst 1, 1) := by decide +kernel
theorem dX5_gate_11 : decode cX5_gate 11 = .ok (.goto 4, 3) := by decide +kernel
theorem dX5_gate_14 : decode cX5_gate 14 = .ok (.iconst 0, 1) := by decide +kernel
theorem dX5_gate_15 : decode cX5_gate 15 = .ok (.iconst 0, 1) := by decide +kernel
theorem dX5_gate_16 : decode cX5_gate 16 = .ok (.invokevirtual 51, 3) := by decide +kernel
theorem dX5_gate_19 : decode cX5_gate 19 = .ok (.ifCond .eq 5, 3) := by decide +kernel
theorem dX5_gate_22 : decode cX5_gate 22 = .ok (.iconst 0, 1) := by decide +kernel
theorem dX5_gate_23 : decode cX5_gate 23 = .ok (.ireturn, 1) := by decide +kernel
theorem dX5_gate_24 : decode cX5_gate 24 = .ok (.aload_n 0, 1) := by decide +kernel
theorem dX5_gate_25 : decode cX5_gate 25 = .ok (.getfield 48, 3) := by decide +kernel
theorem dX5_gate_28 : decode cX5_gate 28 = .ok (.sipush 600, 3) := by decide +kernel
theorem dX5_gate_31 : decode cX5_gate 31 = .ok (.if_icmp .eq 16, 3) := by decide +kernel
theorem dX5_gate_34 : decode cX5_gate 34 = .ok (.iload_n 1, 1) := by decide +kernel
theorem dX5_gate_35 : decode cX5_gate 35 = .ok (.ifCond .ne 14, 3) := by decide +kernel
theorem dX5_gate_38 : decode cX5_gate 38 = .ok (.aload_n 0, 1) := by decide +kernel
theorem dX5_gate_39 : decode cX5_gate 39 = .ok (.getfield 55, 3) := by decide +kernel
theorem dX5_gate_42 : decode cX5_gate 42 = .ok (.bipush 12, 2) := by decide +kernel
theorem dX5_gate_44 : decode cX5_gate 44 = .ok (.if_icmp .ne 5, 3) := by decide +kernel
theorem dX5_gate_47 : decode cX5_gate 47 = .ok (.iconst (-1), 1) := by decide +kernel
theorem dX5_gate_48 : decode cX5_gate 48 = .ok (.ireturn, 1) := by decide +kernel
theorem dX5_gate_49 : decode cX5_gate 49 = .ok (.aload_n 0, 1) := by decide +kernel
theorem dX5_gate_50 : decode cX5_gate 50 = .ok (.getfield 7, 3) := by decide +kernel
theorem dX5_gate_53 : decode cX5_gate 53 = .ok (.aload_n 0, 1) := by decide +kernel
theorem dX5_gate_54 : decode cX5_gate 54 = .ok (.getfield 48, 3) := by decide +kernel
theorem dX5_gate_57 : decode cX5_gate 57 = .ok (.iload_n 1, 1) := by decide +kernel
theorem dX5_gate_58 : decode cX5_gate 58 = .ok (.iastore, 1) := by decide +kernel
theorem dX5_gate_59 : decode cX5_gate 59 = .ok (.aload_n 0, 1) := by decide +kernel
theorem dX5_gate_60 : decode cX5_gate 60 = .ok (.getfield 13, 3) := by decide +kernel
theorem dX5_gate_63 : decode cX5_gate 63 = .ok (.aload_n 0, 1) := by decide +kernel
theorem dX5_gate_64 : decode cX5_gate 64 = .ok (.getfield 48, 3) := by decide +kernel
theorem dX5_gate_67 : decode cX5_gate 67 = .ok (.iload_n 1, 1) := by decide +kernel
theorem dX5_gate_68 : decode cX5_gate 68 = .ok (.ifCond .ne 7, 3) := by decide +kernel
theorem dX5_gate_71 : decode cX5_gate 71 = .ok (.iconst 2, 1) := by decide +kernel
theorem dX5_gate_72 : decode cX5_gate 72 = .ok (.goto 4, 3) := by decide +kernel
theorem dX5_gate_75 : decode cX5_gate 75 = .ok (.iconst 0, 1) := by decide +kernel
theorem dX5_gate_76 : decode cX5_gate 76 = .ok (.iastore, 1) := by decide +kernel
theorem dX5_gate_77 : decode cX5_gate 77 = .ok (.aload_n 0, 1) := by decide +kernel
theorem dX5_gate_78 : decode cX5_gate 78 = .ok (.dup, 1) := by decide +kernel
theorem dX5_gate_79 : decode cX5_gate 79 = .ok (.getfield 55, 3) := by decide +kernel
theorem dX5_gate_82 : decode cX5_gate 82 = .ok (.iload_n 1, 1) := by decide +kernel
theorem dX5_gate_83 : decode cX5_gate 83 = .ok (.ifCond .ne 7, 3) := by decide +kernel
theorem dX5_gate_86 : decode cX5_gate 86 = .ok (.iconst 1, 1) := by decide +kernel
theorem dX5_gate_87 : decode cX5_gate 87 = .ok (.goto 4, 3) := by decide +kernel
theorem dX5_gate_90 : decode cX5_gate 90 = .ok (.iconst 0, 1) := by decide +kernel
theorem dX5_gate_91 : decode cX5_gate 91 = .ok (.iadd, 1) := by decide +kernel
theorem dX5_gate_92 : decode cX5_gate 92 = .ok (.putfield 55, 3) := by decide +kernel
theorem dX5_gate_95 : decode cX5_gate 95 = .ok (.aload_n 0, 1) := by decide +kernel
theorem dX5_gate_96 : decode cX5_gate 96 = .ok (.dup, 1) := by decide +kernel
theorem dX5_gate_97 : decode cX5_gate 97 = .ok (.getfield 48, 3) := by decide +kernel
theorem dX5_gate_100 : decode cX5_gate 100 = .ok (.iconst 1, 1) := by decide +kernel
theorem dX5_gate_101 : decode cX5_gate 101 = .ok (.iadd, 1) := by decide +kernel
theorem dX5_gate_102 : decode cX5_gate 102 = .ok (.putfield 48, 3) := by decide +kernel
theorem dX5_gate_105 : decode cX5_gate 105 = .ok (.aload_n 0, 1) := by decide +kernel
theorem dX5_gate_106 : decode cX5_gate 106 = .ok (.getfield 48, 3) := by decide +kernel
theorem dX5_gate_109 : decode cX5_gate 109 = .ok (.iconst 1, 1) := by decide +kernel
theorem dX5_gate_110 : decode cX5_gate 110 = .ok (.isub, 1) := by decide +kernel
theorem dX5_gate_111 : decode cX5_gate 111 = .ok (.ireturn, 1) := by decide +kernel
theorem dX5_feedsOf_0 : decode cX5_feedsOf 0 = .ok (.iconst 0, 1) := by decide +kernel
theorem dX5_feedsOf_1 : decode cX5_feedsOf 1 = .ok (.istore_n 2, 1) := by decide +kernel
theorem dX5_feedsOf_2 : decode cX5_feedsOf 2 = .ok (.iconst 0, 1) := by decide +kernel
theorem dX5_feedsOf_3 : decode cX5_feedsOf 3 = .ok (.istore_n 3, 1) := by decide +kernel
theorem dX5_feedsOf_4 : decode cX5_feedsOf 4 = .ok (.iload_n 3, 1) := by decide +kernel
theorem dX5_feedsOf_5 : decode cX5_feedsOf 5 = .ok (.aload_n 0, 1) := by decide +kernel
theorem dX5_feedsOf_6 : decode cX5_feedsOf 6 = .ok (.getfield 58, 3) := by decide +kernel
theorem dX5_feedsOf_9 : decode cX5_feedsOf 9 = .ok (.if_icmp .ge 27, 3) := by decide +kernel
theorem dX5_feedsOf_12 : decode cX5_feedsOf 12 = .ok (.iload_n 2, 1) := by decide +kernel
theorem dX5_feedsOf_13 : decode cX5_feedsOf 13 = .ok (.aload_n 0, 1) := by decide +kernel
theorem dX5_feedsOf_14 : decode cX5_feedsOf 14 = .ok (.getfield 16, 3) := by decide +kernel
theorem dX5_feedsOf_17 : decode cX5_feedsOf 17 = .ok (.iload_n 3, 1) := by decide +kernel
theorem dX5_feedsOf_18 : decode cX5_feedsOf 18 = .ok (.iaload, 1) := by decide +kernel
theorem dX5_feedsOf_19 : decode cX5_feedsOf 19 = .ok (.iload_n 1, 1) := by decide +kernel
