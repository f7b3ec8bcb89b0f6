theorem dX1_leastUnknownFeed_12 : decode cX1_leastUnknownFeed 12 = .ok (.getfield 90, 3) := by decide +kernel
theorem dX1_leastUnknownFeed_15 : decode cX1_leastUnknownFeed 15 = .ok (.getfield 64, 3) := by decide +kernel
theorem dX1_leastUnknownFeed_18 : decode cX1_leastUnknownFeed 18 = .ok (.iconst 2, 1) := by decide +kernel
theorem dX1_leastUnknownFeed_19 : decode cX1_leastUnknownFeed 19 = .ok (.if_icmp .ne 27, 3) := by decide +kernel
theorem dX1_leastUnknownFeed_22 : decode cX1_leastUnknownFeed 22 = .ok (.iload_n 1, 1) := by decide +kernel
theorem dX1_leastUnknownFeed_23 : decode cX1_leastUnknownFeed 23 = .ok (.iconst (-1), 1) := by decide +kernel
theorem dX1_leastUnknownFeed_24 : decode cX1_leastUnknownFeed 24 = .ok (.if_icmp .eq 14, 3) := by decide +kernel
theorem dX1_leastUnknownFeed_27 : decode cX1_leastUnknownFeed 27 = .ok (.aload_n 2, 1) := by decide +kernel
theorem dX1_leastUnknownFeed_28 : decode cX1_leastUnknownFeed 28 = .ok (.getfield 90, 3) := by decide +kernel
theorem dX1_leastUnknownFeed_31 : decode cX1_leastUnknownFeed 31 = .ok (.getfield 55, 3) := by decide +kernel
theorem dX1_leastUnknownFeed_34 : decode cX1_leastUnknownFeed 34 = .ok (.iload_n 1, 1) := by decide +kernel
theorem dX1_leastUnknownFeed_35 : decode cX1_leastUnknownFeed 35 = .ok (.if_icmp .ge 11, 3) := by decide +kernel
theorem dX1_leastUnknownFeed_38 : decode cX1_leastUnknownFeed 38 = .ok (.aload_n 2, 1) := by decide +kernel
theorem dX1_leastUnknownFeed_39 : decode cX1_leastUnknownFeed 39 = .ok (.getfield 90, 3) := by decide +kernel
theorem dX1_leastUnknownFeed_42 : decode cX1_leastUnknownFeed 42 = .ok (.getfield 55, 3) := by decide +kernel
theorem dX1_leastUnknownFeed_45 : decode cX1_leastUnknownFeed 45 = .ok (.istore_n 1, 1) := by decide +kernel
theorem dX1_leastUnknownFeed_46 : decode cX1_leastUnknownFeed 46 = .ok (.aload_n 2, 1) := by decide +kernel
theorem dX1_leastUnknownFeed_47 : decode cX1_leastUnknownFeed 47 = .ok (.getfield 83, 3) := by decide +kernel
theorem dX1_leastUnknownFeed_50 : decode cX1_leastUnknownFeed 50 = .ok (.astore_n 2, 1) := by decide +kernel
theorem dX1_leastUnknownFeed_51 : decode cX1_leastUnknownFeed 51 = .ok (.goto (-44), 3) := by decide +kernel
theorem dX1_leastUnknownFeed_54 : decode cX1_leastUnknownFeed 54 = .ok (.iload_n 1, 1) := by decide +kernel
theorem dX1_leastUnknownFeed_55 : decode cX1_leastUnknownFeed 55 = .ok (.ireturn, 1) := by decide +kernel
set_option maxRecDepth 20000 in
theorem ggX1_lanesGrow_X1_takeLanesOfAnd : GoodIn wsX1_lanesGrow wsX1_takeLanesOfAnd := goodIn_r _ [8, 9, 10, 11, 1, 2, 12, 13, 14, 15, 16, 17, 18, 19, 20, 21, 22, 23, 24, 29, 30, 31, 32, 33, 34, 35, 36, 37, 38, 39, 40, 41, 42, 43, 44, 45, 46, 47, 48] (by decide +kernel) (by decide +kernel)
set_option maxRecDepth 20000 in
theorem gX1_lanesGrow_X1_takeLanesOfAnd : GoodIn wsX1_lanesGrow (wsV RX1 93 RX1 yX1_takeLanesOfAnd wsX1_takeLanesOfAnd) := goodIn_app (goodIn_of _ (by decide +kernel)) ggX1_lanesGrow_X1_takeLanesOfAnd
set_option maxRecDepth 20000 in
theorem ggX1_lanesGrow_X1_takeLanesOfOr : GoodIn wsX1_lanesGrow wsX1_takeLanesOfOr := goodIn_r _ [28, 9, 10, 11, 1, 2, 21, 22, 23, 15, 24, 17, 18, 20, 19, 12, 13, 14, 16, 29, 30, 31, 32, 33, 34, 35, 36, 37, 38, 39, 40, 41, 42, 43, 44, 45, 46, 47, 48] (by decide +kernel) (by decide +kernel)
set_option maxRecDepth 20000 in
theorem gX1_lanesGrow_X1_takeLanesOfOr : GoodIn wsX1_lanesGrow (wsV RX1 96 RX1 yX1_takeLanesOfOr wsX1_takeLanesOfOr) := goodIn_app (goodIn_of _ (by decide +kernel)) ggX1_lanesGrow_X1_takeLanesOfOr
theorem dX1_lanesGrow_0 : decode cX1_lanesGrow 0 = .ok (.aload_n 0, 1) := by decide +kernel
theorem dX1_lanesGrow_1 : decode cX1_lanesGrow 1 = .ok (.getfield 48, 3) := by decide +kernel
theorem dX1_lanesGrow_4 : decode cX1_lanesGrow 4 = .ok (.lstore_n 1, 1) := by decide +kernel
theorem dX1_lanesGrow_5 : decode cX1_lanesGrow 5 = .ok (.aload_n 0, 1) := by decide +kernel
theorem dX1_lanesGrow_6 : decode cX1_lanesGrow 6 = .ok (.getfield 52, 3) := by decide +kernel
theorem dX1_lanesGrow_9 : decode cX1_lanesGrow 9 = .ok (.lstore_n 3, 1) := by decide +kernel
theorem dX1_lanesGrow_10 : decode cX1_lanesGrow 10 = .ok (.aload_n 0, 1) := by decide +kernel
theorem dX1_lanesGrow_11 : decode cX1_lanesGrow 11 = .ok (.getfield 58, 3) := by decide +kernel
theorem dX1_lanesGrow_14 : decode cX1_lanesGrow 14 = .ok (.iconst 2, 1) := by decide +kernel
theorem dX1_lanesGrow_15 : decode cX1_lanesGrow 15 = .ok (.if_icmp .ne 10, 3) := by decide +kernel
theorem dX1_lanesGrow_18 : decode cX1_lanesGrow 18 = .ok (.aload_n 0, 1) := by decide +kernel
theorem dX1_lanesGrow_19 : decode cX1_lanesGrow 19 = .ok (.invokevirtual 93, 3) := by decide +kernel
theorem dX1_lanesGrow_22 : decode cX1_lanesGrow 22 = .ok (.goto 7, 3) := by decide +kernel
theorem dX1_lanesGrow_25 : decode cX1_lanesGrow 25 = .ok (.aload_n 0, 1) := by decide +kernel
theorem dX1_lanesGrow_26 : decode cX1_lanesGrow 26 = .ok (.invokevirtual 96, 3) := by decide +kernel
theorem dX1_lanesGrow_29 : decode cX1_lanesGrow 29 = .ok (.aload_n 0, 1) := by decide +kernel
theorem dX1_lanesGrow_30 : decode cX1_lanesGrow 30 = .ok (.getfield 48, 3) := by decide +kernel
theorem dX1_lanesGrow_33 : decode cX1_lanesGrow 33 = .ok (.lload_n 1, 1) := by decide +kernel
theorem dX1_lanesGrow_34 : decode cX1_lanesGrow 34 = .ok (.lcmp, 1) := by decide +kernel
theorem dX1_lanesGrow_35 : decode cX1_lanesGrow 35 = .ok (.ifCond .ne 12, 3) := by decide +kernel
theorem dX1_lanesGrow_38 : decode cX1_lanesGrow 38 = .ok (.aload_n 0, 1) := by decide +kernel
theorem dX1_lanesGrow_39 : decode cX1_lanesGrow 39 = .ok (.getfield 52, 3) := by decide +kernel
theorem dX1_lanesGrow_42 : decode cX1_lanesGrow 42 = .ok (.lload_n 3, 1) := by decide +kernel
theorem dX1_lanesGrow_43 : decode cX1_lanesGrow 43 = .ok (.lcmp, 1) := by decide +kernel
theorem dX1_lanesGrow_44 : decode cX1_lanesGrow 44 = .ok (.ifCond .eq 7, 3) := by decide +kernel
theorem dX1_lanesGrow_47 : decode cX1_lanesGrow 47 = .ok (.iconst 1, 1) := by decide +kernel
theorem dX1_lanesGrow_48 : decode cX1_lanesGrow 48 = .ok (.goto 4, 3) := by decide +kernel
theorem dX1_lanesGrow_51 : decode cX1_lanesGrow 51 = .ok (.iconst 0, 1) := by decide +kernel
theorem dX1_lanesGrow_52 : decode cX1_lanesGrow 52 = .ok (.ireturn, 1) := by decide +kernel
set_option maxRecDepth 20000 in
theorem ggX1_takeLanesOfAnd_X0_takenOnes : GoodIn wsX1_takeLanesOfAnd wsX0_takenOnes := goodIn_r _ [10, 11, 12, 13, 14, 36, 37, 38, 19, 20, 21, 22, 23, 24, 25, 26, 27, 28, 29, 30, 31, 32, 33, 34, 35] (by decide +kernel) (by decide +kernel)
set_option maxRecDepth 20000 in
theorem gX1_takeLanesOfAnd_X0_takenOnes : GoodIn wsX1_takeLanesOfAnd (wsV RX1 101 RX0 yX0_takenOnes wsX0_takenOnes) := goodIn_app (goodIn_of _ (by decide +kernel)) ggX1_takeLanesOfAnd_X0_takenOnes
set_option maxRecDepth 20000 in
theorem ggX1_takeLanesOfAnd_X0_takenZeros : GoodIn wsX1_takeLanesOfAnd wsX0_takenZeros := goodIn_r _ [18, 11, 12, 14, 13, 36, 37, 38, 19, 20, 21, 22, 23, 24, 25, 26, 27, 28, 29, 30, 31, 32, 33, 34, 35] (by decide +kernel) (by decide +kernel)
set_option maxRecDepth 20000 in
theorem gX1_takeLanesOfAnd_X0_takenZeros : GoodIn wsX1_takeLanesOfAnd (wsV RX1 105 RX0 yX0_takenZeros wsX0_takenZeros) := goodIn_app (goodIn_of _ (by decide +kernel)) ggX1_takeLanesOfAnd_X0_takenZeros
theorem dX1_takeLanesOfAnd_0 : decode cX1_takeLanesOfAnd 0 = .ok (.ldc2_w 99, 3) := by decide +kernel
theorem dX1_takeLanesOfAnd_3 : decode cX1_takeLanesOfAnd 3 = .ok (.lstore_n 1, 1) := by decide +kernel
theorem dX1_takeLanesOfAnd_4 : decode cX1_takeLanesOfAnd 4 = .ok (.lconst 0, 1) := by decide +kernel
theorem dX1_takeLanesOfAnd_5 : decode cX1_takeLanesOfAnd 5 = .ok (.lstore_n 3, 1) := by decide +kernel
theorem dX1_takeLanesOfAnd_6 : decode cX1_takeLanesOfAnd 6 = .ok (.aload_n 0, 1) := by decide +kernel
theorem dX1_takeLanesOfAnd_7 : decode cX1_takeLanesOfAnd 7 = .ok (.getfield 9, 3) := by decide +kernel
theorem dX1_takeLanesOfAnd_10 : decode cX1_takeLanesOfAnd 10 = .ok (.astore 5, 2) := by decide +kernel
theorem dX1_takeLanesOfAnd_12 : decode cX1_takeLanesOfAnd 12 = .ok (.aload 5, 2) := by decide +kernel
theorem dX1_takeLanesOfAnd_14 : decode cX1_takeLanesOfAnd 14 = .ok (.ifnull 29, 3) := by decide +kernel
theorem dX1_takeLanesOfAnd_17 : decode cX1_takeLanesOfAnd 17 = .ok (.lload_n 1, 1) := by decide +kernel
theorem dX1_takeLanesOfAnd_18 : decode cX1_takeLanesOfAnd 18 = .ok (.aload 5, 2) := by decide +kernel
theorem dX1_takeLanesOfAnd_20 : decode cX1_takeLanesOfAnd 20 = .ok (.invokevirtual 101, 3) := by decide +kernel
theorem dX1_takeLanesOfAnd_23 : decode cX1_takeLanesOfAnd 23 = .ok (.land, 1) := by decide +kernel
theorem dX1_takeLanesOfAnd_24 : decode cX1_takeLanesOfAnd 24 = .ok (.lstore_n 1, 1) := by decide +kernel
theorem dX1_takeLanesOfAnd_25 : decode cX1_takeLanesOfAnd 25 = .ok (.lload_n 3, 1) := by decide +kernel
theorem dX1_takeLanesOfAnd_26 : decode cX1_takeLanesOfAnd 26 = .ok (.aload 5, 2) := by decide +kernel
theorem dX1_takeLanesOfAnd_28 : decode cX1_takeLanesOfAnd 28 = .ok (.invokevirtual 105, 3) := by decide +kernel
theorem dX1_takeLanesOfAnd_31 : decode cX1_takeLanesOfAnd 31 = .ok (.lor, 1) := by decide +kernel
theorem dX1_takeLanesOfAnd_32 : decode cX1_takeLanesOfAnd 32 = .ok (.lstore_n 3, 1) := by decide +kernel
theorem dX1_takeLanesOfAnd_33 : decode cX1_takeLanesOfAnd 33 = .ok (.aload 5, 2) := by decide +kernel
theorem dX1_takeLanesOfAnd_35 : decode cX1_takeLanesOfAnd 35 = .ok (.getfield 83, 3) := by decide +kernel
theorem dX1_takeLanesOfAnd_38 : decode cX1_takeLanesOfAnd 38 = .ok (.astore 5, 2) := by decide +kernel
theorem dX1_takeLanesOfAnd_40 : decode cX1_takeLanesOfAnd 40 = .ok (.goto (-28), 3) := by decide +kernel
theorem dX1_takeLanesOfAnd_43 : decode cX1_takeLanesOfAnd 43 = .ok (.aload_n 0, 1) := by decide +kernel
theorem dX1_takeLanesOfAnd_44 : decode cX1_takeLanesOfAnd 44 = .ok (.lload_n 1, 1) := by decide +kernel
theorem dX1_takeLanesOfAnd_45 : decode cX1_takeLanesOfAnd 45 = .ok (.putfield 48, 3) := by decide +kernel
theorem dX1_takeLanesOfAnd_48 : decode cX1_takeLanesOfAnd 48 = .ok (.aload_n 0, 1) := by decide +kernel
theorem dX1_takeLanesOfAnd_49 : decode cX1_takeLanesOfAnd 49 = .ok (.lload_n 3, 1) := by decide +kernel
theorem dX1_takeLanesOfAnd_50 : decode cX1_takeLanesOfAnd 50 = .ok (.putfield 52, 3) := by decide +kernel
theorem dX1_takeLanesOfAnd_53 : decode cX1_takeLanesOfAnd 53 = .ok (.return_, 1) := by decide +kernel
set_option maxRecDepth 20000 in
theorem ggX1_takeLanesOfOr_X0_takenZeros : GoodIn wsX1_takeLanesOfOr wsX0_takenZeros := goodIn_r _ [10, 11, 12, 13, 14, 36, 37, 38, 19, 20, 21, 22, 23, 24, 25, 26, 27, 28, 29, 30, 31, 32, 33, 34, 35] (by decide +kernel) (by decide +kernel)
set_option maxRecDepth 20000 in
theorem gX1_takeLanesOfOr_X0_takenZeros : GoodIn wsX1_takeLanesOfOr (wsV RX1 105 RX0 yX0_takenZeros wsX0_takenZeros) := goodIn_app (goodIn_of _ (by decide +kernel)) ggX1_takeLanesOfOr_X0_takenZeros
set_option maxRecDepth 20000 in
theorem ggX1_takeLanesOfOr_X0_takenOnes : GoodIn wsX1_takeLanesOfOr wsX0_takenOnes := goodIn_r _ [18, 11, 12, 14, 13, 36, 37, 38, 19, 20, 21, 22, 23, 24, 25, 26, 27, 28, 29, 30, 31, 32, 33, 34, 35] (by decide +kernel) (by decide +kernel)
set_option maxRecDepth 20000 in
theorem gX1_takeLanesOfOr_X0_takenOnes : GoodIn wsX1_takeLanesOfOr (wsV RX1 101 RX0 yX0_takenOnes wsX0_takenOnes) := goodIn_app (goodIn_of _ (by decide +kernel)) ggX1_takeLanesOfOr_X0_takenOnes
theorem dX1_takeLanesOfOr_0 : decode cX1_takeLanesOfOr 0 = .ok (.ldc2_w 99, 3) := by decide +kernel
theorem dX1_takeLanesOfOr_3 : decode cX1_takeLanesOfOr 3 = .ok (.lstore_n 1, 1) := by decide +kernel
theorem dX1_takeLanesOfOr_4 : decode cX1_takeLanesOfOr 4 = .ok (.lconst 0, 1) := by decide +kernel
theorem dX1_takeLanesOfOr_5 : decode cX1_takeLanesOfOr 5 = .ok (.lstore_n 3, 1) := by decide +kernel
theorem dX1_takeLanesOfOr_6 : decode cX1_takeLanesOfOr 6 = .ok (.aload_n 0, 1) := by decide +kernel
theorem dX1_takeLanesOfOr_7 : decode cX1_takeLanesOfOr 7 = .ok (.getfield 9, 3) := by decide +kernel
theorem dX1_takeLanesOfOr_10 : decode cX1_takeLanesOfOr 10 = .ok (.astore 5, 2) := by decide +kernel
theorem dX1_takeLanesOfOr_12 : decode cX1_takeLanesOfOr 12 = .ok (.aload 5, 2) := by decide +kernel
theorem dX1_takeLanesOfOr_14 : decode cX1_takeLanesOfOr 14 = .ok (.ifnull 29, 3) := by decide +kernel
theorem dX1_takeLanesOfOr_17 : decode cX1_takeLanesOfOr 17 = .ok (.lload_n 1, 1) := by decide +kernel
theorem dX1_takeLanesOfOr_18 : decode cX1_takeLanesOfOr 18 = .ok (.aload 5, 2) := by decide +kernel
theorem dX1_takeLanesOfOr_20 : decode cX1_takeLanesOfOr 20 = .ok (.invokevirtual 105, 3) := by decide +kernel
theorem dX1_takeLanesOfOr_23 : decode cX1_takeLanesOfOr 23 = .ok (.land, 1) := by decide +kernel
theorem dX1_takeLanesOfOr_24 : decode cX1_takeLanesOfOr 24 = .ok (.lstore_n 1, 1) := by decide +kernel
theorem dX1_takeLanesOfOr_25 : decode cX1_takeLanesOfOr 25 = .ok (.lload_n 3, 1) := by decide +kernel
theorem dX1_takeLanesOfOr_26 : decode cX1_takeLanesOfOr 26 = .ok (.aload 5, 2) := by decide +kernel
theorem dX1_takeLanesOfOr_28 : decode cX1_takeLanesOfOr 28 = .ok (.invokevirtual 101, 3) := by decide +kernel
theorem dX1_takeLanesOfOr_31 : decode cX1_takeLanesOfOr 31 = .ok (.lor, 1) := by decide +kernel
theorem dX1_takeLanesOfOr_32 : decode cX1_takeLanesOfOr 32 = .ok (.lstore_n 3, 1) := by decide +kernel
theorem dX1_takeLanesOfOr_33 : decode cX1_takeLanesOfOr 33 = .ok (.aload 5, 2) := by decide +kernel
theorem dX1_takeLanesOfOr_35 : decode cX1_takeLanesOfOr 35 = .ok (.getfield 83, 3) := by decide +kernel
theorem dX1_takeLanesOfOr_38 : decode cX1_takeLanesOfOr 38 = .ok (.astore 5, 2) := by decide +kernel
theorem dX1_takeLanesOfOr_40 : decode cX1_takeLanesOfOr 40 = .ok (.goto (-28), 3) := by decide +kernel
theorem dX1_takeLanesOfOr_43 : decode cX1_takeLanesOfOr 43 = .ok (.aload_n 0, 1) := by decide +kernel
theorem dX1_takeLanesOfOr_44 : decode cX1_takeLanesOfOr 44 = .ok (.lload_n 3, 1) := by decide +kernel
theorem dX1_takeLanesOfOr_45 : decode cX1_takeLanesOfOr 45 = .ok (.putfield 48, 3) := by decide +kernel
theorem dX1_takeLanesOfOr_48 : decode cX1_takeLanesOfOr 48 = .ok (.aload_n 0, 1) := by decide +kernel
theorem dX1_takeLanesOfOr_49 : decode cX1_takeLanesOfOr 49 = .ok (.lload_n 1, 1) := by decide +kernel
theorem dX1_takeLanesOfOr_50 : decode cX1_takeLanesOfOr 50 = .ok (.putfield 52, 3) := by decide +kernel
theorem dX1_takeLanesOfOr_53 : decode cX1_takeLanesOfOr 53 = .ok (.return_, 1) := by decide +kernel
theorem dX2_init_0 : decode cX2_init 0 = .ok (.aload_n 0, 1) := by decide +kernel
theorem dX2_init_1 : decode cX2_init 1 = .ok (.invokespecial 3, 3) := by decide +kernel
theorem dX2_init_4 : decode cX2_init 4 = .ok (.aload_n 0, 1) := by decide +kernel
theorem dX2_init_5 : decode cX2_init 5 = .ok (.aload_n 1, 1) := by decide +kernel
theorem dX2_init_6 : decode cX2_init 6 = .ok (.putfield 9, 3) := by decide +kernel
theorem dX2_init_9 : decode cX2_init 9 = .ok (.aload_n 0, 1) := by decide +kernel
theorem dX2_init_10 : decode cX2_init 10 = .ok (.aload_n 2, 1) := by decide +kernel
theorem dX2_init_11 : decode cX2_init 11 = .ok (.putfield 15, 3) := by decide +kernel
theorem dX2_init_14 : decode cX2_init 14 = .ok (.return_, 1) := by decide +kernel
set_option maxRecDepth 20000 in
theorem ggX2_settlingChoices_X2_freeInputs : GoodIn wsX2_settlingChoices wsX2_freeInputs := goodIn_r _ [7, 8, 9, 10, 11, 12, 13, 14, 15, 16, 17, 18, 19, 20, 21, 22, 23, 24, 25, 26, 27, 28, 29, 30, 31, 32, 33, 34, 35, 6, 36, 37, 38, 106, 107, 108, 109, 110, 111, 112, 113, 114, 115, 116, 117, 118, 119, 120, 121, 122, 123, 124, 125, 126, 127] (by decide +kernel) (by decide +kernel)
set_option maxRecDepth 20000 in
theorem gX2_settlingChoices_X2_freeInputs : GoodIn wsX2_settlingChoices (wsV RX2 18 RX2 yX2_freeInputs wsX2_freeInputs) := goodIn_app (goodIn_of _ (by decide +kernel)) ggX2_settlingChoices_X2_freeInputs
set_option maxRecDepth 20000 in
theorem ggX2_settlingChoices_X2_startBatch : GoodIn wsX2_settlingChoices wsX2_startBatch := goodIn_r _ [42, 8, 9, 43, 2, 44, 38, 10, 11, 12, 13, 14, 15, 16, 17, 18, 19, 20, 21, 22, 23, 24, 25, 26, 27, 28, 29, 30, 31, 32, 33, 34, 35, 6, 36, 37, 45, 46, 47, 48, 1, 106, 107, 111, 112, 113, 114, 115, 116, 117, 118, 119, 120, 121, 122, 123, 124, 125, 126, 127, 108, 109, 110] (by decide +kernel) (by decide +kernel)
set_option maxRecDepth 20000 in
theorem gX2_settlingChoices_X2_startBatch : GoodIn wsX2_settlingChoices (wsV RX2 28 RX2 yX2_startBatch wsX2_startBatch) := goodIn_app (goodIn_of _ (by decide +kernel)) ggX2_settlingChoices_X2_startBatch
set_option maxRecDepth 20000 in
theorem ggX2_settlingChoices_X2_spreadLanes : GoodIn wsX2_settlingChoices wsX2_spreadLanes := goodIn_r _ [52, 53, 54, 55, 56, 6, 57, 58, 9, 10, 11, 12, 13, 14, 15, 16, 17, 18, 19, 20, 21, 22, 23, 24, 25, 26, 27, 28, 29, 30, 31, 32, 59, 60, 61, 62, 63, 64, 65, 66, 67, 68, 69, 70, 71, 72, 73, 74, 75, 76, 77, 78, 79, 80, 81, 82, 83, 84, 85, 86, 87, 88, 89, 90, 91, 92, 93, 94, 106, 107, 108, 109, 110, 111, 112, 113, 114, 115, 116, 117, 118, 119, 120, 121, 122, 123, 124, 125, 126, 127, 128, 129, 130] (by decide +kernel) (by decide +kernel)
set_option maxRecDepth 20000 in
theorem gX2_settlingChoices_X2_spreadLanes : GoodIn wsX2_settlingChoices (wsV RX2 32 RX2 yX2_spreadLanes wsX2_spreadLanes) := goodIn_app (goodIn_of _ (by decide +kernel)) ggX2_settlingChoices_X2_spreadLanes
set_option maxRecDepth 20000 in
theorem ggX2_settlingChoices_X2_lanesAllKnown : GoodIn wsX2_settlingChoices wsX2_lanesAllKnown := goodIn_r _ [98, 2, 8, 9, 43, 44, 10, 11, 12, 13, 14, 15, 16, 17, 18, 19, 20, 21, 22, 23, 24, 25, 26, 27, 28, 29, 30, 31, 32, 106, 107, 111, 112, 113, 114, 115, 116, 117, 118, 119, 120, 121, 122, 123, 124, 125, 126, 127, 108, 109, 110] (by decide +kernel) (by decide +kernel)
set_option maxRecDepth 20000 in
theorem gX2_settlingChoices_X2_lanesAllKnown : GoodIn wsX2_settlingChoices (wsV RX2 35 RX2 yX2_lanesAllKnown wsX2_lanesAllKnown) := goodIn_app (goodIn_of _ (by decide +kernel)) ggX2_settlingChoices_X2_lanesAllKnown
set_option maxRecDepth 20000 in
theorem ggX2_settlingChoices_J13_bitCount_95d88 : GoodIn wsX2_settlingChoices wsJ13_bitCount_95d88 := goodIn_r _ [102, 103, 104, 105] (by decide +kernel) (by decide +kernel)
set_option maxRecDepth 20000 in
theorem gX2_settlingChoices_J13_bitCount_95d88 : GoodIn wsX2_settlingChoices (va_wsS RX2 39 yJ13_bitCount_95d88 wsJ13_bitCount_95d88) := goodIn_app (goodIn_of _ (by decide +kernel)) ggX2_settlingChoices_J13_bitCount_95d88
theorem dX2_settlingChoices_0 : decode cX2_settlingChoices 0 = .ok (.aload_n 0, 1) := by decide +kernel
theorem dX2_settlingChoices_1 : decode cX2_settlingChoices 1 = .ok (.invokevirtual 18, 3) := by decide +kernel
theorem dX2_settlingChoices_4 : decode cX2_settlingChoices 4 = .ok (.istore_n 1, 1) := by decide +kernel
theorem dX2_settlingChoices_5 : decode cX2_settlingChoices 5 = .ok (.iload_n 1, 1) := by decide +kernel
theorem dX2_settlingChoices_6 : decode cX2_settlingChoices 6 = .ok (.getstatic 22, 3) := by decide +kernel
theorem dX2_settlingChoices_9 : decode cX2_settlingChoices 9 = .ok (.arraylength, 1) := by decide +kernel
theorem dX2_settlingChoices_10 : decode cX2_settlingChoices 10 = .ok (.if_icmp .le 14, 3) := by decide +kernel
theorem dX2_settlingChoices_13 : decode cX2_settlingChoices 13 = .ok (.iconst 1, 1) := by decide +kernel
theorem dX2_settlingChoices_14 : decode cX2_settlingChoices 14 = .ok (.iload_n 1, 1) := by decide +kernel
theorem dX2_settlingChoices_15 : decode cX2_settlingChoices 15 = .ok (.getstatic 22, 3) := by decide +kernel
theorem dX2_settlingChoices_18 : decode cX2_settlingChoices 18 = .ok (.arraylength, 1) := by decide +kernel
theorem dX2_settlingChoices_19 : decode cX2_settlingChoices 19 = .ok (.isub, 1) := by decide +kernel
theorem dX2_settlingChoices_20 : decode cX2_settlingChoices 20 = .ok (.ishl, 1) := by decide +kernel
theorem dX2_settlingChoices_21 : decode cX2_settlingChoices 21 = .ok (.goto 4, 3) := by decide +kernel
theorem dX2_settlingChoices_24 : decode cX2_settlingChoices 24 = .ok (.iconst 1, 1) := by decide +kernel
theorem dX2_settlingChoices_25 : decode cX2_settlingChoices 25 = .ok (.istore_n 2, 1) := by decide +kernel
theorem dX2_settlingChoices_26 : decode cX2_settlingChoices 26 = .ok (.iload_n 1, 1) := by decide +kernel
theorem dX2_settlingChoices_27 : decode cX2_settlingChoices 27 = .ok (.getstatic 22, 3) := by decide +kernel
theorem dX2_settlingChoices_30 : decode cX2_settlingChoices 30 = .ok (.arraylength, 1) := by decide +kernel
theorem dX2_settlingChoices_31 : decode cX2_settlingChoices 31 = .ok (.if_icmp .lt 9, 3) := by decide +kernel
theorem dX2_settlingChoices_34 : decode cX2_settlingChoices 34 = .ok (.ldc2_w 26, 3) := by decide +kernel
theorem dX2_settlingChoices_37 : decode cX2_settlingChoices 37 = .ok (.goto 10, 3) := by decide +kernel
theorem dX2_settlingChoices_40 : decode cX2_settlingChoices 40 = .ok (.lconst 1, 1) := by decide +kernel
theorem dX2_settlingChoices_41 : decode cX2_settlingChoices 41 = .ok (.iconst 1, 1) := by decide +kernel
theorem dX2_settlingChoices_42 : decode cX2_settlingChoices 42 = .ok (.iload_n 1, 1) := by decide +kernel
theorem dX2_settlingChoices_43 : decode cX2_settlingChoices 43 = .ok (.ishl, 1) := by decide +kernel
theorem dX2_settlingChoices_44 : decode cX2_settlingChoices 44 = .ok (.lshl, 1) := by decide +kernel
theorem dX2_settlingChoices_45 : decode cX2_settlingChoices 45 = .ok (.lconst 1, 1) := by decide +kernel
theorem dX2_settlingChoices_46 : decode cX2_settlingChoices 46 = .ok (.lsub, 1) := by decide +kernel
theorem dX2_settlingChoices_47 : decode cX2_settlingChoices 47 = .ok (.lstore_n 3, 1) := by decide +kernel
theorem dX2_settlingChoices_48 : decode cX2_settlingChoices 48 = .ok (.iconst 0, 1) := by decide +kernel
theorem dX2_settlingChoices_49 : decode cX2_settlingChoices 49 = .ok (.istore 5, 2) := by decide +kernel
theorem dX2_settlingChoices_51 : decode cX2_settlingChoices 51 = .ok (.iconst 0, 1) := by decide +kernel
theorem dX2_settlingChoices_52 : decode cX2_settlingChoices 52 = .ok (.istore 6, 2) := by decide +kernel
theorem dX2_settlingChoices_54 : decode cX2_settlingChoices 54 = .ok (.iload 6, 2) := by decide +kernel
theorem dX2_settlingChoices_56 : decode cX2_settlingChoices 56 = .ok (.iload_n 2, 1) := by decide +kernel
theorem dX2_settlingChoices_57 : decode cX2_settlingChoices 57 = .ok (.if_icmp .ge 33, 3) := by decide +kernel
theorem dX2_settlingChoices_60 : decode cX2_settlingChoices 60 = .ok (.aload_n 0, 1) := by decide +kernel
theorem dX2_settlingChoices_61 : decode cX2_settlingChoices 61 = .ok (.iload 6, 2) := by decide +kernel
theorem dX2_settlingChoices_63 : decode cX2_settlingChoices 63 = .ok (.invokevirtual 28, 3) := by decide +kernel
theorem dX2_settlingChoices_66 : decode cX2_settlingChoices 66 = .ok (.aload_n 0, 1) := by decide +kernel
theorem dX2_settlingChoices_67 : decode cX2_settlingChoices 67 = .ok (.invokevirtual 32, 3) := by decide +kernel
theorem dX2_settlingChoices_70 : decode cX2_settlingChoices 70 = .ok (.iload 5, 2) := by decide +kernel
theorem dX2_settlingChoices_72 : decode cX2_settlingChoices 72 = .ok (.aload_n 0, 1) := by decide +kernel
theorem dX2_settlingChoices_73 : decode cX2_settlingChoices 73 = .ok (.invokevirtual 35, 3) := by decide +kernel
theorem dX2_settlingChoices_76 : decode cX2_settlingChoices 76 = .ok (.lload_n 3, 1) := by decide +kernel
theorem dX2_settlingChoices_77 : decode cX2_settlingChoices 77 = .ok (.land, 1) := by decide +kernel
theorem dX2_settlingChoices_78 : decode cX2_settlingChoices 78 = .ok (.invokestatic 39, 3) := by decide +kernel
theorem dX2_settlingChoices_81 : decode cX2_settlingChoices 81 = .ok (.iadd, 1) := by decide +kernel
theorem dX2_settlingChoices_82 : decode cX2_settlingChoices 82 = .ok (.istore 5, 2) := by decide +kernel
theorem dX2_settlingChoices_84 : decode cX2_settlingChoices 84 = .ok (.iinc 6 1, 3) := by decide +kernel
theorem dX2_settlingChoices_87 : decode cX2_settlingChoices 87 = .ok (.goto (-33), 3) := by decide +kernel
theorem dX2_settlingChoices_90 : decode cX2_settlingChoices 90 = .ok (.iload 5, 2) := by decide +kernel
theorem dX2_settlingChoices_92 : decode cX2_settlingChoices 92 = .ok (.ireturn, 1) := by decide +kernel
set_option maxRecDepth 20000 in
theorem ggX2_freeInputs_Jx4a65c_size_8abf5 : GoodIn wsX2_freeInputs wsJx4a65c_size_8abf5 := goodIn_r _ [7, 8, 35, 36, 37] (by decide +kernel) (by decide +kernel)
set_option maxRecDepth 20000 in
theorem gX2_freeInputs_Jx4a65c_size_8abf5 : GoodIn wsX2_freeInputs (wsV RX2 45 RJx4a65c yJx4a65c_size_8abf5 wsJx4a65c_size_8abf5) := goodIn_app (goodIn_of _ (by decide +kernel)) ggX2_freeInputs_Jx4a65c_size_8abf5
set_option maxRecDepth 20000 in
theorem ggX2_freeInputs_Jx4a65c_get_915e3 : GoodIn wsX2_freeInputs wsJx4a65c_get_915e3 := goodIn_r _ [12, 8, 13, 14, 15, 16, 17, 18, 19, 20, 21, 22, 23, 6, 24, 25, 35, 36, 37] (by decide +kernel) (by decide +kernel)
set_option maxRecDepth 20000 in
theorem gX2_freeInputs_Jx4a65c_get_915e3 : GoodIn wsX2_freeInputs (wsV RX2 50 RJx4a65c yJx4a65c_get_915e3 wsJx4a65c_get_915e3) := goodIn_app (goodIn_of _ (by decide +kernel)) ggX2_freeInputs_Jx4a65c_get_915e3
set_option maxRecDepth 20000 in
theorem ggX2_freeInputs_X2_isFree : GoodIn wsX2_freeInputs wsX2_isFree := goodIn_r _ [30, 31, 32, 38, 39, 40, 41, 42, 43, 44, 45, 46, 47, 48, 49, 50, 51, 52, 53, 54] (by decide +kernel) (by decide +kernel)
set_option maxRecDepth 20000 in
theorem gX2_freeInputs_X2_isFree : GoodIn wsX2_freeInputs (wsV RX2 56 RX2 yX2_isFree wsX2_isFree) := goodIn_app (goodIn_of _ (by decide +kernel)) ggX2_freeInputs_X2_isFree
theorem dX2_freeInputs_0 : decode cX2_freeInputs 0 = .ok (.iconst 0, 1) := by decide +kernel
theorem dX2_freeInputs_1 : decode cX2_freeInputs 1 = .ok (.istore_n 1, 1) := by decide +kernel
theorem dX2_freeInputs_2 : decode cX2_freeInputs 2 = .ok (.iconst 0, 1) := by decide +kernel
theorem dX2_freeInputs_3 : decode cX2_freeInputs 3 = .ok (.istore_n 2, 1) := by decide +kernel
theorem dX2_freeInputs_4 : decode cX2_freeInputs 4 = .ok (.iload_n 2, 1) := by decide +kernel
theorem dX2_freeInputs_5 : decode cX2_freeInputs 5 = .ok (.aload_n 0, 1) := by decide +kernel
theorem dX2_freeInputs_6 : decode cX2_freeInputs 6 = .ok (.getfield 9, 3) := by decide +kernel
theorem dX2_freeInputs_9 : decode cX2_freeInputs 9 = .ok (.invokevirtual 45, 3) := by decide +kernel
theorem dX2_freeInputs_12 : decode cX2_freeInputs 12 = .ok (.if_icmp .ge 30, 3) := by decide +kernel
theorem dX2_freeInputs_15 : decode cX2_freeInputs 15 = .ok (.aload_n 0, 1) := by decide +kernel
theorem dX2_freeInputs_16 : decode cX2_freeInputs 16 = .ok (.aload_n 0, 1) := by decide +kernel
theorem dX2_freeInputs_17 : decode cX2_freeInputs 17 = .ok (.getfield 9, 3) := by decide +kernel
theorem dX2_freeInputs_20 : decode cX2_freeInputs 20 = .ok (.iload_n 2, 1) := by decide +kernel
theorem dX2_freeInputs_21 : decode cX2_freeInputs 21 = .ok (.invokevirtual 50, 3) := by decide +kernel
theorem dX2_freeInputs_24 : decode cX2_freeInputs 24 = .ok (.checkcast 54, 3) := by decide +kernel
theorem dX2_freeInputs_27 : decode cX2_freeInputs 27 = .ok (.invokevirtual 56, 3) := by decide +kernel
theorem dX2_freeInputs_30 : decode cX2_freeInputs 30 = .ok (.ifCond .eq 6, 3) := by decide +kernel
theorem dX2_freeInputs_33 : decode cX2_freeInputs 33 = .ok (.iinc 1 1, 3) := by decide +kernel
theorem dX2_freeInputs_36 : decode cX2_freeInputs 36 = .ok (.iinc 2 1, 3) := by decide +kernel
theorem dX2_freeInputs_39 : decode cX2_freeInputs 39 = .ok (.goto (-35), 3) := by decide +kernel
theorem dX2_freeInputs_42 : decode cX2_freeInputs 42 = .ok (.iload_n 1, 1) := by decide +kernel
theorem dX2_freeInputs_43 : decode cX2_freeInputs 43 = .ok (.ireturn, 1) := by decide +kernel
theorem dX2_isFree_0 : decode cX2_isFree 0 = .ok (.aload_n 1, 1) := by decide +kernel
theorem dX2_isFree_1 : decode cX2_isFree 1 = .ok (.getfield 60, 3) := by decide +kernel
theorem dX2_isFree_4 : decode cX2_isFree 4 = .ok (.ifCond .ne 15, 3) := by decide +kernel
theorem dX2_isFree_7 : decode cX2_isFree 7 = .ok (.aload_n 1, 1) := by decide +kernel
theorem dX2_isFree_8 : decode cX2_isFree 8 = .ok (.getfield 64, 3) := by decide +kernel
theorem dX2_isFree_11 : decode cX2_isFree 11 = .ok (.iconst 2, 1) := by decide +kernel
theorem dX2_isFree_12 : decode cX2_isFree 12 = .ok (.if_icmp .ne 7, 3) := by decide +kernel
theorem dX2_isFree_15 : decode cX2_isFree 15 = .ok (.iconst 1, 1) := by decide +kernel
theorem dX2_isFree_16 : decode cX2_isFree 16 = .ok (.goto 4, 3) := by decide +kernel
theorem dX2_isFree_19 : decode cX2_isFree 19 = .ok (.iconst 0, 1) := by decide +kernel
theorem dX2_isFree_20 : decode cX2_isFree 20 = .ok (.ireturn, 1) := by decide +kernel
set_option maxRecDepth 20000 in
theorem ggX2_startBatch_Jx4a65c_size_8abf5 : GoodIn wsX2_startBatch wsJx4a65c_size_8abf5 := goodIn_r _ [11, 12, 60, 61, 62] (by decide +kernel) (by decide +kernel)
set_option maxRecDepth 20000 in
theorem gX2_startBatch_Jx4a65c_size_8abf5 : GoodIn wsX2_startBatch (wsV RX2 45 RJx4a65c yJx4a65c_size_8abf5 wsJx4a65c_size_8abf5) := goodIn_app (goodIn_of _ (by decide +kernel)) ggX2_startBatch_Jx4a65c_size_8abf5
set_option maxRecDepth 20000 in
theorem ggX2_startBatch_Jx4a65c_get_915e3 : GoodIn wsX2_startBatch wsJx4a65c_get_915e3 := goodIn_r _ [16, 12, 17, 18, 19, 20, 21, 22, 23, 24, 25, 26, 27, 10, 28, 29, 60, 61, 62] (by decide +kernel) (by decide +kernel)
set_option maxRecDepth 20000 in
theorem gX2_startBatch_Jx4a65c_get_915e3 : GoodIn wsX2_startBatch (wsV RX2 50 RJx4a65c yJx4a65c_get_915e3 wsJx4a65c_get_915e3) := goodIn_app (goodIn_of _ (by decide +kernel)) ggX2_startBatch_Jx4a65c_get_915e3
set_option maxRecDepth 20000 in
theorem ggX2_startBatch_X2_isFree : GoodIn wsX2_startBatch wsX2_isFree := goodIn_r _ [34, 35, 6, 43, 44, 45, 46, 47, 48, 49, 50, 51, 52, 53, 54, 55, 56, 57, 58, 59] (by decide +kernel) (by decide +kernel)
set_option maxRecDepth 20000 in
theorem gX2_startBatch_X2_isFree : GoodIn wsX2_startBatch (wsV RX2 56 RX2 yX2_isFree wsX2_isFree) := goodIn_app (goodIn_of _ (by decide +kernel)) ggX2_startBatch_X2_isFree
set_option maxRecDepth 20000 in
theorem ggX2_startBatch_X2_lanesOfInput : GoodIn wsX2_startBatch wsX2_lanesOfInput := goodIn_r _ [39, 40, 4] (by decide +kernel) (by decide +kernel)
set_option maxRecDepth 20000 in
theorem gX2_startBatch_X2_lanesOfInput : GoodIn wsX2_startBatch (wsV RX2 67 RX2 yX2_lanesOfInput wsX2_lanesOfInput) := goodIn_app (goodIn_of _ (by decide +kernel)) ggX2_startBatch_X2_lanesOfInput
theorem dX2_startBatch_0 : decode cX2_startBatch 0 = .ok (.iconst 0, 1) := by decide +kernel
theorem dX2_startBatch_1 : decode cX2_startBatch 1 = .ok (.istore_n 2, 1) := by decide +kernel
theorem dX2_startBatch_2 : decode cX2_startBatch 2 = .ok (.iconst 0, 1) := by decide +kernel
theorem dX2_startBatch_3 : decode cX2_startBatch 3 = .ok (.istore_n 3, 1) := by decide +kernel
theorem dX2_startBatch_4 : decode cX2_startBatch 4 = .ok (.iload_n 3, 1) := by decide +kernel
theorem dX2_startBatch_5 : decode cX2_startBatch 5 = .ok (.aload_n 0, 1) := by decide +kernel
theorem dX2_startBatch_6 : decode cX2_startBatch 6 = .ok (.getfield 9, 3) := by decide +kernel
theorem dX2_startBatch_9 : decode cX2_startBatch 9 = .ok (.invokevirtual 45, 3) := by decide +kernel
theorem dX2_startBatch_12 : decode cX2_startBatch 12 = .ok (.if_icmp .ge 103, 3) := by decide +kernel
theorem dX2_startBatch_15 : decode cX2_startBatch 15 = .ok (.aload_n 0, 1) := by decide +kernel
theorem dX2_startBatch_16 : decode cX2_startBatch 16 = .ok (.getfield 9, 3) := by decide +kernel
theorem dX2_startBatch_19 : decode cX2_startBatch 19 = .ok (.iload_n 3, 1) := by decide +kernel
theorem dX2_startBatch_20 : decode cX2_startBatch 20 = .ok (.invokevirtual 50, 3) := by decide +kernel
theorem dX2_startBatch_23 : decode cX2_startBatch 23 = .ok (.checkcast 54, 3) := by decide +kernel
theorem dX2_startBatch_26 : decode cX2_startBatch 26 = .ok (.astore 4, 2) := by decide +kernel
theorem dX2_startBatch_28 : decode cX2_startBatch 28 = .ok (.aload_n 0, 1) := by decide +kernel
theorem dX2_startBatch_29 : decode cX2_startBatch 29 = .ok (.aload 4, 2) := by decide +kernel
theorem dX2_startBatch_31 : decode cX2_startBatch 31 = .ok (.invokevirtual 56, 3) := by decide +kernel
theorem dX2_startBatch_34 : decode cX2_startBatch 34 = .ok (.ifCond .eq 34, 3) := by decide +kernel
theorem dX2_startBatch_37 : decode cX2_startBatch 37 = .ok (.aload 4, 2) := by decide +kernel
theorem dX2_startBatch_39 : decode cX2_startBatch 39 = .ok (.aload_n 0, 1) := by decide +kernel
theorem dX2_startBatch_40 : decode cX2_startBatch 40 = .ok (.iload_n 2, 1) := by decide +kernel
theorem dX2_startBatch_41 : decode cX2_startBatch 41 = .ok (.iload_n 1, 1) := by decide +kernel
theorem dX2_startBatch_42 : decode cX2_startBatch 42 = .ok (.invokevirtual 67, 3) := by decide +kernel
theorem dX2_startBatch_45 : decode cX2_startBatch 45 = .ok (.putfield 71, 3) := by decide +kernel
theorem dX2_startBatch_48 : decode cX2_startBatch 48 = .ok (.aload 4, 2) := by decide +kernel
theorem dX2_startBatch_50 : decode cX2_startBatch 50 = .ok (.aload 4, 2) := by decide +kernel
theorem dX2_startBatch_52 : decode cX2_startBatch 52 = .ok (.getfield 71, 3) := by decide +kernel
theorem dX2_startBatch_55 : decode cX2_startBatch 55 = .ok (.ldc2_w 26, 3) := by decide +kernel
theorem dX2_startBatch_58 : decode cX2_startBatch 58 = .ok (.lxor, 1) := by decide +kernel
theorem dX2_startBatch_59 : decode cX2_startBatch 59 = .ok (.putfield 75, 3) := by decide +kernel
theorem dX2_startBatch_62 : decode cX2_startBatch 62 = .ok (.iinc 2 1, 3) := by decide +kernel
theorem dX2_startBatch_65 : decode cX2_startBatch 65 = .ok (.goto 44, 3) := by decide +kernel
theorem dX2_startBatch_68 : decode cX2_startBatch 68 = .ok (.aload 4, 2) := by decide +kernel
theorem dX2_startBatch_70 : decode cX2_startBatch 70 = .ok (.aload 4, 2) := by decide +kernel
theorem dX2_startBatch_72 : decode cX2_startBatch 72 = .ok (.getfield 64, 3) := by decide +kernel
theorem dX2_startBatch_75 : decode cX2_startBatch 75 = .ok (.iconst 1, 1) := by decide +kernel
theorem dX2_startBatch_76 : decode cX2_startBatch 76 = .ok (.if_icmp .ne 9, 3) := by decide +kernel
theorem dX2_startBatch_79 : decode cX2_startBatch 79 = .ok (.ldc2_w 26, 3) := by decide +kernel
theorem dX2_startBatch_82 : decode cX2_startBatch 82 = .ok (.goto 4, 3) := by decide +kernel
theorem dX2_startBatch_85 : decode cX2_startBatch 85 = .ok (.lconst 0, 1) := by decide +kernel
theorem dX2_startBatch_86 : decode cX2_startBatch 86 = .ok (.putfield 71, 3) := by decide +kernel
theorem dX2_startBatch_89 : decode cX2_startBatch 89 = .ok (.aload 4, 2) := by decide +kernel
theorem dX2_startBatch_91 : decode cX2_startBatch 91 = .ok (.aload 4, 2) := by decide +kernel
theorem dX2_startBatch_93 : decode cX2_startBatch 93 = .ok (.getfield 64, 3) := by decide +kernel
theorem dX2_startBatch_96 : decode cX2_startBatch 96 = .ok (.ifCond .ne 9, 3) := by decide +kernel
theorem dX2_startBatch_99 : decode cX2_startBatch 99 = .ok (.ldc2_w 26, 3) := by decide +kernel
theorem dX2_startBatch_102 : decode cX2_startBatch 102 = .ok (.goto 4, 3) := by decide +kernel
theorem dX2_startBatch_105 : decode cX2_startBatch 105 = .ok (.lconst 0, 1) := by decide +kernel
theorem dX2_startBatch_106 : decode cX2_startBatch 106 = .ok (.putfield 75, 3) := by decide +kernel
theorem dX2_startBatch_109 : decode cX2_startBatch 109 = .ok (.iinc 3 1, 3) := by decide +kernel
