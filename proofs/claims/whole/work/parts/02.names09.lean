theorem wsL_law_in : ∀ w ∈ wsL_law, w ∈ lw_tbl := fun w h => (List.mem_append.mp h).elim (fun h => (List.mem_append.mp h).elim (fun h => (List.mem_append.mp h).elim (fun h => wsL_law_in0 w h) (fun h => wsL_law_x0 w h)) (fun h => wsL_law_x1 w h)) (fun h => wsL_law_x2 w h)
theorem inlX0 : ∀ w ∈ wsX00, w ∈ wsL_law := fun _ h => List.mem_append_left _ (List.mem_append_left _ (List.mem_append_left _ (List.mem_append_left _ (List.mem_append_left _ (List.mem_append_right _ h)))))
theorem inX0 : ∀ w ∈ wsX00, w ∈ lw_tbl := fun w h => wsL_law_in w (inlX0 w h)
theorem inlX1 : ∀ w ∈ wsX10, w ∈ wsL_law := fun _ h => List.mem_append_left _ (List.mem_append_left _ (List.mem_append_left _ (List.mem_append_left _ (List.mem_append_left _ (List.mem_append_left _ (List.mem_append_right _ h))))))
theorem inX1 : ∀ w ∈ wsX10, w ∈ lw_tbl := fun w h => wsL_law_in w (inlX1 w h)
theorem inlX2 : ∀ w ∈ wsX20, w ∈ wsL_law := fun _ h => List.mem_append_left _ (List.mem_append_left _ (List.mem_append_left _ (List.mem_append_left _ (List.mem_append_right _ h))))
theorem inX2 : ∀ w ∈ wsX20, w ∈ lw_tbl := fun w h => wsL_law_in w (inlX2 w h)
theorem inlX3 : ∀ w ∈ wsX30, w ∈ wsL_law := fun _ h => List.mem_append_left _ (List.mem_append_left _ (List.mem_append_left _ (List.mem_append_left _ (List.mem_append_left _ (List.mem_append_left _ (List.mem_append_left _ (List.mem_append_right _ h)))))))
theorem inX3 : ∀ w ∈ wsX30, w ∈ lw_tbl := fun w h => wsL_law_in w (inlX3 w h)
theorem inlX4 : ∀ w ∈ wsX40, w ∈ wsL_law := fun _ h => List.mem_append_left _ (List.mem_append_left _ (List.mem_append_left _ (List.mem_append_left _ (List.mem_append_left _ (List.mem_append_left _ (List.mem_append_left _ (List.mem_append_left _ (List.mem_append_left _ (List.mem_append_left _ (List.mem_append_right _ h))))))))))
theorem inX4 : ∀ w ∈ wsX40, w ∈ lw_tbl := fun w h => wsL_law_in w (inlX4 w h)
theorem inlX5 : ∀ w ∈ wsX50, w ∈ wsL_law := fun _ h => List.mem_append_left _ (List.mem_append_left _ (List.mem_append_left _ (List.mem_append_left _ (List.mem_append_left _ (List.mem_append_left _ (List.mem_append_left _ (List.mem_append_left _ (List.mem_append_left _ (List.mem_append_right _ h)))))))))
theorem inX5 : ∀ w ∈ wsX50, w ∈ lw_tbl := fun w h => wsL_law_in w (inlX5 w h)
theorem inJx145de : ∀ w ∈ wsJx145de0, w ∈ lw_tbl := by decide +kernel
theorem inJx8e188 : ∀ w ∈ wsJx8e1880, w ∈ lw_tbl := by decide +kernel
theorem inJxab1ab : ∀ w ∈ wsJxab1ab0, w ∈ lw_tbl := by decide +kernel
theorem inJ13 : ∀ w ∈ wsJ130, w ∈ lw_tbl := by decide +kernel
theorem inJ9 : ∀ w ∈ wsJ90, w ∈ lw_tbl := by decide +kernel
theorem inJ0 : ∀ w ∈ wsJ00, w ∈ lw_tbl := by decide +kernel
theorem inJ10 : ∀ w ∈ wsJ100, w ∈ lw_tbl := by decide +kernel
theorem inJxa1e45 : ∀ w ∈ wsJxa1e450, w ∈ lw_tbl := by decide +kernel
theorem inJxc12de : ∀ w ∈ wsJxc12de0, w ∈ lw_tbl := by decide +kernel
theorem inlJx4a65c : ∀ w ∈ wsJx4a65c0, w ∈ wsL_law := fun _ h => List.mem_append_left _ (List.mem_append_left _ (List.mem_append_left _ (List.mem_append_left _ (List.mem_append_left _ (List.mem_append_left _ (List.mem_append_left _ (List.mem_append_left _ (List.mem_append_right _ h))))))))
theorem inJx4a65c : ∀ w ∈ wsJx4a65c0, w ∈ lw_tbl := fun w h => wsL_law_in w (inlJx4a65c w h)
theorem inJ7 : ∀ w ∈ wsJ70, w ∈ lw_tbl := by decide +kernel
theorem inJx5ef63 : ∀ w ∈ wsJx5ef630, w ∈ lw_tbl := by decide +kernel
theorem inJxbd725 : ∀ w ∈ wsJxbd7250, w ∈ lw_tbl := by decide +kernel
theorem inJ15 : ∀ w ∈ wsJ150, w ∈ lw_tbl := by decide +kernel
theorem inJxf0a74 : ∀ w ∈ wsJxf0a740, w ∈ lw_tbl := by decide +kernel
theorem inJxa66e6 : ∀ w ∈ wsJxa66e60, w ∈ lw_tbl := by decide +kernel
theorem inJ8 : ∀ w ∈ wsJ80, w ∈ lw_tbl := by decide +kernel
theorem inJ3 : ∀ w ∈ wsJ30, w ∈ lw_tbl := by decide +kernel
theorem dX0_init_0 : decode cX0_init 0 = .ok (.aload_n 0, 1) := by decide +kernel
theorem dX0_init_1 : decode cX0_init 1 = .ok (.invokespecial 3, 3) := by decide +kernel
theorem dX0_init_4 : decode cX0_init 4 = .ok (.aload_n 0, 1) := by decide +kernel
theorem dX0_init_5 : decode cX0_init 5 = .ok (.aload_n 1, 1) := by decide +kernel
theorem dX0_init_6 : decode cX0_init 6 = .ok (.putfield 9, 3) := by decide +kernel
theorem dX0_init_9 : decode cX0_init 9 = .ok (.aload_n 0, 1) := by decide +kernel
theorem dX0_init_10 : decode cX0_init 10 = .ok (.iload_n 2, 1) := by decide +kernel
theorem dX0_init_11 : decode cX0_init 11 = .ok (.putfield 15, 3) := by decide +kernel
theorem dX0_init_14 : decode cX0_init 14 = .ok (.aload_n 0, 1) := by decide +kernel
theorem dX0_init_15 : decode cX0_init 15 = .ok (.aload_n 3, 1) := by decide +kernel
theorem dX0_init_16 : decode cX0_init 16 = .ok (.putfield 19, 3) := by decide +kernel
theorem dX0_init_19 : decode cX0_init 19 = .ok (.return_, 1) := by decide +kernel
theorem dX0_takenValue_0 : decode cX0_takenValue 0 = .ok (.aload_n 0, 1) := by decide +kernel
theorem dX0_takenValue_1 : decode cX0_takenValue 1 = .ok (.getfield 9, 3) := by decide +kernel
theorem dX0_takenValue_4 : decode cX0_takenValue 4 = .ok (.getfield 23, 3) := by decide +kernel
theorem dX0_takenValue_7 : decode cX0_takenValue 7 = .ok (.iconst 2, 1) := by decide +kernel
theorem dX0_takenValue_8 : decode cX0_takenValue 8 = .ok (.if_icmp .ne 5, 3) := by decide +kernel
theorem dX0_takenValue_11 : decode cX0_takenValue 11 = .ok (.iconst 2, 1) := by decide +kernel
theorem dX0_takenValue_12 : decode cX0_takenValue 12 = .ok (.ireturn, 1) := by decide +kernel
theorem dX0_takenValue_13 : decode cX0_takenValue 13 = .ok (.aload_n 0, 1) := by decide +kernel
theorem dX0_takenValue_14 : decode cX0_takenValue 14 = .ok (.getfield 15, 3) := by decide +kernel
theorem dX0_takenValue_17 : decode cX0_takenValue 17 = .ok (.ifCond .eq 15, 3) := by decide +kernel
theorem dX0_takenValue_20 : decode cX0_takenValue 20 = .ok (.iconst 1, 1) := by decide +kernel
theorem dX0_takenValue_21 : decode cX0_takenValue 21 = .ok (.aload_n 0, 1) := by decide +kernel
theorem dX0_takenValue_22 : decode cX0_takenValue 22 = .ok (.getfield 9, 3) := by decide +kernel
theorem dX0_takenValue_25 : decode cX0_takenValue 25 = .ok (.getfield 23, 3) := by decide +kernel
theorem dX0_takenValue_28 : decode cX0_takenValue 28 = .ok (.isub, 1) := by decide +kernel
theorem dX0_takenValue_29 : decode cX0_takenValue 29 = .ok (.goto 10, 3) := by decide +kernel
theorem dX0_takenValue_32 : decode cX0_takenValue 32 = .ok (.aload_n 0, 1) := by decide +kernel
theorem dX0_takenValue_33 : decode cX0_takenValue 33 = .ok (.getfield 9, 3) := by decide +kernel
theorem dX0_takenValue_36 : decode cX0_takenValue 36 = .ok (.getfield 23, 3) := by decide +kernel
theorem dX0_takenValue_39 : decode cX0_takenValue 39 = .ok (.ireturn, 1) := by decide +kernel
set_option maxRecDepth 20000 in
theorem ggX0_valueBefore_X0_takenValue : GoodIn wsX0_valueBefore wsX0_takenValue := goodIn_r _ [7, 1, 8, 9, 10, 11, 12, 13, 14, 15, 16, 17, 18, 19, 20, 21, 22, 23, 24, 25, 26, 27, 28, 29] (by decide +kernel) (by decide +kernel)
set_option maxRecDepth 20000 in
theorem gX0_valueBefore_X0_takenValue : GoodIn wsX0_valueBefore (wsV RX0 32 RX0 yX0_takenValue wsX0_takenValue) := goodIn_app (goodIn_of _ (by decide +kernel)) ggX0_valueBefore_X0_takenValue
theorem dX0_valueBefore_0 : decode cX0_valueBefore 0 = .ok (.aload_n 0, 1) := by decide +kernel
theorem dX0_valueBefore_1 : decode cX0_valueBefore 1 = .ok (.getfield 9, 3) := by decide +kernel
theorem dX0_valueBefore_4 : decode cX0_valueBefore 4 = .ok (.getfield 29, 3) := by decide +kernel
theorem dX0_valueBefore_7 : decode cX0_valueBefore 7 = .ok (.iload_n 1, 1) := by decide +kernel
theorem dX0_valueBefore_8 : decode cX0_valueBefore 8 = .ok (.if_icmp .ge 10, 3) := by decide +kernel
theorem dX0_valueBefore_11 : decode cX0_valueBefore 11 = .ok (.aload_n 0, 1) := by decide +kernel
theorem dX0_valueBefore_12 : decode cX0_valueBefore 12 = .ok (.invokevirtual 32, 3) := by decide +kernel
theorem dX0_valueBefore_15 : decode cX0_valueBefore 15 = .ok (.goto 4, 3) := by decide +kernel
theorem dX0_valueBefore_18 : decode cX0_valueBefore 18 = .ok (.iconst 2, 1) := by decide +kernel
theorem dX0_valueBefore_19 : decode cX0_valueBefore 19 = .ok (.ireturn, 1) := by decide +kernel
theorem dX0_takenOnes_0 : decode cX0_takenOnes 0 = .ok (.aload_n 0, 1) := by decide +kernel
theorem dX0_takenOnes_1 : decode cX0_takenOnes 1 = .ok (.getfield 15, 3) := by decide +kernel
theorem dX0_takenOnes_4 : decode cX0_takenOnes 4 = .ok (.ifCond .eq 13, 3) := by decide +kernel
theorem dX0_takenOnes_7 : decode cX0_takenOnes 7 = .ok (.aload_n 0, 1) := by decide +kernel
theorem dX0_takenOnes_8 : decode cX0_takenOnes 8 = .ok (.getfield 9, 3) := by decide +kernel
theorem dX0_takenOnes_11 : decode cX0_takenOnes 11 = .ok (.getfield 36, 3) := by decide +kernel
theorem dX0_takenOnes_14 : decode cX0_takenOnes 14 = .ok (.goto 10, 3) := by decide +kernel
theorem dX0_takenOnes_17 : decode cX0_takenOnes 17 = .ok (.aload_n 0, 1) := by decide +kernel
theorem dX0_takenOnes_18 : decode cX0_takenOnes 18 = .ok (.getfield 9, 3) := by decide +kernel
theorem dX0_takenOnes_21 : decode cX0_takenOnes 21 = .ok (.getfield 40, 3) := by decide +kernel
theorem dX0_takenOnes_24 : decode cX0_takenOnes 24 = .ok (.lreturn, 1) := by decide +kernel
theorem dX0_takenZeros_0 : decode cX0_takenZeros 0 = .ok (.aload_n 0, 1) := by decide +kernel
theorem dX0_takenZeros_1 : decode cX0_takenZeros 1 = .ok (.getfield 15, 3) := by decide +kernel
theorem dX0_takenZeros_4 : decode cX0_takenZeros 4 = .ok (.ifCond .eq 13, 3) := by decide +kernel
theorem dX0_takenZeros_7 : decode cX0_takenZeros 7 = .ok (.aload_n 0, 1) := by decide +kernel
theorem dX0_takenZeros_8 : decode cX0_takenZeros 8 = .ok (.getfield 9, 3) := by decide +kernel
theorem dX0_takenZeros_11 : decode cX0_takenZeros 11 = .ok (.getfield 40, 3) := by decide +kernel
theorem dX0_takenZeros_14 : decode cX0_takenZeros 14 = .ok (.goto 10, 3) := by decide +kernel
theorem dX0_takenZeros_17 : decode cX0_takenZeros 17 = .ok (.aload_n 0, 1) := by decide +kernel
theorem dX0_takenZeros_18 : decode cX0_takenZeros 18 = .ok (.getfield 9, 3) := by decide +kernel
theorem dX0_takenZeros_21 : decode cX0_takenZeros 21 = .ok (.getfield 36, 3) := by decide +kernel
theorem dX0_takenZeros_24 : decode cX0_takenZeros 24 = .ok (.lreturn, 1) := by decide +kernel
theorem dX1_init_0 : decode cX1_init 0 = .ok (.aload_n 0, 1) := by decide +kernel
theorem dX1_init_1 : decode cX1_init 1 = .ok (.invokespecial 3, 3) := by decide +kernel
theorem dX1_init_4 : decode cX1_init 4 = .ok (.aload_n 0, 1) := by decide +kernel
theorem dX1_init_5 : decode cX1_init 5 = .ok (.aconst_null, 1) := by decide +kernel
theorem dX1_init_6 : decode cX1_init 6 = .ok (.putfield 9, 3) := by decide +kernel
theorem dX1_init_9 : decode cX1_init 9 = .ok (.aload_n 0, 1) := by decide +kernel
theorem dX1_init_10 : decode cX1_init 10 = .ok (.iconst 0, 1) := by decide +kernel
theorem dX1_init_11 : decode cX1_init 11 = .ok (.putfield 15, 3) := by decide +kernel
theorem dX1_init_14 : decode cX1_init 14 = .ok (.aload_n 0, 1) := by decide +kernel
theorem dX1_init_15 : decode cX1_init 15 = .ok (.iconst (-1), 1) := by decide +kernel
theorem dX1_init_16 : decode cX1_init 16 = .ok (.putfield 19, 3) := by decide +kernel
theorem dX1_init_19 : decode cX1_init 19 = .ok (.aload_n 0, 1) := by decide +kernel
theorem dX1_init_20 : decode cX1_init 20 = .ok (.iconst (-1), 1) := by decide +kernel
theorem dX1_init_21 : decode cX1_init 21 = .ok (.putfield 22, 3) := by decide +kernel
theorem dX1_init_24 : decode cX1_init 24 = .ok (.aload_n 0, 1) := by decide +kernel
theorem dX1_init_25 : decode cX1_init 25 = .ok (.iconst (-1), 1) := by decide +kernel
theorem dX1_init_26 : decode cX1_init 26 = .ok (.putfield 25, 3) := by decide +kernel
theorem dX1_init_29 : decode cX1_init 29 = .ok (.aload_n 0, 1) := by decide +kernel
theorem dX1_init_30 : decode cX1_init 30 = .ok (.aconst_null, 1) := by decide +kernel
theorem dX1_init_31 : decode cX1_init 31 = .ok (.putfield 28, 3) := by decide +kernel
theorem dX1_init_34 : decode cX1_init 34 = .ok (.aload_n 0, 1) := by decide +kernel
theorem dX1_init_35 : decode cX1_init 35 = .ok (.aconst_null, 1) := by decide +kernel
theorem dX1_init_36 : decode cX1_init 36 = .ok (.putfield 31, 3) := by decide +kernel
theorem dX1_init_39 : decode cX1_init 39 = .ok (.aload_n 0, 1) := by decide +kernel
theorem dX1_init_40 : decode cX1_init 40 = .ok (.aconst_null, 1) := by decide +kernel
theorem dX1_init_41 : decode cX1_init 41 = .ok (.putfield 35, 3) := by decide +kernel
theorem dX1_init_44 : decode cX1_init 44 = .ok (.aload_n 0, 1) := by decide +kernel
theorem dX1_init_45 : decode cX1_init 45 = .ok (.iconst 0, 1) := by decide +kernel
theorem dX1_init_46 : decode cX1_init 46 = .ok (.putfield 38, 3) := by decide +kernel
theorem dX1_init_49 : decode cX1_init 49 = .ok (.aload_n 0, 1) := by decide +kernel
theorem dX1_init_50 : decode cX1_init 50 = .ok (.iconst 0, 1) := by decide +kernel
theorem dX1_init_51 : decode cX1_init 51 = .ok (.putfield 42, 3) := by decide +kernel
theorem dX1_init_54 : decode cX1_init 54 = .ok (.aload_n 0, 1) := by decide +kernel
theorem dX1_init_55 : decode cX1_init 55 = .ok (.iconst (-1), 1) := by decide +kernel
theorem dX1_init_56 : decode cX1_init 56 = .ok (.putfield 45, 3) := by decide +kernel
theorem dX1_init_59 : decode cX1_init 59 = .ok (.aload_n 0, 1) := by decide +kernel
theorem dX1_init_60 : decode cX1_init 60 = .ok (.lconst 0, 1) := by decide +kernel
theorem dX1_init_61 : decode cX1_init 61 = .ok (.putfield 48, 3) := by decide +kernel
theorem dX1_init_64 : decode cX1_init 64 = .ok (.aload_n 0, 1) := by decide +kernel
theorem dX1_init_65 : decode cX1_init 65 = .ok (.lconst 0, 1) := by decide +kernel
theorem dX1_init_66 : decode cX1_init 66 = .ok (.putfield 52, 3) := by decide +kernel
theorem dX1_init_69 : decode cX1_init 69 = .ok (.aload_n 0, 1) := by decide +kernel
theorem dX1_init_70 : decode cX1_init 70 = .ok (.iload_n 1, 1) := by decide +kernel
theorem dX1_init_71 : decode cX1_init 71 = .ok (.putfield 55, 3) := by decide +kernel
theorem dX1_init_74 : decode cX1_init 74 = .ok (.aload_n 0, 1) := by decide +kernel
theorem dX1_init_75 : decode cX1_init 75 = .ok (.iload_n 2, 1) := by decide +kernel
theorem dX1_init_76 : decode cX1_init 76 = .ok (.putfield 58, 3) := by decide +kernel
theorem dX1_init_79 : decode cX1_init 79 = .ok (.aload_n 0, 1) := by decide +kernel
theorem dX1_init_80 : decode cX1_init 80 = .ok (.iload_n 2, 1) := by decide +kernel
theorem dX1_init_81 : decode cX1_init 81 = .ok (.iconst 1, 1) := by decide +kernel
theorem dX1_init_82 : decode cX1_init 82 = .ok (.if_icmp .ne 7, 3) := by decide +kernel
theorem dX1_init_85 : decode cX1_init 85 = .ok (.iconst 0, 1) := by decide +kernel
theorem dX1_init_86 : decode cX1_init 86 = .ok (.goto 4, 3) := by decide +kernel
theorem dX1_init_89 : decode cX1_init 89 = .ok (.iconst 2, 1) := by decide +kernel
theorem dX1_init_90 : decode cX1_init 90 = .ok (.putfield 61, 3) := by decide +kernel
theorem dX1_init_93 : decode cX1_init 93 = .ok (.aload_n 0, 1) := by decide +kernel
theorem dX1_init_94 : decode cX1_init 94 = .ok (.aload_n 0, 1) := by decide +kernel
theorem dX1_init_95 : decode cX1_init 95 = .ok (.getfield 61, 3) := by decide +kernel
theorem dX1_init_98 : decode cX1_init 98 = .ok (.putfield 64, 3) := by decide +kernel
theorem dX1_init_101 : decode cX1_init 101 = .ok (.return_, 1) := by decide +kernel
theorem dX1_isLogic_0 : decode cX1_isLogic 0 = .ok (.aload_n 0, 1) := by decide +kernel
theorem dX1_isLogic_1 : decode cX1_isLogic 1 = .ok (.getfield 58, 3) := by decide +kernel
theorem dX1_isLogic_4 : decode cX1_isLogic 4 = .ok (.iconst 2, 1) := by decide +kernel
theorem dX1_isLogic_5 : decode cX1_isLogic 5 = .ok (.if_icmp .eq 11, 3) := by decide +kernel
theorem dX1_isLogic_8 : decode cX1_isLogic 8 = .ok (.aload_n 0, 1) := by decide +kernel
theorem dX1_isLogic_9 : decode cX1_isLogic 9 = .ok (.getfield 58, 3) := by decide +kernel
theorem dX1_isLogic_12 : decode cX1_isLogic 12 = .ok (.iconst 3, 1) := by decide +kernel
theorem dX1_isLogic_13 : decode cX1_isLogic 13 = .ok (.if_icmp .ne 7, 3) := by decide +kernel
theorem dX1_isLogic_16 : decode cX1_isLogic 16 = .ok (.iconst 1, 1) := by decide +kernel
theorem dX1_isLogic_17 : decode cX1_isLogic 17 = .ok (.goto 4, 3) := by decide +kernel
theorem dX1_isLogic_20 : decode cX1_isLogic 20 = .ok (.iconst 0, 1) := by decide +kernel
theorem dX1_isLogic_21 : decode cX1_isLogic 21 = .ok (.ireturn, 1) := by decide +kernel
set_option maxRecDepth 20000 in
theorem ggX1_canBeFed_X1_isLogic : GoodIn wsX1_canBeFed wsX1_isLogic := goodIn_r _ [7, 1, 8, 9, 10, 11, 12, 13, 14, 15, 16, 17, 18, 19, 20, 21, 22, 23, 24] (by decide +kernel) (by decide +kernel)
set_option maxRecDepth 20000 in
theorem gX1_canBeFed_X1_isLogic : GoodIn wsX1_canBeFed (wsV RX1 67 RX1 yX1_isLogic wsX1_isLogic) := goodIn_app (goodIn_of _ (by decide +kernel)) ggX1_canBeFed_X1_isLogic
theorem dX1_canBeFed_0 : decode cX1_canBeFed 0 = .ok (.aload_n 0, 1) := by decide +kernel
theorem dX1_canBeFed_1 : decode cX1_canBeFed 1 = .ok (.invokevirtual 67, 3) := by decide +kernel
theorem dX1_canBeFed_4 : decode cX1_canBeFed 4 = .ok (.ifCond .ne 18, 3) := by decide +kernel
theorem dX1_canBeFed_7 : decode cX1_canBeFed 7 = .ok (.aload_n 0, 1) := by decide +kernel
theorem dX1_canBeFed_8 : decode cX1_canBeFed 8 = .ok (.getfield 58, 3) := by decide +kernel
theorem dX1_canBeFed_11 : decode cX1_canBeFed 11 = .ok (.iconst 1, 1) := by decide +kernel
theorem dX1_canBeFed_12 : decode cX1_canBeFed 12 = .ok (.if_icmp .ne 14, 3) := by decide +kernel
theorem dX1_canBeFed_15 : decode cX1_canBeFed 15 = .ok (.aload_n 0, 1) := by decide +kernel
theorem dX1_canBeFed_16 : decode cX1_canBeFed 16 = .ok (.getfield 15, 3) := by decide +kernel
theorem dX1_canBeFed_19 : decode cX1_canBeFed 19 = .ok (.ifCond .ne 7, 3) := by decide +kernel
theorem dX1_canBeFed_22 : decode cX1_canBeFed 22 = .ok (.iconst 1, 1) := by decide +kernel
theorem dX1_canBeFed_23 : decode cX1_canBeFed 23 = .ok (.goto 4, 3) := by decide +kernel
theorem dX1_canBeFed_26 : decode cX1_canBeFed 26 = .ok (.iconst 0, 1) := by decide +kernel
theorem dX1_canBeFed_27 : decode cX1_canBeFed 27 = .ok (.ireturn, 1) := by decide +kernel
set_option maxRecDepth 20000 in
theorem ggX1_addFeed_X0_init : GoodIn wsX1_addFeed wsX0_init := goodIn_r _ [8, 9, 10, 11, 12, 13, 14, 15, 16, 17] (by decide +kernel) (by decide +kernel)
set_option maxRecDepth 20000 in
theorem gX1_addFeed_X0_init : GoodIn wsX1_addFeed (wsX0_init) := ggX1_addFeed_X0_init
theorem dX1_addFeed_0 : decode cX1_addFeed 0 = .ok (.aload_n 0, 1) := by decide +kernel
theorem dX1_addFeed_1 : decode cX1_addFeed 1 = .ok (.new 71, 3) := by decide +kernel
theorem dX1_addFeed_4 : decode cX1_addFeed 4 = .ok (.dup, 1) := by decide +kernel
theorem dX1_addFeed_5 : decode cX1_addFeed 5 = .ok (.aload_n 1, 1) := by decide +kernel
theorem dX1_addFeed_6 : decode cX1_addFeed 6 = .ok (.iload_n 2, 1) := by decide +kernel
theorem dX1_addFeed_7 : decode cX1_addFeed 7 = .ok (.aload_n 0, 1) := by decide +kernel
theorem dX1_addFeed_8 : decode cX1_addFeed 8 = .ok (.getfield 9, 3) := by decide +kernel
theorem dX1_addFeed_11 : decode cX1_addFeed 11 = .ok (.invokespecial 73, 3) := by decide +kernel
theorem dX1_addFeed_14 : decode cX1_addFeed 14 = .ok (.putfield 9, 3) := by decide +kernel
theorem dX1_addFeed_17 : decode cX1_addFeed 17 = .ok (.aload_n 0, 1) := by decide +kernel
theorem dX1_addFeed_18 : decode cX1_addFeed 18 = .ok (.dup, 1) := by decide +kernel
theorem dX1_addFeed_19 : decode cX1_addFeed 19 = .ok (.getfield 15, 3) := by decide +kernel
theorem dX1_addFeed_22 : decode cX1_addFeed 22 = .ok (.iconst 1, 1) := by decide +kernel
theorem dX1_addFeed_23 : decode cX1_addFeed 23 = .ok (.iadd, 1) := by decide +kernel
theorem dX1_addFeed_24 : decode cX1_addFeed 24 = .ok (.putfield 15, 3) := by decide +kernel
theorem dX1_addFeed_27 : decode cX1_addFeed 27 = .ok (.return_, 1) := by decide +kernel
theorem dX1_dropFeeds_0 : decode cX1_dropFeeds 0 = .ok (.aload_n 0, 1) := by decide +kernel
theorem dX1_dropFeeds_1 : decode cX1_dropFeeds 1 = .ok (.getfield 15, 3) := by decide +kernel
theorem dX1_dropFeeds_4 : decode cX1_dropFeeds 4 = .ok (.istore_n 1, 1) := by decide +kernel
theorem dX1_dropFeeds_5 : decode cX1_dropFeeds 5 = .ok (.aload_n 0, 1) := by decide +kernel
theorem dX1_dropFeeds_6 : decode cX1_dropFeeds 6 = .ok (.aconst_null, 1) := by decide +kernel
theorem dX1_dropFeeds_7 : decode cX1_dropFeeds 7 = .ok (.putfield 9, 3) := by decide +kernel
theorem dX1_dropFeeds_10 : decode cX1_dropFeeds 10 = .ok (.aload_n 0, 1) := by decide +kernel
theorem dX1_dropFeeds_11 : decode cX1_dropFeeds 11 = .ok (.iconst 0, 1) := by decide +kernel
theorem dX1_dropFeeds_12 : decode cX1_dropFeeds 12 = .ok (.putfield 15, 3) := by decide +kernel
theorem dX1_dropFeeds_15 : decode cX1_dropFeeds 15 = .ok (.iload_n 1, 1) := by decide +kernel
theorem dX1_dropFeeds_16 : decode cX1_dropFeeds 16 = .ok (.ireturn, 1) := by decide +kernel
set_option maxRecDepth 20000 in
theorem ggX1_becomesKnown_X1_isLogic : GoodIn wsX1_becomesKnown wsX1_isLogic := goodIn_r _ [7, 8, 28, 29, 30, 31, 32, 33, 34, 35, 36, 37, 38, 39, 40, 41, 42, 43, 44] (by decide +kernel) (by decide +kernel)
set_option maxRecDepth 20000 in
theorem gX1_becomesKnown_X1_isLogic : GoodIn wsX1_becomesKnown (wsV RX1 67 RX1 yX1_isLogic wsX1_isLogic) := goodIn_app (goodIn_of _ (by decide +kernel)) ggX1_becomesKnown_X1_isLogic
set_option maxRecDepth 20000 in
theorem ggX1_becomesKnown_X1_valueFromFeeds : GoodIn wsX1_becomesKnown wsX1_valueFromFeeds := goodIn_r _ [12, 8, 13, 14, 15, 16, 17, 18, 19, 20, 21, 22, 23, 24, 25, 26, 27, 28, 29, 30, 31, 32, 33, 34, 35, 36, 37, 38, 39, 40, 41, 42, 43, 44, 45, 46, 47] (by decide +kernel) (by decide +kernel)
set_option maxRecDepth 20000 in
theorem gX1_becomesKnown_X1_valueFromFeeds : GoodIn wsX1_becomesKnown (wsV RX1 76 RX1 yX1_valueFromFeeds wsX1_valueFromFeeds) := goodIn_app (goodIn_of _ (by decide +kernel)) ggX1_becomesKnown_X1_valueFromFeeds
theorem dX1_becomesKnown_0 : decode cX1_becomesKnown 0 = .ok (.aload_n 0, 1) := by decide +kernel
theorem dX1_becomesKnown_1 : decode cX1_becomesKnown 1 = .ok (.invokevirtual 67, 3) := by decide +kernel
theorem dX1_becomesKnown_4 : decode cX1_becomesKnown 4 = .ok (.ifCond .ne 5, 3) := by decide +kernel
theorem dX1_becomesKnown_7 : decode cX1_becomesKnown 7 = .ok (.iconst 0, 1) := by decide +kernel
theorem dX1_becomesKnown_8 : decode cX1_becomesKnown 8 = .ok (.ireturn, 1) := by decide +kernel
theorem dX1_becomesKnown_9 : decode cX1_becomesKnown 9 = .ok (.aload_n 0, 1) := by decide +kernel
theorem dX1_becomesKnown_10 : decode cX1_becomesKnown 10 = .ok (.aload_n 0, 1) := by decide +kernel
theorem dX1_becomesKnown_11 : decode cX1_becomesKnown 11 = .ok (.iload_n 1, 1) := by decide +kernel
theorem dX1_becomesKnown_12 : decode cX1_becomesKnown 12 = .ok (.invokevirtual 76, 3) := by decide +kernel
theorem dX1_becomesKnown_15 : decode cX1_becomesKnown 15 = .ok (.putfield 64, 3) := by decide +kernel
theorem dX1_becomesKnown_18 : decode cX1_becomesKnown 18 = .ok (.aload_n 0, 1) := by decide +kernel
theorem dX1_becomesKnown_19 : decode cX1_becomesKnown 19 = .ok (.getfield 64, 3) := by decide +kernel
theorem dX1_becomesKnown_22 : decode cX1_becomesKnown 22 = .ok (.iconst 2, 1) := by decide +kernel
theorem dX1_becomesKnown_23 : decode cX1_becomesKnown 23 = .ok (.if_icmp .ne 5, 3) := by decide +kernel
theorem dX1_becomesKnown_26 : decode cX1_becomesKnown 26 = .ok (.iconst 0, 1) := by decide +kernel
theorem dX1_becomesKnown_27 : decode cX1_becomesKnown 27 = .ok (.ireturn, 1) := by decide +kernel
theorem dX1_becomesKnown_28 : decode cX1_becomesKnown 28 = .ok (.aload_n 0, 1) := by decide +kernel
theorem dX1_becomesKnown_29 : decode cX1_becomesKnown 29 = .ok (.iload_n 1, 1) := by decide +kernel
theorem dX1_becomesKnown_30 : decode cX1_becomesKnown 30 = .ok (.putfield 19, 3) := by decide +kernel
theorem dX1_becomesKnown_33 : decode cX1_becomesKnown 33 = .ok (.iconst 1, 1) := by decide +kernel
theorem dX1_becomesKnown_34 : decode cX1_becomesKnown 34 = .ok (.ireturn, 1) := by decide +kernel
set_option maxRecDepth 20000 in
theorem ggX1_valueFromFeeds_X0_valueBefore : GoodIn wsX1_valueFromFeeds wsX0_valueBefore := goodIn_r _ [8, 9, 10, 11, 12, 13, 7, 14, 15, 16, 34, 35, 36, 17, 18, 19, 20, 21, 22, 23, 24, 25, 26, 27, 28, 29, 30, 31, 32, 33] (by decide +kernel) (by decide +kernel)
set_option maxRecDepth 20000 in
theorem gX1_valueFromFeeds_X0_valueBefore : GoodIn wsX1_valueFromFeeds (wsV RX1 80 RX0 yX0_valueBefore wsX0_valueBefore) := goodIn_app (goodIn_of _ (by decide +kernel)) ggX1_valueFromFeeds_X0_valueBefore
theorem dX1_valueFromFeeds_0 : decode cX1_valueFromFeeds 0 = .ok (.aload_n 0, 1) := by decide +kernel
theorem dX1_valueFromFeeds_1 : decode cX1_valueFromFeeds 1 = .ok (.getfield 58, 3) := by decide +kernel
theorem dX1_valueFromFeeds_4 : decode cX1_valueFromFeeds 4 = .ok (.iconst 2, 1) := by decide +kernel
theorem dX1_valueFromFeeds_5 : decode cX1_valueFromFeeds 5 = .ok (.if_icmp .ne 7, 3) := by decide +kernel
theorem dX1_valueFromFeeds_8 : decode cX1_valueFromFeeds 8 = .ok (.iconst 0, 1) := by decide +kernel
theorem dX1_valueFromFeeds_9 : decode cX1_valueFromFeeds 9 = .ok (.goto 4, 3) := by decide +kernel
theorem dX1_valueFromFeeds_12 : decode cX1_valueFromFeeds 12 = .ok (.iconst 1, 1) := by decide +kernel
theorem dX1_valueFromFeeds_13 : decode cX1_valueFromFeeds 13 = .ok (.istore_n 2, 1) := by decide +kernel
theorem dX1_valueFromFeeds_14 : decode cX1_valueFromFeeds 14 = .ok (.iconst 1, 1) := by decide +kernel
theorem dX1_valueFromFeeds_15 : decode cX1_valueFromFeeds 15 = .ok (.istore_n 3, 1) := by decide +kernel
theorem dX1_valueFromFeeds_16 : decode cX1_valueFromFeeds 16 = .ok (.aload_n 0, 1) := by decide +kernel
theorem dX1_valueFromFeeds_17 : decode cX1_valueFromFeeds 17 = .ok (.getfield 9, 3) := by decide +kernel
theorem dX1_valueFromFeeds_20 : decode cX1_valueFromFeeds 20 = .ok (.astore 4, 2) := by decide +kernel
theorem dX1_valueFromFeeds_22 : decode cX1_valueFromFeeds 22 = .ok (.aload 4, 2) := by decide +kernel
theorem dX1_valueFromFeeds_24 : decode cX1_valueFromFeeds 24 = .ok (.ifnull 37, 3) := by decide +kernel
theorem dX1_valueFromFeeds_27 : decode cX1_valueFromFeeds 27 = .ok (.aload 4, 2) := by decide +kernel
theorem dX1_valueFromFeeds_29 : decode cX1_valueFromFeeds 29 = .ok (.iload_n 1, 1) := by decide +kernel
theorem dX1_valueFromFeeds_30 : decode cX1_valueFromFeeds 30 = .ok (.invokevirtual 80, 3) := by decide +kernel
theorem dX1_valueFromFeeds_33 : decode cX1_valueFromFeeds 33 = .ok (.istore 5, 2) := by decide +kernel
theorem dX1_valueFromFeeds_35 : decode cX1_valueFromFeeds 35 = .ok (.iload 5, 2) := by decide +kernel
theorem dX1_valueFromFeeds_37 : decode cX1_valueFromFeeds 37 = .ok (.iload_n 2, 1) := by decide +kernel
theorem dX1_valueFromFeeds_38 : decode cX1_valueFromFeeds 38 = .ok (.if_icmp .ne 5, 3) := by decide +kernel
theorem dX1_valueFromFeeds_41 : decode cX1_valueFromFeeds 41 = .ok (.iload_n 2, 1) := by decide +kernel
theorem dX1_valueFromFeeds_42 : decode cX1_valueFromFeeds 42 = .ok (.ireturn, 1) := by decide +kernel
theorem dX1_valueFromFeeds_43 : decode cX1_valueFromFeeds 43 = .ok (.iload 5, 2) := by decide +kernel
theorem dX1_valueFromFeeds_45 : decode cX1_valueFromFeeds 45 = .ok (.iconst 2, 1) := by decide +kernel
theorem dX1_valueFromFeeds_46 : decode cX1_valueFromFeeds 46 = .ok (.if_icmp .ne 5, 3) := by decide +kernel
theorem dX1_valueFromFeeds_49 : decode cX1_valueFromFeeds 49 = .ok (.iconst 0, 1) := by decide +kernel
theorem dX1_valueFromFeeds_50 : decode cX1_valueFromFeeds 50 = .ok (.istore_n 3, 1) := by decide +kernel
theorem dX1_valueFromFeeds_51 : decode cX1_valueFromFeeds 51 = .ok (.aload 4, 2) := by decide +kernel
theorem dX1_valueFromFeeds_53 : decode cX1_valueFromFeeds 53 = .ok (.getfield 83, 3) := by decide +kernel
theorem dX1_valueFromFeeds_56 : decode cX1_valueFromFeeds 56 = .ok (.astore 4, 2) := by decide +kernel
theorem dX1_valueFromFeeds_58 : decode cX1_valueFromFeeds 58 = .ok (.goto (-36), 3) := by decide +kernel
theorem dX1_valueFromFeeds_61 : decode cX1_valueFromFeeds 61 = .ok (.iload_n 3, 1) := by decide +kernel
theorem dX1_valueFromFeeds_62 : decode cX1_valueFromFeeds 62 = .ok (.ifCond .eq 9, 3) := by decide +kernel
theorem dX1_valueFromFeeds_65 : decode cX1_valueFromFeeds 65 = .ok (.iconst 1, 1) := by decide +kernel
theorem dX1_valueFromFeeds_66 : decode cX1_valueFromFeeds 66 = .ok (.iload_n 2, 1) := by decide +kernel
theorem dX1_valueFromFeeds_67 : decode cX1_valueFromFeeds 67 = .ok (.isub, 1) := by decide +kernel
theorem dX1_valueFromFeeds_68 : decode cX1_valueFromFeeds 68 = .ok (.goto 4, 3) := by decide +kernel
theorem dX1_valueFromFeeds_71 : decode cX1_valueFromFeeds 71 = .ok (.iconst 2, 1) := by decide +kernel
theorem dX1_valueFromFeeds_72 : decode cX1_valueFromFeeds 72 = .ok (.ireturn, 1) := by decide +kernel
set_option maxRecDepth 20000 in
theorem ggX1_takeNextState_X0_takenValue : GoodIn wsX1_takeNextState wsX0_takenValue := goodIn_r _ [9, 10, 11, 12, 30, 31, 32, 13, 14, 15, 16, 17, 18, 19, 20, 21, 22, 23, 24, 25, 26, 27, 28, 29] (by decide +kernel) (by decide +kernel)
set_option maxRecDepth 20000 in
theorem gX1_takeNextState_X0_takenValue : GoodIn wsX1_takeNextState (wsV RX1 86 RX0 yX0_takenValue wsX0_takenValue) := goodIn_app (goodIn_of _ (by decide +kernel)) ggX1_takeNextState_X0_takenValue
theorem dX1_takeNextState_0 : decode cX1_takeNextState 0 = .ok (.aload_n 0, 1) := by decide +kernel
theorem dX1_takeNextState_1 : decode cX1_takeNextState 1 = .ok (.getfield 58, 3) := by decide +kernel
theorem dX1_takeNextState_4 : decode cX1_takeNextState 4 = .ok (.iconst 1, 1) := by decide +kernel
theorem dX1_takeNextState_5 : decode cX1_takeNextState 5 = .ok (.if_icmp .ne 10, 3) := by decide +kernel
theorem dX1_takeNextState_8 : decode cX1_takeNextState 8 = .ok (.aload_n 0, 1) := by decide +kernel
theorem dX1_takeNextState_9 : decode cX1_takeNextState 9 = .ok (.getfield 9, 3) := by decide +kernel
theorem dX1_takeNextState_12 : decode cX1_takeNextState 12 = .ok (.ifnonnull 5, 3) := by decide +kernel
theorem dX1_takeNextState_15 : decode cX1_takeNextState 15 = .ok (.iconst 0, 1) := by decide +kernel
theorem dX1_takeNextState_16 : decode cX1_takeNextState 16 = .ok (.ireturn, 1) := by decide +kernel
theorem dX1_takeNextState_17 : decode cX1_takeNextState 17 = .ok (.aload_n 0, 1) := by decide +kernel
theorem dX1_takeNextState_18 : decode cX1_takeNextState 18 = .ok (.aload_n 0, 1) := by decide +kernel
theorem dX1_takeNextState_19 : decode cX1_takeNextState 19 = .ok (.getfield 9, 3) := by decide +kernel
theorem dX1_takeNextState_22 : decode cX1_takeNextState 22 = .ok (.invokevirtual 86, 3) := by decide +kernel
theorem dX1_takeNextState_25 : decode cX1_takeNextState 25 = .ok (.putfield 61, 3) := by decide +kernel
theorem dX1_takeNextState_28 : decode cX1_takeNextState 28 = .ok (.aload_n 0, 1) := by decide +kernel
theorem dX1_takeNextState_29 : decode cX1_takeNextState 29 = .ok (.getfield 61, 3) := by decide +kernel
theorem dX1_takeNextState_32 : decode cX1_takeNextState 32 = .ok (.aload_n 0, 1) := by decide +kernel
theorem dX1_takeNextState_33 : decode cX1_takeNextState 33 = .ok (.getfield 64, 3) := by decide +kernel
theorem dX1_takeNextState_36 : decode cX1_takeNextState 36 = .ok (.if_icmp .eq 7, 3) := by decide +kernel
theorem dX1_takeNextState_39 : decode cX1_takeNextState 39 = .ok (.iconst 1, 1) := by decide +kernel
theorem dX1_takeNextState_40 : decode cX1_takeNextState 40 = .ok (.goto 4, 3) := by decide +kernel
theorem dX1_takeNextState_43 : decode cX1_takeNextState 43 = .ok (.iconst 0, 1) := by decide +kernel
theorem dX1_takeNextState_44 : decode cX1_takeNextState 44 = .ok (.ireturn, 1) := by decide +kernel
theorem dX1_leastUnknownFeed_0 : decode cX1_leastUnknownFeed 0 = .ok (.iconst (-1), 1) := by decide +kernel
theorem dX1_leastUnknownFeed_1 : decode cX1_leastUnknownFeed 1 = .ok (.istore_n 1, 1) := by decide +kernel
theorem dX1_leastUnknownFeed_2 : decode cX1_leastUnknownFeed 2 = .ok (.aload_n 0, 1) := by decide +kernel
theorem dX1_leastUnknownFeed_3 : decode cX1_leastUnknownFeed 3 = .ok (.getfield 9, 3) := by decide +kernel
theorem dX1_leastUnknownFeed_6 : decode cX1_leastUnknownFeed 6 = .ok (.astore_n 2, 1) := by decide +kernel
theorem dX1_leastUnknownFeed_7 : decode cX1_leastUnknownFeed 7 = .ok (.aload_n 2, 1) := by decide +kernel
theorem dX1_leastUnknownFeed_8 : decode cX1_leastUnknownFeed 8 = .ok (.ifnull 46, 3) := by decide +kernel
theorem dX1_leastUnknownFeed_11 : decode cX1_leastUnknownFeed 11 = .ok (.aload_n 2, 1) := by decide +kernel
