set_option maxRecDepth 20000 in
theorem gX4_cut_X4_forgetAll : GoodIn wsX4_cut (wsV RX4 66 RX4 yX4_forgetAll wsX4_forgetAll) := goodIn_app (goodIn_of _ (by decide +kernel)) ggX4_cut_X4_forgetAll
theorem dX4_cut_0 : decode cX4_cut 0 = .ok (.aload_n 0, 1) := by decide +kernel
theorem dX4_cut_1 : decode cX4_cut 1 = .ok (.iload_n 1, 1) := by decide +kernel
theorem dX4_cut_2 : decode cX4_cut 2 = .ok (.invokevirtual 72, 3) := by decide +kernel
theorem dX4_cut_5 : decode cX4_cut 5 = .ok (.invokevirtual 90, 3) := by decide +kernel
theorem dX4_cut_8 : decode cX4_cut 8 = .ok (.istore_n 2, 1) := by decide +kernel
theorem dX4_cut_9 : decode cX4_cut 9 = .ok (.aload_n 0, 1) := by decide +kernel
theorem dX4_cut_10 : decode cX4_cut 10 = .ok (.dup, 1) := by decide +kernel
theorem dX4_cut_11 : decode cX4_cut 11 = .ok (.getfield 23, 3) := by decide +kernel
theorem dX4_cut_14 : decode cX4_cut 14 = .ok (.iload_n 2, 1) := by decide +kernel
theorem dX4_cut_15 : decode cX4_cut 15 = .ok (.isub, 1) := by decide +kernel
theorem dX4_cut_16 : decode cX4_cut 16 = .ok (.putfield 23, 3) := by decide +kernel
theorem dX4_cut_19 : decode cX4_cut 19 = .ok (.aload_n 0, 1) := by decide +kernel
theorem dX4_cut_20 : decode cX4_cut 20 = .ok (.invokevirtual 66, 3) := by decide +kernel
theorem dX4_cut_23 : decode cX4_cut 23 = .ok (.iload_n 2, 1) := by decide +kernel
theorem dX4_cut_24 : decode cX4_cut 24 = .ok (.ireturn, 1) := by decide +kernel
set_option maxRecDepth 20000 in
theorem ggX4_set_X4_gateAt : GoodIn wsX4_set wsX4_gateAt := goodIn_ca (goodIn_r _ [10, 11, 12, 13, 14, 15, 16, 17, 18, 19, 20, 21, 22, 23, 24, 25, 26, 27, 28, 29, 30, 31, 32, 33, 34, 35, 36, 37, 55, 56, 57, 58, 59, 60, 61, 62, 63, 64, 65, 66] (by decide +kernel) (by decide +kernel)) (goodIn_sub (fun _ h => List.mem_cons_of_mem _ (List.mem_append_right _ h)) (by decide +kernel))
set_option maxRecDepth 20000 in
theorem gX4_set_X4_gateAt : GoodIn wsX4_set (wsV RX4 72 RX4 yX4_gateAt wsX4_gateAt) := goodIn_app (goodIn_of _ (by decide +kernel)) ggX4_set_X4_gateAt
theorem dX4_set_0 : decode cX4_set 0 = .ok (.aload_n 0, 1) := by decide +kernel
theorem dX4_set_1 : decode cX4_set 1 = .ok (.iload_n 1, 1) := by decide +kernel
theorem dX4_set_2 : decode cX4_set 2 = .ok (.invokevirtual 72, 3) := by decide +kernel
theorem dX4_set_5 : decode cX4_set 5 = .ok (.astore_n 3, 1) := by decide +kernel
theorem dX4_set_6 : decode cX4_set 6 = .ok (.aload_n 3, 1) := by decide +kernel
theorem dX4_set_7 : decode cX4_set 7 = .ok (.getfield 93, 3) := by decide +kernel
theorem dX4_set_10 : decode cX4_set 10 = .ok (.ifCond .eq 13, 3) := by decide +kernel
theorem dX4_set_13 : decode cX4_set 13 = .ok (.new 46, 3) := by decide +kernel
theorem dX4_set_16 : decode cX4_set 16 = .ok (.dup, 1) := by decide +kernel
theorem dX4_set_17 : decode cX4_set 17 = .ok (.ldc 96, 2) := by decide +kernel
theorem dX4_set_19 : decode cX4_set 19 = .ok (.invokespecial 50, 3) := by decide +kernel
theorem dX4_set_22 : decode cX4_set 22 = .ok (.athrow, 1) := by decide +kernel
theorem dX4_set_23 : decode cX4_set 23 = .ok (.iload_n 2, 1) := by decide +kernel
theorem dX4_set_24 : decode cX4_set 24 = .ok (.ifCond .lt 8, 3) := by decide +kernel
theorem dX4_set_27 : decode cX4_set 27 = .ok (.iload_n 2, 1) := by decide +kernel
theorem dX4_set_28 : decode cX4_set 28 = .ok (.iconst 2, 1) := by decide +kernel
theorem dX4_set_29 : decode cX4_set 29 = .ok (.if_icmp .le 13, 3) := by decide +kernel
theorem dX4_set_32 : decode cX4_set 32 = .ok (.new 46, 3) := by decide +kernel
theorem dX4_set_35 : decode cX4_set 35 = .ok (.dup, 1) := by decide +kernel
theorem dX4_set_36 : decode cX4_set 36 = .ok (.ldc 98, 2) := by decide +kernel
theorem dX4_set_38 : decode cX4_set 38 = .ok (.invokespecial 50, 3) := by decide +kernel
theorem dX4_set_41 : decode cX4_set 41 = .ok (.athrow, 1) := by decide +kernel
theorem dX4_set_42 : decode cX4_set 42 = .ok (.aload_n 3, 1) := by decide +kernel
theorem dX4_set_43 : decode cX4_set 43 = .ok (.getfield 100, 3) := by decide +kernel
theorem dX4_set_46 : decode cX4_set 46 = .ok (.istore 4, 2) := by decide +kernel
theorem dX4_set_48 : decode cX4_set 48 = .ok (.aload_n 3, 1) := by decide +kernel
theorem dX4_set_49 : decode cX4_set 49 = .ok (.iload_n 2, 1) := by decide +kernel
theorem dX4_set_50 : decode cX4_set 50 = .ok (.putfield 100, 3) := by decide +kernel
theorem dX4_set_53 : decode cX4_set 53 = .ok (.aload_n 0, 1) := by decide +kernel
theorem dX4_set_54 : decode cX4_set 54 = .ok (.iconst 1, 1) := by decide +kernel
theorem dX4_set_55 : decode cX4_set 55 = .ok (.putfield 39, 3) := by decide +kernel
theorem dX4_set_58 : decode cX4_set 58 = .ok (.iload 4, 2) := by decide +kernel
theorem dX4_set_60 : decode cX4_set 60 = .ok (.ireturn, 1) := by decide +kernel
set_option maxRecDepth 20000 in
theorem ggX4_value_X4_gateAt : GoodIn wsX4_value wsX4_gateAt := goodIn_ca (goodIn_r _ [6, 7, 8, 9, 10, 11, 12, 13, 14, 15, 16, 17, 18, 19, 20, 21, 22, 23, 24, 25, 26, 27, 28, 29, 30, 31, 32, 33, 99, 100, 101, 102, 103, 104, 105, 106, 107, 108, 109, 110] (by decide +kernel) (by decide +kernel)) (goodIn_sub (fun _ h => List.mem_cons_of_mem _ (List.mem_append_right _ h)) (by decide +kernel))
set_option maxRecDepth 20000 in
theorem gX4_value_X4_gateAt : GoodIn wsX4_value (wsV RX4 72 RX4 yX4_gateAt wsX4_gateAt) := goodIn_app (goodIn_of _ (by decide +kernel)) ggX4_value_X4_gateAt
set_option maxRecDepth 20000 in
theorem ggX4_value_X4_spreadKnown : GoodIn wsX4_value wsX4_spreadKnown := goodIn_r _ [37, 38, 39, 40, 41, 42, 43, 5, 44, 9, 10, 45, 1, 46, 11, 12, 13, 14, 15, 16, 17, 18, 19, 20, 21, 22, 23, 24, 25, 26, 27, 28, 29, 30, 31, 32, 33, 47, 48, 49, 50, 51, 52, 53, 54, 55, 56, 57, 58, 59, 60, 61, 62, 63, 64, 65, 66, 67, 68, 69, 70, 71, 72, 73, 74, 75, 76, 77, 78, 79, 80, 81, 99, 100, 101, 102, 103, 104, 105, 106, 107, 82, 83, 84, 85, 86, 87, 88, 89, 90, 91, 92, 93, 94, 95, 96, 97, 98, 108, 109, 110, 111, 112, 113] (by decide +kernel) (by decide +kernel)
set_option maxRecDepth 20000 in
theorem gX4_value_X4_spreadKnown : GoodIn wsX4_value (wsV RX4 103 RX4 yX4_spreadKnown wsX4_spreadKnown) := goodIn_app (goodIn_of _ (by decide +kernel)) ggX4_value_X4_spreadKnown
theorem dX4_value_0 : decode cX4_value 0 = .ok (.aload_n 0, 1) := by decide +kernel
theorem dX4_value_1 : decode cX4_value 1 = .ok (.iload_n 1, 1) := by decide +kernel
theorem dX4_value_2 : decode cX4_value 2 = .ok (.invokevirtual 72, 3) := by decide +kernel
theorem dX4_value_5 : decode cX4_value 5 = .ok (.astore_n 2, 1) := by decide +kernel
theorem dX4_value_6 : decode cX4_value 6 = .ok (.aload_n 0, 1) := by decide +kernel
theorem dX4_value_7 : decode cX4_value 7 = .ok (.invokevirtual 103, 3) := by decide +kernel
theorem dX4_value_10 : decode cX4_value 10 = .ok (.aload_n 2, 1) := by decide +kernel
theorem dX4_value_11 : decode cX4_value 11 = .ok (.getfield 106, 3) := by decide +kernel
theorem dX4_value_14 : decode cX4_value 14 = .ok (.ireturn, 1) := by decide +kernel
set_option maxRecDepth 20000 in
theorem ggX4_round_X4_gateAt : GoodIn wsX4_round wsX4_gateAt := goodIn_ca (goodIn_r _ [6, 7, 8, 9, 10, 11, 12, 13, 14, 15, 16, 17, 18, 19, 20, 21, 22, 23, 24, 25, 26, 27, 28, 29, 30, 31, 32, 33, 99, 100, 101, 102, 103, 104, 105, 106, 107, 108, 109, 110] (by decide +kernel) (by decide +kernel)) (goodIn_sub (fun _ h => List.mem_cons_of_mem _ (List.mem_append_right _ h)) (by decide +kernel))
set_option maxRecDepth 20000 in
theorem gX4_round_X4_gateAt : GoodIn wsX4_round (wsV RX4 72 RX4 yX4_gateAt wsX4_gateAt) := goodIn_app (goodIn_of _ (by decide +kernel)) ggX4_round_X4_gateAt
set_option maxRecDepth 20000 in
theorem ggX4_round_X4_spreadKnown : GoodIn wsX4_round wsX4_spreadKnown := goodIn_r _ [37, 38, 39, 40, 41, 42, 43, 5, 44, 9, 10, 45, 46, 1, 11, 12, 13, 14, 15, 16, 17, 18, 19, 20, 21, 22, 23, 24, 25, 26, 27, 28, 29, 30, 31, 32, 33, 47, 48, 49, 50, 51, 52, 53, 54, 55, 56, 57, 58, 59, 60, 61, 62, 63, 64, 65, 66, 67, 68, 69, 70, 71, 72, 73, 74, 75, 76, 77, 78, 79, 80, 81, 99, 100, 101, 102, 103, 104, 105, 106, 107, 82, 83, 84, 85, 86, 87, 88, 89, 90, 91, 92, 93, 94, 95, 96, 97, 98, 108, 109, 110, 111, 112, 113] (by decide +kernel) (by decide +kernel)
set_option maxRecDepth 20000 in
theorem gX4_round_X4_spreadKnown : GoodIn wsX4_round (wsV RX4 103 RX4 yX4_spreadKnown wsX4_spreadKnown) := goodIn_app (goodIn_of _ (by decide +kernel)) ggX4_round_X4_spreadKnown
theorem dX4_round_0 : decode cX4_round 0 = .ok (.aload_n 0, 1) := by decide +kernel
theorem dX4_round_1 : decode cX4_round 1 = .ok (.iload_n 1, 1) := by decide +kernel
theorem dX4_round_2 : decode cX4_round 2 = .ok (.invokevirtual 72, 3) := by decide +kernel
theorem dX4_round_5 : decode cX4_round 5 = .ok (.astore_n 2, 1) := by decide +kernel
theorem dX4_round_6 : decode cX4_round 6 = .ok (.aload_n 0, 1) := by decide +kernel
theorem dX4_round_7 : decode cX4_round 7 = .ok (.invokevirtual 103, 3) := by decide +kernel
theorem dX4_round_10 : decode cX4_round 10 = .ok (.aload_n 2, 1) := by decide +kernel
theorem dX4_round_11 : decode cX4_round 11 = .ok (.getfield 109, 3) := by decide +kernel
theorem dX4_round_14 : decode cX4_round 14 = .ok (.ireturn, 1) := by decide +kernel
set_option maxRecDepth 20000 in
theorem ggX4_step_X4_settles : GoodIn wsX4_step wsX4_settles := goodIn_r _ [8, 9, 10, 11, 12, 7, 13, 3, 14, 15, 16, 17, 18, 1, 2, 19, 20, 21, 22, 23, 24, 25, 26, 27, 28, 29, 30, 31, 32, 33, 34, 35, 36, 37, 38, 39, 40, 41, 42, 43, 44, 45, 46, 47, 48, 49, 50, 51, 52, 53, 54, 55, 56, 57, 58, 59, 60, 61, 62, 63, 64, 65, 66, 67, 68, 69, 70, 71, 72, 73, 74, 75, 76, 77, 78, 79, 86, 87, 88, 89, 90, 91, 92, 93, 94, 95, 96, 97, 98, 99, 100, 101, 102, 103, 104, 105, 106, 107, 108, 109, 110, 111, 112, 113, 114, 115, 116, 117] (by decide +kernel) (by decide +kernel)
set_option maxRecDepth 20000 in
theorem gX4_step_X4_settles : GoodIn wsX4_step (wsV RX4 112 RX4 yX4_settles wsX4_settles) := goodIn_app (goodIn_of _ (by decide +kernel)) ggX4_step_X4_settles
set_option maxRecDepth 20000 in
theorem ggX4_step_Jx4a65c_size_8abf5 : GoodIn wsX4_step wsJx4a65c_size_8abf5 := goodIn_r _ [26, 27, 112, 113, 114] (by decide +kernel) (by decide +kernel)
set_option maxRecDepth 20000 in
theorem gX4_step_Jx4a65c_size_8abf5 : GoodIn wsX4_step (wsV RX4 53 RJx4a65c yJx4a65c_size_8abf5 wsJx4a65c_size_8abf5) := goodIn_app (goodIn_of _ (by decide +kernel)) ggX4_step_Jx4a65c_size_8abf5
set_option maxRecDepth 20000 in
theorem ggX4_step_Jx4a65c_get_915e3 : GoodIn wsX4_step wsJx4a65c_get_915e3 := goodIn_r _ [31, 27, 32, 33, 34, 35, 36, 37, 38, 39, 40, 41, 42, 25, 43, 44, 112, 113, 114] (by decide +kernel) (by decide +kernel)
set_option maxRecDepth 20000 in
theorem gX4_step_Jx4a65c_get_915e3 : GoodIn wsX4_step (wsV RX4 115 RJx4a65c yJx4a65c_get_915e3 wsJx4a65c_get_915e3) := goodIn_app (goodIn_of _ (by decide +kernel)) ggX4_step_Jx4a65c_get_915e3
set_option maxRecDepth 20000 in
theorem ggX4_step_X1_takeNextState : GoodIn wsX4_step wsX1_takeNextState := goodIn_r _ [83, 60, 65, 84, 54, 85, 75, 76, 70, 77, 72, 78, 79, 95, 96, 97, 98, 99, 100, 101, 102, 103, 104, 105, 106, 107, 108, 109, 110, 111, 115, 116, 117] (by decide +kernel) (by decide +kernel)
set_option maxRecDepth 20000 in
theorem gX4_step_X1_takeNextState : GoodIn wsX4_step (wsV RX4 119 RX1 yX1_takeNextState wsX1_takeNextState) := goodIn_app (goodIn_of _ (by decide +kernel)) ggX4_step_X1_takeNextState
theorem dX4_step_0 : decode cX4_step 0 = .ok (.aload_n 0, 1) := by decide +kernel
theorem dX4_step_1 : decode cX4_step 1 = .ok (.invokevirtual 112, 3) := by decide +kernel
theorem dX4_step_4 : decode cX4_step 4 = .ok (.ifCond .ne 5, 3) := by decide +kernel
theorem dX4_step_7 : decode cX4_step 7 = .ok (.iconst (-1), 1) := by decide +kernel
theorem dX4_step_8 : decode cX4_step 8 = .ok (.ireturn, 1) := by decide +kernel
theorem dX4_step_9 : decode cX4_step 9 = .ok (.iconst 0, 1) := by decide +kernel
theorem dX4_step_10 : decode cX4_step 10 = .ok (.istore_n 1, 1) := by decide +kernel
theorem dX4_step_11 : decode cX4_step 11 = .ok (.iconst 0, 1) := by decide +kernel
theorem dX4_step_12 : decode cX4_step 12 = .ok (.istore_n 2, 1) := by decide +kernel
theorem dX4_step_13 : decode cX4_step 13 = .ok (.iload_n 2, 1) := by decide +kernel
theorem dX4_step_14 : decode cX4_step 14 = .ok (.aload_n 0, 1) := by decide +kernel
theorem dX4_step_15 : decode cX4_step 15 = .ok (.getfield 10, 3) := by decide +kernel
theorem dX4_step_18 : decode cX4_step 18 = .ok (.invokevirtual 53, 3) := by decide +kernel
theorem dX4_step_21 : decode cX4_step 21 = .ok (.if_icmp .ge 29, 3) := by decide +kernel
theorem dX4_step_24 : decode cX4_step 24 = .ok (.aload_n 0, 1) := by decide +kernel
theorem dX4_step_25 : decode cX4_step 25 = .ok (.getfield 10, 3) := by decide +kernel
theorem dX4_step_28 : decode cX4_step 28 = .ok (.iload_n 2, 1) := by decide +kernel
theorem dX4_step_29 : decode cX4_step 29 = .ok (.invokevirtual 115, 3) := by decide +kernel
theorem dX4_step_32 : decode cX4_step 32 = .ok (.checkcast 57, 3) := by decide +kernel
theorem dX4_step_35 : decode cX4_step 35 = .ok (.invokevirtual 119, 3) := by decide +kernel
theorem dX4_step_38 : decode cX4_step 38 = .ok (.ifCond .eq 6, 3) := by decide +kernel
theorem dX4_step_41 : decode cX4_step 41 = .ok (.iinc 1 1, 3) := by decide +kernel
theorem dX4_step_44 : decode cX4_step 44 = .ok (.iinc 2 1, 3) := by decide +kernel
theorem dX4_step_47 : decode cX4_step 47 = .ok (.goto (-34), 3) := by decide +kernel
theorem dX4_step_50 : decode cX4_step 50 = .ok (.aload_n 0, 1) := by decide +kernel
theorem dX4_step_51 : decode cX4_step 51 = .ok (.iconst 1, 1) := by decide +kernel
theorem dX4_step_52 : decode cX4_step 52 = .ok (.putfield 39, 3) := by decide +kernel
theorem dX4_step_55 : decode cX4_step 55 = .ok (.iload_n 1, 1) := by decide +kernel
theorem dX4_step_56 : decode cX4_step 56 = .ok (.ireturn, 1) := by decide +kernel
set_option maxRecDepth 20000 in
theorem ggX4_reset_Jx4a65c_size_8abf5 : GoodIn wsX4_reset wsJx4a65c_size_8abf5 := goodIn_r _ [10, 11, 55, 56, 57] (by decide +kernel) (by decide +kernel)
set_option maxRecDepth 20000 in
theorem gX4_reset_Jx4a65c_size_8abf5 : GoodIn wsX4_reset (wsV RX4 53 RJx4a65c yJx4a65c_size_8abf5 wsJx4a65c_size_8abf5) := goodIn_app (goodIn_of _ (by decide +kernel)) ggX4_reset_Jx4a65c_size_8abf5
set_option maxRecDepth 20000 in
theorem ggX4_reset_Jx4a65c_get_915e3 : GoodIn wsX4_reset wsJx4a65c_get_915e3 := goodIn_r _ [15, 11, 16, 17, 18, 19, 20, 21, 22, 23, 24, 25, 26, 9, 27, 28, 55, 56, 57] (by decide +kernel) (by decide +kernel)
set_option maxRecDepth 20000 in
theorem gX4_reset_Jx4a65c_get_915e3 : GoodIn wsX4_reset (wsV RX4 115 RJx4a65c yJx4a65c_get_915e3 wsJx4a65c_get_915e3) := goodIn_app (goodIn_of _ (by decide +kernel)) ggX4_reset_Jx4a65c_get_915e3
theorem dX4_reset_0 : decode cX4_reset 0 = .ok (.iconst 0, 1) := by decide +kernel
theorem dX4_reset_1 : decode cX4_reset 1 = .ok (.istore_n 1, 1) := by decide +kernel
theorem dX4_reset_2 : decode cX4_reset 2 = .ok (.iconst 0, 1) := by decide +kernel
theorem dX4_reset_3 : decode cX4_reset 3 = .ok (.istore_n 2, 1) := by decide +kernel
theorem dX4_reset_4 : decode cX4_reset 4 = .ok (.iload_n 2, 1) := by decide +kernel
theorem dX4_reset_5 : decode cX4_reset 5 = .ok (.aload_n 0, 1) := by decide +kernel
theorem dX4_reset_6 : decode cX4_reset 6 = .ok (.getfield 10, 3) := by decide +kernel
theorem dX4_reset_9 : decode cX4_reset 9 = .ok (.invokevirtual 53, 3) := by decide +kernel
theorem dX4_reset_12 : decode cX4_reset 12 = .ok (.if_icmp .ge 45, 3) := by decide +kernel
theorem dX4_reset_15 : decode cX4_reset 15 = .ok (.aload_n 0, 1) := by decide +kernel
theorem dX4_reset_16 : decode cX4_reset 16 = .ok (.getfield 10, 3) := by decide +kernel
theorem dX4_reset_19 : decode cX4_reset 19 = .ok (.iload_n 2, 1) := by decide +kernel
theorem dX4_reset_20 : decode cX4_reset 20 = .ok (.invokevirtual 115, 3) := by decide +kernel
theorem dX4_reset_23 : decode cX4_reset 23 = .ok (.checkcast 57, 3) := by decide +kernel
theorem dX4_reset_26 : decode cX4_reset 26 = .ok (.astore_n 3, 1) := by decide +kernel
theorem dX4_reset_27 : decode cX4_reset 27 = .ok (.aload_n 3, 1) := by decide +kernel
theorem dX4_reset_28 : decode cX4_reset 28 = .ok (.getfield 93, 3) := by decide +kernel
theorem dX4_reset_31 : decode cX4_reset 31 = .ok (.iconst 1, 1) := by decide +kernel
theorem dX4_reset_32 : decode cX4_reset 32 = .ok (.if_icmp .ne 19, 3) := by decide +kernel
theorem dX4_reset_35 : decode cX4_reset 35 = .ok (.aload_n 3, 1) := by decide +kernel
theorem dX4_reset_36 : decode cX4_reset 36 = .ok (.getfield 100, 3) := by decide +kernel
theorem dX4_reset_39 : decode cX4_reset 39 = .ok (.iconst 1, 1) := by decide +kernel
theorem dX4_reset_40 : decode cX4_reset 40 = .ok (.if_icmp .ne 11, 3) := by decide +kernel
theorem dX4_reset_43 : decode cX4_reset 43 = .ok (.aload_n 3, 1) := by decide +kernel
theorem dX4_reset_44 : decode cX4_reset 44 = .ok (.iconst 0, 1) := by decide +kernel
theorem dX4_reset_45 : decode cX4_reset 45 = .ok (.putfield 100, 3) := by decide +kernel
theorem dX4_reset_48 : decode cX4_reset 48 = .ok (.iinc 1 1, 3) := by decide +kernel
theorem dX4_reset_51 : decode cX4_reset 51 = .ok (.iinc 2 1, 3) := by decide +kernel
theorem dX4_reset_54 : decode cX4_reset 54 = .ok (.goto (-50), 3) := by decide +kernel
theorem dX4_reset_57 : decode cX4_reset 57 = .ok (.aload_n 0, 1) := by decide +kernel
theorem dX4_reset_58 : decode cX4_reset 58 = .ok (.iconst 1, 1) := by decide +kernel
theorem dX4_reset_59 : decode cX4_reset 59 = .ok (.putfield 39, 3) := by decide +kernel
theorem dX4_reset_62 : decode cX4_reset 62 = .ok (.iload_n 1, 1) := by decide +kernel
theorem dX4_reset_63 : decode cX4_reset 63 = .ok (.ireturn, 1) := by decide +kernel
set_option maxRecDepth 20000 in
theorem ggX4_blame_X4_gateAt : GoodIn wsX4_blame wsX4_gateAt := goodIn_ca (goodIn_r _ [8, 9, 10, 11, 12, 13, 14, 15, 16, 17, 18, 19, 20, 21, 22, 23, 24, 25, 26, 27, 28, 29, 30, 31, 32, 33, 34, 35, 107, 108, 109, 110, 111, 112, 113, 114, 115, 116, 117, 118] (by decide +kernel) (by decide +kernel)) (goodIn_sub (fun _ h => List.mem_cons_of_mem _ (List.mem_append_right _ h)) (by decide +kernel))
set_option maxRecDepth 20000 in
theorem gX4_blame_X4_gateAt : GoodIn wsX4_blame (wsV RX4 72 RX4 yX4_gateAt wsX4_gateAt) := goodIn_app (goodIn_of _ (by decide +kernel)) ggX4_blame_X4_gateAt
set_option maxRecDepth 20000 in
theorem ggX4_blame_X4_spreadKnown : GoodIn wsX4_blame wsX4_spreadKnown := goodIn_r _ [39, 40, 41, 42, 43, 44, 45, 7, 46, 11, 12, 47, 1, 48, 13, 14, 15, 16, 17, 18, 19, 20, 21, 22, 23, 24, 25, 26, 27, 28, 29, 30, 31, 32, 33, 34, 35, 49, 50, 51, 52, 53, 54, 55, 56, 57, 58, 59, 60, 61, 62, 63, 64, 65, 66, 67, 68, 69, 70, 71, 72, 73, 74, 75, 76, 77, 78, 79, 80, 81, 82, 83, 107, 108, 109, 110, 111, 112, 113, 114, 115, 90, 91, 92, 93, 94, 95, 96, 97, 98, 99, 100, 101, 102, 103, 104, 105, 106, 116, 117, 118, 119, 120, 121] (by decide +kernel) (by decide +kernel)
set_option maxRecDepth 20000 in
theorem gX4_blame_X4_spreadKnown : GoodIn wsX4_blame (wsV RX4 103 RX4 yX4_spreadKnown wsX4_spreadKnown) := goodIn_app (goodIn_of _ (by decide +kernel)) ggX4_blame_X4_spreadKnown
set_option maxRecDepth 20000 in
theorem ggX4_blame_X1_leastUnknownFeed : GoodIn wsX4_blame wsX1_leastUnknownFeed := goodIn_r _ [87, 69, 88, 58, 89, 70, 90, 91, 92, 93, 94, 95, 96, 97, 98, 99, 100, 101, 102, 103, 104, 105, 106, 119, 120, 121] (by decide +kernel) (by decide +kernel)
set_option maxRecDepth 20000 in
theorem gX4_blame_X1_leastUnknownFeed : GoodIn wsX4_blame (wsV RX4 122 RX1 yX1_leastUnknownFeed wsX1_leastUnknownFeed) := goodIn_app (goodIn_of _ (by decide +kernel)) ggX4_blame_X1_leastUnknownFeed
theorem dX4_blame_0 : decode cX4_blame 0 = .ok (.aload_n 0, 1) := by decide +kernel
theorem dX4_blame_1 : decode cX4_blame 1 = .ok (.iload_n 1, 1) := by decide +kernel
theorem dX4_blame_2 : decode cX4_blame 2 = .ok (.invokevirtual 72, 3) := by decide +kernel
theorem dX4_blame_5 : decode cX4_blame 5 = .ok (.astore_n 2, 1) := by decide +kernel
theorem dX4_blame_6 : decode cX4_blame 6 = .ok (.aload_n 0, 1) := by decide +kernel
theorem dX4_blame_7 : decode cX4_blame 7 = .ok (.invokevirtual 103, 3) := by decide +kernel
theorem dX4_blame_10 : decode cX4_blame 10 = .ok (.aload_n 2, 1) := by decide +kernel
theorem dX4_blame_11 : decode cX4_blame 11 = .ok (.getfield 106, 3) := by decide +kernel
theorem dX4_blame_14 : decode cX4_blame 14 = .ok (.iconst 2, 1) := by decide +kernel
theorem dX4_blame_15 : decode cX4_blame 15 = .ok (.if_icmp .eq 5, 3) := by decide +kernel
theorem dX4_blame_18 : decode cX4_blame 18 = .ok (.iconst (-1), 1) := by decide +kernel
theorem dX4_blame_19 : decode cX4_blame 19 = .ok (.ireturn, 1) := by decide +kernel
theorem dX4_blame_20 : decode cX4_blame 20 = .ok (.aload_n 2, 1) := by decide +kernel
theorem dX4_blame_21 : decode cX4_blame 21 = .ok (.getfield 93, 3) := by decide +kernel
theorem dX4_blame_24 : decode cX4_blame 24 = .ok (.ifCond .ne 10, 3) := by decide +kernel
theorem dX4_blame_27 : decode cX4_blame 27 = .ok (.aload_n 2, 1) := by decide +kernel
theorem dX4_blame_28 : decode cX4_blame 28 = .ok (.getfield 69, 3) := by decide +kernel
theorem dX4_blame_31 : decode cX4_blame 31 = .ok (.goto 7, 3) := by decide +kernel
theorem dX4_blame_34 : decode cX4_blame 34 = .ok (.aload_n 2, 1) := by decide +kernel
theorem dX4_blame_35 : decode cX4_blame 35 = .ok (.invokevirtual 122, 3) := by decide +kernel
theorem dX4_blame_38 : decode cX4_blame 38 = .ok (.ireturn, 1) := by decide +kernel
set_option maxRecDepth 20000 in
theorem ggX4_cycle_X4_gateAt : GoodIn wsX4_cycle wsX4_gateAt := goodIn_ca (goodIn_r _ [6, 7, 8, 9, 10, 11, 12, 13, 14, 15, 16, 17, 18, 19, 20, 21, 22, 23, 24, 25, 26, 27, 28, 29, 30, 31, 32, 33, 165, 166, 167, 168, 169, 170, 171, 172, 173, 174, 175, 176] (by decide +kernel) (by decide +kernel)) (goodIn_sub (fun _ h => List.mem_cons_of_mem _ (List.mem_append_right _ h)) (by decide +kernel))
set_option maxRecDepth 20000 in
theorem gX4_cycle_X4_gateAt : GoodIn wsX4_cycle (wsV RX4 72 RX4 yX4_gateAt wsX4_gateAt) := goodIn_app (goodIn_of _ (by decide +kernel)) ggX4_cycle_X4_gateAt
set_option maxRecDepth 20000 in
theorem ggX4_cycle_X4_findParts : GoodIn wsX4_cycle wsX4_findParts := goodIn_r _ [37, 38, 39, 9, 40, 41, 42, 43, 44, 45, 46, 47, 48, 49, 50, 51, 52, 53, 14, 54, 55, 56, 33, 16, 57, 12, 13, 15, 58, 18, 19, 20, 21, 22, 23, 24, 25, 26, 27, 28, 29, 30, 31, 32, 59, 60, 61, 62, 63, 64, 65, 66, 67, 68, 69, 70, 71, 72, 73, 74, 75, 76, 77, 78, 79, 80, 81, 82, 83, 84, 85, 86, 87, 88, 89, 90, 91, 92, 93, 94, 95, 96, 97, 98, 99, 100, 101, 102, 103, 104, 105, 106, 107, 108, 109, 110, 111, 112, 113, 114, 115, 116, 117, 118, 119, 120, 121, 122, 123, 124, 125, 126, 127, 128, 129, 130, 131, 132, 133, 134, 135, 136, 137, 138, 139, 140, 141, 142, 143, 144, 145, 146, 147, 165, 166, 167, 168, 169, 170, 171, 172, 173, 177, 178, 179, 180, 148, 149, 150, 151, 152, 153, 154, 155, 156, 157, 158, 159, 160, 161, 162, 163, 164, 174, 175, 176, 181, 182, 183] (by decide +kernel) (by decide +kernel)
set_option maxRecDepth 20000 in
theorem gX4_cycle_X4_findParts : GoodIn wsX4_cycle (wsV RX4 125 RX4 yX4_findParts wsX4_findParts) := goodIn_app (goodIn_of _ (by decide +kernel)) ggX4_cycle_X4_findParts
theorem dX4_cycle_0 : decode cX4_cycle 0 = .ok (.aload_n 0, 1) := by decide +kernel
theorem dX4_cycle_1 : decode cX4_cycle 1 = .ok (.iload_n 1, 1) := by decide +kernel
theorem dX4_cycle_2 : decode cX4_cycle 2 = .ok (.invokevirtual 72, 3) := by decide +kernel
theorem dX4_cycle_5 : decode cX4_cycle 5 = .ok (.astore_n 2, 1) := by decide +kernel
theorem dX4_cycle_6 : decode cX4_cycle 6 = .ok (.aload_n 0, 1) := by decide +kernel
theorem dX4_cycle_7 : decode cX4_cycle 7 = .ok (.invokevirtual 125, 3) := by decide +kernel
theorem dX4_cycle_10 : decode cX4_cycle 10 = .ok (.aload_n 2, 1) := by decide +kernel
theorem dX4_cycle_11 : decode cX4_cycle 11 = .ok (.getfield 128, 3) := by decide +kernel
theorem dX4_cycle_14 : decode cX4_cycle 14 = .ok (.ireturn, 1) := by decide +kernel
set_option maxRecDepth 20000 in
theorem ggX4_choices_X4_findParts : GoodIn wsX4_choices wsX4_findParts := goodIn_r _ [11, 12, 5, 4, 13, 14, 15, 16, 17, 18, 19, 20, 21, 22, 23, 24, 25, 26, 27, 28, 29, 30, 31, 32, 33, 34, 35, 36, 37, 38, 39, 40, 41, 42, 43, 44, 45, 46, 47, 48, 49, 50, 51, 52, 53, 54, 55, 56, 57, 58, 59, 60, 61, 62, 63, 64, 65, 66, 67, 68, 69, 70, 71, 72, 73, 74, 75, 76, 77, 78, 79, 80, 81, 82, 83, 84, 85, 86, 87, 88, 89, 90, 91, 92, 93, 94, 95, 96, 97, 98, 99, 100, 101, 102, 103, 104, 105, 106, 107, 108, 109, 110, 111, 112, 113, 114, 115, 116, 117, 118, 119, 120, 121, 122, 123, 124, 125, 126, 127, 128, 129, 130, 131, 132, 133, 134, 135, 136, 137, 138, 139, 140, 141, 235, 236, 237, 238, 239, 240, 241, 242, 243, 244, 245, 246, 247, 248, 249, 250, 251, 252, 253, 254, 255, 256, 257, 258, 259, 260, 261, 262, 263, 264, 265, 266, 267, 268, 269, 270] (by decide +kernel) (by decide +kernel)
set_option maxRecDepth 20000 in
theorem gX4_choices_X4_findParts : GoodIn wsX4_choices (wsV RX4 125 RX4 yX4_findParts wsX4_findParts) := goodIn_app (goodIn_of _ (by decide +kernel)) ggX4_choices_X4_findParts
set_option maxRecDepth 20000 in
theorem ggX4_choices_X2_init : GoodIn wsX4_choices wsX2_init := goodIn_r _ [144, 145, 146, 147, 148, 149, 233, 234] (by decide +kernel) (by decide +kernel)
set_option maxRecDepth 20000 in
theorem gX4_choices_X2_init : GoodIn wsX4_choices (wsX2_init) := ggX4_choices_X2_init
set_option maxRecDepth 20000 in
theorem ggX4_choices_X2_settlingChoices : GoodIn wsX4_choices wsX2_settlingChoices := goodIn_r _ [153, 154, 155, 156, 157, 158, 3, 159, 148, 160, 161, 34, 35, 27, 36, 32, 162, 38, 39, 40, 41, 42, 43, 44, 45, 46, 47, 48, 49, 50, 51, 52, 31, 163, 164, 165, 166, 167, 168, 169, 170, 171, 172, 173, 174, 175, 176, 177, 178, 179, 180, 181, 182, 183, 184, 185, 186, 187, 149, 188, 189, 190, 73, 191, 192, 193, 75, 194, 195, 196, 197, 198, 199, 200, 201, 202, 203, 204, 205, 206, 207, 208, 209, 210, 211, 212, 213, 214, 215, 216, 217, 218, 219, 220, 221, 222, 223, 224, 225, 226, 227, 228, 229, 230, 231, 232, 233, 234, 265, 266, 267, 248, 249, 250, 251, 252, 253, 254, 255, 256, 257, 258, 259, 260, 261, 262, 263, 264, 268, 269, 270] (by decide +kernel) (by decide +kernel)
set_option maxRecDepth 20000 in
theorem gX4_choices_X2_settlingChoices : GoodIn wsX4_choices (wsV RX4 139 RX2 yX2_settlingChoices wsX2_settlingChoices) := goodIn_app (goodIn_of _ (by decide +kernel)) ggX4_choices_X2_settlingChoices
theorem dX4_choices_0 : decode cX4_choices 0 = .ok (.aload_n 0, 1) := by decide +kernel
theorem dX4_choices_1 : decode cX4_choices 1 = .ok (.invokevirtual 125, 3) := by decide +kernel
theorem dX4_choices_4 : decode cX4_choices 4 = .ok (.new 131, 3) := by decide +kernel
theorem dX4_choices_7 : decode cX4_choices 7 = .ok (.dup, 1) := by decide +kernel
theorem dX4_choices_8 : decode cX4_choices 8 = .ok (.aload_n 0, 1) := by decide +kernel
theorem dX4_choices_9 : decode cX4_choices 9 = .ok (.getfield 10, 3) := by decide +kernel
theorem dX4_choices_12 : decode cX4_choices 12 = .ok (.aload_n 0, 1) := by decide +kernel
theorem dX4_choices_13 : decode cX4_choices 13 = .ok (.getfield 19, 3) := by decide +kernel
theorem dX4_choices_16 : decode cX4_choices 16 = .ok (.getfield 133, 3) := by decide +kernel
theorem dX4_choices_19 : decode cX4_choices 19 = .ok (.invokespecial 136, 3) := by decide +kernel
theorem dX4_choices_22 : decode cX4_choices 22 = .ok (.invokevirtual 139, 3) := by decide +kernel
theorem dX4_choices_25 : decode cX4_choices 25 = .ok (.ireturn, 1) := by decide +kernel
set_option maxRecDepth 20000 in
theorem ggX4_count_Jx4a65c_size_8abf5 : GoodIn wsX4_count wsJx4a65c_size_8abf5 := goodIn_r _ [13, 14, 206, 207, 208] (by decide +kernel) (by decide +kernel)
set_option maxRecDepth 20000 in
theorem gX4_count_Jx4a65c_size_8abf5 : GoodIn wsX4_count (wsV RX4 53 RJx4a65c yJx4a65c_size_8abf5 wsJx4a65c_size_8abf5) := goodIn_app (goodIn_of _ (by decide +kernel)) ggX4_count_Jx4a65c_size_8abf5
set_option maxRecDepth 20000 in
theorem ggX4_count_X4_spreadKnown : GoodIn wsX4_count wsX4_spreadKnown := goodIn_r _ [19, 20, 6, 5, 21, 22, 23, 18, 24, 1, 25, 26, 27, 28, 9, 10, 11, 12, 13, 14, 29, 30, 31, 32, 33, 34, 35, 36, 37, 38, 39, 40, 41, 42, 43, 44, 45, 46, 47, 48, 49, 50, 51, 52, 53, 54, 55, 56, 57, 58, 59, 60, 61, 62, 63, 64, 65, 66, 67, 68, 69, 70, 71, 72, 73, 74, 75, 76, 77, 78, 79, 80, 193, 194, 195, 196, 197, 198, 199, 200, 201, 209, 210, 211, 212, 213, 214, 215, 216, 217, 218, 219, 220, 221, 222, 223, 224, 225, 206, 207, 208, 226, 227, 228] (by decide +kernel) (by decide +kernel)
set_option maxRecDepth 20000 in
theorem gX4_count_X4_spreadKnown : GoodIn wsX4_count (wsV RX4 103 RX4 yX4_spreadKnown wsX4_spreadKnown) := goodIn_app (goodIn_of _ (by decide +kernel)) ggX4_count_X4_spreadKnown
set_option maxRecDepth 20000 in
theorem ggX4_count_X4_findParts : GoodIn wsX4_count wsX4_findParts := goodIn_r _ [84, 85, 7, 1, 86, 87, 88, 89, 90, 91, 92, 93, 94, 95, 96, 97, 98, 99, 12, 100, 101, 102, 45, 14, 103, 10, 11, 13, 104, 30, 31, 32, 33, 34, 35, 36, 37, 38, 39, 40, 41, 42, 43, 44, 105, 106, 107, 108, 109, 110, 111, 112, 113, 114, 115, 116, 117, 118, 119, 120, 121, 122, 58, 59, 53, 60, 61, 123, 124, 125, 126, 127, 128, 129, 130, 131, 132, 133, 134, 135, 136, 137, 138, 139, 140, 141, 142, 143, 144, 145, 146, 147, 148, 149, 150, 151, 152, 153, 154, 155, 156, 157, 158, 159, 160, 161, 162, 163, 164, 165, 166, 167, 168, 169, 170, 171, 172, 173, 174, 175, 176, 177, 178, 179, 180, 181, 182, 183, 184, 185, 186, 187, 188, 193, 194, 195, 196, 197, 198, 199, 200, 201, 202, 203, 204, 205, 209, 210, 211, 212, 213, 214, 215, 216, 217, 218, 219, 220, 221, 222, 223, 224, 225, 206, 207, 208, 226, 227, 228] (by decide +kernel) (by decide +kernel)
set_option maxRecDepth 20000 in
theorem gX4_count_X4_findParts : GoodIn wsX4_count (wsV RX4 125 RX4 yX4_findParts wsX4_findParts) := goodIn_app (goodIn_of _ (by decide +kernel)) ggX4_count_X4_findParts
set_option maxRecDepth 20000 in
theorem ggX4_count_X4_settles : GoodIn wsX4_count wsX4_settles := goodIn_r _ [192, 5, 15, 16, 17, 18, 19, 20, 6, 21, 22, 23, 24, 1, 25, 26, 27, 28, 9, 10, 11, 12, 13, 14, 29, 30, 31, 32, 33, 34, 35, 36, 37, 38, 39, 40, 41, 42, 43, 44, 45, 46, 47, 48, 49, 50, 51, 52, 53, 54, 55, 56, 57, 58, 59, 60, 61, 62, 63, 64, 65, 66, 67, 68, 69, 70, 71, 72, 73, 74, 75, 76, 77, 78, 79, 80, 193, 194, 195, 196, 197, 198, 199, 200, 201, 209, 210, 211, 212, 213, 214, 215, 216, 217, 218, 219, 220, 221, 222, 223, 224, 225, 206, 207, 208, 226, 227, 228] (by decide +kernel) (by decide +kernel)
set_option maxRecDepth 20000 in
theorem gX4_count_X4_settles : GoodIn wsX4_count (wsV RX4 112 RX4 yX4_settles wsX4_settles) := goodIn_app (goodIn_of _ (by decide +kernel)) ggX4_count_X4_settles
theorem dX4_count_0 : decode cX4_count 0 = .ok (.iload_n 1, 1) := by decide +kernel
theorem dX4_count_1 : decode cX4_count 1 = .ok (.tableswitch 113 0 7 #[47, 55, 60, 65, 70, 79, 88, 100], 47) := by decide +kernel
theorem dX4_count_48 : decode cX4_count 48 = .ok (.aload_n 0, 1) := by decide +kernel
theorem dX4_count_49 : decode cX4_count 49 = .ok (.getfield 10, 3) := by decide +kernel
theorem dX4_count_52 : decode cX4_count 52 = .ok (.invokevirtual 53, 3) := by decide +kernel
theorem dX4_count_55 : decode cX4_count 55 = .ok (.ireturn, 1) := by decide +kernel
theorem dX4_count_56 : decode cX4_count 56 = .ok (.aload_n 0, 1) := by decide +kernel
theorem dX4_count_57 : decode cX4_count 57 = .ok (.getfield 23, 3) := by decide +kernel
theorem dX4_count_60 : decode cX4_count 60 = .ok (.ireturn, 1) := by decide +kernel
theorem dX4_count_61 : decode cX4_count 61 = .ok (.aload_n 0, 1) := by decide +kernel
theorem dX4_count_62 : decode cX4_count 62 = .ok (.getfield 27, 3) := by decide +kernel
theorem dX4_count_65 : decode cX4_count 65 = .ok (.ireturn, 1) := by decide +kernel
theorem dX4_count_66 : decode cX4_count 66 = .ok (.aload_n 0, 1) := by decide +kernel
theorem dX4_count_67 : decode cX4_count 67 = .ok (.getfield 30, 3) := by decide +kernel
theorem dX4_count_70 : decode cX4_count 70 = .ok (.ireturn, 1) := by decide +kernel
theorem dX4_count_71 : decode cX4_count 71 = .ok (.aload_n 0, 1) := by decide +kernel
theorem dX4_count_72 : decode cX4_count 72 = .ok (.invokevirtual 103, 3) := by decide +kernel
theorem dX4_count_75 : decode cX4_count 75 = .ok (.aload_n 0, 1) := by decide +kernel
theorem dX4_count_76 : decode cX4_count 76 = .ok (.getfield 33, 3) := by decide +kernel
theorem dX4_count_79 : decode cX4_count 79 = .ok (.ireturn, 1) := by decide +kernel
theorem dX4_count_80 : decode cX4_count 80 = .ok (.aload_n 0, 1) := by decide +kernel
theorem dX4_count_81 : decode cX4_count 81 = .ok (.invokevirtual 103, 3) := by decide +kernel
theorem dX4_count_84 : decode cX4_count 84 = .ok (.aload_n 0, 1) := by decide +kernel
theorem dX4_count_85 : decode cX4_count 85 = .ok (.getfield 36, 3) := by decide +kernel
theorem dX4_count_88 : decode cX4_count 88 = .ok (.ireturn, 1) := by decide +kernel
theorem dX4_count_89 : decode cX4_count 89 = .ok (.aload_n 0, 1) := by decide +kernel
theorem dX4_count_90 : decode cX4_count 90 = .ok (.invokevirtual 125, 3) := by decide +kernel
theorem dX4_count_93 : decode cX4_count 93 = .ok (.aload_n 0, 1) := by decide +kernel
theorem dX4_count_94 : decode cX4_count 94 = .ok (.getfield 19, 3) := by decide +kernel
theorem dX4_count_97 : decode cX4_count 97 = .ok (.getfield 142, 3) := by decide +kernel
theorem dX4_count_100 : decode cX4_count 100 = .ok (.ireturn, 1) := by decide +kernel
theorem dX4_count_101 : decode cX4_count 101 = .ok (.aload_n 0, 1) := by decide +kernel
theorem dX4_count_102 : decode cX4_count 102 = .ok (.invokevirtual 112, 3) := by decide +kernel
theorem dX4_count_105 : decode cX4_count 105 = .ok (.ifCond .eq 7, 3) := by decide +kernel
theorem dX4_count_108 : decode cX4_count 108 = .ok (.iconst 1, 1) := by decide +kernel
theorem dX4_count_109 : decode cX4_count 109 = .ok (.goto 4, 3) := by decide +kernel
theorem dX4_count_112 : decode cX4_count 112 = .ok (.iconst 0, 1) := by decide +kernel
theorem dX4_count_113 : decode cX4_count 113 = .ok (.ireturn, 1) := by decide +kernel
theorem dX4_count_114 : decode cX4_count 114 = .ok (.iconst (-1), 1) := by decide +kernel
theorem dX4_count_115 : decode cX4_count 115 = .ok (.ireturn, 1) := by decide +kernel
set_option maxRecDepth 20000 in
theorem ggX4_gateAt_Jx4a65c_size_8abf5 : GoodIn wsX4_gateAt wsJx4a65c_size_8abf5 := goodIn_r _ [9, 10, 37, 38, 39] (by decide +kernel) (by decide +kernel)
set_option maxRecDepth 20000 in
theorem gX4_gateAt_Jx4a65c_size_8abf5 : GoodIn wsX4_gateAt (wsV RX4 53 RJx4a65c yJx4a65c_size_8abf5 wsJx4a65c_size_8abf5) := goodIn_app (goodIn_of _ (by decide +kernel)) ggX4_gateAt_Jx4a65c_size_8abf5
set_option maxRecDepth 20000 in
theorem ggX4_gateAt_Jx4a65c_get_915e3 : GoodIn wsX4_gateAt wsJx4a65c_get_915e3 := goodIn_r _ [14, 10, 15, 16, 17, 18, 19, 20, 21, 22, 23, 24, 25, 8, 26, 27, 37, 38, 39] (by decide +kernel) (by decide +kernel)
set_option maxRecDepth 20000 in
theorem gX4_gateAt_Jx4a65c_get_915e3 : GoodIn wsX4_gateAt (wsV RX4 115 RJx4a65c yJx4a65c_get_915e3 wsJx4a65c_get_915e3) := goodIn_app (goodIn_of _ (by decide +kernel)) ggX4_gateAt_Jx4a65c_get_915e3
theorem dX4_gateAt_0 : decode cX4_gateAt 0 = .ok (.iload_n 1, 1) := by decide +kernel
theorem dX4_gateAt_1 : decode cX4_gateAt 1 = .ok (.ifCond .lt 14, 3) := by decide +kernel
theorem dX4_gateAt_4 : decode cX4_gateAt 4 = .ok (.iload_n 1, 1) := by decide +kernel
theorem dX4_gateAt_5 : decode cX4_gateAt 5 = .ok (.aload_n 0, 1) := by decide +kernel
theorem dX4_gateAt_6 : decode cX4_gateAt 6 = .ok (.getfield 10, 3) := by decide +kernel
theorem dX4_gateAt_9 : decode cX4_gateAt 9 = .ok (.invokevirtual 53, 3) := by decide +kernel
theorem dX4_gateAt_12 : decode cX4_gateAt 12 = .ok (.if_icmp .lt 13, 3) := by decide +kernel
theorem dX4_gateAt_15 : decode cX4_gateAt 15 = .ok (.new 145, 3) := by decide +kernel
theorem dX4_gateAt_18 : decode cX4_gateAt 18 = .ok (.dup, 1) := by decide +kernel
theorem dX4_gateAt_19 : decode cX4_gateAt 19 = .ok (.ldc 147, 2) := by decide +kernel
theorem dX4_gateAt_21 : decode cX4_gateAt 21 = .ok (.invokespecial 149, 3) := by decide +kernel
theorem dX4_gateAt_24 : decode cX4_gateAt 24 = .ok (.athrow, 1) := by decide +kernel
theorem dX4_gateAt_25 : decode cX4_gateAt 25 = .ok (.aload_n 0, 1) := by decide +kernel
theorem dX4_gateAt_26 : decode cX4_gateAt 26 = .ok (.getfield 10, 3) := by decide +kernel
theorem dX4_gateAt_29 : decode cX4_gateAt 29 = .ok (.iload_n 1, 1) := by decide +kernel
theorem dX4_gateAt_30 : decode cX4_gateAt 30 = .ok (.invokevirtual 115, 3) := by decide +kernel
theorem dX4_gateAt_33 : decode cX4_gateAt 33 = .ok (.checkcast 57, 3) := by decide +kernel
