theorem dX3_enter_57 : decode cX3_enter 57 = .ok (.putfield 90, 3) := by decide +kernel
theorem dX3_enter_60 : decode cX3_enter 60 = .ok (.aload_n 1, 1) := by decide +kernel
theorem dX3_enter_61 : decode cX3_enter 61 = .ok (.aload_n 0, 1) := by decide +kernel
theorem dX3_enter_62 : decode cX3_enter 62 = .ok (.getfield 25, 3) := by decide +kernel
theorem dX3_enter_65 : decode cX3_enter 65 = .ok (.putfield 93, 3) := by decide +kernel
theorem dX3_enter_68 : decode cX3_enter 68 = .ok (.aload_n 0, 1) := by decide +kernel
theorem dX3_enter_69 : decode cX3_enter 69 = .ok (.aload_n 1, 1) := by decide +kernel
theorem dX3_enter_70 : decode cX3_enter 70 = .ok (.putfield 25, 3) := by decide +kernel
theorem dX3_enter_73 : decode cX3_enter 73 = .ok (.return_, 1) := by decide +kernel
set_option maxRecDepth 20000 in
theorem ggX3_follow_X3_enter : GoodIn wsX3_follow wsX3_enter := goodIn_r _ [13, 14, 1, 4, 15, 16, 17, 2, 3, 18, 19, 20, 21, 22, 23, 24, 25, 43, 44, 45, 46, 26, 27, 28, 29, 30, 31, 32, 33, 34, 35, 36, 37, 38, 39, 40, 41, 42] (by decide +kernel) (by decide +kernel)
set_option maxRecDepth 20000 in
theorem gX3_follow_X3_enter : GoodIn wsX3_follow (wsV RX3 49 RX3 yX3_enter wsX3_enter) := goodIn_app (goodIn_of _ (by decide +kernel)) ggX3_follow_X3_enter
theorem dX3_follow_0 : decode cX3_follow 0 = .ok (.aload_n 2, 1) := by decide +kernel
theorem dX3_follow_1 : decode cX3_follow 1 = .ok (.getfield 42, 3) := by decide +kernel
theorem dX3_follow_4 : decode cX3_follow 4 = .ok (.iconst (-1), 1) := by decide +kernel
theorem dX3_follow_5 : decode cX3_follow 5 = .ok (.if_icmp .ne 11, 3) := by decide +kernel
theorem dX3_follow_8 : decode cX3_follow 8 = .ok (.aload_n 0, 1) := by decide +kernel
theorem dX3_follow_9 : decode cX3_follow 9 = .ok (.aload_n 2, 1) := by decide +kernel
theorem dX3_follow_10 : decode cX3_follow 10 = .ok (.aload_n 1, 1) := by decide +kernel
theorem dX3_follow_11 : decode cX3_follow 11 = .ok (.invokevirtual 49, 3) := by decide +kernel
theorem dX3_follow_14 : decode cX3_follow 14 = .ok (.aload_n 2, 1) := by decide +kernel
theorem dX3_follow_15 : decode cX3_follow 15 = .ok (.areturn, 1) := by decide +kernel
theorem dX3_follow_16 : decode cX3_follow 16 = .ok (.aload_n 2, 1) := by decide +kernel
theorem dX3_follow_17 : decode cX3_follow 17 = .ok (.aload_n 1, 1) := by decide +kernel
theorem dX3_follow_18 : decode cX3_follow 18 = .ok (.if_acmp .ne 8, 3) := by decide +kernel
theorem dX3_follow_21 : decode cX3_follow 21 = .ok (.aload_n 1, 1) := by decide +kernel
theorem dX3_follow_22 : decode cX3_follow 22 = .ok (.iconst 1, 1) := by decide +kernel
theorem dX3_follow_23 : decode cX3_follow 23 = .ok (.putfield 86, 3) := by decide +kernel
theorem dX3_follow_26 : decode cX3_follow 26 = .ok (.aload_n 2, 1) := by decide +kernel
theorem dX3_follow_27 : decode cX3_follow 27 = .ok (.getfield 90, 3) := by decide +kernel
theorem dX3_follow_30 : decode cX3_follow 30 = .ok (.ifCond .eq 18, 3) := by decide +kernel
theorem dX3_follow_33 : decode cX3_follow 33 = .ok (.aload_n 1, 1) := by decide +kernel
theorem dX3_follow_34 : decode cX3_follow 34 = .ok (.aload_n 1, 1) := by decide +kernel
theorem dX3_follow_35 : decode cX3_follow 35 = .ok (.getfield 73, 3) := by decide +kernel
theorem dX3_follow_38 : decode cX3_follow 38 = .ok (.aload_n 2, 1) := by decide +kernel
theorem dX3_follow_39 : decode cX3_follow 39 = .ok (.getfield 42, 3) := by decide +kernel
theorem dX3_follow_42 : decode cX3_follow 42 = .ok (.invokestatic 96, 3) := by decide +kernel
theorem dX3_follow_45 : decode cX3_follow 45 = .ok (.putfield 73, 3) := by decide +kernel
theorem dX3_follow_48 : decode cX3_follow 48 = .ok (.aload_n 1, 1) := by decide +kernel
theorem dX3_follow_49 : decode cX3_follow 49 = .ok (.areturn, 1) := by decide +kernel
set_option maxRecDepth 20000 in
theorem ggX3_leave_X1_isLogic : GoodIn wsX3_leave wsX1_isLogic := goodIn_r _ [13, 14, 84, 85, 86, 87, 88, 89, 90, 91, 92, 93, 94, 95, 96, 97, 98, 99, 100] (by decide +kernel) (by decide +kernel)
set_option maxRecDepth 20000 in
theorem gX3_leave_X1_isLogic : GoodIn wsX3_leave (wsV RX3 76 RX1 yX1_isLogic wsX1_isLogic) := goodIn_app (goodIn_of _ (by decide +kernel)) ggX3_leave_X1_isLogic
set_option maxRecDepth 20000 in
theorem ggX3_leave_Jx4a65c_add_9ea2d : GoodIn wsX3_leave wsJx4a65c_add_9ea2d := goodIn_r _ [19, 20, 21, 22, 23, 24, 25, 26, 18, 27, 28, 29, 30, 31, 32, 33, 34, 35, 36, 37, 38, 7, 39, 40, 41, 42, 43, 44, 45, 46, 47, 48, 49, 50, 51, 52, 53, 54, 55, 56, 57, 58, 59, 60, 61, 62, 63, 6, 8, 64, 65, 66, 67, 101, 102, 103] (by decide +kernel) (by decide +kernel)
set_option maxRecDepth 20000 in
theorem gX3_leave_Jx4a65c_add_9ea2d : GoodIn wsX3_leave (wsV RX3 102 RJx4a65c yJx4a65c_add_9ea2d wsJx4a65c_add_9ea2d) := goodIn_app (goodIn_of _ (by decide +kernel)) ggX3_leave_Jx4a65c_add_9ea2d
set_option maxRecDepth 20000 in
theorem ggX3_leave_X3_closePart : GoodIn wsX3_leave wsX3_closePart := goodIn_r _ [72, 73, 74, 75, 76, 5, 6, 7, 8, 77, 78, 79, 84, 85, 86, 87, 88, 89, 90, 91, 92, 93, 94, 95, 96, 97, 98, 99, 100, 80, 81, 82, 83] (by decide +kernel) (by decide +kernel)
set_option maxRecDepth 20000 in
theorem gX3_leave_X3_closePart : GoodIn wsX3_leave (wsV RX3 106 RX3 yX3_closePart wsX3_closePart) := goodIn_app (goodIn_of _ (by decide +kernel)) ggX3_leave_X3_closePart
theorem dX3_leave_0 : decode cX3_leave 0 = .ok (.aload_n 1, 1) := by decide +kernel
theorem dX3_leave_1 : decode cX3_leave 1 = .ok (.invokevirtual 76, 3) := by decide +kernel
theorem dX3_leave_4 : decode cX3_leave 4 = .ok (.ifCond .eq 12, 3) := by decide +kernel
theorem dX3_leave_7 : decode cX3_leave 7 = .ok (.aload_n 0, 1) := by decide +kernel
theorem dX3_leave_8 : decode cX3_leave 8 = .ok (.getfield 12, 3) := by decide +kernel
theorem dX3_leave_11 : decode cX3_leave 11 = .ok (.aload_n 1, 1) := by decide +kernel
theorem dX3_leave_12 : decode cX3_leave 12 = .ok (.invokevirtual 102, 3) := by decide +kernel
theorem dX3_leave_15 : decode cX3_leave 15 = .ok (.pop, 1) := by decide +kernel
theorem dX3_leave_16 : decode cX3_leave 16 = .ok (.aload_n 1, 1) := by decide +kernel
theorem dX3_leave_17 : decode cX3_leave 17 = .ok (.getfield 73, 3) := by decide +kernel
theorem dX3_leave_20 : decode cX3_leave 20 = .ok (.aload_n 1, 1) := by decide +kernel
theorem dX3_leave_21 : decode cX3_leave 21 = .ok (.getfield 42, 3) := by decide +kernel
theorem dX3_leave_24 : decode cX3_leave 24 = .ok (.if_icmp .ne 8, 3) := by decide +kernel
theorem dX3_leave_27 : decode cX3_leave 27 = .ok (.aload_n 0, 1) := by decide +kernel
theorem dX3_leave_28 : decode cX3_leave 28 = .ok (.aload_n 1, 1) := by decide +kernel
theorem dX3_leave_29 : decode cX3_leave 29 = .ok (.invokevirtual 106, 3) := by decide +kernel
theorem dX3_leave_32 : decode cX3_leave 32 = .ok (.aload_n 1, 1) := by decide +kernel
theorem dX3_leave_33 : decode cX3_leave 33 = .ok (.getfield 83, 3) := by decide +kernel
theorem dX3_leave_36 : decode cX3_leave 36 = .ok (.astore_n 2, 1) := by decide +kernel
theorem dX3_leave_37 : decode cX3_leave 37 = .ok (.aload_n 2, 1) := by decide +kernel
theorem dX3_leave_38 : decode cX3_leave 38 = .ok (.ifnull 18, 3) := by decide +kernel
theorem dX3_leave_41 : decode cX3_leave 41 = .ok (.aload_n 2, 1) := by decide +kernel
theorem dX3_leave_42 : decode cX3_leave 42 = .ok (.aload_n 2, 1) := by decide +kernel
theorem dX3_leave_43 : decode cX3_leave 43 = .ok (.getfield 73, 3) := by decide +kernel
theorem dX3_leave_46 : decode cX3_leave 46 = .ok (.aload_n 1, 1) := by decide +kernel
theorem dX3_leave_47 : decode cX3_leave 47 = .ok (.getfield 73, 3) := by decide +kernel
theorem dX3_leave_50 : decode cX3_leave 50 = .ok (.invokestatic 96, 3) := by decide +kernel
theorem dX3_leave_53 : decode cX3_leave 53 = .ok (.putfield 73, 3) := by decide +kernel
theorem dX3_leave_56 : decode cX3_leave 56 = .ok (.aload_n 2, 1) := by decide +kernel
theorem dX3_leave_57 : decode cX3_leave 57 = .ok (.areturn, 1) := by decide +kernel
theorem dX3_closePart_0 : decode cX3_closePart 0 = .ok (.aload_n 1, 1) := by decide +kernel
theorem dX3_closePart_1 : decode cX3_closePart 1 = .ok (.getfield 93, 3) := by decide +kernel
theorem dX3_closePart_4 : decode cX3_closePart 4 = .ok (.astore_n 2, 1) := by decide +kernel
theorem dX3_closePart_5 : decode cX3_closePart 5 = .ok (.aload_n 0, 1) := by decide +kernel
theorem dX3_closePart_6 : decode cX3_closePart 6 = .ok (.getfield 25, 3) := by decide +kernel
theorem dX3_closePart_9 : decode cX3_closePart 9 = .ok (.aload_n 1, 1) := by decide +kernel
theorem dX3_closePart_10 : decode cX3_closePart 10 = .ok (.if_acmp .ne 10, 3) := by decide +kernel
theorem dX3_closePart_13 : decode cX3_closePart 13 = .ok (.aload_n 1, 1) := by decide +kernel
theorem dX3_closePart_14 : decode cX3_closePart 14 = .ok (.getfield 86, 3) := by decide +kernel
theorem dX3_closePart_17 : decode cX3_closePart 17 = .ok (.ifCond .eq 7, 3) := by decide +kernel
theorem dX3_closePart_20 : decode cX3_closePart 20 = .ok (.iconst 1, 1) := by decide +kernel
theorem dX3_closePart_21 : decode cX3_closePart 21 = .ok (.goto 4, 3) := by decide +kernel
theorem dX3_closePart_24 : decode cX3_closePart 24 = .ok (.iconst 0, 1) := by decide +kernel
theorem dX3_closePart_25 : decode cX3_closePart 25 = .ok (.istore_n 3, 1) := by decide +kernel
theorem dX3_closePart_26 : decode cX3_closePart 26 = .ok (.aload_n 1, 1) := by decide +kernel
theorem dX3_closePart_27 : decode cX3_closePart 27 = .ok (.getfield 109, 3) := by decide +kernel
theorem dX3_closePart_30 : decode cX3_closePart 30 = .ok (.istore 4, 2) := by decide +kernel
theorem dX3_closePart_32 : decode cX3_closePart 32 = .ok (.aload_n 0, 1) := by decide +kernel
theorem dX3_closePart_33 : decode cX3_closePart 33 = .ok (.getfield 25, 3) := by decide +kernel
theorem dX3_closePart_36 : decode cX3_closePart 36 = .ok (.astore 5, 2) := by decide +kernel
theorem dX3_closePart_38 : decode cX3_closePart 38 = .ok (.aload 5, 2) := by decide +kernel
theorem dX3_closePart_40 : decode cX3_closePart 40 = .ok (.ifnull 31, 3) := by decide +kernel
theorem dX3_closePart_43 : decode cX3_closePart 43 = .ok (.aload 5, 2) := by decide +kernel
theorem dX3_closePart_45 : decode cX3_closePart 45 = .ok (.aload_n 2, 1) := by decide +kernel
theorem dX3_closePart_46 : decode cX3_closePart 46 = .ok (.if_acmp .eq 25, 3) := by decide +kernel
theorem dX3_closePart_49 : decode cX3_closePart 49 = .ok (.iload 4, 2) := by decide +kernel
theorem dX3_closePart_51 : decode cX3_closePart 51 = .ok (.aload 5, 2) := by decide +kernel
theorem dX3_closePart_53 : decode cX3_closePart 53 = .ok (.getfield 109, 3) := by decide +kernel
theorem dX3_closePart_56 : decode cX3_closePart 56 = .ok (.invokestatic 96, 3) := by decide +kernel
theorem dX3_closePart_59 : decode cX3_closePart 59 = .ok (.istore 4, 2) := by decide +kernel
theorem dX3_closePart_61 : decode cX3_closePart 61 = .ok (.aload 5, 2) := by decide +kernel
theorem dX3_closePart_63 : decode cX3_closePart 63 = .ok (.getfield 93, 3) := by decide +kernel
theorem dX3_closePart_66 : decode cX3_closePart 66 = .ok (.astore 5, 2) := by decide +kernel
theorem dX3_closePart_68 : decode cX3_closePart 68 = .ok (.goto (-30), 3) := by decide +kernel
theorem dX3_closePart_71 : decode cX3_closePart 71 = .ok (.aload_n 0, 1) := by decide +kernel
theorem dX3_closePart_72 : decode cX3_closePart 72 = .ok (.getfield 25, 3) := by decide +kernel
theorem dX3_closePart_75 : decode cX3_closePart 75 = .ok (.astore 5, 2) := by decide +kernel
theorem dX3_closePart_77 : decode cX3_closePart 77 = .ok (.aload 5, 2) := by decide +kernel
theorem dX3_closePart_79 : decode cX3_closePart 79 = .ok (.ifnull 40, 3) := by decide +kernel
theorem dX3_closePart_82 : decode cX3_closePart 82 = .ok (.aload 5, 2) := by decide +kernel
theorem dX3_closePart_84 : decode cX3_closePart 84 = .ok (.aload_n 2, 1) := by decide +kernel
theorem dX3_closePart_85 : decode cX3_closePart 85 = .ok (.if_acmp .eq 34, 3) := by decide +kernel
theorem dX3_closePart_88 : decode cX3_closePart 88 = .ok (.aload 5, 2) := by decide +kernel
theorem dX3_closePart_90 : decode cX3_closePart 90 = .ok (.iconst 0, 1) := by decide +kernel
theorem dX3_closePart_91 : decode cX3_closePart 91 = .ok (.putfield 90, 3) := by decide +kernel
theorem dX3_closePart_94 : decode cX3_closePart 94 = .ok (.aload 5, 2) := by decide +kernel
theorem dX3_closePart_96 : decode cX3_closePart 96 = .ok (.iload_n 3, 1) := by decide +kernel
theorem dX3_closePart_97 : decode cX3_closePart 97 = .ok (.ifCond .eq 8, 3) := by decide +kernel
theorem dX3_closePart_100 : decode cX3_closePart 100 = .ok (.iload 4, 2) := by decide +kernel
theorem dX3_closePart_102 : decode cX3_closePart 102 = .ok (.goto 4, 3) := by decide +kernel
theorem dX3_closePart_105 : decode cX3_closePart 105 = .ok (.iconst (-1), 1) := by decide +kernel
theorem dX3_closePart_106 : decode cX3_closePart 106 = .ok (.putfield 112, 3) := by decide +kernel
theorem dX3_closePart_109 : decode cX3_closePart 109 = .ok (.aload 5, 2) := by decide +kernel
theorem dX3_closePart_111 : decode cX3_closePart 111 = .ok (.getfield 93, 3) := by decide +kernel
theorem dX3_closePart_114 : decode cX3_closePart 114 = .ok (.astore 5, 2) := by decide +kernel
theorem dX3_closePart_116 : decode cX3_closePart 116 = .ok (.goto (-39), 3) := by decide +kernel
theorem dX3_closePart_119 : decode cX3_closePart 119 = .ok (.iload_n 3, 1) := by decide +kernel
theorem dX3_closePart_120 : decode cX3_closePart 120 = .ok (.ifCond .eq 13, 3) := by decide +kernel
theorem dX3_closePart_123 : decode cX3_closePart 123 = .ok (.aload_n 0, 1) := by decide +kernel
theorem dX3_closePart_124 : decode cX3_closePart 124 = .ok (.dup, 1) := by decide +kernel
theorem dX3_closePart_125 : decode cX3_closePart 125 = .ok (.getfield 18, 3) := by decide +kernel
theorem dX3_closePart_128 : decode cX3_closePart 128 = .ok (.iconst 1, 1) := by decide +kernel
theorem dX3_closePart_129 : decode cX3_closePart 129 = .ok (.iadd, 1) := by decide +kernel
theorem dX3_closePart_130 : decode cX3_closePart 130 = .ok (.putfield 18, 3) := by decide +kernel
theorem dX3_closePart_133 : decode cX3_closePart 133 = .ok (.aload_n 0, 1) := by decide +kernel
theorem dX3_closePart_134 : decode cX3_closePart 134 = .ok (.aload_n 2, 1) := by decide +kernel
theorem dX3_closePart_135 : decode cX3_closePart 135 = .ok (.putfield 25, 3) := by decide +kernel
theorem dX3_closePart_138 : decode cX3_closePart 138 = .ok (.return_, 1) := by decide +kernel
set_option maxRecDepth 20000 in
theorem ggX4_init_Jx4a65c_init_da8c8 : GoodIn wsX4_init wsJx4a65c_init_da8c8 := goodIn_r _ [21, 22, 23, 24, 25, 26, 27, 28, 29, 30, 31, 32, 33, 2, 3, 43, 44, 45] (by decide +kernel) (by decide +kernel)
set_option maxRecDepth 20000 in
theorem gX4_init_Jx4a65c_init_da8c8 : GoodIn wsX4_init (wsJx4a65c_init_da8c8) := ggX4_init_Jx4a65c_init_da8c8
set_option maxRecDepth 20000 in
theorem ggX4_init_X3_init : GoodIn wsX4_init wsX3_init := goodIn_r _ [35, 36, 2, 3, 37, 5, 6, 38, 39, 40, 41, 42, 20, 21, 22, 23, 24, 25, 26, 27, 28, 29, 30, 31, 32, 33, 43, 44, 45, 55, 56, 57, 58] (by decide +kernel) (by decide +kernel)
set_option maxRecDepth 20000 in
theorem gX4_init_X3_init_n18 : GoodIn wsX4_init (wsX3_init) := ggX4_init_X3_init
theorem dX4_init_0 : decode cX4_init 0 = .ok (.aload_n 0, 1) := by decide +kernel
theorem dX4_init_1 : decode cX4_init 1 = .ok (.invokespecial 1, 3) := by decide +kernel
theorem dX4_init_4 : decode cX4_init 4 = .ok (.aload_n 0, 1) := by decide +kernel
theorem dX4_init_5 : decode cX4_init 5 = .ok (.new 7, 3) := by decide +kernel
theorem dX4_init_8 : decode cX4_init 8 = .ok (.dup, 1) := by decide +kernel
theorem dX4_init_9 : decode cX4_init 9 = .ok (.invokespecial 9, 3) := by decide +kernel
theorem dX4_init_12 : decode cX4_init 12 = .ok (.putfield 10, 3) := by decide +kernel
theorem dX4_init_15 : decode cX4_init 15 = .ok (.aload_n 0, 1) := by decide +kernel
theorem dX4_init_16 : decode cX4_init 16 = .ok (.new 16, 3) := by decide +kernel
theorem dX4_init_19 : decode cX4_init 19 = .ok (.dup, 1) := by decide +kernel
theorem dX4_init_20 : decode cX4_init 20 = .ok (.invokespecial 18, 3) := by decide +kernel
theorem dX4_init_23 : decode cX4_init 23 = .ok (.putfield 19, 3) := by decide +kernel
theorem dX4_init_26 : decode cX4_init 26 = .ok (.aload_n 0, 1) := by decide +kernel
theorem dX4_init_27 : decode cX4_init 27 = .ok (.iconst 0, 1) := by decide +kernel
theorem dX4_init_28 : decode cX4_init 28 = .ok (.putfield 23, 3) := by decide +kernel
theorem dX4_init_31 : decode cX4_init 31 = .ok (.aload_n 0, 1) := by decide +kernel
theorem dX4_init_32 : decode cX4_init 32 = .ok (.iconst 0, 1) := by decide +kernel
theorem dX4_init_33 : decode cX4_init 33 = .ok (.putfield 27, 3) := by decide +kernel
theorem dX4_init_36 : decode cX4_init 36 = .ok (.aload_n 0, 1) := by decide +kernel
theorem dX4_init_37 : decode cX4_init 37 = .ok (.iconst 0, 1) := by decide +kernel
theorem dX4_init_38 : decode cX4_init 38 = .ok (.putfield 30, 3) := by decide +kernel
theorem dX4_init_41 : decode cX4_init 41 = .ok (.aload_n 0, 1) := by decide +kernel
theorem dX4_init_42 : decode cX4_init 42 = .ok (.iconst 0, 1) := by decide +kernel
theorem dX4_init_43 : decode cX4_init 43 = .ok (.putfield 33, 3) := by decide +kernel
theorem dX4_init_46 : decode cX4_init 46 = .ok (.aload_n 0, 1) := by decide +kernel
theorem dX4_init_47 : decode cX4_init 47 = .ok (.iconst 0, 1) := by decide +kernel
theorem dX4_init_48 : decode cX4_init 48 = .ok (.putfield 36, 3) := by decide +kernel
theorem dX4_init_51 : decode cX4_init 51 = .ok (.aload_n 0, 1) := by decide +kernel
theorem dX4_init_52 : decode cX4_init 52 = .ok (.iconst 1, 1) := by decide +kernel
theorem dX4_init_53 : decode cX4_init 53 = .ok (.putfield 39, 3) := by decide +kernel
theorem dX4_init_56 : decode cX4_init 56 = .ok (.aload_n 0, 1) := by decide +kernel
theorem dX4_init_57 : decode cX4_init 57 = .ok (.iconst 1, 1) := by decide +kernel
theorem dX4_init_58 : decode cX4_init 58 = .ok (.putfield 43, 3) := by decide +kernel
theorem dX4_init_61 : decode cX4_init 61 = .ok (.return_, 1) := by decide +kernel
set_option maxRecDepth 20000 in
theorem ggX4_gate_Jx4a65c_size_8abf5 : GoodIn wsX4_gate wsJx4a65c_size_8abf5 := goodIn_r _ [14, 15, 126, 127, 128] (by decide +kernel) (by decide +kernel)
set_option maxRecDepth 20000 in
theorem gX4_gate_Jx4a65c_size_8abf5 : GoodIn wsX4_gate (wsV RX4 53 RJx4a65c yJx4a65c_size_8abf5 wsJx4a65c_size_8abf5) := goodIn_app (goodIn_of _ (by decide +kernel)) ggX4_gate_Jx4a65c_size_8abf5
set_option maxRecDepth 20000 in
theorem ggX4_gate_X1_init : GoodIn wsX4_gate wsX1_init := goodIn_r _ [18, 19, 20, 21, 22, 23, 24, 25, 26, 27, 28, 29, 30, 31, 32, 33, 34, 35, 36, 37, 38, 109, 110, 111, 112, 113, 114, 115, 116, 117, 118, 119, 120, 121, 122, 123, 124, 125] (by decide +kernel) (by decide +kernel)
set_option maxRecDepth 20000 in
theorem gX4_gate_X1_init : GoodIn wsX4_gate (wsX1_init) := ggX4_gate_X1_init
set_option maxRecDepth 20000 in
theorem ggX4_gate_Jx4a65c_add_9ea2d : GoodIn wsX4_gate wsJx4a65c_add_9ea2d := goodIn_r _ [42, 43, 44, 45, 15, 46, 47, 48, 13, 49, 50, 51, 52, 53, 54, 55, 56, 57, 58, 59, 60, 61, 62, 63, 64, 65, 66, 67, 68, 69, 70, 71, 72, 73, 74, 75, 76, 77, 78, 79, 80, 81, 82, 83, 84, 85, 86, 87, 88, 89, 90, 91, 92, 126, 127, 128] (by decide +kernel) (by decide +kernel)
set_option maxRecDepth 20000 in
theorem gX4_gate_Jx4a65c_add_9ea2d : GoodIn wsX4_gate (wsV RX4 62 RJx4a65c yJx4a65c_add_9ea2d wsJx4a65c_add_9ea2d) := goodIn_app (goodIn_of _ (by decide +kernel)) ggX4_gate_Jx4a65c_add_9ea2d
set_option maxRecDepth 20000 in
theorem ggX4_gate_X4_forgetAll : GoodIn wsX4_gate wsX4_forgetAll := goodIn_r _ [97, 98, 99, 100, 101, 102, 103, 104, 105, 106, 107, 108] (by decide +kernel) (by decide +kernel)
set_option maxRecDepth 20000 in
theorem gX4_gate_X4_forgetAll : GoodIn wsX4_gate (wsV RX4 66 RX4 yX4_forgetAll wsX4_forgetAll) := goodIn_app (goodIn_of _ (by decide +kernel)) ggX4_gate_X4_forgetAll
theorem dX4_gate_0 : decode cX4_gate 0 = .ok (.iload_n 1, 1) := by decide +kernel
theorem dX4_gate_1 : decode cX4_gate 1 = .ok (.ifCond .lt 8, 3) := by decide +kernel
theorem dX4_gate_4 : decode cX4_gate 4 = .ok (.iload_n 1, 1) := by decide +kernel
theorem dX4_gate_5 : decode cX4_gate 5 = .ok (.iconst 3, 1) := by decide +kernel
theorem dX4_gate_6 : decode cX4_gate 6 = .ok (.if_icmp .le 13, 3) := by decide +kernel
theorem dX4_gate_9 : decode cX4_gate 9 = .ok (.new 46, 3) := by decide +kernel
theorem dX4_gate_12 : decode cX4_gate 12 = .ok (.dup, 1) := by decide +kernel
theorem dX4_gate_13 : decode cX4_gate 13 = .ok (.ldc 48, 2) := by decide +kernel
theorem dX4_gate_15 : decode cX4_gate 15 = .ok (.invokespecial 50, 3) := by decide +kernel
theorem dX4_gate_18 : decode cX4_gate 18 = .ok (.athrow, 1) := by decide +kernel
theorem dX4_gate_19 : decode cX4_gate 19 = .ok (.aload_n 0, 1) := by decide +kernel
theorem dX4_gate_20 : decode cX4_gate 20 = .ok (.getfield 10, 3) := by decide +kernel
theorem dX4_gate_23 : decode cX4_gate 23 = .ok (.invokevirtual 53, 3) := by decide +kernel
theorem dX4_gate_26 : decode cX4_gate 26 = .ok (.sipush 600, 3) := by decide +kernel
theorem dX4_gate_29 : decode cX4_gate 29 = .ok (.if_icmp .ge 16, 3) := by decide +kernel
theorem dX4_gate_32 : decode cX4_gate 32 = .ok (.iload_n 1, 1) := by decide +kernel
theorem dX4_gate_33 : decode cX4_gate 33 = .ok (.ifCond .ne 14, 3) := by decide +kernel
theorem dX4_gate_36 : decode cX4_gate 36 = .ok (.aload_n 0, 1) := by decide +kernel
theorem dX4_gate_37 : decode cX4_gate 37 = .ok (.getfield 27, 3) := by decide +kernel
theorem dX4_gate_40 : decode cX4_gate 40 = .ok (.bipush 12, 2) := by decide +kernel
theorem dX4_gate_42 : decode cX4_gate 42 = .ok (.if_icmp .lt 5, 3) := by decide +kernel
theorem dX4_gate_45 : decode cX4_gate 45 = .ok (.iconst (-1), 1) := by decide +kernel
theorem dX4_gate_46 : decode cX4_gate 46 = .ok (.ireturn, 1) := by decide +kernel
theorem dX4_gate_47 : decode cX4_gate 47 = .ok (.new 57, 3) := by decide +kernel
theorem dX4_gate_50 : decode cX4_gate 50 = .ok (.dup, 1) := by decide +kernel
theorem dX4_gate_51 : decode cX4_gate 51 = .ok (.aload_n 0, 1) := by decide +kernel
theorem dX4_gate_52 : decode cX4_gate 52 = .ok (.getfield 10, 3) := by decide +kernel
theorem dX4_gate_55 : decode cX4_gate 55 = .ok (.invokevirtual 53, 3) := by decide +kernel
theorem dX4_gate_58 : decode cX4_gate 58 = .ok (.iload_n 1, 1) := by decide +kernel
theorem dX4_gate_59 : decode cX4_gate 59 = .ok (.invokespecial 59, 3) := by decide +kernel
theorem dX4_gate_62 : decode cX4_gate 62 = .ok (.astore_n 2, 1) := by decide +kernel
theorem dX4_gate_63 : decode cX4_gate 63 = .ok (.aload_n 0, 1) := by decide +kernel
theorem dX4_gate_64 : decode cX4_gate 64 = .ok (.getfield 10, 3) := by decide +kernel
theorem dX4_gate_67 : decode cX4_gate 67 = .ok (.aload_n 2, 1) := by decide +kernel
theorem dX4_gate_68 : decode cX4_gate 68 = .ok (.invokevirtual 62, 3) := by decide +kernel
theorem dX4_gate_71 : decode cX4_gate 71 = .ok (.pop, 1) := by decide +kernel
theorem dX4_gate_72 : decode cX4_gate 72 = .ok (.iload_n 1, 1) := by decide +kernel
theorem dX4_gate_73 : decode cX4_gate 73 = .ok (.ifCond .ne 16, 3) := by decide +kernel
theorem dX4_gate_76 : decode cX4_gate 76 = .ok (.aload_n 0, 1) := by decide +kernel
theorem dX4_gate_77 : decode cX4_gate 77 = .ok (.dup, 1) := by decide +kernel
theorem dX4_gate_78 : decode cX4_gate 78 = .ok (.getfield 27, 3) := by decide +kernel
theorem dX4_gate_81 : decode cX4_gate 81 = .ok (.iconst 1, 1) := by decide +kernel
theorem dX4_gate_82 : decode cX4_gate 82 = .ok (.iadd, 1) := by decide +kernel
theorem dX4_gate_83 : decode cX4_gate 83 = .ok (.putfield 27, 3) := by decide +kernel
theorem dX4_gate_86 : decode cX4_gate 86 = .ok (.goto 18, 3) := by decide +kernel
theorem dX4_gate_89 : decode cX4_gate 89 = .ok (.iload_n 1, 1) := by decide +kernel
theorem dX4_gate_90 : decode cX4_gate 90 = .ok (.iconst 1, 1) := by decide +kernel
theorem dX4_gate_91 : decode cX4_gate 91 = .ok (.if_icmp .ne 13, 3) := by decide +kernel
theorem dX4_gate_94 : decode cX4_gate 94 = .ok (.aload_n 0, 1) := by decide +kernel
theorem dX4_gate_95 : decode cX4_gate 95 = .ok (.dup, 1) := by decide +kernel
theorem dX4_gate_96 : decode cX4_gate 96 = .ok (.getfield 30, 3) := by decide +kernel
theorem dX4_gate_99 : decode cX4_gate 99 = .ok (.iconst 1, 1) := by decide +kernel
theorem dX4_gate_100 : decode cX4_gate 100 = .ok (.iadd, 1) := by decide +kernel
theorem dX4_gate_101 : decode cX4_gate 101 = .ok (.putfield 30, 3) := by decide +kernel
theorem dX4_gate_104 : decode cX4_gate 104 = .ok (.aload_n 0, 1) := by decide +kernel
theorem dX4_gate_105 : decode cX4_gate 105 = .ok (.invokevirtual 66, 3) := by decide +kernel
theorem dX4_gate_108 : decode cX4_gate 108 = .ok (.aload_n 2, 1) := by decide +kernel
theorem dX4_gate_109 : decode cX4_gate 109 = .ok (.getfield 69, 3) := by decide +kernel
theorem dX4_gate_112 : decode cX4_gate 112 = .ok (.ireturn, 1) := by decide +kernel
set_option maxRecDepth 20000 in
theorem ggX4_feed_X4_gateAt : GoodIn wsX4_feed wsX4_gateAt := goodIn_ca (goodIn_r _ [9, 10, 11, 12, 13, 14, 15, 16, 17, 18, 19, 20, 21, 22, 23, 24, 25, 26, 27, 28, 29, 30, 31, 32, 33, 34, 35, 36, 71, 72, 73, 74, 75, 76, 77, 78, 79, 97, 98, 99] (by decide +kernel) (by decide +kernel)) (goodIn_sub (fun _ h => List.mem_cons_of_mem _ (List.mem_append_right _ h)) (by decide +kernel))
set_option maxRecDepth 20000 in
theorem gX4_feed_X4_gateAt : GoodIn wsX4_feed (wsV RX4 72 RX4 yX4_gateAt wsX4_gateAt) := goodIn_app (goodIn_of _ (by decide +kernel)) ggX4_feed_X4_gateAt
set_option maxRecDepth 20000 in
theorem ggX4_feed_X1_canBeFed : GoodIn wsX4_feed wsX1_canBeFed := goodIn_r _ [41, 42, 43, 44, 45, 46, 40, 47, 80, 81, 82, 83, 84, 85, 86, 87, 88, 89, 90, 91, 92, 93, 94, 95, 96] (by decide +kernel) (by decide +kernel)
set_option maxRecDepth 20000 in
theorem gX4_feed_X1_canBeFed : GoodIn wsX4_feed (wsV RX4 76 RX1 yX1_canBeFed wsX1_canBeFed) := goodIn_app (goodIn_of _ (by decide +kernel)) ggX4_feed_X1_canBeFed
set_option maxRecDepth 20000 in
theorem ggX4_feed_X1_addFeed : GoodIn wsX4_feed wsX1_addFeed := goodIn_r _ [51, 52, 53, 54, 55, 43, 56, 57, 58, 59, 60, 61, 62, 63, 64, 100, 101, 102, 80, 81, 82, 83, 84, 85, 86, 87, 88, 89, 90, 91, 92, 93, 94, 95, 96] (by decide +kernel) (by decide +kernel)
set_option maxRecDepth 20000 in
theorem gX4_feed_X1_addFeed : GoodIn wsX4_feed (wsV RX4 85 RX1 yX1_addFeed wsX1_addFeed) := goodIn_app (goodIn_of _ (by decide +kernel)) ggX4_feed_X1_addFeed
set_option maxRecDepth 20000 in
theorem ggX4_feed_X4_forgetAll : GoodIn wsX4_feed wsX4_forgetAll := goodIn_r _ [68, 69, 70, 71, 72, 73, 74, 75, 76, 77, 78, 79] (by decide +kernel) (by decide +kernel)
set_option maxRecDepth 20000 in
theorem gX4_feed_X4_forgetAll : GoodIn wsX4_feed (wsV RX4 66 RX4 yX4_forgetAll wsX4_forgetAll) := goodIn_app (goodIn_of _ (by decide +kernel)) ggX4_feed_X4_forgetAll
theorem dX4_feed_0 : decode cX4_feed 0 = .ok (.aload_n 0, 1) := by decide +kernel
theorem dX4_feed_1 : decode cX4_feed 1 = .ok (.iload_n 1, 1) := by decide +kernel
theorem dX4_feed_2 : decode cX4_feed 2 = .ok (.invokevirtual 72, 3) := by decide +kernel
theorem dX4_feed_5 : decode cX4_feed 5 = .ok (.astore 4, 2) := by decide +kernel
theorem dX4_feed_7 : decode cX4_feed 7 = .ok (.aload_n 0, 1) := by decide +kernel
theorem dX4_feed_8 : decode cX4_feed 8 = .ok (.iload_n 2, 1) := by decide +kernel
theorem dX4_feed_9 : decode cX4_feed 9 = .ok (.invokevirtual 72, 3) := by decide +kernel
theorem dX4_feed_12 : decode cX4_feed 12 = .ok (.astore 5, 2) := by decide +kernel
theorem dX4_feed_14 : decode cX4_feed 14 = .ok (.aload 4, 2) := by decide +kernel
theorem dX4_feed_16 : decode cX4_feed 16 = .ok (.invokevirtual 76, 3) := by decide +kernel
theorem dX4_feed_19 : decode cX4_feed 19 = .ok (.ifCond .ne 13, 3) := by decide +kernel
theorem dX4_feed_22 : decode cX4_feed 22 = .ok (.new 80, 3) := by decide +kernel
theorem dX4_feed_25 : decode cX4_feed 25 = .ok (.dup, 1) := by decide +kernel
theorem dX4_feed_26 : decode cX4_feed 26 = .ok (.ldc 82, 2) := by decide +kernel
theorem dX4_feed_28 : decode cX4_feed 28 = .ok (.invokespecial 84, 3) := by decide +kernel
theorem dX4_feed_31 : decode cX4_feed 31 = .ok (.athrow, 1) := by decide +kernel
theorem dX4_feed_32 : decode cX4_feed 32 = .ok (.aload_n 0, 1) := by decide +kernel
theorem dX4_feed_33 : decode cX4_feed 33 = .ok (.getfield 23, 3) := by decide +kernel
theorem dX4_feed_36 : decode cX4_feed 36 = .ok (.sipush 2400, 3) := by decide +kernel
theorem dX4_feed_39 : decode cX4_feed 39 = .ok (.if_icmp .lt 5, 3) := by decide +kernel
theorem dX4_feed_42 : decode cX4_feed 42 = .ok (.iconst (-1), 1) := by decide +kernel
theorem dX4_feed_43 : decode cX4_feed 43 = .ok (.ireturn, 1) := by decide +kernel
theorem dX4_feed_44 : decode cX4_feed 44 = .ok (.aload 4, 2) := by decide +kernel
theorem dX4_feed_46 : decode cX4_feed 46 = .ok (.aload 5, 2) := by decide +kernel
theorem dX4_feed_48 : decode cX4_feed 48 = .ok (.iload_n 3, 1) := by decide +kernel
theorem dX4_feed_49 : decode cX4_feed 49 = .ok (.invokevirtual 85, 3) := by decide +kernel
theorem dX4_feed_52 : decode cX4_feed 52 = .ok (.aload_n 0, 1) := by decide +kernel
theorem dX4_feed_53 : decode cX4_feed 53 = .ok (.dup, 1) := by decide +kernel
theorem dX4_feed_54 : decode cX4_feed 54 = .ok (.getfield 23, 3) := by decide +kernel
theorem dX4_feed_57 : decode cX4_feed 57 = .ok (.iconst 1, 1) := by decide +kernel
theorem dX4_feed_58 : decode cX4_feed 58 = .ok (.iadd, 1) := by decide +kernel
theorem dX4_feed_59 : decode cX4_feed 59 = .ok (.putfield 23, 3) := by decide +kernel
theorem dX4_feed_62 : decode cX4_feed 62 = .ok (.aload_n 0, 1) := by decide +kernel
theorem dX4_feed_63 : decode cX4_feed 63 = .ok (.invokevirtual 66, 3) := by decide +kernel
theorem dX4_feed_66 : decode cX4_feed 66 = .ok (.aload 4, 2) := by decide +kernel
theorem dX4_feed_68 : decode cX4_feed 68 = .ok (.getfield 89, 3) := by decide +kernel
theorem dX4_feed_71 : decode cX4_feed 71 = .ok (.ireturn, 1) := by decide +kernel
set_option maxRecDepth 20000 in
theorem ggX4_cut_X4_gateAt : GoodIn wsX4_cut wsX4_gateAt := goodIn_ca (goodIn_r _ [6, 7, 8, 9, 10, 11, 12, 13, 14, 15, 16, 17, 18, 19, 20, 21, 22, 23, 24, 25, 26, 27, 28, 29, 30, 31, 32, 33, 47, 48, 49, 50, 51, 52, 53, 54, 55, 56, 57, 58] (by decide +kernel) (by decide +kernel)) (goodIn_sub (fun _ h => List.mem_cons_of_mem _ (List.mem_append_right _ h)) (by decide +kernel))
set_option maxRecDepth 20000 in
theorem gX4_cut_X4_gateAt : GoodIn wsX4_cut (wsV RX4 72 RX4 yX4_gateAt wsX4_gateAt) := goodIn_app (goodIn_of _ (by decide +kernel)) ggX4_cut_X4_gateAt
set_option maxRecDepth 20000 in
theorem ggX4_cut_X1_dropFeeds : GoodIn wsX4_cut wsX1_dropFeeds := goodIn_r _ [38, 39, 40, 59, 60, 61, 62, 63, 64, 65, 66, 67, 68, 69, 70, 71, 72, 73, 74, 75] (by decide +kernel) (by decide +kernel)
set_option maxRecDepth 20000 in
theorem gX4_cut_X1_dropFeeds : GoodIn wsX4_cut (wsV RX4 90 RX1 yX1_dropFeeds wsX1_dropFeeds) := goodIn_app (goodIn_of _ (by decide +kernel)) ggX4_cut_X1_dropFeeds
set_option maxRecDepth 20000 in
theorem ggX4_cut_X4_forgetAll : GoodIn wsX4_cut wsX4_forgetAll := goodIn_r _ [44, 45, 46, 47, 48, 49, 50, 51, 52, 53, 54, 55] (by decide +kernel) (by decide +kernel)
