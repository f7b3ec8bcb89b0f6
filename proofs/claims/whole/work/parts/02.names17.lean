theorem dX5_blame_34 : decode cX5_blame 34 = .ok (.iconst 2, 1) := by decide +kernel
theorem dX5_blame_35 : decode cX5_blame 35 = .ok (.if_icmp .eq 5, 3) := by decide +kernel
theorem dX5_blame_38 : decode cX5_blame 38 = .ok (.iconst (-1), 1) := by decide +kernel
theorem dX5_blame_39 : decode cX5_blame 39 = .ok (.ireturn, 1) := by decide +kernel
theorem dX5_blame_40 : decode cX5_blame 40 = .ok (.aload_n 0, 1) := by decide +kernel
theorem dX5_blame_41 : decode cX5_blame 41 = .ok (.getfield 7, 3) := by decide +kernel
theorem dX5_blame_44 : decode cX5_blame 44 = .ok (.iload_n 1, 1) := by decide +kernel
theorem dX5_blame_45 : decode cX5_blame 45 = .ok (.iaload, 1) := by decide +kernel
theorem dX5_blame_46 : decode cX5_blame 46 = .ok (.ifCond .ne 5, 3) := by decide +kernel
theorem dX5_blame_49 : decode cX5_blame 49 = .ok (.iload_n 1, 1) := by decide +kernel
theorem dX5_blame_50 : decode cX5_blame 50 = .ok (.ireturn, 1) := by decide +kernel
theorem dX5_blame_51 : decode cX5_blame 51 = .ok (.iconst (-1), 1) := by decide +kernel
theorem dX5_blame_52 : decode cX5_blame 52 = .ok (.istore_n 2, 1) := by decide +kernel
theorem dX5_blame_53 : decode cX5_blame 53 = .ok (.iconst 0, 1) := by decide +kernel
theorem dX5_blame_54 : decode cX5_blame 54 = .ok (.istore_n 3, 1) := by decide +kernel
theorem dX5_blame_55 : decode cX5_blame 55 = .ok (.iload_n 3, 1) := by decide +kernel
theorem dX5_blame_56 : decode cX5_blame 56 = .ok (.aload_n 0, 1) := by decide +kernel
theorem dX5_blame_57 : decode cX5_blame 57 = .ok (.getfield 58, 3) := by decide +kernel
theorem dX5_blame_60 : decode cX5_blame 60 = .ok (.if_icmp .ge 68, 3) := by decide +kernel
theorem dX5_blame_63 : decode cX5_blame 63 = .ok (.aload_n 0, 1) := by decide +kernel
theorem dX5_blame_64 : decode cX5_blame 64 = .ok (.getfield 16, 3) := by decide +kernel
theorem dX5_blame_67 : decode cX5_blame 67 = .ok (.iload_n 3, 1) := by decide +kernel
theorem dX5_blame_68 : decode cX5_blame 68 = .ok (.iaload, 1) := by decide +kernel
theorem dX5_blame_69 : decode cX5_blame 69 = .ok (.iload_n 1, 1) := by decide +kernel
theorem dX5_blame_70 : decode cX5_blame 70 = .ok (.if_icmp .ne 22, 3) := by decide +kernel
theorem dX5_blame_73 : decode cX5_blame 73 = .ok (.aload_n 0, 1) := by decide +kernel
theorem dX5_blame_74 : decode cX5_blame 74 = .ok (.getfield 26, 3) := by decide +kernel
theorem dX5_blame_77 : decode cX5_blame 77 = .ok (.aload_n 0, 1) := by decide +kernel
theorem dX5_blame_78 : decode cX5_blame 78 = .ok (.getfield 19, 3) := by decide +kernel
theorem dX5_blame_81 : decode cX5_blame 81 = .ok (.iload_n 3, 1) := by decide +kernel
theorem dX5_blame_82 : decode cX5_blame 82 = .ok (.iaload, 1) := by decide +kernel
theorem dX5_blame_83 : decode cX5_blame 83 = .ok (.iaload, 1) := by decide +kernel
theorem dX5_blame_84 : decode cX5_blame 84 = .ok (.iconst 2, 1) := by decide +kernel
theorem dX5_blame_85 : decode cX5_blame 85 = .ok (.if_icmp .ne 7, 3) := by decide +kernel
theorem dX5_blame_88 : decode cX5_blame 88 = .ok (.iconst 1, 1) := by decide +kernel
theorem dX5_blame_89 : decode cX5_blame 89 = .ok (.goto 4, 3) := by decide +kernel
theorem dX5_blame_92 : decode cX5_blame 92 = .ok (.iconst 0, 1) := by decide +kernel
theorem dX5_blame_93 : decode cX5_blame 93 = .ok (.istore 4, 2) := by decide +kernel
theorem dX5_blame_95 : decode cX5_blame 95 = .ok (.iload 4, 2) := by decide +kernel
theorem dX5_blame_97 : decode cX5_blame 97 = .ok (.ifCond .eq 25, 3) := by decide +kernel
theorem dX5_blame_100 : decode cX5_blame 100 = .ok (.iload_n 2, 1) := by decide +kernel
theorem dX5_blame_101 : decode cX5_blame 101 = .ok (.iconst (-1), 1) := by decide +kernel
theorem dX5_blame_102 : decode cX5_blame 102 = .ok (.if_icmp .eq 13, 3) := by decide +kernel
theorem dX5_blame_105 : decode cX5_blame 105 = .ok (.aload_n 0, 1) := by decide +kernel
theorem dX5_blame_106 : decode cX5_blame 106 = .ok (.getfield 19, 3) := by decide +kernel
theorem dX5_blame_109 : decode cX5_blame 109 = .ok (.iload_n 3, 1) := by decide +kernel
theorem dX5_blame_110 : decode cX5_blame 110 = .ok (.iaload, 1) := by decide +kernel
theorem dX5_blame_111 : decode cX5_blame 111 = .ok (.iload_n 2, 1) := by decide +kernel
theorem dX5_blame_112 : decode cX5_blame 112 = .ok (.if_icmp .ge 10, 3) := by decide +kernel
theorem dX5_blame_115 : decode cX5_blame 115 = .ok (.aload_n 0, 1) := by decide +kernel
theorem dX5_blame_116 : decode cX5_blame 116 = .ok (.getfield 19, 3) := by decide +kernel
theorem dX5_blame_119 : decode cX5_blame 119 = .ok (.iload_n 3, 1) := by decide +kernel
theorem dX5_blame_120 : decode cX5_blame 120 = .ok (.iaload, 1) := by decide +kernel
theorem dX5_blame_121 : decode cX5_blame 121 = .ok (.istore_n 2, 1) := by decide +kernel
theorem dX5_blame_122 : decode cX5_blame 122 = .ok (.iinc 3 1, 3) := by decide +kernel
theorem dX5_blame_125 : decode cX5_blame 125 = .ok (.goto (-70), 3) := by decide +kernel
theorem dX5_blame_128 : decode cX5_blame 128 = .ok (.iload_n 2, 1) := by decide +kernel
theorem dX5_blame_129 : decode cX5_blame 129 = .ok (.ireturn, 1) := by decide +kernel
theorem dX5_reach_0 : decode cX5_reach 0 = .ok (.iconst 0, 1) := by decide +kernel
theorem dX5_reach_1 : decode cX5_reach 1 = .ok (.istore 4, 2) := by decide +kernel
theorem dX5_reach_3 : decode cX5_reach 3 = .ok (.iload 4, 2) := by decide +kernel
theorem dX5_reach_5 : decode cX5_reach 5 = .ok (.aload_n 0, 1) := by decide +kernel
theorem dX5_reach_6 : decode cX5_reach 6 = .ok (.getfield 48, 3) := by decide +kernel
theorem dX5_reach_9 : decode cX5_reach 9 = .ok (.if_icmp .ge 14, 3) := by decide +kernel
theorem dX5_reach_12 : decode cX5_reach 12 = .ok (.aload_n 3, 1) := by decide +kernel
theorem dX5_reach_13 : decode cX5_reach 13 = .ok (.iload 4, 2) := by decide +kernel
theorem dX5_reach_15 : decode cX5_reach 15 = .ok (.iconst 0, 1) := by decide +kernel
theorem dX5_reach_16 : decode cX5_reach 16 = .ok (.bastore, 1) := by decide +kernel
theorem dX5_reach_17 : decode cX5_reach 17 = .ok (.iinc 4 1, 3) := by decide +kernel
theorem dX5_reach_20 : decode cX5_reach 20 = .ok (.goto (-17), 3) := by decide +kernel
theorem dX5_reach_23 : decode cX5_reach 23 = .ok (.iconst 1, 1) := by decide +kernel
theorem dX5_reach_24 : decode cX5_reach 24 = .ok (.istore 4, 2) := by decide +kernel
theorem dX5_reach_26 : decode cX5_reach 26 = .ok (.iload 4, 2) := by decide +kernel
theorem dX5_reach_28 : decode cX5_reach 28 = .ok (.ifCond .eq 120, 3) := by decide +kernel
theorem dX5_reach_31 : decode cX5_reach 31 = .ok (.iconst 0, 1) := by decide +kernel
theorem dX5_reach_32 : decode cX5_reach 32 = .ok (.istore 4, 2) := by decide +kernel
theorem dX5_reach_34 : decode cX5_reach 34 = .ok (.iconst 0, 1) := by decide +kernel
theorem dX5_reach_35 : decode cX5_reach 35 = .ok (.istore 5, 2) := by decide +kernel
theorem dX5_reach_37 : decode cX5_reach 37 = .ok (.iload 5, 2) := by decide +kernel
theorem dX5_reach_39 : decode cX5_reach 39 = .ok (.aload_n 0, 1) := by decide +kernel
theorem dX5_reach_40 : decode cX5_reach 40 = .ok (.getfield 58, 3) := by decide +kernel
theorem dX5_reach_43 : decode cX5_reach 43 = .ok (.if_icmp .ge 102, 3) := by decide +kernel
theorem dX5_reach_46 : decode cX5_reach 46 = .ok (.iload_n 2, 1) := by decide +kernel
theorem dX5_reach_47 : decode cX5_reach 47 = .ok (.ifCond .eq 13, 3) := by decide +kernel
theorem dX5_reach_50 : decode cX5_reach 50 = .ok (.aload_n 0, 1) := by decide +kernel
theorem dX5_reach_51 : decode cX5_reach 51 = .ok (.getfield 19, 3) := by decide +kernel
theorem dX5_reach_54 : decode cX5_reach 54 = .ok (.iload 5, 2) := by decide +kernel
theorem dX5_reach_56 : decode cX5_reach 56 = .ok (.iaload, 1) := by decide +kernel
theorem dX5_reach_57 : decode cX5_reach 57 = .ok (.goto 10, 3) := by decide +kernel
theorem dX5_reach_60 : decode cX5_reach 60 = .ok (.aload_n 0, 1) := by decide +kernel
theorem dX5_reach_61 : decode cX5_reach 61 = .ok (.getfield 16, 3) := by decide +kernel
theorem dX5_reach_64 : decode cX5_reach 64 = .ok (.iload 5, 2) := by decide +kernel
theorem dX5_reach_66 : decode cX5_reach 66 = .ok (.iaload, 1) := by decide +kernel
theorem dX5_reach_67 : decode cX5_reach 67 = .ok (.istore 6, 2) := by decide +kernel
theorem dX5_reach_69 : decode cX5_reach 69 = .ok (.iload_n 2, 1) := by decide +kernel
theorem dX5_reach_70 : decode cX5_reach 70 = .ok (.ifCond .eq 13, 3) := by decide +kernel
theorem dX5_reach_73 : decode cX5_reach 73 = .ok (.aload_n 0, 1) := by decide +kernel
theorem dX5_reach_74 : decode cX5_reach 74 = .ok (.getfield 16, 3) := by decide +kernel
theorem dX5_reach_77 : decode cX5_reach 77 = .ok (.iload 5, 2) := by decide +kernel
theorem dX5_reach_79 : decode cX5_reach 79 = .ok (.iaload, 1) := by decide +kernel
theorem dX5_reach_80 : decode cX5_reach 80 = .ok (.goto 10, 3) := by decide +kernel
theorem dX5_reach_83 : decode cX5_reach 83 = .ok (.aload_n 0, 1) := by decide +kernel
theorem dX5_reach_84 : decode cX5_reach 84 = .ok (.getfield 19, 3) := by decide +kernel
theorem dX5_reach_87 : decode cX5_reach 87 = .ok (.iload 5, 2) := by decide +kernel
theorem dX5_reach_89 : decode cX5_reach 89 = .ok (.iaload, 1) := by decide +kernel
theorem dX5_reach_90 : decode cX5_reach 90 = .ok (.istore 7, 2) := by decide +kernel
theorem dX5_reach_92 : decode cX5_reach 92 = .ok (.aload_n 0, 1) := by decide +kernel
theorem dX5_reach_93 : decode cX5_reach 93 = .ok (.getfield 7, 3) := by decide +kernel
theorem dX5_reach_96 : decode cX5_reach 96 = .ok (.aload_n 0, 1) := by decide +kernel
theorem dX5_reach_97 : decode cX5_reach 97 = .ok (.getfield 16, 3) := by decide +kernel
theorem dX5_reach_100 : decode cX5_reach 100 = .ok (.iload 5, 2) := by decide +kernel
theorem dX5_reach_102 : decode cX5_reach 102 = .ok (.iaload, 1) := by decide +kernel
theorem dX5_reach_103 : decode cX5_reach 103 = .ok (.iaload, 1) := by decide +kernel
theorem dX5_reach_104 : decode cX5_reach 104 = .ok (.iconst 2, 1) := by decide +kernel
theorem dX5_reach_105 : decode cX5_reach 105 = .ok (.if_icmp .lt 34, 3) := by decide +kernel
theorem dX5_reach_108 : decode cX5_reach 108 = .ok (.aload_n 3, 1) := by decide +kernel
theorem dX5_reach_109 : decode cX5_reach 109 = .ok (.iload 7, 2) := by decide +kernel
theorem dX5_reach_111 : decode cX5_reach 111 = .ok (.baload, 1) := by decide +kernel
theorem dX5_reach_112 : decode cX5_reach 112 = .ok (.ifCond .ne 27, 3) := by decide +kernel
theorem dX5_reach_115 : decode cX5_reach 115 = .ok (.iload 6, 2) := by decide +kernel
theorem dX5_reach_117 : decode cX5_reach 117 = .ok (.iload_n 1, 1) := by decide +kernel
theorem dX5_reach_118 : decode cX5_reach 118 = .ok (.if_icmp .eq 13, 3) := by decide +kernel
theorem dX5_reach_121 : decode cX5_reach 121 = .ok (.aload_n 3, 1) := by decide +kernel
theorem dX5_reach_122 : decode cX5_reach 122 = .ok (.iload 6, 2) := by decide +kernel
theorem dX5_reach_124 : decode cX5_reach 124 = .ok (.baload, 1) := by decide +kernel
theorem dX5_reach_125 : decode cX5_reach 125 = .ok (.ifCond .ne 6, 3) := by decide +kernel
theorem dX5_reach_128 : decode cX5_reach 128 = .ok (.goto 11, 3) := by decide +kernel
theorem dX5_reach_131 : decode cX5_reach 131 = .ok (.aload_n 3, 1) := by decide +kernel
theorem dX5_reach_132 : decode cX5_reach 132 = .ok (.iload 7, 2) := by decide +kernel
theorem dX5_reach_134 : decode cX5_reach 134 = .ok (.iconst 1, 1) := by decide +kernel
theorem dX5_reach_135 : decode cX5_reach 135 = .ok (.bastore, 1) := by decide +kernel
theorem dX5_reach_136 : decode cX5_reach 136 = .ok (.iconst 1, 1) := by decide +kernel
theorem dX5_reach_137 : decode cX5_reach 137 = .ok (.istore 4, 2) := by decide +kernel
theorem dX5_reach_139 : decode cX5_reach 139 = .ok (.iinc 5 1, 3) := by decide +kernel
theorem dX5_reach_142 : decode cX5_reach 142 = .ok (.goto (-105), 3) := by decide +kernel
theorem dX5_reach_145 : decode cX5_reach 145 = .ok (.goto (-119), 3) := by decide +kernel
theorem dX5_reach_148 : decode cX5_reach 148 = .ok (.return_, 1) := by decide +kernel
set_option maxRecDepth 20000 in
theorem ggX5_part_X5_reach : GoodIn wsX5_part wsX5_reach := goodIn_r _ [7, 8, 9, 10, 11, 12, 13, 14, 15, 16, 17, 18, 19, 20, 21, 22, 23, 24, 25, 26, 27, 28] (by decide +kernel) (by decide +kernel)
set_option maxRecDepth 20000 in
theorem gX5_part_X5_reach : GoodIn wsX5_part (wsV RX5 87 RX5 yX5_reach wsX5_reach) := goodIn_app (goodIn_of _ (by decide +kernel)) ggX5_part_X5_reach
theorem dX5_part_0 : decode cX5_part 0 = .ok (.aload_n 0, 1) := by decide +kernel
theorem dX5_part_1 : decode cX5_part 1 = .ok (.iload_n 1, 1) := by decide +kernel
theorem dX5_part_2 : decode cX5_part 2 = .ok (.iconst 1, 1) := by decide +kernel
theorem dX5_part_3 : decode cX5_part 3 = .ok (.aload_n 0, 1) := by decide +kernel
theorem dX5_part_4 : decode cX5_part 4 = .ok (.getfield 35, 3) := by decide +kernel
theorem dX5_part_7 : decode cX5_part 7 = .ok (.invokevirtual 87, 3) := by decide +kernel
theorem dX5_part_10 : decode cX5_part 10 = .ok (.aload_n 0, 1) := by decide +kernel
theorem dX5_part_11 : decode cX5_part 11 = .ok (.getfield 35, 3) := by decide +kernel
theorem dX5_part_14 : decode cX5_part 14 = .ok (.iload_n 1, 1) := by decide +kernel
theorem dX5_part_15 : decode cX5_part 15 = .ok (.baload, 1) := by decide +kernel
theorem dX5_part_16 : decode cX5_part 16 = .ok (.ifCond .ne 5, 3) := by decide +kernel
theorem dX5_part_19 : decode cX5_part 19 = .ok (.iconst (-1), 1) := by decide +kernel
theorem dX5_part_20 : decode cX5_part 20 = .ok (.ireturn, 1) := by decide +kernel
theorem dX5_part_21 : decode cX5_part 21 = .ok (.aload_n 0, 1) := by decide +kernel
theorem dX5_part_22 : decode cX5_part 22 = .ok (.iload_n 1, 1) := by decide +kernel
theorem dX5_part_23 : decode cX5_part 23 = .ok (.iconst 0, 1) := by decide +kernel
theorem dX5_part_24 : decode cX5_part 24 = .ok (.aload_n 0, 1) := by decide +kernel
theorem dX5_part_25 : decode cX5_part 25 = .ok (.getfield 38, 3) := by decide +kernel
theorem dX5_part_28 : decode cX5_part 28 = .ok (.invokevirtual 87, 3) := by decide +kernel
theorem dX5_part_31 : decode cX5_part 31 = .ok (.iconst 0, 1) := by decide +kernel
theorem dX5_part_32 : decode cX5_part 32 = .ok (.istore_n 2, 1) := by decide +kernel
theorem dX5_part_33 : decode cX5_part 33 = .ok (.aload_n 0, 1) := by decide +kernel
theorem dX5_part_34 : decode cX5_part 34 = .ok (.getfield 35, 3) := by decide +kernel
theorem dX5_part_37 : decode cX5_part 37 = .ok (.iload_n 2, 1) := by decide +kernel
theorem dX5_part_38 : decode cX5_part 38 = .ok (.baload, 1) := by decide +kernel
theorem dX5_part_39 : decode cX5_part 39 = .ok (.ifCond .eq 12, 3) := by decide +kernel
theorem dX5_part_42 : decode cX5_part 42 = .ok (.aload_n 0, 1) := by decide +kernel
theorem dX5_part_43 : decode cX5_part 43 = .ok (.getfield 38, 3) := by decide +kernel
theorem dX5_part_46 : decode cX5_part 46 = .ok (.iload_n 2, 1) := by decide +kernel
theorem dX5_part_47 : decode cX5_part 47 = .ok (.baload, 1) := by decide +kernel
theorem dX5_part_48 : decode cX5_part 48 = .ok (.ifCond .ne 9, 3) := by decide +kernel
theorem dX5_part_51 : decode cX5_part 51 = .ok (.iinc 2 1, 3) := by decide +kernel
theorem dX5_part_54 : decode cX5_part 54 = .ok (.goto (-21), 3) := by decide +kernel
theorem dX5_part_57 : decode cX5_part 57 = .ok (.iload_n 2, 1) := by decide +kernel
theorem dX5_part_58 : decode cX5_part 58 = .ok (.ireturn, 1) := by decide +kernel
set_option maxRecDepth 20000 in
theorem ggX5_cycle_X5_isGate : GoodIn wsX5_cycle wsX5_isGate := goodIn_r _ [5, 6, 26, 27, 28, 29, 30, 31, 32, 33, 34, 35, 36, 37, 38, 39, 40, 41] (by decide +kernel) (by decide +kernel)
set_option maxRecDepth 20000 in
theorem gX5_cycle_X5_isGate : GoodIn wsX5_cycle (wsV RX5 61 RX5 yX5_isGate wsX5_isGate) := goodIn_app (goodIn_of _ (by decide +kernel)) ggX5_cycle_X5_isGate
set_option maxRecDepth 20000 in
theorem ggX5_cycle_X5_fails : GoodIn wsX5_cycle wsX5_fails := goodIn_r _ [10, 11, 26, 27, 28, 29, 30, 31, 32, 33, 34, 35, 36, 37, 38, 39, 40, 41] (by decide +kernel) (by decide +kernel)
set_option maxRecDepth 20000 in
theorem gX5_cycle_X5_fails : GoodIn wsX5_cycle (wsV RX5 51 RX5 yX5_fails wsX5_fails) := goodIn_app (goodIn_of _ (by decide +kernel)) ggX5_cycle_X5_fails
set_option maxRecDepth 20000 in
theorem ggX5_cycle_X5_part : GoodIn wsX5_cycle wsX5_part := goodIn_r _ [15, 16, 17, 18, 19, 20, 4, 21, 6, 22, 23, 24, 25, 26, 27, 28, 29, 30, 31, 32, 33, 34, 35, 36, 37, 38, 39, 40, 41] (by decide +kernel) (by decide +kernel)
set_option maxRecDepth 20000 in
theorem gX5_cycle_X5_part : GoodIn wsX5_cycle (wsV RX5 91 RX5 yX5_part wsX5_part) := goodIn_app (goodIn_of _ (by decide +kernel)) ggX5_cycle_X5_part
theorem dX5_cycle_0 : decode cX5_cycle 0 = .ok (.aload_n 0, 1) := by decide +kernel
theorem dX5_cycle_1 : decode cX5_cycle 1 = .ok (.aload_n 0, 1) := by decide +kernel
theorem dX5_cycle_2 : decode cX5_cycle 2 = .ok (.iload_n 1, 1) := by decide +kernel
theorem dX5_cycle_3 : decode cX5_cycle 3 = .ok (.invokevirtual 61, 3) := by decide +kernel
theorem dX5_cycle_6 : decode cX5_cycle 6 = .ok (.ifCond .ne 7, 3) := by decide +kernel
theorem dX5_cycle_9 : decode cX5_cycle 9 = .ok (.iconst 1, 1) := by decide +kernel
theorem dX5_cycle_10 : decode cX5_cycle 10 = .ok (.goto 4, 3) := by decide +kernel
theorem dX5_cycle_13 : decode cX5_cycle 13 = .ok (.iconst 0, 1) := by decide +kernel
theorem dX5_cycle_14 : decode cX5_cycle 14 = .ok (.iconst 0, 1) := by decide +kernel
theorem dX5_cycle_15 : decode cX5_cycle 15 = .ok (.invokevirtual 51, 3) := by decide +kernel
theorem dX5_cycle_18 : decode cX5_cycle 18 = .ok (.ifCond .eq 5, 3) := by decide +kernel
theorem dX5_cycle_21 : decode cX5_cycle 21 = .ok (.iconst 0, 1) := by decide +kernel
theorem dX5_cycle_22 : decode cX5_cycle 22 = .ok (.ireturn, 1) := by decide +kernel
theorem dX5_cycle_23 : decode cX5_cycle 23 = .ok (.aload_n 0, 1) := by decide +kernel
theorem dX5_cycle_24 : decode cX5_cycle 24 = .ok (.iload_n 1, 1) := by decide +kernel
theorem dX5_cycle_25 : decode cX5_cycle 25 = .ok (.invokevirtual 91, 3) := by decide +kernel
theorem dX5_cycle_28 : decode cX5_cycle 28 = .ok (.ireturn, 1) := by decide +kernel
set_option maxRecDepth 20000 in
theorem ggX5_choices_X5_spread : GoodIn wsX5_choices wsX5_spread := goodIn_r _ [10, 2, 11, 3, 4, 12, 13, 14, 15, 16, 9, 17, 18, 19, 20, 21, 22, 23, 24, 25, 26, 27, 28, 29, 30, 31, 32, 33, 34, 35, 36, 37, 38, 39, 40, 41, 42, 43, 44, 45] (by decide +kernel) (by decide +kernel)
set_option maxRecDepth 20000 in
theorem gX5_choices_X5_spread : GoodIn wsX5_choices (wsV RX5 84 RX5 yX5_spread wsX5_spread) := goodIn_app (goodIn_of _ (by decide +kernel)) ggX5_choices_X5_spread
theorem dX5_choices_0 : decode cX5_choices 0 = .ok (.aload_n 0, 1) := by decide +kernel
theorem dX5_choices_1 : decode cX5_choices 1 = .ok (.iconst 0, 1) := by decide +kernel
theorem dX5_choices_2 : decode cX5_choices 2 = .ok (.putfield 44, 3) := by decide +kernel
theorem dX5_choices_5 : decode cX5_choices 5 = .ok (.iconst 0, 1) := by decide +kernel
theorem dX5_choices_6 : decode cX5_choices 6 = .ok (.istore_n 1, 1) := by decide +kernel
theorem dX5_choices_7 : decode cX5_choices 7 = .ok (.iconst 0, 1) := by decide +kernel
theorem dX5_choices_8 : decode cX5_choices 8 = .ok (.istore_n 2, 1) := by decide +kernel
theorem dX5_choices_9 : decode cX5_choices 9 = .ok (.iload_n 2, 1) := by decide +kernel
theorem dX5_choices_10 : decode cX5_choices 10 = .ok (.aload_n 0, 1) := by decide +kernel
theorem dX5_choices_11 : decode cX5_choices 11 = .ok (.getfield 48, 3) := by decide +kernel
theorem dX5_choices_14 : decode cX5_choices 14 = .ok (.if_icmp .ge 41, 3) := by decide +kernel
theorem dX5_choices_17 : decode cX5_choices 17 = .ok (.aload_n 0, 1) := by decide +kernel
theorem dX5_choices_18 : decode cX5_choices 18 = .ok (.getfield 7, 3) := by decide +kernel
theorem dX5_choices_21 : decode cX5_choices 21 = .ok (.iload_n 2, 1) := by decide +kernel
theorem dX5_choices_22 : decode cX5_choices 22 = .ok (.iaload, 1) := by decide +kernel
theorem dX5_choices_23 : decode cX5_choices 23 = .ok (.ifCond .ne 26, 3) := by decide +kernel
theorem dX5_choices_26 : decode cX5_choices 26 = .ok (.aload_n 0, 1) := by decide +kernel
theorem dX5_choices_27 : decode cX5_choices 27 = .ok (.getfield 13, 3) := by decide +kernel
theorem dX5_choices_30 : decode cX5_choices 30 = .ok (.iload_n 2, 1) := by decide +kernel
theorem dX5_choices_31 : decode cX5_choices 31 = .ok (.iaload, 1) := by decide +kernel
theorem dX5_choices_32 : decode cX5_choices 32 = .ok (.iconst 2, 1) := by decide +kernel
theorem dX5_choices_33 : decode cX5_choices 33 = .ok (.if_icmp .eq 6, 3) := by decide +kernel
theorem dX5_choices_36 : decode cX5_choices 36 = .ok (.goto 13, 3) := by decide +kernel
theorem dX5_choices_39 : decode cX5_choices 39 = .ok (.aload_n 0, 1) := by decide +kernel
theorem dX5_choices_40 : decode cX5_choices 40 = .ok (.getfield 41, 3) := by decide +kernel
theorem dX5_choices_43 : decode cX5_choices 43 = .ok (.iload_n 1, 1) := by decide +kernel
theorem dX5_choices_44 : decode cX5_choices 44 = .ok (.iload_n 2, 1) := by decide +kernel
theorem dX5_choices_45 : decode cX5_choices 45 = .ok (.iastore, 1) := by decide +kernel
theorem dX5_choices_46 : decode cX5_choices 46 = .ok (.iinc 1 1, 3) := by decide +kernel
theorem dX5_choices_49 : decode cX5_choices 49 = .ok (.iinc 2 1, 3) := by decide +kernel
theorem dX5_choices_52 : decode cX5_choices 52 = .ok (.goto (-43), 3) := by decide +kernel
theorem dX5_choices_55 : decode cX5_choices 55 = .ok (.iconst 0, 1) := by decide +kernel
theorem dX5_choices_56 : decode cX5_choices 56 = .ok (.istore_n 2, 1) := by decide +kernel
theorem dX5_choices_57 : decode cX5_choices 57 = .ok (.iconst 0, 1) := by decide +kernel
theorem dX5_choices_58 : decode cX5_choices 58 = .ok (.istore_n 3, 1) := by decide +kernel
theorem dX5_choices_59 : decode cX5_choices 59 = .ok (.iload_n 3, 1) := by decide +kernel
theorem dX5_choices_60 : decode cX5_choices 60 = .ok (.iconst 1, 1) := by decide +kernel
theorem dX5_choices_61 : decode cX5_choices 61 = .ok (.iload_n 1, 1) := by decide +kernel
theorem dX5_choices_62 : decode cX5_choices 62 = .ok (.ishl, 1) := by decide +kernel
theorem dX5_choices_63 : decode cX5_choices 63 = .ok (.if_icmp .ge 57, 3) := by decide +kernel
theorem dX5_choices_66 : decode cX5_choices 66 = .ok (.iconst 0, 1) := by decide +kernel
theorem dX5_choices_67 : decode cX5_choices 67 = .ok (.istore 4, 2) := by decide +kernel
theorem dX5_choices_69 : decode cX5_choices 69 = .ok (.iload 4, 2) := by decide +kernel
theorem dX5_choices_71 : decode cX5_choices 71 = .ok (.iload_n 1, 1) := by decide +kernel
theorem dX5_choices_72 : decode cX5_choices 72 = .ok (.if_icmp .ge 27, 3) := by decide +kernel
theorem dX5_choices_75 : decode cX5_choices 75 = .ok (.aload_n 0, 1) := by decide +kernel
theorem dX5_choices_76 : decode cX5_choices 76 = .ok (.getfield 13, 3) := by decide +kernel
theorem dX5_choices_79 : decode cX5_choices 79 = .ok (.aload_n 0, 1) := by decide +kernel
theorem dX5_choices_80 : decode cX5_choices 80 = .ok (.getfield 41, 3) := by decide +kernel
theorem dX5_choices_83 : decode cX5_choices 83 = .ok (.iload 4, 2) := by decide +kernel
theorem dX5_choices_85 : decode cX5_choices 85 = .ok (.iaload, 1) := by decide +kernel
theorem dX5_choices_86 : decode cX5_choices 86 = .ok (.iload_n 3, 1) := by decide +kernel
theorem dX5_choices_87 : decode cX5_choices 87 = .ok (.iload 4, 2) := by decide +kernel
theorem dX5_choices_89 : decode cX5_choices 89 = .ok (.ishr, 1) := by decide +kernel
theorem dX5_choices_90 : decode cX5_choices 90 = .ok (.iconst 1, 1) := by decide +kernel
theorem dX5_choices_91 : decode cX5_choices 91 = .ok (.iand, 1) := by decide +kernel
theorem dX5_choices_92 : decode cX5_choices 92 = .ok (.iastore, 1) := by decide +kernel
theorem dX5_choices_93 : decode cX5_choices 93 = .ok (.iinc 4 1, 3) := by decide +kernel
theorem dX5_choices_96 : decode cX5_choices 96 = .ok (.goto (-27), 3) := by decide +kernel
theorem dX5_choices_99 : decode cX5_choices 99 = .ok (.iload_n 2, 1) := by decide +kernel
theorem dX5_choices_100 : decode cX5_choices 100 = .ok (.aload_n 0, 1) := by decide +kernel
theorem dX5_choices_101 : decode cX5_choices 101 = .ok (.invokevirtual 84, 3) := by decide +kernel
theorem dX5_choices_104 : decode cX5_choices 104 = .ok (.ifCond .eq 7, 3) := by decide +kernel
theorem dX5_choices_107 : decode cX5_choices 107 = .ok (.iconst 1, 1) := by decide +kernel
theorem dX5_choices_108 : decode cX5_choices 108 = .ok (.goto 4, 3) := by decide +kernel
theorem dX5_choices_111 : decode cX5_choices 111 = .ok (.iconst 0, 1) := by decide +kernel
theorem dX5_choices_112 : decode cX5_choices 112 = .ok (.iadd, 1) := by decide +kernel
theorem dX5_choices_113 : decode cX5_choices 113 = .ok (.istore_n 2, 1) := by decide +kernel
theorem dX5_choices_114 : decode cX5_choices 114 = .ok (.iinc 3 1, 3) := by decide +kernel
theorem dX5_choices_117 : decode cX5_choices 117 = .ok (.goto (-58), 3) := by decide +kernel
theorem dX5_choices_120 : decode cX5_choices 120 = .ok (.iconst 0, 1) := by decide +kernel
theorem dX5_choices_121 : decode cX5_choices 121 = .ok (.istore_n 3, 1) := by decide +kernel
theorem dX5_choices_122 : decode cX5_choices 122 = .ok (.iload_n 3, 1) := by decide +kernel
theorem dX5_choices_123 : decode cX5_choices 123 = .ok (.iload_n 1, 1) := by decide +kernel
theorem dX5_choices_124 : decode cX5_choices 124 = .ok (.if_icmp .ge 21, 3) := by decide +kernel
theorem dX5_choices_127 : decode cX5_choices 127 = .ok (.aload_n 0, 1) := by decide +kernel
theorem dX5_choices_128 : decode cX5_choices 128 = .ok (.getfield 13, 3) := by decide +kernel
theorem dX5_choices_131 : decode cX5_choices 131 = .ok (.aload_n 0, 1) := by decide +kernel
theorem dX5_choices_132 : decode cX5_choices 132 = .ok (.getfield 41, 3) := by decide +kernel
theorem dX5_choices_135 : decode cX5_choices 135 = .ok (.iload_n 3, 1) := by decide +kernel
theorem dX5_choices_136 : decode cX5_choices 136 = .ok (.iaload, 1) := by decide +kernel
theorem dX5_choices_137 : decode cX5_choices 137 = .ok (.iconst 2, 1) := by decide +kernel
theorem dX5_choices_138 : decode cX5_choices 138 = .ok (.iastore, 1) := by decide +kernel
theorem dX5_choices_139 : decode cX5_choices 139 = .ok (.iinc 3 1, 3) := by decide +kernel
theorem dX5_choices_142 : decode cX5_choices 142 = .ok (.goto (-20), 3) := by decide +kernel
theorem dX5_choices_145 : decode cX5_choices 145 = .ok (.iload_n 2, 1) := by decide +kernel
theorem dX5_choices_146 : decode cX5_choices 146 = .ok (.ireturn, 1) := by decide +kernel
set_option maxRecDepth 20000 in
theorem ggX5_count_X5_spread : GoodIn wsX5_count wsX5_spread := goodIn_r _ [11, 2, 12, 5, 13, 14, 6, 15, 16, 17, 10, 18, 19, 3, 20, 21, 22, 23, 24, 25, 26, 27, 28, 29, 40, 41, 42, 43, 44, 45, 46, 47, 48, 49, 50, 51, 52, 53, 54, 55] (by decide +kernel) (by decide +kernel)
set_option maxRecDepth 20000 in
theorem gX5_count_X5_spread : GoodIn wsX5_count (wsV RX5 84 RX5 yX5_spread wsX5_spread) := goodIn_app (goodIn_of _ (by decide +kernel)) ggX5_count_X5_spread
set_option maxRecDepth 20000 in
theorem ggX5_count_X5_unknown : GoodIn wsX5_count wsX5_unknown := goodIn_r _ [29, 2, 12, 40, 41, 42, 43, 44, 45, 46, 47, 48, 49, 50, 51, 52, 53, 54, 55] (by decide +kernel) (by decide +kernel)
set_option maxRecDepth 20000 in
theorem gX5_count_X5_unknown : GoodIn wsX5_count (wsV RX5 80 RX5 yX5_unknown wsX5_unknown) := goodIn_app (goodIn_of _ (by decide +kernel)) ggX5_count_X5_unknown
set_option maxRecDepth 20000 in
theorem ggX5_count_X5_part : GoodIn wsX5_count wsX5_part := goodIn_r _ [33, 34, 35, 36, 37, 38, 10, 39, 2, 3, 21, 20, 5, 40, 41, 42, 43, 44, 45, 46, 47, 48, 49, 50, 51, 52, 53, 54, 55] (by decide +kernel) (by decide +kernel)
set_option maxRecDepth 20000 in
theorem gX5_count_X5_part : GoodIn wsX5_count (wsV RX5 91 RX5 yX5_part wsX5_part) := goodIn_app (goodIn_of _ (by decide +kernel)) ggX5_count_X5_part
theorem dX5_count_0 : decode cX5_count 0 = .ok (.aload_n 0, 1) := by decide +kernel
theorem dX5_count_1 : decode cX5_count 1 = .ok (.iconst 0, 1) := by decide +kernel
theorem dX5_count_2 : decode cX5_count 2 = .ok (.putfield 44, 3) := by decide +kernel
theorem dX5_count_5 : decode cX5_count 5 = .ok (.aload_n 0, 1) := by decide +kernel
theorem dX5_count_6 : decode cX5_count 6 = .ok (.invokevirtual 84, 3) := by decide +kernel
theorem dX5_count_9 : decode cX5_count 9 = .ok (.istore_n 2, 1) := by decide +kernel
theorem dX5_count_10 : decode cX5_count 10 = .ok (.iconst 0, 1) := by decide +kernel
theorem dX5_count_11 : decode cX5_count 11 = .ok (.istore_n 3, 1) := by decide +kernel
theorem dX5_count_12 : decode cX5_count 12 = .ok (.iload_n 1, 1) := by decide +kernel
theorem dX5_count_13 : decode cX5_count 13 = .ok (.tableswitch 160 0 7 #[47, 52, 57, 62, 101, 106, 111, 150], 47) := by decide +kernel
theorem dX5_count_60 : decode cX5_count 60 = .ok (.aload_n 0, 1) := by decide +kernel
theorem dX5_count_61 : decode cX5_count 61 = .ok (.getfield 48, 3) := by decide +kernel
theorem dX5_count_64 : decode cX5_count 64 = .ok (.ireturn, 1) := by decide +kernel
theorem dX5_count_65 : decode cX5_count 65 = .ok (.aload_n 0, 1) := by decide +kernel
theorem dX5_count_66 : decode cX5_count 66 = .ok (.getfield 58, 3) := by decide +kernel
theorem dX5_count_69 : decode cX5_count 69 = .ok (.ireturn, 1) := by decide +kernel
theorem dX5_count_70 : decode cX5_count 70 = .ok (.aload_n 0, 1) := by decide +kernel
theorem dX5_count_71 : decode cX5_count 71 = .ok (.getfield 55, 3) := by decide +kernel
theorem dX5_count_74 : decode cX5_count 74 = .ok (.ireturn, 1) := by decide +kernel
theorem dX5_count_75 : decode cX5_count 75 = .ok (.iconst 0, 1) := by decide +kernel
theorem dX5_count_76 : decode cX5_count 76 = .ok (.istore 4, 2) := by decide +kernel
theorem dX5_count_78 : decode cX5_count 78 = .ok (.iload 4, 2) := by decide +kernel
