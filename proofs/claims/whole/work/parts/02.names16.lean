theorem dX5_another_140 : decode cX5_another 140 = .ok (.iload_n 2, 1) := by decide +kernel
theorem dX5_another_141 : decode cX5_another 141 = .ok (.iaload, 1) := by decide +kernel
theorem dX5_another_142 : decode cX5_another 142 = .ok (.iconst 2, 1) := by decide +kernel
theorem dX5_another_143 : decode cX5_another 143 = .ok (.if_icmp .lt 52, 3) := by decide +kernel
theorem dX5_another_146 : decode cX5_another 146 = .ok (.aload_n 0, 1) := by decide +kernel
theorem dX5_another_147 : decode cX5_another 147 = .ok (.getfield 26, 3) := by decide +kernel
theorem dX5_another_150 : decode cX5_another 150 = .ok (.iload_n 2, 1) := by decide +kernel
theorem dX5_another_151 : decode cX5_another 151 = .ok (.iaload, 1) := by decide +kernel
theorem dX5_another_152 : decode cX5_another 152 = .ok (.iconst 2, 1) := by decide +kernel
theorem dX5_another_153 : decode cX5_another 153 = .ok (.if_icmp .ne 42, 3) := by decide +kernel
theorem dX5_another_156 : decode cX5_another 156 = .ok (.aload_n 0, 1) := by decide +kernel
theorem dX5_another_157 : decode cX5_another 157 = .ok (.getfield 29, 3) := by decide +kernel
theorem dX5_another_160 : decode cX5_another 160 = .ok (.iload_n 2, 1) := by decide +kernel
theorem dX5_another_161 : decode cX5_another 161 = .ok (.iaload, 1) := by decide +kernel
theorem dX5_another_162 : decode cX5_another 162 = .ok (.iconst 2, 1) := by decide +kernel
theorem dX5_another_163 : decode cX5_another 163 = .ok (.if_icmp .ne 6, 3) := by decide +kernel
theorem dX5_another_166 : decode cX5_another 166 = .ok (.goto 29, 3) := by decide +kernel
theorem dX5_another_169 : decode cX5_another 169 = .ok (.iconst 1, 1) := by decide +kernel
theorem dX5_another_170 : decode cX5_another 170 = .ok (.istore_n 1, 1) := by decide +kernel
theorem dX5_another_171 : decode cX5_another 171 = .ok (.aload_n 0, 1) := by decide +kernel
theorem dX5_another_172 : decode cX5_another 172 = .ok (.getfield 26, 3) := by decide +kernel
theorem dX5_another_175 : decode cX5_another 175 = .ok (.iload_n 2, 1) := by decide +kernel
theorem dX5_another_176 : decode cX5_another 176 = .ok (.aload_n 0, 1) := by decide +kernel
theorem dX5_another_177 : decode cX5_another 177 = .ok (.getfield 29, 3) := by decide +kernel
theorem dX5_another_180 : decode cX5_another 180 = .ok (.iload_n 2, 1) := by decide +kernel
theorem dX5_another_181 : decode cX5_another 181 = .ok (.iaload, 1) := by decide +kernel
theorem dX5_another_182 : decode cX5_another 182 = .ok (.iastore, 1) := by decide +kernel
theorem dX5_another_183 : decode cX5_another 183 = .ok (.aload_n 0, 1) := by decide +kernel
theorem dX5_another_184 : decode cX5_another 184 = .ok (.getfield 32, 3) := by decide +kernel
theorem dX5_another_187 : decode cX5_another 187 = .ok (.iload_n 2, 1) := by decide +kernel
theorem dX5_another_188 : decode cX5_another 188 = .ok (.aload_n 0, 1) := by decide +kernel
theorem dX5_another_189 : decode cX5_another 189 = .ok (.getfield 73, 3) := by decide +kernel
theorem dX5_another_192 : decode cX5_another 192 = .ok (.iconst 1, 1) := by decide +kernel
theorem dX5_another_193 : decode cX5_another 193 = .ok (.iadd, 1) := by decide +kernel
theorem dX5_another_194 : decode cX5_another 194 = .ok (.iastore, 1) := by decide +kernel
theorem dX5_another_195 : decode cX5_another 195 = .ok (.iinc 2 1, 3) := by decide +kernel
theorem dX5_another_198 : decode cX5_another 198 = .ok (.goto (-70), 3) := by decide +kernel
theorem dX5_another_201 : decode cX5_another 201 = .ok (.iload_n 1, 1) := by decide +kernel
theorem dX5_another_202 : decode cX5_another 202 = .ok (.ireturn, 1) := by decide +kernel
set_option maxRecDepth 20000 in
theorem ggX5_spread_X5_another : GoodIn wsX5_spread wsX5_another := goodIn_r _ [11, 1, 12, 3, 13, 14, 2, 15, 16, 5, 6, 17, 18, 10, 19, 24, 25, 26, 27, 28, 29, 30, 31, 32, 33, 34, 35, 36, 37, 38, 39] (by decide +kernel) (by decide +kernel)
set_option maxRecDepth 20000 in
theorem gX5_spread_X5_another : GoodIn wsX5_spread (wsV RX5 76 RX5 yX5_another wsX5_another) := goodIn_app (goodIn_of _ (by decide +kernel)) ggX5_spread_X5_another
set_option maxRecDepth 20000 in
theorem ggX5_spread_X5_unknown : GoodIn wsX5_spread wsX5_unknown := goodIn_r _ [23, 1, 2, 24, 25, 26, 27, 28, 29, 30, 31, 32, 33, 34, 35, 36, 37, 38, 39] (by decide +kernel) (by decide +kernel)
set_option maxRecDepth 20000 in
theorem gX5_spread_X5_unknown : GoodIn wsX5_spread (wsV RX5 80 RX5 yX5_unknown wsX5_unknown) := goodIn_app (goodIn_of _ (by decide +kernel)) ggX5_spread_X5_unknown
theorem dX5_spread_0 : decode cX5_spread 0 = .ok (.iconst 0, 1) := by decide +kernel
theorem dX5_spread_1 : decode cX5_spread 1 = .ok (.istore_n 1, 1) := by decide +kernel
theorem dX5_spread_2 : decode cX5_spread 2 = .ok (.iload_n 1, 1) := by decide +kernel
theorem dX5_spread_3 : decode cX5_spread 3 = .ok (.aload_n 0, 1) := by decide +kernel
theorem dX5_spread_4 : decode cX5_spread 4 = .ok (.getfield 48, 3) := by decide +kernel
theorem dX5_spread_7 : decode cX5_spread 7 = .ok (.if_icmp .ge 56, 3) := by decide +kernel
theorem dX5_spread_10 : decode cX5_spread 10 = .ok (.aload_n 0, 1) := by decide +kernel
theorem dX5_spread_11 : decode cX5_spread 11 = .ok (.getfield 26, 3) := by decide +kernel
theorem dX5_spread_14 : decode cX5_spread 14 = .ok (.iload_n 1, 1) := by decide +kernel
theorem dX5_spread_15 : decode cX5_spread 15 = .ok (.aload_n 0, 1) := by decide +kernel
theorem dX5_spread_16 : decode cX5_spread 16 = .ok (.getfield 7, 3) := by decide +kernel
theorem dX5_spread_19 : decode cX5_spread 19 = .ok (.iload_n 1, 1) := by decide +kernel
theorem dX5_spread_20 : decode cX5_spread 20 = .ok (.iaload, 1) := by decide +kernel
theorem dX5_spread_21 : decode cX5_spread 21 = .ok (.iconst 2, 1) := by decide +kernel
theorem dX5_spread_22 : decode cX5_spread 22 = .ok (.if_icmp .ge 12, 3) := by decide +kernel
theorem dX5_spread_25 : decode cX5_spread 25 = .ok (.aload_n 0, 1) := by decide +kernel
theorem dX5_spread_26 : decode cX5_spread 26 = .ok (.getfield 13, 3) := by decide +kernel
theorem dX5_spread_29 : decode cX5_spread 29 = .ok (.iload_n 1, 1) := by decide +kernel
theorem dX5_spread_30 : decode cX5_spread 30 = .ok (.iaload, 1) := by decide +kernel
theorem dX5_spread_31 : decode cX5_spread 31 = .ok (.goto 4, 3) := by decide +kernel
theorem dX5_spread_34 : decode cX5_spread 34 = .ok (.iconst 2, 1) := by decide +kernel
theorem dX5_spread_35 : decode cX5_spread 35 = .ok (.iastore, 1) := by decide +kernel
theorem dX5_spread_36 : decode cX5_spread 36 = .ok (.aload_n 0, 1) := by decide +kernel
theorem dX5_spread_37 : decode cX5_spread 37 = .ok (.getfield 32, 3) := by decide +kernel
theorem dX5_spread_40 : decode cX5_spread 40 = .ok (.iload_n 1, 1) := by decide +kernel
theorem dX5_spread_41 : decode cX5_spread 41 = .ok (.aload_n 0, 1) := by decide +kernel
theorem dX5_spread_42 : decode cX5_spread 42 = .ok (.getfield 26, 3) := by decide +kernel
theorem dX5_spread_45 : decode cX5_spread 45 = .ok (.iload_n 1, 1) := by decide +kernel
theorem dX5_spread_46 : decode cX5_spread 46 = .ok (.iaload, 1) := by decide +kernel
theorem dX5_spread_47 : decode cX5_spread 47 = .ok (.iconst 2, 1) := by decide +kernel
theorem dX5_spread_48 : decode cX5_spread 48 = .ok (.if_icmp .ne 7, 3) := by decide +kernel
theorem dX5_spread_51 : decode cX5_spread 51 = .ok (.iconst (-1), 1) := by decide +kernel
theorem dX5_spread_52 : decode cX5_spread 52 = .ok (.goto 4, 3) := by decide +kernel
theorem dX5_spread_55 : decode cX5_spread 55 = .ok (.iconst 0, 1) := by decide +kernel
theorem dX5_spread_56 : decode cX5_spread 56 = .ok (.iastore, 1) := by decide +kernel
theorem dX5_spread_57 : decode cX5_spread 57 = .ok (.iinc 1 1, 3) := by decide +kernel
theorem dX5_spread_60 : decode cX5_spread 60 = .ok (.goto (-58), 3) := by decide +kernel
theorem dX5_spread_63 : decode cX5_spread 63 = .ok (.aload_n 0, 1) := by decide +kernel
theorem dX5_spread_64 : decode cX5_spread 64 = .ok (.iconst 0, 1) := by decide +kernel
theorem dX5_spread_65 : decode cX5_spread 65 = .ok (.putfield 73, 3) := by decide +kernel
theorem dX5_spread_68 : decode cX5_spread 68 = .ok (.aload_n 0, 1) := by decide +kernel
theorem dX5_spread_69 : decode cX5_spread 69 = .ok (.invokevirtual 76, 3) := by decide +kernel
theorem dX5_spread_72 : decode cX5_spread 72 = .ok (.ifCond .eq 16, 3) := by decide +kernel
theorem dX5_spread_75 : decode cX5_spread 75 = .ok (.aload_n 0, 1) := by decide +kernel
theorem dX5_spread_76 : decode cX5_spread 76 = .ok (.dup, 1) := by decide +kernel
theorem dX5_spread_77 : decode cX5_spread 77 = .ok (.getfield 73, 3) := by decide +kernel
theorem dX5_spread_80 : decode cX5_spread 80 = .ok (.iconst 1, 1) := by decide +kernel
theorem dX5_spread_81 : decode cX5_spread 81 = .ok (.iadd, 1) := by decide +kernel
theorem dX5_spread_82 : decode cX5_spread 82 = .ok (.putfield 73, 3) := by decide +kernel
theorem dX5_spread_85 : decode cX5_spread 85 = .ok (.goto (-17), 3) := by decide +kernel
theorem dX5_spread_88 : decode cX5_spread 88 = .ok (.aload_n 0, 1) := by decide +kernel
theorem dX5_spread_89 : decode cX5_spread 89 = .ok (.invokevirtual 80, 3) := by decide +kernel
theorem dX5_spread_92 : decode cX5_spread 92 = .ok (.ifCond .ne 7, 3) := by decide +kernel
theorem dX5_spread_95 : decode cX5_spread 95 = .ok (.iconst 1, 1) := by decide +kernel
theorem dX5_spread_96 : decode cX5_spread 96 = .ok (.goto 4, 3) := by decide +kernel
theorem dX5_spread_99 : decode cX5_spread 99 = .ok (.iconst 0, 1) := by decide +kernel
theorem dX5_spread_100 : decode cX5_spread 100 = .ok (.ireturn, 1) := by decide +kernel
theorem dX5_unknown_0 : decode cX5_unknown 0 = .ok (.iconst 0, 1) := by decide +kernel
theorem dX5_unknown_1 : decode cX5_unknown 1 = .ok (.istore_n 1, 1) := by decide +kernel
theorem dX5_unknown_2 : decode cX5_unknown 2 = .ok (.iconst 0, 1) := by decide +kernel
theorem dX5_unknown_3 : decode cX5_unknown 3 = .ok (.istore_n 2, 1) := by decide +kernel
theorem dX5_unknown_4 : decode cX5_unknown 4 = .ok (.iload_n 2, 1) := by decide +kernel
theorem dX5_unknown_5 : decode cX5_unknown 5 = .ok (.aload_n 0, 1) := by decide +kernel
theorem dX5_unknown_6 : decode cX5_unknown 6 = .ok (.getfield 48, 3) := by decide +kernel
theorem dX5_unknown_9 : decode cX5_unknown 9 = .ok (.if_icmp .ge 27, 3) := by decide +kernel
theorem dX5_unknown_12 : decode cX5_unknown 12 = .ok (.iload_n 1, 1) := by decide +kernel
theorem dX5_unknown_13 : decode cX5_unknown 13 = .ok (.aload_n 0, 1) := by decide +kernel
theorem dX5_unknown_14 : decode cX5_unknown 14 = .ok (.getfield 26, 3) := by decide +kernel
theorem dX5_unknown_17 : decode cX5_unknown 17 = .ok (.iload_n 2, 1) := by decide +kernel
theorem dX5_unknown_18 : decode cX5_unknown 18 = .ok (.iaload, 1) := by decide +kernel
theorem dX5_unknown_19 : decode cX5_unknown 19 = .ok (.iconst 2, 1) := by decide +kernel
theorem dX5_unknown_20 : decode cX5_unknown 20 = .ok (.if_icmp .ne 7, 3) := by decide +kernel
theorem dX5_unknown_23 : decode cX5_unknown 23 = .ok (.iconst 1, 1) := by decide +kernel
theorem dX5_unknown_24 : decode cX5_unknown 24 = .ok (.goto 4, 3) := by decide +kernel
theorem dX5_unknown_27 : decode cX5_unknown 27 = .ok (.iconst 0, 1) := by decide +kernel
theorem dX5_unknown_28 : decode cX5_unknown 28 = .ok (.iadd, 1) := by decide +kernel
theorem dX5_unknown_29 : decode cX5_unknown 29 = .ok (.istore_n 1, 1) := by decide +kernel
theorem dX5_unknown_30 : decode cX5_unknown 30 = .ok (.iinc 2 1, 3) := by decide +kernel
theorem dX5_unknown_33 : decode cX5_unknown 33 = .ok (.goto (-29), 3) := by decide +kernel
theorem dX5_unknown_36 : decode cX5_unknown 36 = .ok (.iload_n 1, 1) := by decide +kernel
theorem dX5_unknown_37 : decode cX5_unknown 37 = .ok (.ireturn, 1) := by decide +kernel
set_option maxRecDepth 20000 in
theorem ggX5_value_X5_isGate : GoodIn wsX5_value wsX5_isGate := goodIn_r _ [6, 7, 37, 38, 39, 40, 41, 42, 43, 44, 45, 46, 47, 48, 49, 50, 51, 52] (by decide +kernel) (by decide +kernel)
set_option maxRecDepth 20000 in
theorem gX5_value_X5_isGate : GoodIn wsX5_value (wsV RX5 61 RX5 yX5_isGate wsX5_isGate) := goodIn_app (goodIn_of _ (by decide +kernel)) ggX5_value_X5_isGate
set_option maxRecDepth 20000 in
theorem ggX5_value_X5_fails : GoodIn wsX5_value wsX5_fails := goodIn_r _ [11, 12, 37, 38, 39, 40, 41, 42, 43, 44, 45, 46, 47, 48, 49, 50, 51, 52] (by decide +kernel) (by decide +kernel)
set_option maxRecDepth 20000 in
theorem gX5_value_X5_fails : GoodIn wsX5_value (wsV RX5 51 RX5 yX5_fails wsX5_fails) := goodIn_app (goodIn_of _ (by decide +kernel)) ggX5_value_X5_fails
set_option maxRecDepth 20000 in
theorem ggX5_value_X5_spread : GoodIn wsX5_value wsX5_spread := goodIn_r _ [16, 7, 1, 17, 18, 19, 20, 21, 22, 23, 5, 24, 25, 26, 27, 28, 29, 30, 31, 32, 33, 34, 35, 36, 37, 38, 39, 40, 41, 42, 43, 44, 45, 46, 47, 48, 49, 50, 51, 52] (by decide +kernel) (by decide +kernel)
set_option maxRecDepth 20000 in
theorem gX5_value_X5_spread : GoodIn wsX5_value (wsV RX5 84 RX5 yX5_spread wsX5_spread) := goodIn_app (goodIn_of _ (by decide +kernel)) ggX5_value_X5_spread
theorem dX5_value_0 : decode cX5_value 0 = .ok (.aload_n 0, 1) := by decide +kernel
theorem dX5_value_1 : decode cX5_value 1 = .ok (.aload_n 0, 1) := by decide +kernel
theorem dX5_value_2 : decode cX5_value 2 = .ok (.iload_n 1, 1) := by decide +kernel
theorem dX5_value_3 : decode cX5_value 3 = .ok (.invokevirtual 61, 3) := by decide +kernel
theorem dX5_value_6 : decode cX5_value 6 = .ok (.ifCond .ne 7, 3) := by decide +kernel
theorem dX5_value_9 : decode cX5_value 9 = .ok (.iconst 1, 1) := by decide +kernel
theorem dX5_value_10 : decode cX5_value 10 = .ok (.goto 4, 3) := by decide +kernel
theorem dX5_value_13 : decode cX5_value 13 = .ok (.iconst 0, 1) := by decide +kernel
theorem dX5_value_14 : decode cX5_value 14 = .ok (.iconst 0, 1) := by decide +kernel
theorem dX5_value_15 : decode cX5_value 15 = .ok (.invokevirtual 51, 3) := by decide +kernel
theorem dX5_value_18 : decode cX5_value 18 = .ok (.ifCond .eq 5, 3) := by decide +kernel
theorem dX5_value_21 : decode cX5_value 21 = .ok (.iconst 0, 1) := by decide +kernel
theorem dX5_value_22 : decode cX5_value 22 = .ok (.ireturn, 1) := by decide +kernel
theorem dX5_value_23 : decode cX5_value 23 = .ok (.aload_n 0, 1) := by decide +kernel
theorem dX5_value_24 : decode cX5_value 24 = .ok (.invokevirtual 84, 3) := by decide +kernel
theorem dX5_value_27 : decode cX5_value 27 = .ok (.pop, 1) := by decide +kernel
theorem dX5_value_28 : decode cX5_value 28 = .ok (.aload_n 0, 1) := by decide +kernel
theorem dX5_value_29 : decode cX5_value 29 = .ok (.getfield 26, 3) := by decide +kernel
theorem dX5_value_32 : decode cX5_value 32 = .ok (.iload_n 1, 1) := by decide +kernel
theorem dX5_value_33 : decode cX5_value 33 = .ok (.iaload, 1) := by decide +kernel
theorem dX5_value_34 : decode cX5_value 34 = .ok (.ireturn, 1) := by decide +kernel
set_option maxRecDepth 20000 in
theorem ggX5_round_X5_isGate : GoodIn wsX5_round wsX5_isGate := goodIn_r _ [6, 7, 37, 38, 39, 40, 41, 42, 43, 44, 45, 46, 47, 48, 49, 50, 51, 52] (by decide +kernel) (by decide +kernel)
set_option maxRecDepth 20000 in
theorem gX5_round_X5_isGate : GoodIn wsX5_round (wsV RX5 61 RX5 yX5_isGate wsX5_isGate) := goodIn_app (goodIn_of _ (by decide +kernel)) ggX5_round_X5_isGate
set_option maxRecDepth 20000 in
theorem ggX5_round_X5_fails : GoodIn wsX5_round wsX5_fails := goodIn_r _ [11, 12, 37, 38, 39, 40, 41, 42, 43, 44, 45, 46, 47, 48, 49, 50, 51, 52] (by decide +kernel) (by decide +kernel)
set_option maxRecDepth 20000 in
theorem gX5_round_X5_fails : GoodIn wsX5_round (wsV RX5 51 RX5 yX5_fails wsX5_fails) := goodIn_app (goodIn_of _ (by decide +kernel)) ggX5_round_X5_fails
set_option maxRecDepth 20000 in
theorem ggX5_round_X5_spread : GoodIn wsX5_round wsX5_spread := goodIn_r _ [16, 7, 17, 18, 19, 1, 20, 21, 22, 23, 5, 24, 25, 26, 27, 28, 29, 30, 31, 32, 33, 34, 35, 36, 37, 38, 39, 40, 41, 42, 43, 44, 45, 46, 47, 48, 49, 50, 51, 52] (by decide +kernel) (by decide +kernel)
set_option maxRecDepth 20000 in
theorem gX5_round_X5_spread : GoodIn wsX5_round (wsV RX5 84 RX5 yX5_spread wsX5_spread) := goodIn_app (goodIn_of _ (by decide +kernel)) ggX5_round_X5_spread
theorem dX5_round_0 : decode cX5_round 0 = .ok (.aload_n 0, 1) := by decide +kernel
theorem dX5_round_1 : decode cX5_round 1 = .ok (.aload_n 0, 1) := by decide +kernel
theorem dX5_round_2 : decode cX5_round 2 = .ok (.iload_n 1, 1) := by decide +kernel
theorem dX5_round_3 : decode cX5_round 3 = .ok (.invokevirtual 61, 3) := by decide +kernel
theorem dX5_round_6 : decode cX5_round 6 = .ok (.ifCond .ne 7, 3) := by decide +kernel
theorem dX5_round_9 : decode cX5_round 9 = .ok (.iconst 1, 1) := by decide +kernel
theorem dX5_round_10 : decode cX5_round 10 = .ok (.goto 4, 3) := by decide +kernel
theorem dX5_round_13 : decode cX5_round 13 = .ok (.iconst 0, 1) := by decide +kernel
theorem dX5_round_14 : decode cX5_round 14 = .ok (.iconst 0, 1) := by decide +kernel
theorem dX5_round_15 : decode cX5_round 15 = .ok (.invokevirtual 51, 3) := by decide +kernel
theorem dX5_round_18 : decode cX5_round 18 = .ok (.ifCond .eq 5, 3) := by decide +kernel
theorem dX5_round_21 : decode cX5_round 21 = .ok (.iconst 0, 1) := by decide +kernel
theorem dX5_round_22 : decode cX5_round 22 = .ok (.ireturn, 1) := by decide +kernel
theorem dX5_round_23 : decode cX5_round 23 = .ok (.aload_n 0, 1) := by decide +kernel
theorem dX5_round_24 : decode cX5_round 24 = .ok (.invokevirtual 84, 3) := by decide +kernel
theorem dX5_round_27 : decode cX5_round 27 = .ok (.pop, 1) := by decide +kernel
theorem dX5_round_28 : decode cX5_round 28 = .ok (.aload_n 0, 1) := by decide +kernel
theorem dX5_round_29 : decode cX5_round 29 = .ok (.getfield 32, 3) := by decide +kernel
theorem dX5_round_32 : decode cX5_round 32 = .ok (.iload_n 1, 1) := by decide +kernel
theorem dX5_round_33 : decode cX5_round 33 = .ok (.iaload, 1) := by decide +kernel
theorem dX5_round_34 : decode cX5_round 34 = .ok (.ireturn, 1) := by decide +kernel
set_option maxRecDepth 20000 in
theorem ggX5_step_X5_spread : GoodIn wsX5_step wsX5_spread := goodIn_r _ [13, 14, 5, 4, 8, 15, 16, 17, 18, 19, 12, 20, 21, 2, 3, 6, 7, 22, 23, 24, 25, 26, 27, 28, 29, 30, 31, 32, 33, 34, 35, 36, 37, 38, 39, 40, 41, 42, 43, 44] (by decide +kernel) (by decide +kernel)
set_option maxRecDepth 20000 in
theorem gX5_step_X5_spread : GoodIn wsX5_step (wsV RX5 84 RX5 yX5_spread wsX5_spread) := goodIn_app (goodIn_of _ (by decide +kernel)) ggX5_step_X5_spread
set_option maxRecDepth 20000 in
theorem ggX5_step_X5_taken : GoodIn wsX5_step wsX5_taken := goodIn_r _ [24] (by decide +kernel) (by decide +kernel)
set_option maxRecDepth 20000 in
theorem gX5_step_X5_taken : GoodIn wsX5_step (va_wsS RX5 69 yX5_taken wsX5_taken) := goodIn_app (goodIn_of _ (by decide +kernel)) ggX5_step_X5_taken
theorem dX5_step_0 : decode cX5_step 0 = .ok (.aload_n 0, 1) := by decide +kernel
theorem dX5_step_1 : decode cX5_step 1 = .ok (.iconst 0, 1) := by decide +kernel
theorem dX5_step_2 : decode cX5_step 2 = .ok (.putfield 44, 3) := by decide +kernel
theorem dX5_step_5 : decode cX5_step 5 = .ok (.aload_n 0, 1) := by decide +kernel
theorem dX5_step_6 : decode cX5_step 6 = .ok (.invokevirtual 84, 3) := by decide +kernel
theorem dX5_step_9 : decode cX5_step 9 = .ok (.ifCond .ne 5, 3) := by decide +kernel
theorem dX5_step_12 : decode cX5_step 12 = .ok (.iconst (-1), 1) := by decide +kernel
theorem dX5_step_13 : decode cX5_step 13 = .ok (.ireturn, 1) := by decide +kernel
theorem dX5_step_14 : decode cX5_step 14 = .ok (.iconst 0, 1) := by decide +kernel
theorem dX5_step_15 : decode cX5_step 15 = .ok (.istore_n 1, 1) := by decide +kernel
theorem dX5_step_16 : decode cX5_step 16 = .ok (.iconst 0, 1) := by decide +kernel
theorem dX5_step_17 : decode cX5_step 17 = .ok (.istore_n 2, 1) := by decide +kernel
theorem dX5_step_18 : decode cX5_step 18 = .ok (.iload_n 2, 1) := by decide +kernel
theorem dX5_step_19 : decode cX5_step 19 = .ok (.aload_n 0, 1) := by decide +kernel
theorem dX5_step_20 : decode cX5_step 20 = .ok (.getfield 58, 3) := by decide +kernel
theorem dX5_step_23 : decode cX5_step 23 = .ok (.if_icmp .ge 78, 3) := by decide +kernel
theorem dX5_step_26 : decode cX5_step 26 = .ok (.aload_n 0, 1) := by decide +kernel
theorem dX5_step_27 : decode cX5_step 27 = .ok (.getfield 16, 3) := by decide +kernel
theorem dX5_step_30 : decode cX5_step 30 = .ok (.iload_n 2, 1) := by decide +kernel
theorem dX5_step_31 : decode cX5_step 31 = .ok (.iaload, 1) := by decide +kernel
theorem dX5_step_32 : decode cX5_step 32 = .ok (.istore_n 3, 1) := by decide +kernel
theorem dX5_step_33 : decode cX5_step 33 = .ok (.aload_n 0, 1) := by decide +kernel
theorem dX5_step_34 : decode cX5_step 34 = .ok (.getfield 7, 3) := by decide +kernel
theorem dX5_step_37 : decode cX5_step 37 = .ok (.iload_n 3, 1) := by decide +kernel
theorem dX5_step_38 : decode cX5_step 38 = .ok (.iaload, 1) := by decide +kernel
theorem dX5_step_39 : decode cX5_step 39 = .ok (.iconst 1, 1) := by decide +kernel
theorem dX5_step_40 : decode cX5_step 40 = .ok (.if_icmp .eq 6, 3) := by decide +kernel
theorem dX5_step_43 : decode cX5_step 43 = .ok (.goto 52, 3) := by decide +kernel
theorem dX5_step_46 : decode cX5_step 46 = .ok (.aload_n 0, 1) := by decide +kernel
theorem dX5_step_47 : decode cX5_step 47 = .ok (.getfield 26, 3) := by decide +kernel
theorem dX5_step_50 : decode cX5_step 50 = .ok (.aload_n 0, 1) := by decide +kernel
theorem dX5_step_51 : decode cX5_step 51 = .ok (.getfield 19, 3) := by decide +kernel
theorem dX5_step_54 : decode cX5_step 54 = .ok (.iload_n 2, 1) := by decide +kernel
theorem dX5_step_55 : decode cX5_step 55 = .ok (.iaload, 1) := by decide +kernel
theorem dX5_step_56 : decode cX5_step 56 = .ok (.iaload, 1) := by decide +kernel
theorem dX5_step_57 : decode cX5_step 57 = .ok (.aload_n 0, 1) := by decide +kernel
theorem dX5_step_58 : decode cX5_step 58 = .ok (.getfield 22, 3) := by decide +kernel
theorem dX5_step_61 : decode cX5_step 61 = .ok (.iload_n 2, 1) := by decide +kernel
theorem dX5_step_62 : decode cX5_step 62 = .ok (.baload, 1) := by decide +kernel
theorem dX5_step_63 : decode cX5_step 63 = .ok (.invokestatic 69, 3) := by decide +kernel
theorem dX5_step_66 : decode cX5_step 66 = .ok (.istore 4, 2) := by decide +kernel
theorem dX5_step_68 : decode cX5_step 68 = .ok (.iload_n 1, 1) := by decide +kernel
theorem dX5_step_69 : decode cX5_step 69 = .ok (.iload 4, 2) := by decide +kernel
theorem dX5_step_71 : decode cX5_step 71 = .ok (.aload_n 0, 1) := by decide +kernel
theorem dX5_step_72 : decode cX5_step 72 = .ok (.getfield 13, 3) := by decide +kernel
theorem dX5_step_75 : decode cX5_step 75 = .ok (.iload_n 3, 1) := by decide +kernel
theorem dX5_step_76 : decode cX5_step 76 = .ok (.iaload, 1) := by decide +kernel
theorem dX5_step_77 : decode cX5_step 77 = .ok (.if_icmp .eq 7, 3) := by decide +kernel
theorem dX5_step_80 : decode cX5_step 80 = .ok (.iconst 1, 1) := by decide +kernel
theorem dX5_step_81 : decode cX5_step 81 = .ok (.goto 4, 3) := by decide +kernel
theorem dX5_step_84 : decode cX5_step 84 = .ok (.iconst 0, 1) := by decide +kernel
theorem dX5_step_85 : decode cX5_step 85 = .ok (.iadd, 1) := by decide +kernel
theorem dX5_step_86 : decode cX5_step 86 = .ok (.istore_n 1, 1) := by decide +kernel
theorem dX5_step_87 : decode cX5_step 87 = .ok (.aload_n 0, 1) := by decide +kernel
theorem dX5_step_88 : decode cX5_step 88 = .ok (.getfield 13, 3) := by decide +kernel
theorem dX5_step_91 : decode cX5_step 91 = .ok (.iload_n 3, 1) := by decide +kernel
theorem dX5_step_92 : decode cX5_step 92 = .ok (.iload 4, 2) := by decide +kernel
theorem dX5_step_94 : decode cX5_step 94 = .ok (.iastore, 1) := by decide +kernel
theorem dX5_step_95 : decode cX5_step 95 = .ok (.iinc 2 1, 3) := by decide +kernel
theorem dX5_step_98 : decode cX5_step 98 = .ok (.goto (-80), 3) := by decide +kernel
theorem dX5_step_101 : decode cX5_step 101 = .ok (.iload_n 1, 1) := by decide +kernel
theorem dX5_step_102 : decode cX5_step 102 = .ok (.ireturn, 1) := by decide +kernel
theorem dX5_reset_0 : decode cX5_reset 0 = .ok (.aload_n 0, 1) := by decide +kernel
theorem dX5_reset_1 : decode cX5_reset 1 = .ok (.iconst 0, 1) := by decide +kernel
theorem dX5_reset_2 : decode cX5_reset 2 = .ok (.putfield 44, 3) := by decide +kernel
theorem dX5_reset_5 : decode cX5_reset 5 = .ok (.iconst 0, 1) := by decide +kernel
theorem dX5_reset_6 : decode cX5_reset 6 = .ok (.istore_n 1, 1) := by decide +kernel
theorem dX5_reset_7 : decode cX5_reset 7 = .ok (.iconst 0, 1) := by decide +kernel
theorem dX5_reset_8 : decode cX5_reset 8 = .ok (.istore_n 2, 1) := by decide +kernel
theorem dX5_reset_9 : decode cX5_reset 9 = .ok (.iload_n 2, 1) := by decide +kernel
theorem dX5_reset_10 : decode cX5_reset 10 = .ok (.aload_n 0, 1) := by decide +kernel
theorem dX5_reset_11 : decode cX5_reset 11 = .ok (.getfield 48, 3) := by decide +kernel
theorem dX5_reset_14 : decode cX5_reset 14 = .ok (.if_icmp .ge 38, 3) := by decide +kernel
theorem dX5_reset_17 : decode cX5_reset 17 = .ok (.aload_n 0, 1) := by decide +kernel
theorem dX5_reset_18 : decode cX5_reset 18 = .ok (.getfield 7, 3) := by decide +kernel
theorem dX5_reset_21 : decode cX5_reset 21 = .ok (.iload_n 2, 1) := by decide +kernel
theorem dX5_reset_22 : decode cX5_reset 22 = .ok (.iaload, 1) := by decide +kernel
theorem dX5_reset_23 : decode cX5_reset 23 = .ok (.iconst 1, 1) := by decide +kernel
theorem dX5_reset_24 : decode cX5_reset 24 = .ok (.if_icmp .eq 6, 3) := by decide +kernel
theorem dX5_reset_27 : decode cX5_reset 27 = .ok (.goto 19, 3) := by decide +kernel
theorem dX5_reset_30 : decode cX5_reset 30 = .ok (.iload_n 1, 1) := by decide +kernel
theorem dX5_reset_31 : decode cX5_reset 31 = .ok (.aload_n 0, 1) := by decide +kernel
theorem dX5_reset_32 : decode cX5_reset 32 = .ok (.getfield 13, 3) := by decide +kernel
theorem dX5_reset_35 : decode cX5_reset 35 = .ok (.iload_n 2, 1) := by decide +kernel
theorem dX5_reset_36 : decode cX5_reset 36 = .ok (.iaload, 1) := by decide +kernel
theorem dX5_reset_37 : decode cX5_reset 37 = .ok (.iadd, 1) := by decide +kernel
theorem dX5_reset_38 : decode cX5_reset 38 = .ok (.istore_n 1, 1) := by decide +kernel
theorem dX5_reset_39 : decode cX5_reset 39 = .ok (.aload_n 0, 1) := by decide +kernel
theorem dX5_reset_40 : decode cX5_reset 40 = .ok (.getfield 13, 3) := by decide +kernel
theorem dX5_reset_43 : decode cX5_reset 43 = .ok (.iload_n 2, 1) := by decide +kernel
theorem dX5_reset_44 : decode cX5_reset 44 = .ok (.iconst 0, 1) := by decide +kernel
theorem dX5_reset_45 : decode cX5_reset 45 = .ok (.iastore, 1) := by decide +kernel
theorem dX5_reset_46 : decode cX5_reset 46 = .ok (.iinc 2 1, 3) := by decide +kernel
theorem dX5_reset_49 : decode cX5_reset 49 = .ok (.goto (-40), 3) := by decide +kernel
theorem dX5_reset_52 : decode cX5_reset 52 = .ok (.iload_n 1, 1) := by decide +kernel
theorem dX5_reset_53 : decode cX5_reset 53 = .ok (.ireturn, 1) := by decide +kernel
set_option maxRecDepth 20000 in
theorem ggX5_blame_X5_isGate : GoodIn wsX5_blame wsX5_isGate := goodIn_r _ [10, 11, 37, 38, 39, 40, 41, 42, 43, 44, 45, 46, 47, 48, 49, 50, 51, 52] (by decide +kernel) (by decide +kernel)
set_option maxRecDepth 20000 in
theorem gX5_blame_X5_isGate : GoodIn wsX5_blame (wsV RX5 61 RX5 yX5_isGate wsX5_isGate) := goodIn_app (goodIn_of _ (by decide +kernel)) ggX5_blame_X5_isGate
set_option maxRecDepth 20000 in
theorem ggX5_blame_X5_fails : GoodIn wsX5_blame wsX5_fails := goodIn_r _ [15, 16, 37, 38, 39, 40, 41, 42, 43, 44, 45, 46, 47, 48, 49, 50, 51, 52] (by decide +kernel) (by decide +kernel)
set_option maxRecDepth 20000 in
theorem gX5_blame_X5_fails : GoodIn wsX5_blame (wsV RX5 51 RX5 yX5_fails wsX5_fails) := goodIn_app (goodIn_of _ (by decide +kernel)) ggX5_blame_X5_fails
set_option maxRecDepth 20000 in
theorem ggX5_blame_X5_spread : GoodIn wsX5_blame wsX5_spread := goodIn_r _ [20, 11, 1, 2, 21, 22, 23, 24, 25, 26, 9, 27, 28, 3, 4, 5, 29, 30, 31, 32, 33, 34, 35, 36, 37, 38, 39, 40, 41, 42, 43, 44, 45, 46, 47, 48, 49, 50, 51, 52] (by decide +kernel) (by decide +kernel)
set_option maxRecDepth 20000 in
theorem gX5_blame_X5_spread : GoodIn wsX5_blame (wsV RX5 84 RX5 yX5_spread wsX5_spread) := goodIn_app (goodIn_of _ (by decide +kernel)) ggX5_blame_X5_spread
theorem dX5_blame_0 : decode cX5_blame 0 = .ok (.aload_n 0, 1) := by decide +kernel
theorem dX5_blame_1 : decode cX5_blame 1 = .ok (.aload_n 0, 1) := by decide +kernel
theorem dX5_blame_2 : decode cX5_blame 2 = .ok (.iload_n 1, 1) := by decide +kernel
theorem dX5_blame_3 : decode cX5_blame 3 = .ok (.invokevirtual 61, 3) := by decide +kernel
theorem dX5_blame_6 : decode cX5_blame 6 = .ok (.ifCond .ne 7, 3) := by decide +kernel
theorem dX5_blame_9 : decode cX5_blame 9 = .ok (.iconst 1, 1) := by decide +kernel
theorem dX5_blame_10 : decode cX5_blame 10 = .ok (.goto 4, 3) := by decide +kernel
theorem dX5_blame_13 : decode cX5_blame 13 = .ok (.iconst 0, 1) := by decide +kernel
theorem dX5_blame_14 : decode cX5_blame 14 = .ok (.iconst 0, 1) := by decide +kernel
theorem dX5_blame_15 : decode cX5_blame 15 = .ok (.invokevirtual 51, 3) := by decide +kernel
theorem dX5_blame_18 : decode cX5_blame 18 = .ok (.ifCond .eq 5, 3) := by decide +kernel
theorem dX5_blame_21 : decode cX5_blame 21 = .ok (.iconst 0, 1) := by decide +kernel
theorem dX5_blame_22 : decode cX5_blame 22 = .ok (.ireturn, 1) := by decide +kernel
theorem dX5_blame_23 : decode cX5_blame 23 = .ok (.aload_n 0, 1) := by decide +kernel
theorem dX5_blame_24 : decode cX5_blame 24 = .ok (.invokevirtual 84, 3) := by decide +kernel
theorem dX5_blame_27 : decode cX5_blame 27 = .ok (.pop, 1) := by decide +kernel
theorem dX5_blame_28 : decode cX5_blame 28 = .ok (.aload_n 0, 1) := by decide +kernel
theorem dX5_blame_29 : decode cX5_blame 29 = .ok (.getfield 26, 3) := by decide +kernel
theorem dX5_blame_32 : decode cX5_blame 32 = .ok (.iload_n 1, 1) := by decide +kernel
theorem dX5_blame_33 : decode cX5_blame 33 = .ok (.iaload, 1) := by decide +kernel
