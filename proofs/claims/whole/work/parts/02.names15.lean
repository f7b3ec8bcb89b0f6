theorem dX5_feedsOf_20 : decode cX5_feedsOf 20 = .ok (.if_icmp .ne 7, 3) := by decide +kernel
theorem dX5_feedsOf_23 : decode cX5_feedsOf 23 = .ok (.iconst 1, 1) := by decide +kernel
theorem dX5_feedsOf_24 : decode cX5_feedsOf 24 = .ok (.goto 4, 3) := by decide +kernel
theorem dX5_feedsOf_27 : decode cX5_feedsOf 27 = .ok (.iconst 0, 1) := by decide +kernel
theorem dX5_feedsOf_28 : decode cX5_feedsOf 28 = .ok (.iadd, 1) := by decide +kernel
theorem dX5_feedsOf_29 : decode cX5_feedsOf 29 = .ok (.istore_n 2, 1) := by decide +kernel
theorem dX5_feedsOf_30 : decode cX5_feedsOf 30 = .ok (.iinc 3 1, 3) := by decide +kernel
theorem dX5_feedsOf_33 : decode cX5_feedsOf 33 = .ok (.goto (-29), 3) := by decide +kernel
theorem dX5_feedsOf_36 : decode cX5_feedsOf 36 = .ok (.iload_n 2, 1) := by decide +kernel
theorem dX5_feedsOf_37 : decode cX5_feedsOf 37 = .ok (.ireturn, 1) := by decide +kernel
set_option maxRecDepth 20000 in
theorem ggX5_feed_X5_isGate : GoodIn wsX5_feed wsX5_isGate := goodIn_r _ [10, 11, 21, 22, 23, 24, 25, 26, 27, 28, 29, 30, 31, 32, 33, 34, 35, 36] (by decide +kernel) (by decide +kernel)
set_option maxRecDepth 20000 in
theorem gX5_feed_X5_isGate : GoodIn wsX5_feed (wsV RX5 61 RX5 yX5_isGate wsX5_isGate) := goodIn_app (goodIn_of _ (by decide +kernel)) ggX5_feed_X5_isGate
set_option maxRecDepth 20000 in
theorem ggX5_feed_X5_feedsOf : GoodIn wsX5_feed wsX5_feedsOf := goodIn_r _ [15, 2, 3, 21, 22, 23, 24, 25, 26, 27, 28, 29, 30, 31, 32, 33, 34, 35, 36] (by decide +kernel) (by decide +kernel)
set_option maxRecDepth 20000 in
theorem gX5_feed_X5_feedsOf : GoodIn wsX5_feed (wsV RX5 65 RX5 yX5_feedsOf wsX5_feedsOf) := goodIn_app (goodIn_of _ (by decide +kernel)) ggX5_feed_X5_feedsOf
set_option maxRecDepth 20000 in
theorem ggX5_feed_X5_fails : GoodIn wsX5_feed wsX5_fails := goodIn_r _ [19, 20, 21, 22, 23, 24, 25, 26, 27, 28, 29, 30, 31, 32, 33, 34, 35, 36] (by decide +kernel) (by decide +kernel)
set_option maxRecDepth 20000 in
theorem gX5_feed_X5_fails : GoodIn wsX5_feed (wsV RX5 51 RX5 yX5_fails wsX5_fails) := goodIn_app (goodIn_of _ (by decide +kernel)) ggX5_feed_X5_fails
theorem dX5_feed_0 : decode cX5_feed 0 = .ok (.aload_n 0, 1) := by decide +kernel
theorem dX5_feed_1 : decode cX5_feed 1 = .ok (.iload_n 1, 1) := by decide +kernel
theorem dX5_feed_2 : decode cX5_feed 2 = .ok (.invokevirtual 61, 3) := by decide +kernel
theorem dX5_feed_5 : decode cX5_feed 5 = .ok (.ifCond .eq 15, 3) := by decide +kernel
theorem dX5_feed_8 : decode cX5_feed 8 = .ok (.aload_n 0, 1) := by decide +kernel
theorem dX5_feed_9 : decode cX5_feed 9 = .ok (.iload_n 2, 1) := by decide +kernel
theorem dX5_feed_10 : decode cX5_feed 10 = .ok (.invokevirtual 61, 3) := by decide +kernel
theorem dX5_feed_13 : decode cX5_feed 13 = .ok (.ifCond .eq 7, 3) := by decide +kernel
theorem dX5_feed_16 : decode cX5_feed 16 = .ok (.iconst 1, 1) := by decide +kernel
theorem dX5_feed_17 : decode cX5_feed 17 = .ok (.goto 4, 3) := by decide +kernel
theorem dX5_feed_20 : decode cX5_feed 20 = .ok (.iconst 0, 1) := by decide +kernel
theorem dX5_feed_21 : decode cX5_feed 21 = .ok (.istore 4, 2) := by decide +kernel
theorem dX5_feed_23 : decode cX5_feed 23 = .ok (.aload_n 0, 1) := by decide +kernel
theorem dX5_feed_24 : decode cX5_feed 24 = .ok (.iload 4, 2) := by decide +kernel
theorem dX5_feed_26 : decode cX5_feed 26 = .ok (.ifCond .ne 7, 3) := by decide +kernel
theorem dX5_feed_29 : decode cX5_feed 29 = .ok (.iconst 1, 1) := by decide +kernel
theorem dX5_feed_30 : decode cX5_feed 30 = .ok (.goto 4, 3) := by decide +kernel
theorem dX5_feed_33 : decode cX5_feed 33 = .ok (.iconst 0, 1) := by decide +kernel
theorem dX5_feed_34 : decode cX5_feed 34 = .ok (.iload 4, 2) := by decide +kernel
theorem dX5_feed_36 : decode cX5_feed 36 = .ok (.ifCond .eq 52, 3) := by decide +kernel
theorem dX5_feed_39 : decode cX5_feed 39 = .ok (.aload_n 0, 1) := by decide +kernel
theorem dX5_feed_40 : decode cX5_feed 40 = .ok (.getfield 7, 3) := by decide +kernel
theorem dX5_feed_43 : decode cX5_feed 43 = .ok (.iload 4, 2) := by decide +kernel
theorem dX5_feed_45 : decode cX5_feed 45 = .ok (.ifCond .eq 7, 3) := by decide +kernel
theorem dX5_feed_48 : decode cX5_feed 48 = .ok (.iload_n 1, 1) := by decide +kernel
theorem dX5_feed_49 : decode cX5_feed 49 = .ok (.goto 4, 3) := by decide +kernel
theorem dX5_feed_52 : decode cX5_feed 52 = .ok (.iconst 0, 1) := by decide +kernel
theorem dX5_feed_53 : decode cX5_feed 53 = .ok (.iaload, 1) := by decide +kernel
theorem dX5_feed_54 : decode cX5_feed 54 = .ok (.ifCond .eq 30, 3) := by decide +kernel
theorem dX5_feed_57 : decode cX5_feed 57 = .ok (.aload_n 0, 1) := by decide +kernel
theorem dX5_feed_58 : decode cX5_feed 58 = .ok (.getfield 7, 3) := by decide +kernel
theorem dX5_feed_61 : decode cX5_feed 61 = .ok (.iload 4, 2) := by decide +kernel
theorem dX5_feed_63 : decode cX5_feed 63 = .ok (.ifCond .eq 7, 3) := by decide +kernel
theorem dX5_feed_66 : decode cX5_feed 66 = .ok (.iload_n 1, 1) := by decide +kernel
theorem dX5_feed_67 : decode cX5_feed 67 = .ok (.goto 4, 3) := by decide +kernel
theorem dX5_feed_70 : decode cX5_feed 70 = .ok (.iconst 0, 1) := by decide +kernel
theorem dX5_feed_71 : decode cX5_feed 71 = .ok (.iaload, 1) := by decide +kernel
theorem dX5_feed_72 : decode cX5_feed 72 = .ok (.iconst 1, 1) := by decide +kernel
theorem dX5_feed_73 : decode cX5_feed 73 = .ok (.if_icmp .ne 15, 3) := by decide +kernel
theorem dX5_feed_76 : decode cX5_feed 76 = .ok (.aload_n 0, 1) := by decide +kernel
theorem dX5_feed_77 : decode cX5_feed 77 = .ok (.iload_n 1, 1) := by decide +kernel
theorem dX5_feed_78 : decode cX5_feed 78 = .ok (.invokevirtual 65, 3) := by decide +kernel
theorem dX5_feed_81 : decode cX5_feed 81 = .ok (.ifCond .le 7, 3) := by decide +kernel
theorem dX5_feed_84 : decode cX5_feed 84 = .ok (.iconst 1, 1) := by decide +kernel
theorem dX5_feed_85 : decode cX5_feed 85 = .ok (.goto 4, 3) := by decide +kernel
theorem dX5_feed_88 : decode cX5_feed 88 = .ok (.iconst 0, 1) := by decide +kernel
theorem dX5_feed_89 : decode cX5_feed 89 = .ok (.invokevirtual 51, 3) := by decide +kernel
theorem dX5_feed_92 : decode cX5_feed 92 = .ok (.ifCond .eq 5, 3) := by decide +kernel
theorem dX5_feed_95 : decode cX5_feed 95 = .ok (.iconst 0, 1) := by decide +kernel
theorem dX5_feed_96 : decode cX5_feed 96 = .ok (.ireturn, 1) := by decide +kernel
theorem dX5_feed_97 : decode cX5_feed 97 = .ok (.aload_n 0, 1) := by decide +kernel
theorem dX5_feed_98 : decode cX5_feed 98 = .ok (.getfield 58, 3) := by decide +kernel
theorem dX5_feed_101 : decode cX5_feed 101 = .ok (.sipush 2400, 3) := by decide +kernel
theorem dX5_feed_104 : decode cX5_feed 104 = .ok (.if_icmp .ne 5, 3) := by decide +kernel
theorem dX5_feed_107 : decode cX5_feed 107 = .ok (.iconst (-1), 1) := by decide +kernel
theorem dX5_feed_108 : decode cX5_feed 108 = .ok (.ireturn, 1) := by decide +kernel
theorem dX5_feed_109 : decode cX5_feed 109 = .ok (.aload_n 0, 1) := by decide +kernel
theorem dX5_feed_110 : decode cX5_feed 110 = .ok (.getfield 16, 3) := by decide +kernel
theorem dX5_feed_113 : decode cX5_feed 113 = .ok (.aload_n 0, 1) := by decide +kernel
theorem dX5_feed_114 : decode cX5_feed 114 = .ok (.getfield 58, 3) := by decide +kernel
theorem dX5_feed_117 : decode cX5_feed 117 = .ok (.iload_n 1, 1) := by decide +kernel
theorem dX5_feed_118 : decode cX5_feed 118 = .ok (.iastore, 1) := by decide +kernel
theorem dX5_feed_119 : decode cX5_feed 119 = .ok (.aload_n 0, 1) := by decide +kernel
theorem dX5_feed_120 : decode cX5_feed 120 = .ok (.getfield 19, 3) := by decide +kernel
theorem dX5_feed_123 : decode cX5_feed 123 = .ok (.aload_n 0, 1) := by decide +kernel
theorem dX5_feed_124 : decode cX5_feed 124 = .ok (.getfield 58, 3) := by decide +kernel
theorem dX5_feed_127 : decode cX5_feed 127 = .ok (.iload_n 2, 1) := by decide +kernel
theorem dX5_feed_128 : decode cX5_feed 128 = .ok (.iastore, 1) := by decide +kernel
theorem dX5_feed_129 : decode cX5_feed 129 = .ok (.aload_n 0, 1) := by decide +kernel
theorem dX5_feed_130 : decode cX5_feed 130 = .ok (.getfield 22, 3) := by decide +kernel
theorem dX5_feed_133 : decode cX5_feed 133 = .ok (.aload_n 0, 1) := by decide +kernel
theorem dX5_feed_134 : decode cX5_feed 134 = .ok (.getfield 58, 3) := by decide +kernel
theorem dX5_feed_137 : decode cX5_feed 137 = .ok (.iload_n 3, 1) := by decide +kernel
theorem dX5_feed_138 : decode cX5_feed 138 = .ok (.bastore, 1) := by decide +kernel
theorem dX5_feed_139 : decode cX5_feed 139 = .ok (.aload_n 0, 1) := by decide +kernel
theorem dX5_feed_140 : decode cX5_feed 140 = .ok (.dup, 1) := by decide +kernel
theorem dX5_feed_141 : decode cX5_feed 141 = .ok (.getfield 58, 3) := by decide +kernel
theorem dX5_feed_144 : decode cX5_feed 144 = .ok (.iconst 1, 1) := by decide +kernel
theorem dX5_feed_145 : decode cX5_feed 145 = .ok (.iadd, 1) := by decide +kernel
theorem dX5_feed_146 : decode cX5_feed 146 = .ok (.putfield 58, 3) := by decide +kernel
theorem dX5_feed_149 : decode cX5_feed 149 = .ok (.aload_n 0, 1) := by decide +kernel
theorem dX5_feed_150 : decode cX5_feed 150 = .ok (.iload_n 1, 1) := by decide +kernel
theorem dX5_feed_151 : decode cX5_feed 151 = .ok (.invokevirtual 65, 3) := by decide +kernel
theorem dX5_feed_154 : decode cX5_feed 154 = .ok (.ireturn, 1) := by decide +kernel
set_option maxRecDepth 20000 in
theorem ggX5_cut_X5_isGate : GoodIn wsX5_cut wsX5_isGate := goodIn_r _ [9, 10, 16, 17, 18, 19, 20, 21, 22, 23, 24, 25, 26, 27, 28, 29, 30, 31] (by decide +kernel) (by decide +kernel)
set_option maxRecDepth 20000 in
theorem gX5_cut_X5_isGate : GoodIn wsX5_cut (wsV RX5 61 RX5 yX5_isGate wsX5_isGate) := goodIn_app (goodIn_of _ (by decide +kernel)) ggX5_cut_X5_isGate
set_option maxRecDepth 20000 in
theorem ggX5_cut_X5_fails : GoodIn wsX5_cut wsX5_fails := goodIn_r _ [14, 15, 16, 17, 18, 19, 20, 21, 22, 23, 24, 25, 26, 27, 28, 29, 30, 31] (by decide +kernel) (by decide +kernel)
set_option maxRecDepth 20000 in
theorem gX5_cut_X5_fails : GoodIn wsX5_cut (wsV RX5 51 RX5 yX5_fails wsX5_fails) := goodIn_app (goodIn_of _ (by decide +kernel)) ggX5_cut_X5_fails
theorem dX5_cut_0 : decode cX5_cut 0 = .ok (.aload_n 0, 1) := by decide +kernel
theorem dX5_cut_1 : decode cX5_cut 1 = .ok (.aload_n 0, 1) := by decide +kernel
theorem dX5_cut_2 : decode cX5_cut 2 = .ok (.iload_n 1, 1) := by decide +kernel
theorem dX5_cut_3 : decode cX5_cut 3 = .ok (.invokevirtual 61, 3) := by decide +kernel
theorem dX5_cut_6 : decode cX5_cut 6 = .ok (.ifCond .ne 7, 3) := by decide +kernel
theorem dX5_cut_9 : decode cX5_cut 9 = .ok (.iconst 1, 1) := by decide +kernel
theorem dX5_cut_10 : decode cX5_cut 10 = .ok (.goto 4, 3) := by decide +kernel
theorem dX5_cut_13 : decode cX5_cut 13 = .ok (.iconst 0, 1) := by decide +kernel
theorem dX5_cut_14 : decode cX5_cut 14 = .ok (.iconst 0, 1) := by decide +kernel
theorem dX5_cut_15 : decode cX5_cut 15 = .ok (.invokevirtual 51, 3) := by decide +kernel
theorem dX5_cut_18 : decode cX5_cut 18 = .ok (.ifCond .eq 5, 3) := by decide +kernel
theorem dX5_cut_21 : decode cX5_cut 21 = .ok (.iconst 0, 1) := by decide +kernel
theorem dX5_cut_22 : decode cX5_cut 22 = .ok (.ireturn, 1) := by decide +kernel
theorem dX5_cut_23 : decode cX5_cut 23 = .ok (.iconst 0, 1) := by decide +kernel
theorem dX5_cut_24 : decode cX5_cut 24 = .ok (.istore_n 2, 1) := by decide +kernel
theorem dX5_cut_25 : decode cX5_cut 25 = .ok (.iconst 0, 1) := by decide +kernel
theorem dX5_cut_26 : decode cX5_cut 26 = .ok (.istore_n 3, 1) := by decide +kernel
theorem dX5_cut_27 : decode cX5_cut 27 = .ok (.iload_n 3, 1) := by decide +kernel
theorem dX5_cut_28 : decode cX5_cut 28 = .ok (.aload_n 0, 1) := by decide +kernel
theorem dX5_cut_29 : decode cX5_cut 29 = .ok (.getfield 58, 3) := by decide +kernel
theorem dX5_cut_32 : decode cX5_cut 32 = .ok (.if_icmp .ge 61, 3) := by decide +kernel
theorem dX5_cut_35 : decode cX5_cut 35 = .ok (.aload_n 0, 1) := by decide +kernel
theorem dX5_cut_36 : decode cX5_cut 36 = .ok (.getfield 16, 3) := by decide +kernel
theorem dX5_cut_39 : decode cX5_cut 39 = .ok (.iload_n 3, 1) := by decide +kernel
theorem dX5_cut_40 : decode cX5_cut 40 = .ok (.iaload, 1) := by decide +kernel
theorem dX5_cut_41 : decode cX5_cut 41 = .ok (.iload_n 1, 1) := by decide +kernel
theorem dX5_cut_42 : decode cX5_cut 42 = .ok (.if_icmp .ne 6, 3) := by decide +kernel
theorem dX5_cut_45 : decode cX5_cut 45 = .ok (.goto 42, 3) := by decide +kernel
theorem dX5_cut_48 : decode cX5_cut 48 = .ok (.aload_n 0, 1) := by decide +kernel
theorem dX5_cut_49 : decode cX5_cut 49 = .ok (.getfield 16, 3) := by decide +kernel
theorem dX5_cut_52 : decode cX5_cut 52 = .ok (.iload_n 2, 1) := by decide +kernel
theorem dX5_cut_53 : decode cX5_cut 53 = .ok (.aload_n 0, 1) := by decide +kernel
theorem dX5_cut_54 : decode cX5_cut 54 = .ok (.getfield 16, 3) := by decide +kernel
theorem dX5_cut_57 : decode cX5_cut 57 = .ok (.iload_n 3, 1) := by decide +kernel
theorem dX5_cut_58 : decode cX5_cut 58 = .ok (.iaload, 1) := by decide +kernel
theorem dX5_cut_59 : decode cX5_cut 59 = .ok (.iastore, 1) := by decide +kernel
theorem dX5_cut_60 : decode cX5_cut 60 = .ok (.aload_n 0, 1) := by decide +kernel
theorem dX5_cut_61 : decode cX5_cut 61 = .ok (.getfield 19, 3) := by decide +kernel
theorem dX5_cut_64 : decode cX5_cut 64 = .ok (.iload_n 2, 1) := by decide +kernel
theorem dX5_cut_65 : decode cX5_cut 65 = .ok (.aload_n 0, 1) := by decide +kernel
theorem dX5_cut_66 : decode cX5_cut 66 = .ok (.getfield 19, 3) := by decide +kernel
theorem dX5_cut_69 : decode cX5_cut 69 = .ok (.iload_n 3, 1) := by decide +kernel
theorem dX5_cut_70 : decode cX5_cut 70 = .ok (.iaload, 1) := by decide +kernel
theorem dX5_cut_71 : decode cX5_cut 71 = .ok (.iastore, 1) := by decide +kernel
theorem dX5_cut_72 : decode cX5_cut 72 = .ok (.aload_n 0, 1) := by decide +kernel
theorem dX5_cut_73 : decode cX5_cut 73 = .ok (.getfield 22, 3) := by decide +kernel
theorem dX5_cut_76 : decode cX5_cut 76 = .ok (.iload_n 2, 1) := by decide +kernel
theorem dX5_cut_77 : decode cX5_cut 77 = .ok (.aload_n 0, 1) := by decide +kernel
theorem dX5_cut_78 : decode cX5_cut 78 = .ok (.getfield 22, 3) := by decide +kernel
theorem dX5_cut_81 : decode cX5_cut 81 = .ok (.iload_n 3, 1) := by decide +kernel
theorem dX5_cut_82 : decode cX5_cut 82 = .ok (.baload, 1) := by decide +kernel
theorem dX5_cut_83 : decode cX5_cut 83 = .ok (.bastore, 1) := by decide +kernel
theorem dX5_cut_84 : decode cX5_cut 84 = .ok (.iinc 2 1, 3) := by decide +kernel
theorem dX5_cut_87 : decode cX5_cut 87 = .ok (.iinc 3 1, 3) := by decide +kernel
theorem dX5_cut_90 : decode cX5_cut 90 = .ok (.goto (-63), 3) := by decide +kernel
theorem dX5_cut_93 : decode cX5_cut 93 = .ok (.aload_n 0, 1) := by decide +kernel
theorem dX5_cut_94 : decode cX5_cut 94 = .ok (.getfield 58, 3) := by decide +kernel
theorem dX5_cut_97 : decode cX5_cut 97 = .ok (.iload_n 2, 1) := by decide +kernel
theorem dX5_cut_98 : decode cX5_cut 98 = .ok (.isub, 1) := by decide +kernel
theorem dX5_cut_99 : decode cX5_cut 99 = .ok (.istore_n 3, 1) := by decide +kernel
theorem dX5_cut_100 : decode cX5_cut 100 = .ok (.aload_n 0, 1) := by decide +kernel
theorem dX5_cut_101 : decode cX5_cut 101 = .ok (.iload_n 2, 1) := by decide +kernel
theorem dX5_cut_102 : decode cX5_cut 102 = .ok (.putfield 58, 3) := by decide +kernel
theorem dX5_cut_105 : decode cX5_cut 105 = .ok (.iload_n 3, 1) := by decide +kernel
theorem dX5_cut_106 : decode cX5_cut 106 = .ok (.ireturn, 1) := by decide +kernel
set_option maxRecDepth 20000 in
theorem ggX5_set_X5_isGate : GoodIn wsX5_set wsX5_isGate := goodIn_r _ [7, 8, 14, 15, 16, 17, 18, 19, 20, 21, 22, 23, 24, 25, 26, 27, 28, 29] (by decide +kernel) (by decide +kernel)
set_option maxRecDepth 20000 in
theorem gX5_set_X5_isGate : GoodIn wsX5_set (wsV RX5 61 RX5 yX5_isGate wsX5_isGate) := goodIn_app (goodIn_of _ (by decide +kernel)) ggX5_set_X5_isGate
set_option maxRecDepth 20000 in
theorem ggX5_set_X5_fails : GoodIn wsX5_set wsX5_fails := goodIn_r _ [12, 13, 14, 15, 16, 17, 18, 19, 20, 21, 22, 23, 24, 25, 26, 27, 28, 29] (by decide +kernel) (by decide +kernel)
set_option maxRecDepth 20000 in
theorem gX5_set_X5_fails : GoodIn wsX5_set (wsV RX5 51 RX5 yX5_fails wsX5_fails) := goodIn_app (goodIn_of _ (by decide +kernel)) ggX5_set_X5_fails
theorem dX5_set_0 : decode cX5_set 0 = .ok (.aload_n 0, 1) := by decide +kernel
theorem dX5_set_1 : decode cX5_set 1 = .ok (.iload_n 1, 1) := by decide +kernel
theorem dX5_set_2 : decode cX5_set 2 = .ok (.invokevirtual 61, 3) := by decide +kernel
theorem dX5_set_5 : decode cX5_set 5 = .ok (.istore_n 3, 1) := by decide +kernel
theorem dX5_set_6 : decode cX5_set 6 = .ok (.aload_n 0, 1) := by decide +kernel
theorem dX5_set_7 : decode cX5_set 7 = .ok (.iload_n 3, 1) := by decide +kernel
theorem dX5_set_8 : decode cX5_set 8 = .ok (.ifCond .ne 7, 3) := by decide +kernel
theorem dX5_set_11 : decode cX5_set 11 = .ok (.iconst 1, 1) := by decide +kernel
theorem dX5_set_12 : decode cX5_set 12 = .ok (.goto 4, 3) := by decide +kernel
theorem dX5_set_15 : decode cX5_set 15 = .ok (.iconst 0, 1) := by decide +kernel
theorem dX5_set_16 : decode cX5_set 16 = .ok (.iload_n 3, 1) := by decide +kernel
theorem dX5_set_17 : decode cX5_set 17 = .ok (.ifCond .eq 33, 3) := by decide +kernel
theorem dX5_set_20 : decode cX5_set 20 = .ok (.aload_n 0, 1) := by decide +kernel
theorem dX5_set_21 : decode cX5_set 21 = .ok (.getfield 7, 3) := by decide +kernel
theorem dX5_set_24 : decode cX5_set 24 = .ok (.iload_n 3, 1) := by decide +kernel
theorem dX5_set_25 : decode cX5_set 25 = .ok (.ifCond .eq 7, 3) := by decide +kernel
theorem dX5_set_28 : decode cX5_set 28 = .ok (.iload_n 1, 1) := by decide +kernel
theorem dX5_set_29 : decode cX5_set 29 = .ok (.goto 4, 3) := by decide +kernel
theorem dX5_set_32 : decode cX5_set 32 = .ok (.iconst 0, 1) := by decide +kernel
theorem dX5_set_33 : decode cX5_set 33 = .ok (.iaload, 1) := by decide +kernel
theorem dX5_set_34 : decode cX5_set 34 = .ok (.ifCond .ne 12, 3) := by decide +kernel
theorem dX5_set_37 : decode cX5_set 37 = .ok (.iload_n 2, 1) := by decide +kernel
theorem dX5_set_38 : decode cX5_set 38 = .ok (.ifCond .lt 8, 3) := by decide +kernel
theorem dX5_set_41 : decode cX5_set 41 = .ok (.iload_n 2, 1) := by decide +kernel
theorem dX5_set_42 : decode cX5_set 42 = .ok (.iconst 2, 1) := by decide +kernel
theorem dX5_set_43 : decode cX5_set 43 = .ok (.if_icmp .le 7, 3) := by decide +kernel
theorem dX5_set_46 : decode cX5_set 46 = .ok (.iconst 1, 1) := by decide +kernel
theorem dX5_set_47 : decode cX5_set 47 = .ok (.goto 4, 3) := by decide +kernel
theorem dX5_set_50 : decode cX5_set 50 = .ok (.iconst 0, 1) := by decide +kernel
theorem dX5_set_51 : decode cX5_set 51 = .ok (.invokevirtual 51, 3) := by decide +kernel
theorem dX5_set_54 : decode cX5_set 54 = .ok (.ifCond .eq 5, 3) := by decide +kernel
theorem dX5_set_57 : decode cX5_set 57 = .ok (.iconst 0, 1) := by decide +kernel
theorem dX5_set_58 : decode cX5_set 58 = .ok (.ireturn, 1) := by decide +kernel
theorem dX5_set_59 : decode cX5_set 59 = .ok (.aload_n 0, 1) := by decide +kernel
theorem dX5_set_60 : decode cX5_set 60 = .ok (.getfield 13, 3) := by decide +kernel
theorem dX5_set_63 : decode cX5_set 63 = .ok (.iload_n 1, 1) := by decide +kernel
theorem dX5_set_64 : decode cX5_set 64 = .ok (.iaload, 1) := by decide +kernel
theorem dX5_set_65 : decode cX5_set 65 = .ok (.istore 4, 2) := by decide +kernel
theorem dX5_set_67 : decode cX5_set 67 = .ok (.aload_n 0, 1) := by decide +kernel
theorem dX5_set_68 : decode cX5_set 68 = .ok (.getfield 13, 3) := by decide +kernel
theorem dX5_set_71 : decode cX5_set 71 = .ok (.iload_n 1, 1) := by decide +kernel
theorem dX5_set_72 : decode cX5_set 72 = .ok (.iload_n 2, 1) := by decide +kernel
theorem dX5_set_73 : decode cX5_set 73 = .ok (.iastore, 1) := by decide +kernel
theorem dX5_set_74 : decode cX5_set 74 = .ok (.iload 4, 2) := by decide +kernel
theorem dX5_set_76 : decode cX5_set 76 = .ok (.ireturn, 1) := by decide +kernel
theorem dX5_taken_0 : decode cX5_taken 0 = .ok (.iload_n 0, 1) := by decide +kernel
theorem dX5_taken_1 : decode cX5_taken 1 = .ok (.iconst 2, 1) := by decide +kernel
theorem dX5_taken_2 : decode cX5_taken 2 = .ok (.if_icmp .eq 7, 3) := by decide +kernel
theorem dX5_taken_5 : decode cX5_taken 5 = .ok (.iload_n 1, 1) := by decide +kernel
theorem dX5_taken_6 : decode cX5_taken 6 = .ok (.ifCond .ne 7, 3) := by decide +kernel
theorem dX5_taken_9 : decode cX5_taken 9 = .ok (.iload_n 0, 1) := by decide +kernel
theorem dX5_taken_10 : decode cX5_taken 10 = .ok (.goto 6, 3) := by decide +kernel
theorem dX5_taken_13 : decode cX5_taken 13 = .ok (.iconst 1, 1) := by decide +kernel
theorem dX5_taken_14 : decode cX5_taken 14 = .ok (.iload_n 0, 1) := by decide +kernel
theorem dX5_taken_15 : decode cX5_taken 15 = .ok (.isub, 1) := by decide +kernel
theorem dX5_taken_16 : decode cX5_taken 16 = .ok (.ireturn, 1) := by decide +kernel
set_option maxRecDepth 20000 in
theorem ggX5_another_X5_taken : GoodIn wsX5_another wsX5_taken := goodIn_r _ [14] (by decide +kernel) (by decide +kernel)
set_option maxRecDepth 20000 in
theorem gX5_another_X5_taken : GoodIn wsX5_another (va_wsS RX5 69 yX5_taken wsX5_taken) := goodIn_app (goodIn_of _ (by decide +kernel)) ggX5_another_X5_taken
theorem dX5_another_0 : decode cX5_another 0 = .ok (.iconst 0, 1) := by decide +kernel
theorem dX5_another_1 : decode cX5_another 1 = .ok (.istore_n 1, 1) := by decide +kernel
theorem dX5_another_2 : decode cX5_another 2 = .ok (.iload_n 1, 1) := by decide +kernel
theorem dX5_another_3 : decode cX5_another 3 = .ok (.aload_n 0, 1) := by decide +kernel
theorem dX5_another_4 : decode cX5_another 4 = .ok (.getfield 48, 3) := by decide +kernel
theorem dX5_another_7 : decode cX5_another 7 = .ok (.if_icmp .ge 30, 3) := by decide +kernel
theorem dX5_another_10 : decode cX5_another 10 = .ok (.aload_n 0, 1) := by decide +kernel
theorem dX5_another_11 : decode cX5_another 11 = .ok (.getfield 29, 3) := by decide +kernel
theorem dX5_another_14 : decode cX5_another 14 = .ok (.iload_n 1, 1) := by decide +kernel
theorem dX5_another_15 : decode cX5_another 15 = .ok (.aload_n 0, 1) := by decide +kernel
theorem dX5_another_16 : decode cX5_another 16 = .ok (.getfield 7, 3) := by decide +kernel
theorem dX5_another_19 : decode cX5_another 19 = .ok (.iload_n 1, 1) := by decide +kernel
theorem dX5_another_20 : decode cX5_another 20 = .ok (.iaload, 1) := by decide +kernel
theorem dX5_another_21 : decode cX5_another 21 = .ok (.iconst 2, 1) := by decide +kernel
theorem dX5_another_22 : decode cX5_another 22 = .ok (.if_icmp .ne 7, 3) := by decide +kernel
theorem dX5_another_25 : decode cX5_another 25 = .ok (.iconst 1, 1) := by decide +kernel
theorem dX5_another_26 : decode cX5_another 26 = .ok (.goto 4, 3) := by decide +kernel
theorem dX5_another_29 : decode cX5_another 29 = .ok (.iconst 0, 1) := by decide +kernel
theorem dX5_another_30 : decode cX5_another 30 = .ok (.iastore, 1) := by decide +kernel
theorem dX5_another_31 : decode cX5_another 31 = .ok (.iinc 1 1, 3) := by decide +kernel
theorem dX5_another_34 : decode cX5_another 34 = .ok (.goto (-32), 3) := by decide +kernel
theorem dX5_another_37 : decode cX5_another 37 = .ok (.iconst 0, 1) := by decide +kernel
theorem dX5_another_38 : decode cX5_another 38 = .ok (.istore_n 1, 1) := by decide +kernel
theorem dX5_another_39 : decode cX5_another 39 = .ok (.iload_n 1, 1) := by decide +kernel
theorem dX5_another_40 : decode cX5_another 40 = .ok (.aload_n 0, 1) := by decide +kernel
theorem dX5_another_41 : decode cX5_another 41 = .ok (.getfield 58, 3) := by decide +kernel
theorem dX5_another_44 : decode cX5_another 44 = .ok (.if_icmp .ge 80, 3) := by decide +kernel
theorem dX5_another_47 : decode cX5_another 47 = .ok (.aload_n 0, 1) := by decide +kernel
theorem dX5_another_48 : decode cX5_another 48 = .ok (.getfield 16, 3) := by decide +kernel
theorem dX5_another_51 : decode cX5_another 51 = .ok (.iload_n 1, 1) := by decide +kernel
theorem dX5_another_52 : decode cX5_another 52 = .ok (.iaload, 1) := by decide +kernel
theorem dX5_another_53 : decode cX5_another 53 = .ok (.istore_n 2, 1) := by decide +kernel
theorem dX5_another_54 : decode cX5_another 54 = .ok (.aload_n 0, 1) := by decide +kernel
theorem dX5_another_55 : decode cX5_another 55 = .ok (.getfield 26, 3) := by decide +kernel
theorem dX5_another_58 : decode cX5_another 58 = .ok (.aload_n 0, 1) := by decide +kernel
theorem dX5_another_59 : decode cX5_another 59 = .ok (.getfield 19, 3) := by decide +kernel
theorem dX5_another_62 : decode cX5_another 62 = .ok (.iload_n 1, 1) := by decide +kernel
theorem dX5_another_63 : decode cX5_another 63 = .ok (.iaload, 1) := by decide +kernel
theorem dX5_another_64 : decode cX5_another 64 = .ok (.iaload, 1) := by decide +kernel
theorem dX5_another_65 : decode cX5_another 65 = .ok (.aload_n 0, 1) := by decide +kernel
theorem dX5_another_66 : decode cX5_another 66 = .ok (.getfield 22, 3) := by decide +kernel
theorem dX5_another_69 : decode cX5_another 69 = .ok (.iload_n 1, 1) := by decide +kernel
theorem dX5_another_70 : decode cX5_another 70 = .ok (.baload, 1) := by decide +kernel
theorem dX5_another_71 : decode cX5_another 71 = .ok (.invokestatic 69, 3) := by decide +kernel
theorem dX5_another_74 : decode cX5_another 74 = .ok (.istore_n 3, 1) := by decide +kernel
theorem dX5_another_75 : decode cX5_another 75 = .ok (.aload_n 0, 1) := by decide +kernel
theorem dX5_another_76 : decode cX5_another 76 = .ok (.getfield 7, 3) := by decide +kernel
theorem dX5_another_79 : decode cX5_another 79 = .ok (.iload_n 2, 1) := by decide +kernel
theorem dX5_another_80 : decode cX5_another 80 = .ok (.iaload, 1) := by decide +kernel
theorem dX5_another_81 : decode cX5_another 81 = .ok (.iconst 2, 1) := by decide +kernel
theorem dX5_another_82 : decode cX5_another 82 = .ok (.if_icmp .ne 7, 3) := by decide +kernel
theorem dX5_another_85 : decode cX5_another 85 = .ok (.iconst 0, 1) := by decide +kernel
theorem dX5_another_86 : decode cX5_another 86 = .ok (.goto 4, 3) := by decide +kernel
theorem dX5_another_89 : decode cX5_another 89 = .ok (.iconst 1, 1) := by decide +kernel
theorem dX5_another_90 : decode cX5_another 90 = .ok (.istore 4, 2) := by decide +kernel
theorem dX5_another_92 : decode cX5_another 92 = .ok (.aload_n 0, 1) := by decide +kernel
theorem dX5_another_93 : decode cX5_another 93 = .ok (.getfield 29, 3) := by decide +kernel
theorem dX5_another_96 : decode cX5_another 96 = .ok (.iload_n 2, 1) := by decide +kernel
theorem dX5_another_97 : decode cX5_another 97 = .ok (.iaload, 1) := by decide +kernel
theorem dX5_another_98 : decode cX5_another 98 = .ok (.iload 4, 2) := by decide +kernel
theorem dX5_another_100 : decode cX5_another 100 = .ok (.if_icmp .eq 18, 3) := by decide +kernel
theorem dX5_another_103 : decode cX5_another 103 = .ok (.iload_n 3, 1) := by decide +kernel
theorem dX5_another_104 : decode cX5_another 104 = .ok (.iconst 1, 1) := by decide +kernel
theorem dX5_another_105 : decode cX5_another 105 = .ok (.iload 4, 2) := by decide +kernel
theorem dX5_another_107 : decode cX5_another 107 = .ok (.isub, 1) := by decide +kernel
theorem dX5_another_108 : decode cX5_another 108 = .ok (.if_icmp .eq 10, 3) := by decide +kernel
theorem dX5_another_111 : decode cX5_another 111 = .ok (.aload_n 0, 1) := by decide +kernel
theorem dX5_another_112 : decode cX5_another 112 = .ok (.getfield 29, 3) := by decide +kernel
theorem dX5_another_115 : decode cX5_another 115 = .ok (.iload_n 2, 1) := by decide +kernel
theorem dX5_another_116 : decode cX5_another 116 = .ok (.iload_n 3, 1) := by decide +kernel
theorem dX5_another_117 : decode cX5_another 117 = .ok (.iastore, 1) := by decide +kernel
theorem dX5_another_118 : decode cX5_another 118 = .ok (.iinc 1 1, 3) := by decide +kernel
theorem dX5_another_121 : decode cX5_another 121 = .ok (.goto (-82), 3) := by decide +kernel
theorem dX5_another_124 : decode cX5_another 124 = .ok (.iconst 0, 1) := by decide +kernel
theorem dX5_another_125 : decode cX5_another 125 = .ok (.istore_n 1, 1) := by decide +kernel
theorem dX5_another_126 : decode cX5_another 126 = .ok (.iconst 0, 1) := by decide +kernel
theorem dX5_another_127 : decode cX5_another 127 = .ok (.istore_n 2, 1) := by decide +kernel
theorem dX5_another_128 : decode cX5_another 128 = .ok (.iload_n 2, 1) := by decide +kernel
theorem dX5_another_129 : decode cX5_another 129 = .ok (.aload_n 0, 1) := by decide +kernel
theorem dX5_another_130 : decode cX5_another 130 = .ok (.getfield 48, 3) := by decide +kernel
theorem dX5_another_133 : decode cX5_another 133 = .ok (.if_icmp .ge 68, 3) := by decide +kernel
theorem dX5_another_136 : decode cX5_another 136 = .ok (.aload_n 0, 1) := by decide +kernel
theorem dX5_another_137 : decode cX5_another 137 = .ok (.getfield 7, 3) := by decide +kernel
