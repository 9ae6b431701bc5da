theorem dX8_init_0 : decode cX8_init 0 = .ok (.aload_n 0, 1) := by decide +kernel
theorem dX8_init_1 : decode cX8_init 1 = .ok (.invokespecial 3, 3) := by decide +kernel
theorem dX8_init_4 : decode cX8_init 4 = .ok (.aload_n 0, 1) := by decide +kernel
theorem dX8_init_5 : decode cX8_init 5 = .ok (.sipush 480, 3) := by decide +kernel
theorem dX8_init_8 : decode cX8_init 8 = .ok (.newarray .int, 2) := by decide +kernel
theorem dX8_init_10 : decode cX8_init 10 = .ok (.putfield 9, 3) := by decide +kernel
theorem dX8_init_13 : decode cX8_init 13 = .ok (.aload_n 0, 1) := by decide +kernel
theorem dX8_init_14 : decode cX8_init 14 = .ok (.sipush 480, 3) := by decide +kernel
theorem dX8_init_17 : decode cX8_init 17 = .ok (.newarray .int, 2) := by decide +kernel
theorem dX8_init_19 : decode cX8_init 19 = .ok (.putfield 15, 3) := by decide +kernel
theorem dX8_init_22 : decode cX8_init 22 = .ok (.aload_n 0, 1) := by decide +kernel
theorem dX8_init_23 : decode cX8_init 23 = .ok (.sipush 480, 3) := by decide +kernel
theorem dX8_init_26 : decode cX8_init 26 = .ok (.newarray .int, 2) := by decide +kernel
theorem dX8_init_28 : decode cX8_init 28 = .ok (.putfield 18, 3) := by decide +kernel
theorem dX8_init_31 : decode cX8_init 31 = .ok (.aload_n 0, 1) := by decide +kernel
theorem dX8_init_32 : decode cX8_init 32 = .ok (.sipush 480, 3) := by decide +kernel
theorem dX8_init_35 : decode cX8_init 35 = .ok (.newarray .int, 2) := by decide +kernel
theorem dX8_init_37 : decode cX8_init 37 = .ok (.putfield 21, 3) := by decide +kernel
theorem dX8_init_40 : decode cX8_init 40 = .ok (.aload_n 0, 1) := by decide +kernel
theorem dX8_init_41 : decode cX8_init 41 = .ok (.sipush 480, 3) := by decide +kernel
theorem dX8_init_44 : decode cX8_init 44 = .ok (.newarray .int, 2) := by decide +kernel
theorem dX8_init_46 : decode cX8_init 46 = .ok (.putfield 24, 3) := by decide +kernel
theorem dX8_init_49 : decode cX8_init 49 = .ok (.aload_n 0, 1) := by decide +kernel
theorem dX8_init_50 : decode cX8_init 50 = .ok (.sipush 480, 3) := by decide +kernel
theorem dX8_init_53 : decode cX8_init 53 = .ok (.newarray .int, 2) := by decide +kernel
theorem dX8_init_55 : decode cX8_init 55 = .ok (.putfield 27, 3) := by decide +kernel
theorem dX8_init_58 : decode cX8_init 58 = .ok (.return_, 1) := by decide +kernel
theorem dX8_size_0 : decode cX8_size 0 = .ok (.aload_n 0, 1) := by decide +kernel
theorem dX8_size_1 : decode cX8_size 1 = .ok (.getfield 30, 3) := by decide +kernel
theorem dX8_size_4 : decode cX8_size 4 = .ok (.ireturn, 1) := by decide +kernel
theorem dX8_kind_0 : decode cX8_kind 0 = .ok (.aload_n 0, 1) := by decide +kernel
theorem dX8_kind_1 : decode cX8_kind 1 = .ok (.getfield 9, 3) := by decide +kernel
theorem dX8_kind_4 : decode cX8_kind 4 = .ok (.aload_n 0, 1) := by decide +kernel
theorem dX8_kind_5 : decode cX8_kind 5 = .ok (.getfield 27, 3) := by decide +kernel
theorem dX8_kind_8 : decode cX8_kind 8 = .ok (.iload_n 1, 1) := by decide +kernel
theorem dX8_kind_9 : decode cX8_kind 9 = .ok (.iaload, 1) := by decide +kernel
theorem dX8_kind_10 : decode cX8_kind 10 = .ok (.iaload, 1) := by decide +kernel
theorem dX8_kind_11 : decode cX8_kind 11 = .ok (.ireturn, 1) := by decide +kernel
theorem dX8_number_0 : decode cX8_number 0 = .ok (.aload_n 0, 1) := by decide +kernel
theorem dX8_number_1 : decode cX8_number 1 = .ok (.getfield 15, 3) := by decide +kernel
theorem dX8_number_4 : decode cX8_number 4 = .ok (.aload_n 0, 1) := by decide +kernel
theorem dX8_number_5 : decode cX8_number 5 = .ok (.getfield 27, 3) := by decide +kernel
theorem dX8_number_8 : decode cX8_number 8 = .ok (.iload_n 1, 1) := by decide +kernel
theorem dX8_number_9 : decode cX8_number 9 = .ok (.iaload, 1) := by decide +kernel
theorem dX8_number_10 : decode cX8_number 10 = .ok (.iaload, 1) := by decide +kernel
theorem dX8_number_11 : decode cX8_number 11 = .ok (.ireturn, 1) := by decide +kernel
theorem dX8_explained_0 : decode cX8_explained 0 = .ok (.aload_n 0, 1) := by decide +kernel
theorem dX8_explained_1 : decode cX8_explained 1 = .ok (.getfield 18, 3) := by decide +kernel
theorem dX8_explained_4 : decode cX8_explained 4 = .ok (.aload_n 0, 1) := by decide +kernel
theorem dX8_explained_5 : decode cX8_explained 5 = .ok (.getfield 27, 3) := by decide +kernel
theorem dX8_explained_8 : decode cX8_explained 8 = .ok (.iload_n 1, 1) := by decide +kernel
theorem dX8_explained_9 : decode cX8_explained 9 = .ok (.iaload, 1) := by decide +kernel
theorem dX8_explained_10 : decode cX8_explained 10 = .ok (.iaload, 1) := by decide +kernel
theorem dX8_explained_11 : decode cX8_explained 11 = .ok (.ireturn, 1) := by decide +kernel
theorem dX8_missed_0 : decode cX8_missed 0 = .ok (.aload_n 0, 1) := by decide +kernel
theorem dX8_missed_1 : decode cX8_missed 1 = .ok (.getfield 21, 3) := by decide +kernel
theorem dX8_missed_4 : decode cX8_missed 4 = .ok (.aload_n 0, 1) := by decide +kernel
theorem dX8_missed_5 : decode cX8_missed 5 = .ok (.getfield 27, 3) := by decide +kernel
theorem dX8_missed_8 : decode cX8_missed 8 = .ok (.iload_n 1, 1) := by decide +kernel
theorem dX8_missed_9 : decode cX8_missed 9 = .ok (.iaload, 1) := by decide +kernel
theorem dX8_missed_10 : decode cX8_missed 10 = .ok (.iaload, 1) := by decide +kernel
theorem dX8_missed_11 : decode cX8_missed 11 = .ok (.ireturn, 1) := by decide +kernel
theorem dX8_wrong_0 : decode cX8_wrong 0 = .ok (.aload_n 0, 1) := by decide +kernel
theorem dX8_wrong_1 : decode cX8_wrong 1 = .ok (.getfield 24, 3) := by decide +kernel
theorem dX8_wrong_4 : decode cX8_wrong 4 = .ok (.aload_n 0, 1) := by decide +kernel
theorem dX8_wrong_5 : decode cX8_wrong 5 = .ok (.getfield 27, 3) := by decide +kernel
theorem dX8_wrong_8 : decode cX8_wrong 8 = .ok (.iload_n 1, 1) := by decide +kernel
theorem dX8_wrong_9 : decode cX8_wrong 9 = .ok (.iaload, 1) := by decide +kernel
theorem dX8_wrong_10 : decode cX8_wrong 10 = .ok (.iaload, 1) := by decide +kernel
theorem dX8_wrong_11 : decode cX8_wrong 11 = .ok (.ireturn, 1) := by decide +kernel
set_option maxRecDepth 20000 in
theorem ggX8_sum_X8_missed : GoodIn wsX8_sum wsX8_missed := goodIn_r _ [5, 6, 7, 13, 14, 15, 16, 17, 18, 19] (by eq_refl) (by decide +kernel)
set_option maxRecDepth 20000 in
theorem gX8_sum_X8_missed : GoodIn wsX8_sum (wsV RX8 34 RX8 yX8_missed wsX8_missed) := goodIn_app (goodIn_r _ [1, 2, 3, 4] (by eq_refl) (by decide +kernel)) ggX8_sum_X8_missed
set_option maxRecDepth 20000 in
theorem ggX8_sum_X8_wrong : GoodIn wsX8_sum wsX8_wrong := goodIn_r _ [11, 12, 7, 13, 14, 15, 16, 17, 18, 19] (by eq_refl) (by decide +kernel)
set_option maxRecDepth 20000 in
theorem gX8_sum_X8_wrong : GoodIn wsX8_sum (wsV RX8 37 RX8 yX8_wrong wsX8_wrong) := goodIn_app (goodIn_r _ [8, 9, 10, 4] (by eq_refl) (by decide +kernel)) ggX8_sum_X8_wrong
theorem dX8_sum_0 : decode cX8_sum 0 = .ok (.iconst 2, 1) := by decide +kernel
theorem dX8_sum_1 : decode cX8_sum 1 = .ok (.aload_n 0, 1) := by decide +kernel
theorem dX8_sum_2 : decode cX8_sum 2 = .ok (.iload_n 1, 1) := by decide +kernel
theorem dX8_sum_3 : decode cX8_sum 3 = .ok (.invokevirtual 34, 3) := by decide +kernel
theorem dX8_sum_6 : decode cX8_sum 6 = .ok (.imul, 1) := by decide +kernel
theorem dX8_sum_7 : decode cX8_sum 7 = .ok (.aload_n 0, 1) := by decide +kernel
theorem dX8_sum_8 : decode cX8_sum 8 = .ok (.iload_n 1, 1) := by decide +kernel
theorem dX8_sum_9 : decode cX8_sum 9 = .ok (.invokevirtual 37, 3) := by decide +kernel
theorem dX8_sum_12 : decode cX8_sum 12 = .ok (.iadd, 1) := by decide +kernel
theorem dX8_sum_13 : decode cX8_sum 13 = .ok (.ireturn, 1) := by decide +kernel
set_option maxRecDepth 20000 in
theorem ggX8_isStuck_X8_kind : GoodIn wsX8_isStuck wsX8_kind := goodIn_r _ [5, 6, 7, 8, 9, 10, 11, 12, 13, 14] (by eq_refl) (by decide +kernel)
set_option maxRecDepth 20000 in
theorem gX8_isStuck_X8_kind : GoodIn wsX8_isStuck (wsV RX8 39 RX8 yX8_kind wsX8_kind) := goodIn_app (goodIn_r _ [1, 2, 3, 4] (by eq_refl) (by decide +kernel)) ggX8_isStuck_X8_kind
theorem dX8_isStuck_0 : decode cX8_isStuck 0 = .ok (.aload_n 0, 1) := by decide +kernel
theorem dX8_isStuck_1 : decode cX8_isStuck 1 = .ok (.iload_n 1, 1) := by decide +kernel
theorem dX8_isStuck_2 : decode cX8_isStuck 2 = .ok (.invokevirtual 39, 3) := by decide +kernel
theorem dX8_isStuck_5 : decode cX8_isStuck 5 = .ok (.iconst 1, 1) := by decide +kernel
theorem dX8_isStuck_6 : decode cX8_isStuck 6 = .ok (.if_icmp .gt 7, 3) := by decide +kernel
theorem dX8_isStuck_9 : decode cX8_isStuck 9 = .ok (.iconst 1, 1) := by decide +kernel
theorem dX8_isStuck_10 : decode cX8_isStuck 10 = .ok (.goto 4, 3) := by decide +kernel
theorem dX8_isStuck_13 : decode cX8_isStuck 13 = .ok (.iconst 0, 1) := by decide +kernel
theorem dX8_isStuck_14 : decode cX8_isStuck 14 = .ok (.ireturn, 1) := by decide +kernel
set_option maxRecDepth 20000 in
theorem ggX8_add_X9_explained : GoodIn wsX8_add wsX9_explained := goodIn_r _ [12, 13, 48, 49, 50] (by eq_refl) (by decide +kernel)
set_option maxRecDepth 20000 in
theorem gX8_add_X9_explained : GoodIn wsX8_add (wsV RX8 42 RX9 yX9_explained wsX9_explained) := goodIn_app (goodIn_r _ [8, 9, 10, 11] (by eq_refl) (by decide +kernel)) ggX8_add_X9_explained
set_option maxRecDepth 20000 in
theorem ggX8_add_X9_missed : GoodIn wsX8_add wsX9_missed := goodIn_r _ [17, 18, 48, 49, 50] (by eq_refl) (by decide +kernel)
set_option maxRecDepth 20000 in
theorem gX8_add_X9_missed : GoodIn wsX8_add (wsV RX8 47 RX9 yX9_missed wsX9_missed) := goodIn_app (goodIn_r _ [14, 15, 16, 11] (by eq_refl) (by decide +kernel)) ggX8_add_X9_missed
set_option maxRecDepth 20000 in
theorem ggX8_add_X9_wrong : GoodIn wsX8_add wsX9_wrong := goodIn_r _ [22, 23, 48, 49, 50] (by eq_refl) (by decide +kernel)
set_option maxRecDepth 20000 in
theorem gX8_add_X9_wrong : GoodIn wsX8_add (wsV RX8 49 RX9 yX9_wrong wsX9_wrong) := goodIn_app (goodIn_r _ [19, 20, 21, 11] (by eq_refl) (by decide +kernel)) ggX8_add_X9_wrong
set_option maxRecDepth 20000 in
theorem ggX8_add_X8_sum : GoodIn wsX8_add wsX8_sum := goodIn_r _ [28, 29, 30, 31, 27, 32, 5, 7, 33, 34, 35, 36, 6, 41, 42, 43, 44, 45, 46, 47] (by eq_refl) (by decide +kernel)
set_option maxRecDepth 20000 in
theorem gX8_add_X8_sum : GoodIn wsX8_add (wsV RX8 51 RX8 yX8_sum wsX8_sum) := goodIn_app (goodIn_r _ [24, 25, 26, 27] (by eq_refl) (by decide +kernel)) ggX8_add_X8_sum
set_option maxRecDepth 20000 in
theorem ggX8_add_X9_sum : GoodIn wsX8_add wsX9_sum := goodIn_r _ [40, 18, 23, 48, 49, 50] (by eq_refl) (by decide +kernel)
set_option maxRecDepth 20000 in
theorem gX8_add_X9_sum : GoodIn wsX8_add (wsV RX8 54 RX9 yX9_sum wsX9_sum) := goodIn_app (goodIn_r _ [37, 38, 39, 11] (by eq_refl) (by decide +kernel)) ggX8_add_X9_sum
theorem dX8_add_0 : decode cX8_add 0 = .ok (.aload_n 0, 1) := by decide +kernel
theorem dX8_add_1 : decode cX8_add 1 = .ok (.getfield 9, 3) := by decide +kernel
theorem dX8_add_4 : decode cX8_add 4 = .ok (.aload_n 0, 1) := by decide +kernel
theorem dX8_add_5 : decode cX8_add 5 = .ok (.getfield 30, 3) := by decide +kernel
theorem dX8_add_8 : decode cX8_add 8 = .ok (.iload_n 1, 1) := by decide +kernel
theorem dX8_add_9 : decode cX8_add 9 = .ok (.iastore, 1) := by decide +kernel
theorem dX8_add_10 : decode cX8_add 10 = .ok (.aload_n 0, 1) := by decide +kernel
theorem dX8_add_11 : decode cX8_add 11 = .ok (.getfield 15, 3) := by decide +kernel
theorem dX8_add_14 : decode cX8_add 14 = .ok (.aload_n 0, 1) := by decide +kernel
theorem dX8_add_15 : decode cX8_add 15 = .ok (.getfield 30, 3) := by decide +kernel
theorem dX8_add_18 : decode cX8_add 18 = .ok (.iload_n 2, 1) := by decide +kernel
theorem dX8_add_19 : decode cX8_add 19 = .ok (.iastore, 1) := by decide +kernel
theorem dX8_add_20 : decode cX8_add 20 = .ok (.aload_n 0, 1) := by decide +kernel
theorem dX8_add_21 : decode cX8_add 21 = .ok (.getfield 18, 3) := by decide +kernel
theorem dX8_add_24 : decode cX8_add 24 = .ok (.aload_n 0, 1) := by decide +kernel
theorem dX8_add_25 : decode cX8_add 25 = .ok (.getfield 30, 3) := by decide +kernel
theorem dX8_add_28 : decode cX8_add 28 = .ok (.aload_n 3, 1) := by decide +kernel
theorem dX8_add_29 : decode cX8_add 29 = .ok (.invokevirtual 42, 3) := by decide +kernel
theorem dX8_add_32 : decode cX8_add 32 = .ok (.iastore, 1) := by decide +kernel
theorem dX8_add_33 : decode cX8_add 33 = .ok (.aload_n 0, 1) := by decide +kernel
theorem dX8_add_34 : decode cX8_add 34 = .ok (.getfield 21, 3) := by decide +kernel
theorem dX8_add_37 : decode cX8_add 37 = .ok (.aload_n 0, 1) := by decide +kernel
theorem dX8_add_38 : decode cX8_add 38 = .ok (.getfield 30, 3) := by decide +kernel
theorem dX8_add_41 : decode cX8_add 41 = .ok (.aload_n 3, 1) := by decide +kernel
theorem dX8_add_42 : decode cX8_add 42 = .ok (.invokevirtual 47, 3) := by decide +kernel
theorem dX8_add_45 : decode cX8_add 45 = .ok (.iastore, 1) := by decide +kernel
theorem dX8_add_46 : decode cX8_add 46 = .ok (.aload_n 0, 1) := by decide +kernel
theorem dX8_add_47 : decode cX8_add 47 = .ok (.getfield 24, 3) := by decide +kernel
theorem dX8_add_50 : decode cX8_add 50 = .ok (.aload_n 0, 1) := by decide +kernel
theorem dX8_add_51 : decode cX8_add 51 = .ok (.getfield 30, 3) := by decide +kernel
theorem dX8_add_54 : decode cX8_add 54 = .ok (.aload_n 3, 1) := by decide +kernel
theorem dX8_add_55 : decode cX8_add 55 = .ok (.invokevirtual 49, 3) := by decide +kernel
theorem dX8_add_58 : decode cX8_add 58 = .ok (.iastore, 1) := by decide +kernel
theorem dX8_add_59 : decode cX8_add 59 = .ok (.aload_n 0, 1) := by decide +kernel
theorem dX8_add_60 : decode cX8_add 60 = .ok (.getfield 30, 3) := by decide +kernel
theorem dX8_add_63 : decode cX8_add 63 = .ok (.istore 4, 2) := by decide +kernel
theorem dX8_add_65 : decode cX8_add 65 = .ok (.iload 4, 2) := by decide +kernel
theorem dX8_add_67 : decode cX8_add 67 = .ok (.ifCond .le 40, 3) := by decide +kernel
theorem dX8_add_70 : decode cX8_add 70 = .ok (.aload_n 0, 1) := by decide +kernel
theorem dX8_add_71 : decode cX8_add 71 = .ok (.iload 4, 2) := by decide +kernel
theorem dX8_add_73 : decode cX8_add 73 = .ok (.iconst 1, 1) := by decide +kernel
theorem dX8_add_74 : decode cX8_add 74 = .ok (.isub, 1) := by decide +kernel
theorem dX8_add_75 : decode cX8_add 75 = .ok (.invokevirtual 51, 3) := by decide +kernel
theorem dX8_add_78 : decode cX8_add 78 = .ok (.aload_n 3, 1) := by decide +kernel
theorem dX8_add_79 : decode cX8_add 79 = .ok (.invokevirtual 54, 3) := by decide +kernel
theorem dX8_add_82 : decode cX8_add 82 = .ok (.if_icmp .le 25, 3) := by decide +kernel
theorem dX8_add_85 : decode cX8_add 85 = .ok (.aload_n 0, 1) := by decide +kernel
theorem dX8_add_86 : decode cX8_add 86 = .ok (.getfield 27, 3) := by decide +kernel
theorem dX8_add_89 : decode cX8_add 89 = .ok (.iload 4, 2) := by decide +kernel
theorem dX8_add_91 : decode cX8_add 91 = .ok (.aload_n 0, 1) := by decide +kernel
theorem dX8_add_92 : decode cX8_add 92 = .ok (.getfield 27, 3) := by decide +kernel
theorem dX8_add_95 : decode cX8_add 95 = .ok (.iload 4, 2) := by decide +kernel
theorem dX8_add_97 : decode cX8_add 97 = .ok (.iconst 1, 1) := by decide +kernel
theorem dX8_add_98 : decode cX8_add 98 = .ok (.isub, 1) := by decide +kernel
theorem dX8_add_99 : decode cX8_add 99 = .ok (.iaload, 1) := by decide +kernel
theorem dX8_add_100 : decode cX8_add 100 = .ok (.iastore, 1) := by decide +kernel
theorem dX8_add_101 : decode cX8_add 101 = .ok (.iinc 4 (-1), 3) := by decide +kernel
theorem dX8_add_104 : decode cX8_add 104 = .ok (.goto (-39), 3) := by decide +kernel
theorem dX8_add_107 : decode cX8_add 107 = .ok (.aload_n 0, 1) := by decide +kernel
theorem dX8_add_108 : decode cX8_add 108 = .ok (.getfield 27, 3) := by decide +kernel
theorem dX8_add_111 : decode cX8_add 111 = .ok (.iload 4, 2) := by decide +kernel
theorem dX8_add_113 : decode cX8_add 113 = .ok (.aload_n 0, 1) := by decide +kernel
theorem dX8_add_114 : decode cX8_add 114 = .ok (.getfield 30, 3) := by decide +kernel
theorem dX8_add_117 : decode cX8_add 117 = .ok (.iastore, 1) := by decide +kernel
theorem dX8_add_118 : decode cX8_add 118 = .ok (.aload_n 0, 1) := by decide +kernel
theorem dX8_add_119 : decode cX8_add 119 = .ok (.dup, 1) := by decide +kernel
theorem dX8_add_120 : decode cX8_add 120 = .ok (.getfield 30, 3) := by decide +kernel
theorem dX8_add_123 : decode cX8_add 123 = .ok (.iconst 1, 1) := by decide +kernel
theorem dX8_add_124 : decode cX8_add 124 = .ok (.iadd, 1) := by decide +kernel
theorem dX8_add_125 : decode cX8_add 125 = .ok (.putfield 30, 3) := by decide +kernel
theorem dX8_add_128 : decode cX8_add 128 = .ok (.return_, 1) := by decide +kernel
set_option maxRecDepth 20000 in
theorem ggX8_withLeastSum_X8_sum : GoodIn wsX8_withLeastSum wsX8_sum := goodIn_r _ [6, 7, 8, 9, 5, 10, 11, 12, 13, 14, 15, 16, 17, 18, 19, 20, 21, 22, 23, 24] (by eq_refl) (by decide +kernel)
set_option maxRecDepth 20000 in
theorem gX8_withLeastSum_X8_sum : GoodIn wsX8_withLeastSum (wsV RX8 51 RX8 yX8_sum wsX8_sum) := goodIn_app (goodIn_r _ [2, 3, 4, 5] (by eq_refl) (by decide +kernel)) ggX8_withLeastSum_X8_sum
theorem dX8_withLeastSum_0 : decode cX8_withLeastSum 0 = .ok (.iconst 0, 1) := by decide +kernel
theorem dX8_withLeastSum_1 : decode cX8_withLeastSum 1 = .ok (.istore_n 1, 1) := by decide +kernel
theorem dX8_withLeastSum_2 : decode cX8_withLeastSum 2 = .ok (.iload_n 1, 1) := by decide +kernel
theorem dX8_withLeastSum_3 : decode cX8_withLeastSum 3 = .ok (.aload_n 0, 1) := by decide +kernel
theorem dX8_withLeastSum_4 : decode cX8_withLeastSum 4 = .ok (.getfield 30, 3) := by decide +kernel
theorem dX8_withLeastSum_7 : decode cX8_withLeastSum 7 = .ok (.if_icmp .ge 22, 3) := by decide +kernel
theorem dX8_withLeastSum_10 : decode cX8_withLeastSum 10 = .ok (.aload_n 0, 1) := by decide +kernel
theorem dX8_withLeastSum_11 : decode cX8_withLeastSum 11 = .ok (.iload_n 1, 1) := by decide +kernel
theorem dX8_withLeastSum_12 : decode cX8_withLeastSum 12 = .ok (.invokevirtual 51, 3) := by decide +kernel
theorem dX8_withLeastSum_15 : decode cX8_withLeastSum 15 = .ok (.aload_n 0, 1) := by decide +kernel
theorem dX8_withLeastSum_16 : decode cX8_withLeastSum 16 = .ok (.iconst 0, 1) := by decide +kernel
theorem dX8_withLeastSum_17 : decode cX8_withLeastSum 17 = .ok (.invokevirtual 51, 3) := by decide +kernel
theorem dX8_withLeastSum_20 : decode cX8_withLeastSum 20 = .ok (.if_icmp .ne 9, 3) := by decide +kernel
theorem dX8_withLeastSum_23 : decode cX8_withLeastSum 23 = .ok (.iinc 1 1, 3) := by decide +kernel
theorem dX8_withLeastSum_26 : decode cX8_withLeastSum 26 = .ok (.goto (-24), 3) := by decide +kernel
theorem dX8_withLeastSum_29 : decode cX8_withLeastSum 29 = .ok (.iload_n 1, 1) := by decide +kernel
theorem dX8_withLeastSum_30 : decode cX8_withLeastSum 30 = .ok (.ireturn, 1) := by decide +kernel
theorem dX8_reset_0 : decode cX8_reset 0 = .ok (.aload_n 0, 1) := by decide +kernel
theorem dX8_reset_1 : decode cX8_reset 1 = .ok (.iconst 0, 1) := by decide +kernel
theorem dX8_reset_2 : decode cX8_reset 2 = .ok (.putfield 30, 3) := by decide +kernel
theorem dX8_reset_5 : decode cX8_reset 5 = .ok (.return_, 1) := by decide +kernel
