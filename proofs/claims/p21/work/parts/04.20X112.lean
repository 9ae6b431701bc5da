theorem dX11_shows_104 : decode cX11_shows 104 = .ok (.getfield 38, 3) := by decide +kernel
theorem dX11_shows_107 : decode cX11_shows 107 = .ok (.aload_n 0, 1) := by decide +kernel
theorem dX11_shows_108 : decode cX11_shows 108 = .ok (.getfield 23, 3) := by decide +kernel
theorem dX11_shows_111 : decode cX11_shows 111 = .ok (.iload_n 3, 1) := by decide +kernel
theorem dX11_shows_112 : decode cX11_shows 112 = .ok (.iaload, 1) := by decide +kernel
theorem dX11_shows_113 : decode cX11_shows 113 = .ok (.laload, 1) := by decide +kernel
theorem dX11_shows_114 : decode cX11_shows 114 = .ok (.lxor, 1) := by decide +kernel
theorem dX11_shows_115 : decode cX11_shows 115 = .ok (.lreturn, 1) := by decide +kernel
set_option maxRecDepth 20000 in
theorem ggX11_judge_X11_mask : GoodIn wsX11_judge wsX11_mask := goodIn_r _ [14, 15, 9, 19, 20, 21, 22, 23, 24, 25, 26, 27, 28, 29, 30, 31, 32, 33, 34, 35, 36, 37, 38, 39, 40, 41, 42, 43, 44, 45, 46, 47, 48, 49, 50, 51, 52, 53, 54, 55, 56, 57, 58, 59, 60, 61] (by eq_refl) (by decide +kernel)
set_option maxRecDepth 20000 in
theorem gX11_judge_X11_mask : GoodIn wsX11_judge (wsV RX11 135 RX11 yX11_mask wsX11_mask) := goodIn_app (goodIn_r _ [10, 11, 12, 13] (by eq_refl) (by decide +kernel)) ggX11_judge_X11_mask
set_option maxRecDepth 20000 in
theorem ggX11_judge_X11_bits : GoodIn wsX11_judge wsX11_bits := goodIn_r _ [18] (by eq_refl) (by decide +kernel)
set_option maxRecDepth 20000 in
theorem gX11_judge_X11_bits : GoodIn wsX11_judge (va_wsS RX11 169 yX11_bits wsX11_bits) := goodIn_app (goodIn_r _ [16, 17, 13] (by eq_refl) (by decide +kernel)) ggX11_judge_X11_bits
theorem dX11_judge_0 : decode cX11_judge 0 = .ok (.aload_n 0, 1) := by decide +kernel
theorem dX11_judge_1 : decode cX11_judge 1 = .ok (.iconst 0, 1) := by decide +kernel
theorem dX11_judge_2 : decode cX11_judge 2 = .ok (.putfield 160, 3) := by decide +kernel
theorem dX11_judge_5 : decode cX11_judge 5 = .ok (.aload_n 0, 1) := by decide +kernel
theorem dX11_judge_6 : decode cX11_judge 6 = .ok (.iconst 0, 1) := by decide +kernel
theorem dX11_judge_7 : decode cX11_judge 7 = .ok (.putfield 163, 3) := by decide +kernel
theorem dX11_judge_10 : decode cX11_judge 10 = .ok (.aload_n 0, 1) := by decide +kernel
theorem dX11_judge_11 : decode cX11_judge 11 = .ok (.iconst 0, 1) := by decide +kernel
theorem dX11_judge_12 : decode cX11_judge 12 = .ok (.putfield 166, 3) := by decide +kernel
theorem dX11_judge_15 : decode cX11_judge 15 = .ok (.iconst 0, 1) := by decide +kernel
theorem dX11_judge_16 : decode cX11_judge 16 = .ok (.istore_n 1, 1) := by decide +kernel
theorem dX11_judge_17 : decode cX11_judge 17 = .ok (.iload_n 1, 1) := by decide +kernel
theorem dX11_judge_18 : decode cX11_judge 18 = .ok (.aload_n 0, 1) := by decide +kernel
theorem dX11_judge_19 : decode cX11_judge 19 = .ok (.getfield 123, 3) := by decide +kernel
theorem dX11_judge_22 : decode cX11_judge 22 = .ok (.if_icmp .ge 102, 3) := by decide +kernel
theorem dX11_judge_25 : decode cX11_judge 25 = .ok (.aload_n 0, 1) := by decide +kernel
theorem dX11_judge_26 : decode cX11_judge 26 = .ok (.getfield 35, 3) := by decide +kernel
theorem dX11_judge_29 : decode cX11_judge 29 = .ok (.aload_n 0, 1) := by decide +kernel
theorem dX11_judge_30 : decode cX11_judge 30 = .ok (.getfield 23, 3) := by decide +kernel
theorem dX11_judge_33 : decode cX11_judge 33 = .ok (.iload_n 1, 1) := by decide +kernel
theorem dX11_judge_34 : decode cX11_judge 34 = .ok (.iaload, 1) := by decide +kernel
theorem dX11_judge_35 : decode cX11_judge 35 = .ok (.laload, 1) := by decide +kernel
theorem dX11_judge_36 : decode cX11_judge 36 = .ok (.aload_n 0, 1) := by decide +kernel
theorem dX11_judge_37 : decode cX11_judge 37 = .ok (.getfield 38, 3) := by decide +kernel
theorem dX11_judge_40 : decode cX11_judge 40 = .ok (.aload_n 0, 1) := by decide +kernel
theorem dX11_judge_41 : decode cX11_judge 41 = .ok (.getfield 23, 3) := by decide +kernel
theorem dX11_judge_44 : decode cX11_judge 44 = .ok (.iload_n 1, 1) := by decide +kernel
theorem dX11_judge_45 : decode cX11_judge 45 = .ok (.iaload, 1) := by decide +kernel
theorem dX11_judge_46 : decode cX11_judge 46 = .ok (.laload, 1) := by decide +kernel
theorem dX11_judge_47 : decode cX11_judge 47 = .ok (.lxor, 1) := by decide +kernel
theorem dX11_judge_48 : decode cX11_judge 48 = .ok (.lstore_n 2, 1) := by decide +kernel
theorem dX11_judge_49 : decode cX11_judge 49 = .ok (.aload_n 0, 1) := by decide +kernel
theorem dX11_judge_50 : decode cX11_judge 50 = .ok (.getfield 26, 3) := by decide +kernel
theorem dX11_judge_53 : decode cX11_judge 53 = .ok (.iload_n 1, 1) := by decide +kernel
theorem dX11_judge_54 : decode cX11_judge 54 = .ok (.laload, 1) := by decide +kernel
theorem dX11_judge_55 : decode cX11_judge 55 = .ok (.aload_n 0, 1) := by decide +kernel
theorem dX11_judge_56 : decode cX11_judge 56 = .ok (.invokevirtual 135, 3) := by decide +kernel
theorem dX11_judge_59 : decode cX11_judge 59 = .ok (.land, 1) := by decide +kernel
theorem dX11_judge_60 : decode cX11_judge 60 = .ok (.lstore 4, 2) := by decide +kernel
theorem dX11_judge_62 : decode cX11_judge 62 = .ok (.aload_n 0, 1) := by decide +kernel
theorem dX11_judge_63 : decode cX11_judge 63 = .ok (.aload_n 0, 1) := by decide +kernel
theorem dX11_judge_64 : decode cX11_judge 64 = .ok (.getfield 160, 3) := by decide +kernel
theorem dX11_judge_67 : decode cX11_judge 67 = .ok (.lload_n 2, 1) := by decide +kernel
theorem dX11_judge_68 : decode cX11_judge 68 = .ok (.lload 4, 2) := by decide +kernel
theorem dX11_judge_70 : decode cX11_judge 70 = .ok (.land, 1) := by decide +kernel
theorem dX11_judge_71 : decode cX11_judge 71 = .ok (.invokestatic 169, 3) := by decide +kernel
theorem dX11_judge_74 : decode cX11_judge 74 = .ok (.iadd, 1) := by decide +kernel
theorem dX11_judge_75 : decode cX11_judge 75 = .ok (.putfield 160, 3) := by decide +kernel
theorem dX11_judge_78 : decode cX11_judge 78 = .ok (.aload_n 0, 1) := by decide +kernel
theorem dX11_judge_79 : decode cX11_judge 79 = .ok (.aload_n 0, 1) := by decide +kernel
theorem dX11_judge_80 : decode cX11_judge 80 = .ok (.getfield 163, 3) := by decide +kernel
theorem dX11_judge_83 : decode cX11_judge 83 = .ok (.lload 4, 2) := by decide +kernel
theorem dX11_judge_85 : decode cX11_judge 85 = .ok (.lload_n 2, 1) := by decide +kernel
theorem dX11_judge_86 : decode cX11_judge 86 = .ok (.ldc2_w 129, 3) := by decide +kernel
theorem dX11_judge_89 : decode cX11_judge 89 = .ok (.lxor, 1) := by decide +kernel
theorem dX11_judge_90 : decode cX11_judge 90 = .ok (.land, 1) := by decide +kernel
theorem dX11_judge_91 : decode cX11_judge 91 = .ok (.invokestatic 169, 3) := by decide +kernel
theorem dX11_judge_94 : decode cX11_judge 94 = .ok (.iadd, 1) := by decide +kernel
theorem dX11_judge_95 : decode cX11_judge 95 = .ok (.putfield 163, 3) := by decide +kernel
theorem dX11_judge_98 : decode cX11_judge 98 = .ok (.aload_n 0, 1) := by decide +kernel
theorem dX11_judge_99 : decode cX11_judge 99 = .ok (.aload_n 0, 1) := by decide +kernel
theorem dX11_judge_100 : decode cX11_judge 100 = .ok (.getfield 166, 3) := by decide +kernel
theorem dX11_judge_103 : decode cX11_judge 103 = .ok (.lload_n 2, 1) := by decide +kernel
theorem dX11_judge_104 : decode cX11_judge 104 = .ok (.lload 4, 2) := by decide +kernel
theorem dX11_judge_106 : decode cX11_judge 106 = .ok (.ldc2_w 129, 3) := by decide +kernel
theorem dX11_judge_109 : decode cX11_judge 109 = .ok (.lxor, 1) := by decide +kernel
theorem dX11_judge_110 : decode cX11_judge 110 = .ok (.land, 1) := by decide +kernel
theorem dX11_judge_111 : decode cX11_judge 111 = .ok (.invokestatic 169, 3) := by decide +kernel
theorem dX11_judge_114 : decode cX11_judge 114 = .ok (.iadd, 1) := by decide +kernel
theorem dX11_judge_115 : decode cX11_judge 115 = .ok (.putfield 166, 3) := by decide +kernel
theorem dX11_judge_118 : decode cX11_judge 118 = .ok (.iinc 1 1, 3) := by decide +kernel
theorem dX11_judge_121 : decode cX11_judge 121 = .ok (.goto (-104), 3) := by decide +kernel
theorem dX11_judge_124 : decode cX11_judge 124 = .ok (.return_, 1) := by decide +kernel
theorem dX11_move_0 : decode cX11_move 0 = .ok (.aload_n 0, 1) := by decide +kernel
theorem dX11_move_1 : decode cX11_move 1 = .ok (.getfield 45, 3) := by decide +kernel
theorem dX11_move_4 : decode cX11_move 4 = .ok (.iload_n 2, 1) := by decide +kernel
theorem dX11_move_5 : decode cX11_move 5 = .ok (.aload_n 0, 1) := by decide +kernel
theorem dX11_move_6 : decode cX11_move 6 = .ok (.getfield 45, 3) := by decide +kernel
theorem dX11_move_9 : decode cX11_move 9 = .ok (.iload_n 1, 1) := by decide +kernel
theorem dX11_move_10 : decode cX11_move 10 = .ok (.iaload, 1) := by decide +kernel
theorem dX11_move_11 : decode cX11_move 11 = .ok (.iastore, 1) := by decide +kernel
theorem dX11_move_12 : decode cX11_move 12 = .ok (.aload_n 0, 1) := by decide +kernel
theorem dX11_move_13 : decode cX11_move 13 = .ok (.getfield 48, 3) := by decide +kernel
theorem dX11_move_16 : decode cX11_move 16 = .ok (.iload_n 2, 1) := by decide +kernel
theorem dX11_move_17 : decode cX11_move 17 = .ok (.aload_n 0, 1) := by decide +kernel
theorem dX11_move_18 : decode cX11_move 18 = .ok (.getfield 48, 3) := by decide +kernel
theorem dX11_move_21 : decode cX11_move 21 = .ok (.iload_n 1, 1) := by decide +kernel
theorem dX11_move_22 : decode cX11_move 22 = .ok (.iaload, 1) := by decide +kernel
theorem dX11_move_23 : decode cX11_move 23 = .ok (.iastore, 1) := by decide +kernel
theorem dX11_move_24 : decode cX11_move 24 = .ok (.aload_n 0, 1) := by decide +kernel
theorem dX11_move_25 : decode cX11_move 25 = .ok (.getfield 51, 3) := by decide +kernel
theorem dX11_move_28 : decode cX11_move 28 = .ok (.iload_n 2, 1) := by decide +kernel
theorem dX11_move_29 : decode cX11_move 29 = .ok (.aload_n 0, 1) := by decide +kernel
theorem dX11_move_30 : decode cX11_move 30 = .ok (.getfield 51, 3) := by decide +kernel
theorem dX11_move_33 : decode cX11_move 33 = .ok (.iload_n 1, 1) := by decide +kernel
theorem dX11_move_34 : decode cX11_move 34 = .ok (.iaload, 1) := by decide +kernel
theorem dX11_move_35 : decode cX11_move 35 = .ok (.iastore, 1) := by decide +kernel
theorem dX11_move_36 : decode cX11_move 36 = .ok (.aload_n 0, 1) := by decide +kernel
theorem dX11_move_37 : decode cX11_move 37 = .ok (.getfield 54, 3) := by decide +kernel
theorem dX11_move_40 : decode cX11_move 40 = .ok (.iload_n 2, 1) := by decide +kernel
theorem dX11_move_41 : decode cX11_move 41 = .ok (.aload_n 0, 1) := by decide +kernel
theorem dX11_move_42 : decode cX11_move 42 = .ok (.getfield 54, 3) := by decide +kernel
theorem dX11_move_45 : decode cX11_move 45 = .ok (.iload_n 1, 1) := by decide +kernel
theorem dX11_move_46 : decode cX11_move 46 = .ok (.iaload, 1) := by decide +kernel
theorem dX11_move_47 : decode cX11_move 47 = .ok (.iastore, 1) := by decide +kernel
theorem dX11_move_48 : decode cX11_move 48 = .ok (.aload_n 0, 1) := by decide +kernel
theorem dX11_move_49 : decode cX11_move 49 = .ok (.getfield 57, 3) := by decide +kernel
theorem dX11_move_52 : decode cX11_move 52 = .ok (.iload_n 2, 1) := by decide +kernel
theorem dX11_move_53 : decode cX11_move 53 = .ok (.aload_n 0, 1) := by decide +kernel
theorem dX11_move_54 : decode cX11_move 54 = .ok (.getfield 57, 3) := by decide +kernel
theorem dX11_move_57 : decode cX11_move 57 = .ok (.iload_n 1, 1) := by decide +kernel
theorem dX11_move_58 : decode cX11_move 58 = .ok (.iaload, 1) := by decide +kernel
theorem dX11_move_59 : decode cX11_move 59 = .ok (.iastore, 1) := by decide +kernel
theorem dX11_move_60 : decode cX11_move 60 = .ok (.aload_n 0, 1) := by decide +kernel
theorem dX11_move_61 : decode cX11_move 61 = .ok (.getfield 60, 3) := by decide +kernel
theorem dX11_move_64 : decode cX11_move 64 = .ok (.iload_n 2, 1) := by decide +kernel
theorem dX11_move_65 : decode cX11_move 65 = .ok (.aload_n 0, 1) := by decide +kernel
theorem dX11_move_66 : decode cX11_move 66 = .ok (.getfield 60, 3) := by decide +kernel
theorem dX11_move_69 : decode cX11_move 69 = .ok (.iload_n 1, 1) := by decide +kernel
theorem dX11_move_70 : decode cX11_move 70 = .ok (.iaload, 1) := by decide +kernel
theorem dX11_move_71 : decode cX11_move 71 = .ok (.iastore, 1) := by decide +kernel
theorem dX11_move_72 : decode cX11_move 72 = .ok (.return_, 1) := by decide +kernel
set_option maxRecDepth 20000 in
theorem ggX11_enter_X11_workFault : GoodIn wsX11_enter wsX11_workFault := goodIn_r _ [15, 16, 17, 18, 19, 20, 21, 22, 14, 23, 24, 25, 26, 27, 28, 29, 30, 31, 32, 33, 34, 35, 36, 37, 38, 39, 40, 41, 56, 57, 58, 59, 60, 61, 62, 63, 64, 65, 66, 67, 68, 69, 70, 71, 72, 73, 74, 75, 76, 77, 78, 79, 80, 81, 82, 83, 84, 85, 86, 87, 88, 89, 90, 91, 92, 93, 94, 95, 96, 97, 98] (by eq_refl) (by decide +kernel)
set_option maxRecDepth 20000 in
theorem gX11_enter_X11_workFault : GoodIn wsX11_enter (wsV RX11 156 RX11 yX11_workFault wsX11_workFault) := goodIn_app (goodIn_r _ [11, 12, 13, 14] (by eq_refl) (by decide +kernel)) ggX11_enter_X11_workFault
set_option maxRecDepth 20000 in
theorem ggX11_enter_X11_judge : GoodIn wsX11_enter wsX11_judge := goodIn_r _ [45, 1, 2, 3, 46, 19, 47, 25, 48, 16, 26, 27, 28, 14, 29, 30, 49, 50, 51, 56, 57, 58, 59, 60, 61, 62, 63, 64, 65, 66, 67, 68, 69, 70, 71, 72, 73, 74, 75, 76, 77, 78, 79, 80, 81, 82, 83, 84, 85, 86, 87, 88, 89, 90, 91, 92, 93, 94, 95, 96, 97, 98] (by eq_refl) (by decide +kernel)
set_option maxRecDepth 20000 in
theorem gX11_enter_X11_judge : GoodIn wsX11_enter (wsV RX11 173 RX11 yX11_judge wsX11_judge) := goodIn_app (goodIn_r _ [42, 43, 44, 14] (by eq_refl) (by decide +kernel)) ggX11_enter_X11_judge
set_option maxRecDepth 20000 in
theorem ggX11_enter_X11_move : GoodIn wsX11_enter wsX11_move := goodIn_r _ [55, 6, 7, 5, 8, 9, 10, 56, 57, 58, 59, 60, 61, 62, 63, 64, 65, 66, 67, 68, 69, 70, 71, 72, 73, 74, 75, 76, 77, 78, 79, 80, 81, 82, 83, 84, 85, 86, 87, 88, 89, 90, 91, 92, 93, 94, 95, 96, 97, 98] (by eq_refl) (by decide +kernel)
set_option maxRecDepth 20000 in
theorem gX11_enter_X11_move : GoodIn wsX11_enter (wsV RX11 176 RX11 yX11_move wsX11_move) := goodIn_app (goodIn_r _ [52, 53, 54, 14] (by eq_refl) (by decide +kernel)) ggX11_enter_X11_move
theorem dX11_enter_0 : decode cX11_enter 0 = .ok (.aload_n 0, 1) := by decide +kernel
theorem dX11_enter_1 : decode cX11_enter 1 = .ok (.iload_n 1, 1) := by decide +kernel
theorem dX11_enter_2 : decode cX11_enter 2 = .ok (.iload_n 2, 1) := by decide +kernel
theorem dX11_enter_3 : decode cX11_enter 3 = .ok (.invokevirtual 156, 3) := by decide +kernel
theorem dX11_enter_6 : decode cX11_enter 6 = .ok (.aload_n 0, 1) := by decide +kernel
theorem dX11_enter_7 : decode cX11_enter 7 = .ok (.invokevirtual 173, 3) := by decide +kernel
theorem dX11_enter_10 : decode cX11_enter 10 = .ok (.aload_n 0, 1) := by decide +kernel
theorem dX11_enter_11 : decode cX11_enter 11 = .ok (.getfield 160, 3) := by decide +kernel
theorem dX11_enter_14 : decode cX11_enter 14 = .ok (.ifCond .ne 4, 3) := by decide +kernel
theorem dX11_enter_17 : decode cX11_enter 17 = .ok (.return_, 1) := by decide +kernel
theorem dX11_enter_18 : decode cX11_enter 18 = .ok (.iconst 2, 1) := by decide +kernel
theorem dX11_enter_19 : decode cX11_enter 19 = .ok (.aload_n 0, 1) := by decide +kernel
theorem dX11_enter_20 : decode cX11_enter 20 = .ok (.getfield 163, 3) := by decide +kernel
theorem dX11_enter_23 : decode cX11_enter 23 = .ok (.imul, 1) := by decide +kernel
theorem dX11_enter_24 : decode cX11_enter 24 = .ok (.aload_n 0, 1) := by decide +kernel
theorem dX11_enter_25 : decode cX11_enter 25 = .ok (.getfield 166, 3) := by decide +kernel
theorem dX11_enter_28 : decode cX11_enter 28 = .ok (.iadd, 1) := by decide +kernel
theorem dX11_enter_29 : decode cX11_enter 29 = .ok (.istore_n 3, 1) := by decide +kernel
theorem dX11_enter_30 : decode cX11_enter 30 = .ok (.aload_n 0, 1) := by decide +kernel
theorem dX11_enter_31 : decode cX11_enter 31 = .ok (.getfield 107, 3) := by decide +kernel
theorem dX11_enter_34 : decode cX11_enter 34 = .ok (.istore 4, 2) := by decide +kernel
theorem dX11_enter_36 : decode cX11_enter 36 = .ok (.iload 4, 2) := by decide +kernel
theorem dX11_enter_38 : decode cX11_enter 38 = .ok (.ifCond .le 32, 3) := by decide +kernel
theorem dX11_enter_41 : decode cX11_enter 41 = .ok (.aload_n 0, 1) := by decide +kernel
theorem dX11_enter_42 : decode cX11_enter 42 = .ok (.getfield 51, 3) := by decide +kernel
theorem dX11_enter_45 : decode cX11_enter 45 = .ok (.iload 4, 2) := by decide +kernel
theorem dX11_enter_47 : decode cX11_enter 47 = .ok (.iconst 1, 1) := by decide +kernel
theorem dX11_enter_48 : decode cX11_enter 48 = .ok (.isub, 1) := by decide +kernel
theorem dX11_enter_49 : decode cX11_enter 49 = .ok (.iaload, 1) := by decide +kernel
theorem dX11_enter_50 : decode cX11_enter 50 = .ok (.iload_n 3, 1) := by decide +kernel
theorem dX11_enter_51 : decode cX11_enter 51 = .ok (.if_icmp .le 19, 3) := by decide +kernel
theorem dX11_enter_54 : decode cX11_enter 54 = .ok (.aload_n 0, 1) := by decide +kernel
theorem dX11_enter_55 : decode cX11_enter 55 = .ok (.iload 4, 2) := by decide +kernel
theorem dX11_enter_57 : decode cX11_enter 57 = .ok (.iconst 1, 1) := by decide +kernel
theorem dX11_enter_58 : decode cX11_enter 58 = .ok (.isub, 1) := by decide +kernel
theorem dX11_enter_59 : decode cX11_enter 59 = .ok (.iload 4, 2) := by decide +kernel
theorem dX11_enter_61 : decode cX11_enter 61 = .ok (.invokevirtual 176, 3) := by decide +kernel
theorem dX11_enter_64 : decode cX11_enter 64 = .ok (.iinc 4 (-1), 3) := by decide +kernel
theorem dX11_enter_67 : decode cX11_enter 67 = .ok (.goto (-31), 3) := by decide +kernel
theorem dX11_enter_70 : decode cX11_enter 70 = .ok (.aload_n 0, 1) := by decide +kernel
theorem dX11_enter_71 : decode cX11_enter 71 = .ok (.getfield 45, 3) := by decide +kernel
theorem dX11_enter_74 : decode cX11_enter 74 = .ok (.iload 4, 2) := by decide +kernel
theorem dX11_enter_76 : decode cX11_enter 76 = .ok (.iload_n 1, 1) := by decide +kernel
theorem dX11_enter_77 : decode cX11_enter 77 = .ok (.iastore, 1) := by decide +kernel
theorem dX11_enter_78 : decode cX11_enter 78 = .ok (.aload_n 0, 1) := by decide +kernel
theorem dX11_enter_79 : decode cX11_enter 79 = .ok (.getfield 48, 3) := by decide +kernel
theorem dX11_enter_82 : decode cX11_enter 82 = .ok (.iload 4, 2) := by decide +kernel
theorem dX11_enter_84 : decode cX11_enter 84 = .ok (.iload_n 2, 1) := by decide +kernel
theorem dX11_enter_85 : decode cX11_enter 85 = .ok (.iastore, 1) := by decide +kernel
theorem dX11_enter_86 : decode cX11_enter 86 = .ok (.aload_n 0, 1) := by decide +kernel
theorem dX11_enter_87 : decode cX11_enter 87 = .ok (.getfield 51, 3) := by decide +kernel
theorem dX11_enter_90 : decode cX11_enter 90 = .ok (.iload 4, 2) := by decide +kernel
theorem dX11_enter_92 : decode cX11_enter 92 = .ok (.iload_n 3, 1) := by decide +kernel
theorem dX11_enter_93 : decode cX11_enter 93 = .ok (.iastore, 1) := by decide +kernel
theorem dX11_enter_94 : decode cX11_enter 94 = .ok (.aload_n 0, 1) := by decide +kernel
theorem dX11_enter_95 : decode cX11_enter 95 = .ok (.getfield 54, 3) := by decide +kernel
theorem dX11_enter_98 : decode cX11_enter 98 = .ok (.iload 4, 2) := by decide +kernel
theorem dX11_enter_100 : decode cX11_enter 100 = .ok (.aload_n 0, 1) := by decide +kernel
theorem dX11_enter_101 : decode cX11_enter 101 = .ok (.getfield 160, 3) := by decide +kernel
theorem dX11_enter_104 : decode cX11_enter 104 = .ok (.iastore, 1) := by decide +kernel
theorem dX11_enter_105 : decode cX11_enter 105 = .ok (.aload_n 0, 1) := by decide +kernel
theorem dX11_enter_106 : decode cX11_enter 106 = .ok (.getfield 57, 3) := by decide +kernel
theorem dX11_enter_109 : decode cX11_enter 109 = .ok (.iload 4, 2) := by decide +kernel
theorem dX11_enter_111 : decode cX11_enter 111 = .ok (.aload_n 0, 1) := by decide +kernel
theorem dX11_enter_112 : decode cX11_enter 112 = .ok (.getfield 163, 3) := by decide +kernel
theorem dX11_enter_115 : decode cX11_enter 115 = .ok (.iastore, 1) := by decide +kernel
theorem dX11_enter_116 : decode cX11_enter 116 = .ok (.aload_n 0, 1) := by decide +kernel
theorem dX11_enter_117 : decode cX11_enter 117 = .ok (.getfield 60, 3) := by decide +kernel
theorem dX11_enter_120 : decode cX11_enter 120 = .ok (.iload 4, 2) := by decide +kernel
theorem dX11_enter_122 : decode cX11_enter 122 = .ok (.aload_n 0, 1) := by decide +kernel
theorem dX11_enter_123 : decode cX11_enter 123 = .ok (.getfield 166, 3) := by decide +kernel
theorem dX11_enter_126 : decode cX11_enter 126 = .ok (.iastore, 1) := by decide +kernel
theorem dX11_enter_127 : decode cX11_enter 127 = .ok (.aload_n 0, 1) := by decide +kernel
theorem dX11_enter_128 : decode cX11_enter 128 = .ok (.dup, 1) := by decide +kernel
theorem dX11_enter_129 : decode cX11_enter 129 = .ok (.getfield 107, 3) := by decide +kernel
theorem dX11_enter_132 : decode cX11_enter 132 = .ok (.iconst 1, 1) := by decide +kernel
theorem dX11_enter_133 : decode cX11_enter 133 = .ok (.iadd, 1) := by decide +kernel
theorem dX11_enter_134 : decode cX11_enter 134 = .ok (.putfield 107, 3) := by decide +kernel
theorem dX11_enter_137 : decode cX11_enter 137 = .ok (.return_, 1) := by decide +kernel
set_option maxRecDepth 20000 in
theorem ggX11_tryPair_X11_work : GoodIn wsX11_tryPair wsX11_work := goodIn_r _ [12, 13, 14, 15, 16, 17, 11, 18, 19, 3, 20, 21, 22, 23, 24, 25, 26, 27, 28, 29, 30, 42, 43, 44, 45, 46, 47, 48, 49, 50, 51, 52, 53, 54, 55, 56, 57, 58, 59, 60, 61, 62, 63, 64, 65, 66, 67, 68, 69, 70, 71, 72, 73, 74, 75, 76, 77, 78, 79, 80, 81, 82, 83, 84] (by eq_refl) (by decide +kernel)
set_option maxRecDepth 20000 in
theorem gX11_tryPair_X11_work : GoodIn wsX11_tryPair (wsV RX11 143 RX11 yX11_work wsX11_work) := goodIn_app (goodIn_r _ [8, 9, 10, 11] (by eq_refl) (by decide +kernel)) ggX11_tryPair_X11_work
set_option maxRecDepth 20000 in
theorem ggX11_tryPair_X11_judge : GoodIn wsX11_tryPair wsX11_judge := goodIn_r _ [34, 6, 4, 5, 35, 36, 37, 14, 38, 3, 15, 16, 17, 11, 18, 19, 39, 40, 41, 42, 43, 44, 45, 46, 47, 48, 49, 50, 51, 52, 53, 54, 55, 56, 57, 58, 59, 60, 61, 62, 63, 64, 65, 66, 67, 68, 69, 70, 71, 72, 73, 74, 75, 76, 77, 78, 79, 80, 81, 82, 83, 84] (by eq_refl) (by decide +kernel)
set_option maxRecDepth 20000 in
theorem gX11_tryPair_X11_judge : GoodIn wsX11_tryPair (wsV RX11 173 RX11 yX11_judge wsX11_judge) := goodIn_app (goodIn_r _ [31, 32, 33, 11] (by eq_refl) (by decide +kernel)) ggX11_tryPair_X11_judge
theorem dX11_tryPair_0 : decode cX11_tryPair 0 = .ok (.aload_n 0, 1) := by decide +kernel
theorem dX11_tryPair_1 : decode cX11_tryPair 1 = .ok (.aload_n 0, 1) := by decide +kernel
theorem dX11_tryPair_2 : decode cX11_tryPair 2 = .ok (.getfield 48, 3) := by decide +kernel
theorem dX11_tryPair_5 : decode cX11_tryPair 5 = .ok (.iload_n 1, 1) := by decide +kernel
theorem dX11_tryPair_6 : decode cX11_tryPair 6 = .ok (.iaload, 1) := by decide +kernel
theorem dX11_tryPair_7 : decode cX11_tryPair 7 = .ok (.aload_n 0, 1) := by decide +kernel
theorem dX11_tryPair_8 : decode cX11_tryPair 8 = .ok (.getfield 45, 3) := by decide +kernel
theorem dX11_tryPair_11 : decode cX11_tryPair 11 = .ok (.iload_n 1, 1) := by decide +kernel
theorem dX11_tryPair_12 : decode cX11_tryPair 12 = .ok (.iaload, 1) := by decide +kernel
theorem dX11_tryPair_13 : decode cX11_tryPair 13 = .ok (.iconst 1, 1) := by decide +kernel
theorem dX11_tryPair_14 : decode cX11_tryPair 14 = .ok (.if_icmp .ne 9, 3) := by decide +kernel
theorem dX11_tryPair_17 : decode cX11_tryPair 17 = .ok (.ldc2_w 129, 3) := by decide +kernel
theorem dX11_tryPair_20 : decode cX11_tryPair 20 = .ok (.goto 4, 3) := by decide +kernel
theorem dX11_tryPair_23 : decode cX11_tryPair 23 = .ok (.lconst 0, 1) := by decide +kernel
theorem dX11_tryPair_24 : decode cX11_tryPair 24 = .ok (.aload_n 0, 1) := by decide +kernel
theorem dX11_tryPair_25 : decode cX11_tryPair 25 = .ok (.getfield 48, 3) := by decide +kernel
theorem dX11_tryPair_28 : decode cX11_tryPair 28 = .ok (.iload_n 2, 1) := by decide +kernel
theorem dX11_tryPair_29 : decode cX11_tryPair 29 = .ok (.iaload, 1) := by decide +kernel
theorem dX11_tryPair_30 : decode cX11_tryPair 30 = .ok (.aload_n 0, 1) := by decide +kernel
theorem dX11_tryPair_31 : decode cX11_tryPair 31 = .ok (.getfield 45, 3) := by decide +kernel
theorem dX11_tryPair_34 : decode cX11_tryPair 34 = .ok (.iload_n 2, 1) := by decide +kernel
theorem dX11_tryPair_35 : decode cX11_tryPair 35 = .ok (.iaload, 1) := by decide +kernel
theorem dX11_tryPair_36 : decode cX11_tryPair 36 = .ok (.iconst 1, 1) := by decide +kernel
theorem dX11_tryPair_37 : decode cX11_tryPair 37 = .ok (.if_icmp .ne 9, 3) := by decide +kernel
theorem dX11_tryPair_40 : decode cX11_tryPair 40 = .ok (.ldc2_w 129, 3) := by decide +kernel
theorem dX11_tryPair_43 : decode cX11_tryPair 43 = .ok (.goto 4, 3) := by decide +kernel
theorem dX11_tryPair_46 : decode cX11_tryPair 46 = .ok (.lconst 0, 1) := by decide +kernel
theorem dX11_tryPair_47 : decode cX11_tryPair 47 = .ok (.invokevirtual 143, 3) := by decide +kernel
theorem dX11_tryPair_50 : decode cX11_tryPair 50 = .ok (.aload_n 0, 1) := by decide +kernel
theorem dX11_tryPair_51 : decode cX11_tryPair 51 = .ok (.invokevirtual 173, 3) := by decide +kernel
theorem dX11_tryPair_54 : decode cX11_tryPair 54 = .ok (.iconst 2, 1) := by decide +kernel
theorem dX11_tryPair_55 : decode cX11_tryPair 55 = .ok (.aload_n 0, 1) := by decide +kernel
theorem dX11_tryPair_56 : decode cX11_tryPair 56 = .ok (.getfield 163, 3) := by decide +kernel
theorem dX11_tryPair_59 : decode cX11_tryPair 59 = .ok (.imul, 1) := by decide +kernel
theorem dX11_tryPair_60 : decode cX11_tryPair 60 = .ok (.aload_n 0, 1) := by decide +kernel
theorem dX11_tryPair_61 : decode cX11_tryPair 61 = .ok (.getfield 166, 3) := by decide +kernel
theorem dX11_tryPair_64 : decode cX11_tryPair 64 = .ok (.iadd, 1) := by decide +kernel
theorem dX11_tryPair_65 : decode cX11_tryPair 65 = .ok (.istore_n 3, 1) := by decide +kernel
theorem dX11_tryPair_66 : decode cX11_tryPair 66 = .ok (.aload_n 0, 1) := by decide +kernel
theorem dX11_tryPair_67 : decode cX11_tryPair 67 = .ok (.getfield 160, 3) := by decide +kernel
theorem dX11_tryPair_70 : decode cX11_tryPair 70 = .ok (.ifCond .eq 23, 3) := by decide +kernel
theorem dX11_tryPair_73 : decode cX11_tryPair 73 = .ok (.aload_n 0, 1) := by decide +kernel
theorem dX11_tryPair_74 : decode cX11_tryPair 74 = .ok (.getfield 63, 3) := by decide +kernel
theorem dX11_tryPair_77 : decode cX11_tryPair 77 = .ok (.iconst 0, 1) := by decide +kernel
theorem dX11_tryPair_78 : decode cX11_tryPair 78 = .ok (.iaload, 1) := by decide +kernel
theorem dX11_tryPair_79 : decode cX11_tryPair 79 = .ok (.iconst (-1), 1) := by decide +kernel
theorem dX11_tryPair_80 : decode cX11_tryPair 80 = .ok (.if_icmp .eq 14, 3) := by decide +kernel
theorem dX11_tryPair_83 : decode cX11_tryPair 83 = .ok (.iload_n 3, 1) := by decide +kernel
theorem dX11_tryPair_84 : decode cX11_tryPair 84 = .ok (.aload_n 0, 1) := by decide +kernel
theorem dX11_tryPair_85 : decode cX11_tryPair 85 = .ok (.getfield 63, 3) := by decide +kernel
theorem dX11_tryPair_88 : decode cX11_tryPair 88 = .ok (.iconst 2, 1) := by decide +kernel
theorem dX11_tryPair_89 : decode cX11_tryPair 89 = .ok (.iaload, 1) := by decide +kernel
theorem dX11_tryPair_90 : decode cX11_tryPair 90 = .ok (.if_icmp .lt 4, 3) := by decide +kernel
theorem dX11_tryPair_93 : decode cX11_tryPair 93 = .ok (.return_, 1) := by decide +kernel
theorem dX11_tryPair_94 : decode cX11_tryPair 94 = .ok (.aload_n 0, 1) := by decide +kernel
theorem dX11_tryPair_95 : decode cX11_tryPair 95 = .ok (.getfield 63, 3) := by decide +kernel
theorem dX11_tryPair_98 : decode cX11_tryPair 98 = .ok (.iconst 0, 1) := by decide +kernel
theorem dX11_tryPair_99 : decode cX11_tryPair 99 = .ok (.iload_n 1, 1) := by decide +kernel
theorem dX11_tryPair_100 : decode cX11_tryPair 100 = .ok (.iastore, 1) := by decide +kernel
theorem dX11_tryPair_101 : decode cX11_tryPair 101 = .ok (.aload_n 0, 1) := by decide +kernel
theorem dX11_tryPair_102 : decode cX11_tryPair 102 = .ok (.getfield 63, 3) := by decide +kernel
theorem dX11_tryPair_105 : decode cX11_tryPair 105 = .ok (.iconst 1, 1) := by decide +kernel
theorem dX11_tryPair_106 : decode cX11_tryPair 106 = .ok (.iload_n 2, 1) := by decide +kernel
theorem dX11_tryPair_107 : decode cX11_tryPair 107 = .ok (.iastore, 1) := by decide +kernel
theorem dX11_tryPair_108 : decode cX11_tryPair 108 = .ok (.aload_n 0, 1) := by decide +kernel
theorem dX11_tryPair_109 : decode cX11_tryPair 109 = .ok (.getfield 63, 3) := by decide +kernel
theorem dX11_tryPair_112 : decode cX11_tryPair 112 = .ok (.iconst 2, 1) := by decide +kernel
theorem dX11_tryPair_113 : decode cX11_tryPair 113 = .ok (.iload_n 3, 1) := by decide +kernel
theorem dX11_tryPair_114 : decode cX11_tryPair 114 = .ok (.iastore, 1) := by decide +kernel
theorem dX11_tryPair_115 : decode cX11_tryPair 115 = .ok (.aload_n 0, 1) := by decide +kernel
theorem dX11_tryPair_116 : decode cX11_tryPair 116 = .ok (.getfield 63, 3) := by decide +kernel
theorem dX11_tryPair_119 : decode cX11_tryPair 119 = .ok (.iconst 3, 1) := by decide +kernel
theorem dX11_tryPair_120 : decode cX11_tryPair 120 = .ok (.aload_n 0, 1) := by decide +kernel
theorem dX11_tryPair_121 : decode cX11_tryPair 121 = .ok (.getfield 160, 3) := by decide +kernel
theorem dX11_tryPair_124 : decode cX11_tryPair 124 = .ok (.iastore, 1) := by decide +kernel
theorem dX11_tryPair_125 : decode cX11_tryPair 125 = .ok (.aload_n 0, 1) := by decide +kernel
theorem dX11_tryPair_126 : decode cX11_tryPair 126 = .ok (.getfield 63, 3) := by decide +kernel
theorem dX11_tryPair_129 : decode cX11_tryPair 129 = .ok (.iconst 4, 1) := by decide +kernel
theorem dX11_tryPair_130 : decode cX11_tryPair 130 = .ok (.aload_n 0, 1) := by decide +kernel
theorem dX11_tryPair_131 : decode cX11_tryPair 131 = .ok (.getfield 163, 3) := by decide +kernel
theorem dX11_tryPair_134 : decode cX11_tryPair 134 = .ok (.iastore, 1) := by decide +kernel
theorem dX11_tryPair_135 : decode cX11_tryPair 135 = .ok (.aload_n 0, 1) := by decide +kernel
theorem dX11_tryPair_136 : decode cX11_tryPair 136 = .ok (.getfield 63, 3) := by decide +kernel
theorem dX11_tryPair_139 : decode cX11_tryPair 139 = .ok (.iconst 5, 1) := by decide +kernel
theorem dX11_tryPair_140 : decode cX11_tryPair 140 = .ok (.aload_n 0, 1) := by decide +kernel
theorem dX11_tryPair_141 : decode cX11_tryPair 141 = .ok (.getfield 166, 3) := by decide +kernel
theorem dX11_tryPair_144 : decode cX11_tryPair 144 = .ok (.iastore, 1) := by decide +kernel
theorem dX11_tryPair_145 : decode cX11_tryPair 145 = .ok (.return_, 1) := by decide +kernel
set_option maxRecDepth 20000 in
theorem ggX11_run_X11_workPlain : GoodIn wsX11_run wsX11_workPlain := goodIn_r _ [13, 3, 14, 15, 16, 17, 12, 18, 19, 20, 21, 22, 23, 24, 25, 26, 27, 28, 29, 30, 31, 72, 73, 74, 75, 76, 77, 78, 79, 80, 81, 82, 83, 84, 85, 86, 87, 88, 89, 90, 91, 92, 93, 94, 95, 96, 97, 98, 99, 100, 101, 102, 103, 104, 105, 106, 107, 108, 109, 110, 111, 112, 113, 114] (by eq_refl) (by decide +kernel)
set_option maxRecDepth 20000 in
theorem gX11_run_X11_workPlain : GoodIn wsX11_run (wsV RX11 147 RX11 yX11_workPlain wsX11_workPlain) := goodIn_app (goodIn_r _ [9, 10, 11, 12] (by eq_refl) (by decide +kernel)) ggX11_run_X11_workPlain
set_option maxRecDepth 20000 in
theorem ggX11_run_X11_enter : GoodIn wsX11_run wsX11_enter := goodIn_r _ [35, 36, 37, 38, 2, 39, 6, 7, 40, 41, 42, 43, 44, 45, 12, 46, 26, 47, 48, 14, 49, 50, 51, 52, 3, 53, 27, 28, 29, 30, 31, 15, 16, 17, 18, 19, 20, 21, 22, 23, 24, 25, 54, 55, 56, 57, 58, 59, 60, 61, 62, 63, 64, 65, 66, 67, 72, 73, 74, 75, 76, 77, 78, 79, 80, 81, 82, 83, 84, 85, 86, 87, 88, 89, 90, 91, 92, 93, 94, 95, 96, 97, 98, 99, 100, 101, 102, 103, 104, 105, 106, 107, 108, 109, 110, 111, 112, 113, 114] (by eq_refl) (by decide +kernel)
set_option maxRecDepth 20000 in
theorem gX11_run_X11_enter : GoodIn wsX11_run (wsV RX11 179 RX11 yX11_enter wsX11_enter) := goodIn_app (goodIn_r _ [32, 33, 34, 12] (by eq_refl) (by decide +kernel)) ggX11_run_X11_enter
set_option maxRecDepth 20000 in
theorem ggX11_run_X11_tryPair : GoodIn wsX11_run wsX11_tryPair := goodIn_r _ [71, 7, 6, 26, 37, 38, 36, 5, 49, 50, 51, 12, 52, 3, 53, 27, 28, 29, 30, 31, 15, 16, 17, 18, 19, 20, 21, 22, 23, 24, 25, 54, 55, 56, 57, 58, 14, 59, 60, 61, 62, 63, 72, 73, 74, 75, 76, 77, 78, 79, 80, 81, 82, 83, 84, 85, 86, 87, 88, 89, 90, 91, 92, 93, 94, 95, 96, 97, 98, 99, 100, 101, 102, 103, 104, 105, 106, 107, 108, 109, 110, 111, 112, 113, 114] (by eq_refl) (by decide +kernel)
set_option maxRecDepth 20000 in
theorem gX11_run_X11_tryPair : GoodIn wsX11_run (wsV RX11 182 RX11 yX11_tryPair wsX11_tryPair) := goodIn_app (goodIn_r _ [68, 69, 70, 12] (by eq_refl) (by decide +kernel)) ggX11_run_X11_tryPair
theorem dX11_run_0 : decode cX11_run 0 = .ok (.aload_n 0, 1) := by decide +kernel
theorem dX11_run_1 : decode cX11_run 1 = .ok (.iconst 0, 1) := by decide +kernel
theorem dX11_run_2 : decode cX11_run 2 = .ok (.putfield 99, 3) := by decide +kernel
theorem dX11_run_5 : decode cX11_run 5 = .ok (.aload_n 0, 1) := by decide +kernel
theorem dX11_run_6 : decode cX11_run 6 = .ok (.invokevirtual 147, 3) := by decide +kernel
theorem dX11_run_9 : decode cX11_run 9 = .ok (.aload_n 0, 1) := by decide +kernel
theorem dX11_run_10 : decode cX11_run 10 = .ok (.iconst 0, 1) := by decide +kernel
theorem dX11_run_11 : decode cX11_run 11 = .ok (.putfield 107, 3) := by decide +kernel
theorem dX11_run_14 : decode cX11_run 14 = .ok (.iconst 0, 1) := by decide +kernel
theorem dX11_run_15 : decode cX11_run 15 = .ok (.istore_n 1, 1) := by decide +kernel
theorem dX11_run_16 : decode cX11_run 16 = .ok (.iload_n 1, 1) := by decide +kernel
theorem dX11_run_17 : decode cX11_run 17 = .ok (.iconst 4, 1) := by decide +kernel
theorem dX11_run_18 : decode cX11_run 18 = .ok (.if_icmp .ge 43, 3) := by decide +kernel
theorem dX11_run_21 : decode cX11_run 21 = .ok (.iconst 0, 1) := by decide +kernel
theorem dX11_run_22 : decode cX11_run 22 = .ok (.istore_n 2, 1) := by decide +kernel
theorem dX11_run_23 : decode cX11_run 23 = .ok (.iload_n 2, 1) := by decide +kernel
theorem dX11_run_24 : decode cX11_run 24 = .ok (.iload_n 1, 1) := by decide +kernel
theorem dX11_run_25 : decode cX11_run 25 = .ok (.iconst 2, 1) := by decide +kernel
theorem dX11_run_26 : decode cX11_run 26 = .ok (.if_icmp .ge 10, 3) := by decide +kernel
theorem dX11_run_29 : decode cX11_run 29 = .ok (.aload_n 0, 1) := by decide +kernel
theorem dX11_run_30 : decode cX11_run 30 = .ok (.getfield 113, 3) := by decide +kernel
theorem dX11_run_33 : decode cX11_run 33 = .ok (.goto 7, 3) := by decide +kernel
theorem dX11_run_36 : decode cX11_run 36 = .ok (.aload_n 0, 1) := by decide +kernel
theorem dX11_run_37 : decode cX11_run 37 = .ok (.getfield 150, 3) := by decide +kernel
theorem dX11_run_40 : decode cX11_run 40 = .ok (.if_icmp .ge 15, 3) := by decide +kernel
theorem dX11_run_43 : decode cX11_run 43 = .ok (.aload_n 0, 1) := by decide +kernel
theorem dX11_run_44 : decode cX11_run 44 = .ok (.iload_n 1, 1) := by decide +kernel
theorem dX11_run_45 : decode cX11_run 45 = .ok (.iload_n 2, 1) := by decide +kernel
theorem dX11_run_46 : decode cX11_run 46 = .ok (.invokevirtual 179, 3) := by decide +kernel
theorem dX11_run_49 : decode cX11_run 49 = .ok (.iinc 2 1, 3) := by decide +kernel
theorem dX11_run_52 : decode cX11_run 52 = .ok (.goto (-29), 3) := by decide +kernel
theorem dX11_run_55 : decode cX11_run 55 = .ok (.iinc 1 1, 3) := by decide +kernel
theorem dX11_run_58 : decode cX11_run 58 = .ok (.goto (-42), 3) := by decide +kernel
theorem dX11_run_61 : decode cX11_run 61 = .ok (.aload_n 0, 1) := by decide +kernel
theorem dX11_run_62 : decode cX11_run 62 = .ok (.getfield 63, 3) := by decide +kernel
theorem dX11_run_65 : decode cX11_run 65 = .ok (.iconst 0, 1) := by decide +kernel
theorem dX11_run_66 : decode cX11_run 66 = .ok (.iconst (-1), 1) := by decide +kernel
theorem dX11_run_67 : decode cX11_run 67 = .ok (.iastore, 1) := by decide +kernel
theorem dX11_run_68 : decode cX11_run 68 = .ok (.aload_n 0, 1) := by decide +kernel
theorem dX11_run_69 : decode cX11_run 69 = .ok (.getfield 63, 3) := by decide +kernel
theorem dX11_run_72 : decode cX11_run 72 = .ok (.iconst 1, 1) := by decide +kernel
theorem dX11_run_73 : decode cX11_run 73 = .ok (.iconst (-1), 1) := by decide +kernel
theorem dX11_run_74 : decode cX11_run 74 = .ok (.iastore, 1) := by decide +kernel
theorem dX11_run_75 : decode cX11_run 75 = .ok (.iconst 2, 1) := by decide +kernel
theorem dX11_run_76 : decode cX11_run 76 = .ok (.istore_n 1, 1) := by decide +kernel
theorem dX11_run_77 : decode cX11_run 77 = .ok (.iload_n 1, 1) := by decide +kernel
theorem dX11_run_78 : decode cX11_run 78 = .ok (.bipush 6, 2) := by decide +kernel
theorem dX11_run_80 : decode cX11_run 80 = .ok (.if_icmp .ge 16, 3) := by decide +kernel
theorem dX11_run_83 : decode cX11_run 83 = .ok (.aload_n 0, 1) := by decide +kernel
theorem dX11_run_84 : decode cX11_run 84 = .ok (.getfield 63, 3) := by decide +kernel
theorem dX11_run_87 : decode cX11_run 87 = .ok (.iload_n 1, 1) := by decide +kernel
theorem dX11_run_88 : decode cX11_run 88 = .ok (.iconst 0, 1) := by decide +kernel
theorem dX11_run_89 : decode cX11_run 89 = .ok (.iastore, 1) := by decide +kernel
theorem dX11_run_90 : decode cX11_run 90 = .ok (.iinc 1 1, 3) := by decide +kernel
theorem dX11_run_93 : decode cX11_run 93 = .ok (.goto (-16), 3) := by decide +kernel
theorem dX11_run_96 : decode cX11_run 96 = .ok (.iconst 0, 1) := by decide +kernel
theorem dX11_run_97 : decode cX11_run 97 = .ok (.istore_n 1, 1) := by decide +kernel
theorem dX11_run_98 : decode cX11_run 98 = .ok (.iconst 0, 1) := by decide +kernel
theorem dX11_run_99 : decode cX11_run 99 = .ok (.istore_n 2, 1) := by decide +kernel
theorem dX11_run_100 : decode cX11_run 100 = .ok (.iload_n 1, 1) := by decide +kernel
theorem dX11_run_101 : decode cX11_run 101 = .ok (.aload_n 0, 1) := by decide +kernel
theorem dX11_run_102 : decode cX11_run 102 = .ok (.getfield 107, 3) := by decide +kernel
theorem dX11_run_105 : decode cX11_run 105 = .ok (.if_icmp .ge 33, 3) := by decide +kernel
theorem dX11_run_108 : decode cX11_run 108 = .ok (.iload_n 2, 1) := by decide +kernel
theorem dX11_run_109 : decode cX11_run 109 = .ok (.bipush 12, 2) := by decide +kernel
theorem dX11_run_111 : decode cX11_run 111 = .ok (.if_icmp .ge 27, 3) := by decide +kernel
theorem dX11_run_114 : decode cX11_run 114 = .ok (.aload_n 0, 1) := by decide +kernel
theorem dX11_run_115 : decode cX11_run 115 = .ok (.getfield 45, 3) := by decide +kernel
theorem dX11_run_118 : decode cX11_run 118 = .ok (.iload_n 1, 1) := by decide +kernel
theorem dX11_run_119 : decode cX11_run 119 = .ok (.iaload, 1) := by decide +kernel
theorem dX11_run_120 : decode cX11_run 120 = .ok (.iconst 2, 1) := by decide +kernel
theorem dX11_run_121 : decode cX11_run 121 = .ok (.if_icmp .ge 9, 3) := by decide +kernel
theorem dX11_run_124 : decode cX11_run 124 = .ok (.iload_n 2, 1) := by decide +kernel
theorem dX11_run_125 : decode cX11_run 125 = .ok (.iconst 1, 1) := by decide +kernel
theorem dX11_run_126 : decode cX11_run 126 = .ok (.iadd, 1) := by decide +kernel
theorem dX11_run_127 : decode cX11_run 127 = .ok (.goto 4, 3) := by decide +kernel
theorem dX11_run_130 : decode cX11_run 130 = .ok (.iload_n 2, 1) := by decide +kernel
theorem dX11_run_131 : decode cX11_run 131 = .ok (.istore_n 2, 1) := by decide +kernel
theorem dX11_run_132 : decode cX11_run 132 = .ok (.iinc 1 1, 3) := by decide +kernel
theorem dX11_run_135 : decode cX11_run 135 = .ok (.goto (-35), 3) := by decide +kernel
theorem dX11_run_138 : decode cX11_run 138 = .ok (.iconst 0, 1) := by decide +kernel
theorem dX11_run_139 : decode cX11_run 139 = .ok (.istore_n 3, 1) := by decide +kernel
theorem dX11_run_140 : decode cX11_run 140 = .ok (.iload_n 3, 1) := by decide +kernel
theorem dX11_run_141 : decode cX11_run 141 = .ok (.iload_n 1, 1) := by decide +kernel
theorem dX11_run_142 : decode cX11_run 142 = .ok (.if_icmp .ge 70, 3) := by decide +kernel
theorem dX11_run_145 : decode cX11_run 145 = .ok (.iload_n 3, 1) := by decide +kernel
theorem dX11_run_146 : decode cX11_run 146 = .ok (.iconst 1, 1) := by decide +kernel
theorem dX11_run_147 : decode cX11_run 147 = .ok (.iadd, 1) := by decide +kernel
theorem dX11_run_148 : decode cX11_run 148 = .ok (.istore 4, 2) := by decide +kernel
theorem dX11_run_150 : decode cX11_run 150 = .ok (.iload 4, 2) := by decide +kernel
theorem dX11_run_152 : decode cX11_run 152 = .ok (.iload_n 1, 1) := by decide +kernel
theorem dX11_run_153 : decode cX11_run 153 = .ok (.if_icmp .ge 53, 3) := by decide +kernel
theorem dX11_run_156 : decode cX11_run 156 = .ok (.aload_n 0, 1) := by decide +kernel
theorem dX11_run_157 : decode cX11_run 157 = .ok (.getfield 45, 3) := by decide +kernel
theorem dX11_run_160 : decode cX11_run 160 = .ok (.iload_n 3, 1) := by decide +kernel
theorem dX11_run_161 : decode cX11_run 161 = .ok (.iaload, 1) := by decide +kernel
theorem dX11_run_162 : decode cX11_run 162 = .ok (.iconst 2, 1) := by decide +kernel
theorem dX11_run_163 : decode cX11_run 163 = .ok (.if_icmp .ge 37, 3) := by decide +kernel
theorem dX11_run_166 : decode cX11_run 166 = .ok (.aload_n 0, 1) := by decide +kernel
theorem dX11_run_167 : decode cX11_run 167 = .ok (.getfield 45, 3) := by decide +kernel
theorem dX11_run_170 : decode cX11_run 170 = .ok (.iload 4, 2) := by decide +kernel
theorem dX11_run_172 : decode cX11_run 172 = .ok (.iaload, 1) := by decide +kernel
theorem dX11_run_173 : decode cX11_run 173 = .ok (.iconst 2, 1) := by decide +kernel
theorem dX11_run_174 : decode cX11_run 174 = .ok (.if_icmp .ge 26, 3) := by decide +kernel
theorem dX11_run_177 : decode cX11_run 177 = .ok (.aload_n 0, 1) := by decide +kernel
theorem dX11_run_178 : decode cX11_run 178 = .ok (.getfield 48, 3) := by decide +kernel
theorem dX11_run_181 : decode cX11_run 181 = .ok (.iload_n 3, 1) := by decide +kernel
theorem dX11_run_182 : decode cX11_run 182 = .ok (.iaload, 1) := by decide +kernel
theorem dX11_run_183 : decode cX11_run 183 = .ok (.aload_n 0, 1) := by decide +kernel
theorem dX11_run_184 : decode cX11_run 184 = .ok (.getfield 48, 3) := by decide +kernel
theorem dX11_run_187 : decode cX11_run 187 = .ok (.iload 4, 2) := by decide +kernel
theorem dX11_run_189 : decode cX11_run 189 = .ok (.iaload, 1) := by decide +kernel
theorem dX11_run_190 : decode cX11_run 190 = .ok (.if_icmp .eq 10, 3) := by decide +kernel
theorem dX11_run_193 : decode cX11_run 193 = .ok (.aload_n 0, 1) := by decide +kernel
theorem dX11_run_194 : decode cX11_run 194 = .ok (.iload_n 3, 1) := by decide +kernel
theorem dX11_run_195 : decode cX11_run 195 = .ok (.iload 4, 2) := by decide +kernel
theorem dX11_run_197 : decode cX11_run 197 = .ok (.invokevirtual 182, 3) := by decide +kernel
theorem dX11_run_200 : decode cX11_run 200 = .ok (.iinc 4 1, 3) := by decide +kernel
theorem dX11_run_203 : decode cX11_run 203 = .ok (.goto (-53), 3) := by decide +kernel
theorem dX11_run_206 : decode cX11_run 206 = .ok (.iinc 3 1, 3) := by decide +kernel
theorem dX11_run_209 : decode cX11_run 209 = .ok (.goto (-69), 3) := by decide +kernel
theorem dX11_run_212 : decode cX11_run 212 = .ok (.aload_n 0, 1) := by decide +kernel
theorem dX11_run_213 : decode cX11_run 213 = .ok (.iconst 1, 1) := by decide +kernel
theorem dX11_run_214 : decode cX11_run 214 = .ok (.putfield 103, 3) := by decide +kernel
theorem dX11_run_217 : decode cX11_run 217 = .ok (.aload_n 0, 1) := by decide +kernel
theorem dX11_run_218 : decode cX11_run 218 = .ok (.getfield 107, 3) := by decide +kernel
theorem dX11_run_221 : decode cX11_run 221 = .ok (.ireturn, 1) := by decide +kernel
set_option maxRecDepth 20000 in
theorem ggX11_suspect_X11_isIn : GoodIn wsX11_suspect wsX11_isIn := goodIn_r _ [15] (by eq_refl) (by decide +kernel)
set_option maxRecDepth 20000 in
theorem gX11_suspect_X11_isIn : GoodIn wsX11_suspect (va_wsS RX11 119 yX11_isIn wsX11_isIn) := goodIn_app (goodIn_r _ [12, 13, 14] (by eq_refl) (by decide +kernel)) ggX11_suspect_X11_isIn
theorem dX11_suspect_0 : decode cX11_suspect 0 = .ok (.aload_n 0, 1) := by decide +kernel
theorem dX11_suspect_1 : decode cX11_suspect 1 = .ok (.iload_n 2, 1) := by decide +kernel
theorem dX11_suspect_2 : decode cX11_suspect 2 = .ok (.bipush 7, 2) := by decide +kernel
theorem dX11_suspect_4 : decode cX11_suspect 4 = .ok (.invokestatic 119, 3) := by decide +kernel
