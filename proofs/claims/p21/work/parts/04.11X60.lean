theorem dX6_init_0 : decode cX6_init 0 = .ok (.aload_n 0, 1) := by decide +kernel
theorem dX6_init_1 : decode cX6_init 1 = .ok (.invokespecial 3, 3) := by decide +kernel
theorem dX6_init_4 : decode cX6_init 4 = .ok (.aload_n 0, 1) := by decide +kernel
theorem dX6_init_5 : decode cX6_init 5 = .ok (.bipush 60, 2) := by decide +kernel
theorem dX6_init_7 : decode cX6_init 7 = .ok (.newarray .int, 2) := by decide +kernel
theorem dX6_init_9 : decode cX6_init 9 = .ok (.putfield 9, 3) := by decide +kernel
theorem dX6_init_12 : decode cX6_init 12 = .ok (.aload_n 0, 1) := by decide +kernel
theorem dX6_init_13 : decode cX6_init 13 = .ok (.bipush 60, 2) := by decide +kernel
theorem dX6_init_15 : decode cX6_init 15 = .ok (.newarray .int, 2) := by decide +kernel
theorem dX6_init_17 : decode cX6_init 17 = .ok (.putfield 15, 3) := by decide +kernel
theorem dX6_init_20 : decode cX6_init 20 = .ok (.aload_n 0, 1) := by decide +kernel
theorem dX6_init_21 : decode cX6_init 21 = .ok (.bipush 60, 2) := by decide +kernel
theorem dX6_init_23 : decode cX6_init 23 = .ok (.newarray .int, 2) := by decide +kernel
theorem dX6_init_25 : decode cX6_init 25 = .ok (.putfield 18, 3) := by decide +kernel
theorem dX6_init_28 : decode cX6_init 28 = .ok (.aload_n 0, 1) := by decide +kernel
theorem dX6_init_29 : decode cX6_init 29 = .ok (.bipush 60, 2) := by decide +kernel
theorem dX6_init_31 : decode cX6_init 31 = .ok (.newarray .int, 2) := by decide +kernel
theorem dX6_init_33 : decode cX6_init 33 = .ok (.putfield 21, 3) := by decide +kernel
theorem dX6_init_36 : decode cX6_init 36 = .ok (.aload_n 0, 1) := by decide +kernel
theorem dX6_init_37 : decode cX6_init 37 = .ok (.bipush 60, 2) := by decide +kernel
theorem dX6_init_39 : decode cX6_init 39 = .ok (.newarray .int, 2) := by decide +kernel
theorem dX6_init_41 : decode cX6_init 41 = .ok (.putfield 24, 3) := by decide +kernel
theorem dX6_init_44 : decode cX6_init 44 = .ok (.aload_n 0, 1) := by decide +kernel
theorem dX6_init_45 : decode cX6_init 45 = .ok (.bipush 60, 2) := by decide +kernel
theorem dX6_init_47 : decode cX6_init 47 = .ok (.newarray .int, 2) := by decide +kernel
theorem dX6_init_49 : decode cX6_init 49 = .ok (.putfield 27, 3) := by decide +kernel
theorem dX6_init_52 : decode cX6_init 52 = .ok (.aload_n 0, 1) := by decide +kernel
theorem dX6_init_53 : decode cX6_init 53 = .ok (.bipush 120, 2) := by decide +kernel
theorem dX6_init_55 : decode cX6_init 55 = .ok (.newarray .int, 2) := by decide +kernel
theorem dX6_init_57 : decode cX6_init 57 = .ok (.putfield 30, 3) := by decide +kernel
theorem dX6_init_60 : decode cX6_init 60 = .ok (.return_, 1) := by decide +kernel
theorem dX6_size_0 : decode cX6_size 0 = .ok (.aload_n 0, 1) := by decide +kernel
theorem dX6_size_1 : decode cX6_size 1 = .ok (.getfield 33, 3) := by decide +kernel
theorem dX6_size_4 : decode cX6_size 4 = .ok (.ireturn, 1) := by decide +kernel
set_option maxRecDepth 20000 in
theorem ggX6_add_X6_shapesOf : GoodIn wsX6_add wsX6_shapesOf := goodIn_r _ [11, 2, 1, 12, 13, 14, 15, 16, 17, 18, 19, 20] (by eq_refl) (by decide +kernel)
set_option maxRecDepth 20000 in
theorem gX6_add_X6_shapesOf : GoodIn wsX6_add (wsV RX6 37 RX6 yX6_shapesOf wsX6_shapesOf) := goodIn_app (goodIn_r _ [7, 8, 9, 10] (by eq_refl) (by decide +kernel)) ggX6_add_X6_shapesOf
theorem dX6_add_0 : decode cX6_add 0 = .ok (.aload_n 0, 1) := by decide +kernel
theorem dX6_add_1 : decode cX6_add 1 = .ok (.getfield 9, 3) := by decide +kernel
theorem dX6_add_4 : decode cX6_add 4 = .ok (.aload_n 0, 1) := by decide +kernel
theorem dX6_add_5 : decode cX6_add 5 = .ok (.getfield 33, 3) := by decide +kernel
theorem dX6_add_8 : decode cX6_add 8 = .ok (.iload_n 1, 1) := by decide +kernel
theorem dX6_add_9 : decode cX6_add 9 = .ok (.iastore, 1) := by decide +kernel
theorem dX6_add_10 : decode cX6_add 10 = .ok (.aload_n 0, 1) := by decide +kernel
theorem dX6_add_11 : decode cX6_add 11 = .ok (.getfield 15, 3) := by decide +kernel
theorem dX6_add_14 : decode cX6_add 14 = .ok (.aload_n 0, 1) := by decide +kernel
theorem dX6_add_15 : decode cX6_add 15 = .ok (.getfield 33, 3) := by decide +kernel
theorem dX6_add_18 : decode cX6_add 18 = .ok (.iload_n 2, 1) := by decide +kernel
theorem dX6_add_19 : decode cX6_add 19 = .ok (.iastore, 1) := by decide +kernel
theorem dX6_add_20 : decode cX6_add 20 = .ok (.aload_n 0, 1) := by decide +kernel
theorem dX6_add_21 : decode cX6_add 21 = .ok (.getfield 18, 3) := by decide +kernel
theorem dX6_add_24 : decode cX6_add 24 = .ok (.aload_n 0, 1) := by decide +kernel
theorem dX6_add_25 : decode cX6_add 25 = .ok (.getfield 33, 3) := by decide +kernel
theorem dX6_add_28 : decode cX6_add 28 = .ok (.iload_n 3, 1) := by decide +kernel
theorem dX6_add_29 : decode cX6_add 29 = .ok (.iastore, 1) := by decide +kernel
theorem dX6_add_30 : decode cX6_add 30 = .ok (.aload_n 0, 1) := by decide +kernel
theorem dX6_add_31 : decode cX6_add 31 = .ok (.getfield 21, 3) := by decide +kernel
theorem dX6_add_34 : decode cX6_add 34 = .ok (.aload_n 0, 1) := by decide +kernel
theorem dX6_add_35 : decode cX6_add 35 = .ok (.getfield 33, 3) := by decide +kernel
theorem dX6_add_38 : decode cX6_add 38 = .ok (.iload 4, 2) := by decide +kernel
theorem dX6_add_40 : decode cX6_add 40 = .ok (.iastore, 1) := by decide +kernel
theorem dX6_add_41 : decode cX6_add 41 = .ok (.aload_n 0, 1) := by decide +kernel
theorem dX6_add_42 : decode cX6_add 42 = .ok (.getfield 24, 3) := by decide +kernel
theorem dX6_add_45 : decode cX6_add 45 = .ok (.aload_n 0, 1) := by decide +kernel
theorem dX6_add_46 : decode cX6_add 46 = .ok (.getfield 33, 3) := by decide +kernel
theorem dX6_add_49 : decode cX6_add 49 = .ok (.iload 5, 2) := by decide +kernel
theorem dX6_add_51 : decode cX6_add 51 = .ok (.iastore, 1) := by decide +kernel
theorem dX6_add_52 : decode cX6_add 52 = .ok (.aload_n 0, 1) := by decide +kernel
theorem dX6_add_53 : decode cX6_add 53 = .ok (.dup, 1) := by decide +kernel
theorem dX6_add_54 : decode cX6_add 54 = .ok (.getfield 33, 3) := by decide +kernel
theorem dX6_add_57 : decode cX6_add 57 = .ok (.iconst 1, 1) := by decide +kernel
theorem dX6_add_58 : decode cX6_add 58 = .ok (.iadd, 1) := by decide +kernel
theorem dX6_add_59 : decode cX6_add 59 = .ok (.putfield 33, 3) := by decide +kernel
theorem dX6_add_62 : decode cX6_add 62 = .ok (.aload_n 0, 1) := by decide +kernel
theorem dX6_add_63 : decode cX6_add 63 = .ok (.iload_n 1, 1) := by decide +kernel
theorem dX6_add_64 : decode cX6_add 64 = .ok (.invokevirtual 37, 3) := by decide +kernel
theorem dX6_add_67 : decode cX6_add 67 = .ok (.ireturn, 1) := by decide +kernel
theorem dX6_shapesOf_0 : decode cX6_shapesOf 0 = .ok (.iconst 0, 1) := by decide +kernel
theorem dX6_shapesOf_1 : decode cX6_shapesOf 1 = .ok (.istore_n 2, 1) := by decide +kernel
theorem dX6_shapesOf_2 : decode cX6_shapesOf 2 = .ok (.iconst 0, 1) := by decide +kernel
theorem dX6_shapesOf_3 : decode cX6_shapesOf 3 = .ok (.istore_n 3, 1) := by decide +kernel
theorem dX6_shapesOf_4 : decode cX6_shapesOf 4 = .ok (.iload_n 3, 1) := by decide +kernel
theorem dX6_shapesOf_5 : decode cX6_shapesOf 5 = .ok (.aload_n 0, 1) := by decide +kernel
theorem dX6_shapesOf_6 : decode cX6_shapesOf 6 = .ok (.getfield 33, 3) := by decide +kernel
theorem dX6_shapesOf_9 : decode cX6_shapesOf 9 = .ok (.if_icmp .ge 22, 3) := by decide +kernel
theorem dX6_shapesOf_12 : decode cX6_shapesOf 12 = .ok (.aload_n 0, 1) := by decide +kernel
theorem dX6_shapesOf_13 : decode cX6_shapesOf 13 = .ok (.getfield 9, 3) := by decide +kernel
theorem dX6_shapesOf_16 : decode cX6_shapesOf 16 = .ok (.iload_n 3, 1) := by decide +kernel
theorem dX6_shapesOf_17 : decode cX6_shapesOf 17 = .ok (.iaload, 1) := by decide +kernel
theorem dX6_shapesOf_18 : decode cX6_shapesOf 18 = .ok (.iload_n 1, 1) := by decide +kernel
theorem dX6_shapesOf_19 : decode cX6_shapesOf 19 = .ok (.if_icmp .ne 6, 3) := by decide +kernel
theorem dX6_shapesOf_22 : decode cX6_shapesOf 22 = .ok (.iinc 2 1, 3) := by decide +kernel
theorem dX6_shapesOf_25 : decode cX6_shapesOf 25 = .ok (.iinc 3 1, 3) := by decide +kernel
theorem dX6_shapesOf_28 : decode cX6_shapesOf 28 = .ok (.goto (-24), 3) := by decide +kernel
theorem dX6_shapesOf_31 : decode cX6_shapesOf 31 = .ok (.iload_n 2, 1) := by decide +kernel
theorem dX6_shapesOf_32 : decode cX6_shapesOf 32 = .ok (.ireturn, 1) := by decide +kernel
set_option maxRecDepth 20000 in
theorem ggX6_coveredByBoth_X6_coveredByEither : GoodIn wsX6_coveredByBoth wsX6_coveredByEither := goodIn_r _ [5, 6, 7, 8, 9, 10, 4, 11, 12, 13, 14, 15, 16, 17, 18, 19, 20, 21, 22, 23, 24, 25, 26, 27, 28, 29, 30, 31, 32, 33, 34, 35, 36, 37, 38, 39, 40, 41, 42, 43] (by eq_refl) (by decide +kernel)
set_option maxRecDepth 20000 in
theorem gX6_coveredByBoth_X6_coveredByEither : GoodIn wsX6_coveredByBoth (wsV RX6 41 RX6 yX6_coveredByEither wsX6_coveredByEither) := goodIn_app (goodIn_r _ [1, 2, 3, 4] (by eq_refl) (by decide +kernel)) ggX6_coveredByBoth_X6_coveredByEither
theorem dX6_coveredByBoth_0 : decode cX6_coveredByBoth 0 = .ok (.aload_n 0, 1) := by decide +kernel
theorem dX6_coveredByBoth_1 : decode cX6_coveredByBoth 1 = .ok (.iload_n 1, 1) := by decide +kernel
theorem dX6_coveredByBoth_2 : decode cX6_coveredByBoth 2 = .ok (.iload_n 1, 1) := by decide +kernel
theorem dX6_coveredByBoth_3 : decode cX6_coveredByBoth 3 = .ok (.iload_n 3, 1) := by decide +kernel
theorem dX6_coveredByBoth_4 : decode cX6_coveredByBoth 4 = .ok (.invokevirtual 41, 3) := by decide +kernel
theorem dX6_coveredByBoth_7 : decode cX6_coveredByBoth 7 = .ok (.aload_n 0, 1) := by decide +kernel
theorem dX6_coveredByBoth_8 : decode cX6_coveredByBoth 8 = .ok (.iload_n 2, 1) := by decide +kernel
theorem dX6_coveredByBoth_9 : decode cX6_coveredByBoth 9 = .ok (.iload_n 2, 1) := by decide +kernel
theorem dX6_coveredByBoth_10 : decode cX6_coveredByBoth 10 = .ok (.iload_n 3, 1) := by decide +kernel
theorem dX6_coveredByBoth_11 : decode cX6_coveredByBoth 11 = .ok (.invokevirtual 41, 3) := by decide +kernel
theorem dX6_coveredByBoth_14 : decode cX6_coveredByBoth 14 = .ok (.iadd, 1) := by decide +kernel
theorem dX6_coveredByBoth_15 : decode cX6_coveredByBoth 15 = .ok (.aload_n 0, 1) := by decide +kernel
theorem dX6_coveredByBoth_16 : decode cX6_coveredByBoth 16 = .ok (.iload_n 1, 1) := by decide +kernel
theorem dX6_coveredByBoth_17 : decode cX6_coveredByBoth 17 = .ok (.iload_n 2, 1) := by decide +kernel
theorem dX6_coveredByBoth_18 : decode cX6_coveredByBoth 18 = .ok (.iload_n 3, 1) := by decide +kernel
theorem dX6_coveredByBoth_19 : decode cX6_coveredByBoth 19 = .ok (.invokevirtual 41, 3) := by decide +kernel
theorem dX6_coveredByBoth_22 : decode cX6_coveredByBoth 22 = .ok (.isub, 1) := by decide +kernel
theorem dX6_coveredByBoth_23 : decode cX6_coveredByBoth 23 = .ok (.ireturn, 1) := by decide +kernel
set_option maxRecDepth 20000 in
theorem ggX6_coveredByEither_X6_choose : GoodIn wsX6_coveredByEither wsX6_choose := goodIn_r _ [7, 1, 8, 9, 10, 11, 12, 13, 14, 6, 15, 2, 16, 17, 18, 19, 20, 21, 31, 32, 33, 34, 35, 36, 37, 38, 39] (by eq_refl) (by decide +kernel)
set_option maxRecDepth 20000 in
theorem gX6_coveredByEither_X6_choose : GoodIn wsX6_coveredByEither (wsV RX6 45 RX6 yX6_choose wsX6_choose) := goodIn_app (goodIn_r _ [3, 4, 5, 6] (by eq_refl) (by decide +kernel)) ggX6_coveredByEither_X6_choose
set_option maxRecDepth 20000 in
theorem ggX6_coveredByEither_X6_heightAt : GoodIn wsX6_coveredByEither wsX6_heightAt := goodIn_r _ [25, 1, 21, 10, 11, 20, 26, 27, 28, 29, 30, 31, 32, 33, 34, 35, 36, 37, 38, 39] (by eq_refl) (by decide +kernel)
set_option maxRecDepth 20000 in
theorem gX6_coveredByEither_X6_heightAt : GoodIn wsX6_coveredByEither (wsV RX6 52 RX6 yX6_heightAt wsX6_heightAt) := goodIn_app (goodIn_r _ [22, 23, 24, 6] (by eq_refl) (by decide +kernel)) ggX6_coveredByEither_X6_heightAt
theorem dX6_coveredByEither_0 : decode cX6_coveredByEither 0 = .ok (.aload_n 0, 1) := by decide +kernel
theorem dX6_coveredByEither_1 : decode cX6_coveredByEither 1 = .ok (.iload_n 1, 1) := by decide +kernel
theorem dX6_coveredByEither_2 : decode cX6_coveredByEither 2 = .ok (.iload_n 2, 1) := by decide +kernel
theorem dX6_coveredByEither_3 : decode cX6_coveredByEither 3 = .ok (.iload_n 3, 1) := by decide +kernel
theorem dX6_coveredByEither_4 : decode cX6_coveredByEither 4 = .ok (.invokevirtual 45, 3) := by decide +kernel
theorem dX6_coveredByEither_7 : decode cX6_coveredByEither 7 = .ok (.iconst 0, 1) := by decide +kernel
theorem dX6_coveredByEither_8 : decode cX6_coveredByEither 8 = .ok (.istore 4, 2) := by decide +kernel
theorem dX6_coveredByEither_10 : decode cX6_coveredByEither 10 = .ok (.iconst 1, 1) := by decide +kernel
theorem dX6_coveredByEither_11 : decode cX6_coveredByEither 11 = .ok (.istore 5, 2) := by decide +kernel
theorem dX6_coveredByEither_13 : decode cX6_coveredByEither 13 = .ok (.iload 5, 2) := by decide +kernel
theorem dX6_coveredByEither_15 : decode cX6_coveredByEither 15 = .ok (.iconst 2, 1) := by decide +kernel
theorem dX6_coveredByEither_16 : decode cX6_coveredByEither 16 = .ok (.aload_n 0, 1) := by decide +kernel
theorem dX6_coveredByEither_17 : decode cX6_coveredByEither 17 = .ok (.getfield 49, 3) := by decide +kernel
theorem dX6_coveredByEither_20 : decode cX6_coveredByEither 20 = .ok (.imul, 1) := by decide +kernel
theorem dX6_coveredByEither_21 : decode cX6_coveredByEither 21 = .ok (.if_icmp .ge 55, 3) := by decide +kernel
theorem dX6_coveredByEither_24 : decode cX6_coveredByEither 24 = .ok (.aload_n 0, 1) := by decide +kernel
theorem dX6_coveredByEither_25 : decode cX6_coveredByEither 25 = .ok (.getfield 30, 3) := by decide +kernel
theorem dX6_coveredByEither_28 : decode cX6_coveredByEither 28 = .ok (.iload 5, 2) := by decide +kernel
theorem dX6_coveredByEither_30 : decode cX6_coveredByEither 30 = .ok (.iaload, 1) := by decide +kernel
theorem dX6_coveredByEither_31 : decode cX6_coveredByEither 31 = .ok (.aload_n 0, 1) := by decide +kernel
theorem dX6_coveredByEither_32 : decode cX6_coveredByEither 32 = .ok (.getfield 30, 3) := by decide +kernel
theorem dX6_coveredByEither_35 : decode cX6_coveredByEither 35 = .ok (.iload 5, 2) := by decide +kernel
theorem dX6_coveredByEither_37 : decode cX6_coveredByEither 37 = .ok (.iconst 1, 1) := by decide +kernel
theorem dX6_coveredByEither_38 : decode cX6_coveredByEither 38 = .ok (.isub, 1) := by decide +kernel
theorem dX6_coveredByEither_39 : decode cX6_coveredByEither 39 = .ok (.iaload, 1) := by decide +kernel
theorem dX6_coveredByEither_40 : decode cX6_coveredByEither 40 = .ok (.isub, 1) := by decide +kernel
theorem dX6_coveredByEither_41 : decode cX6_coveredByEither 41 = .ok (.istore 6, 2) := by decide +kernel
theorem dX6_coveredByEither_43 : decode cX6_coveredByEither 43 = .ok (.iload 6, 2) := by decide +kernel
theorem dX6_coveredByEither_45 : decode cX6_coveredByEither 45 = .ok (.ifCond .le 25, 3) := by decide +kernel
theorem dX6_coveredByEither_48 : decode cX6_coveredByEither 48 = .ok (.iload 4, 2) := by decide +kernel
theorem dX6_coveredByEither_50 : decode cX6_coveredByEither 50 = .ok (.iload 6, 2) := by decide +kernel
theorem dX6_coveredByEither_52 : decode cX6_coveredByEither 52 = .ok (.aload_n 0, 1) := by decide +kernel
theorem dX6_coveredByEither_53 : decode cX6_coveredByEither 53 = .ok (.aload_n 0, 1) := by decide +kernel
theorem dX6_coveredByEither_54 : decode cX6_coveredByEither 54 = .ok (.getfield 30, 3) := by decide +kernel
theorem dX6_coveredByEither_57 : decode cX6_coveredByEither 57 = .ok (.iload 5, 2) := by decide +kernel
theorem dX6_coveredByEither_59 : decode cX6_coveredByEither 59 = .ok (.iconst 1, 1) := by decide +kernel
theorem dX6_coveredByEither_60 : decode cX6_coveredByEither 60 = .ok (.isub, 1) := by decide +kernel
theorem dX6_coveredByEither_61 : decode cX6_coveredByEither 61 = .ok (.iaload, 1) := by decide +kernel
theorem dX6_coveredByEither_62 : decode cX6_coveredByEither 62 = .ok (.iload_n 3, 1) := by decide +kernel
theorem dX6_coveredByEither_63 : decode cX6_coveredByEither 63 = .ok (.invokevirtual 52, 3) := by decide +kernel
theorem dX6_coveredByEither_66 : decode cX6_coveredByEither 66 = .ok (.imul, 1) := by decide +kernel
theorem dX6_coveredByEither_67 : decode cX6_coveredByEither 67 = .ok (.iadd, 1) := by decide +kernel
theorem dX6_coveredByEither_68 : decode cX6_coveredByEither 68 = .ok (.istore 4, 2) := by decide +kernel
theorem dX6_coveredByEither_70 : decode cX6_coveredByEither 70 = .ok (.iinc 5 1, 3) := by decide +kernel
theorem dX6_coveredByEither_73 : decode cX6_coveredByEither 73 = .ok (.goto (-60), 3) := by decide +kernel
theorem dX6_coveredByEither_76 : decode cX6_coveredByEither 76 = .ok (.iload 4, 2) := by decide +kernel
theorem dX6_coveredByEither_78 : decode cX6_coveredByEither 78 = .ok (.ireturn, 1) := by decide +kernel
set_option maxRecDepth 20000 in
theorem ggX6_choose_X6_putEdge : GoodIn wsX6_choose wsX6_putEdge := goodIn_r _ [10, 11, 18, 19, 20, 21, 22, 23, 24, 25, 26] (by eq_refl) (by decide +kernel)
set_option maxRecDepth 20000 in
theorem gX6_choose_X6_putEdge : GoodIn wsX6_choose (wsV RX6 56 RX6 yX6_putEdge wsX6_putEdge) := goodIn_app (goodIn_r _ [6, 7, 8, 9] (by eq_refl) (by decide +kernel)) ggX6_choose_X6_putEdge
set_option maxRecDepth 20000 in
theorem ggX6_choose_X6_putByBottom : GoodIn wsX6_choose wsX6_putByBottom := goodIn_r _ [15, 1, 16, 17, 18, 19, 20, 21, 22, 23, 24, 25, 26] (by eq_refl) (by decide +kernel)
set_option maxRecDepth 20000 in
theorem gX6_choose_X6_putByBottom : GoodIn wsX6_choose (wsV RX6 60 RX6 yX6_putByBottom wsX6_putByBottom) := goodIn_app (goodIn_r _ [12, 13, 14, 9] (by eq_refl) (by decide +kernel)) ggX6_choose_X6_putByBottom
theorem dX6_choose_0 : decode cX6_choose 0 = .ok (.aload_n 0, 1) := by decide +kernel
theorem dX6_choose_1 : decode cX6_choose 1 = .ok (.iconst 0, 1) := by decide +kernel
theorem dX6_choose_2 : decode cX6_choose 2 = .ok (.putfield 49, 3) := by decide +kernel
theorem dX6_choose_5 : decode cX6_choose 5 = .ok (.iconst 0, 1) := by decide +kernel
theorem dX6_choose_6 : decode cX6_choose 6 = .ok (.istore 4, 2) := by decide +kernel
theorem dX6_choose_8 : decode cX6_choose 8 = .ok (.iload 4, 2) := by decide +kernel
theorem dX6_choose_10 : decode cX6_choose 10 = .ok (.aload_n 0, 1) := by decide +kernel
theorem dX6_choose_11 : decode cX6_choose 11 = .ok (.getfield 33, 3) := by decide +kernel
theorem dX6_choose_14 : decode cX6_choose 14 = .ok (.if_icmp .ge 87, 3) := by decide +kernel
theorem dX6_choose_17 : decode cX6_choose 17 = .ok (.aload_n 0, 1) := by decide +kernel
theorem dX6_choose_18 : decode cX6_choose 18 = .ok (.getfield 9, 3) := by decide +kernel
theorem dX6_choose_21 : decode cX6_choose 21 = .ok (.iload 4, 2) := by decide +kernel
theorem dX6_choose_23 : decode cX6_choose 23 = .ok (.iaload, 1) := by decide +kernel
theorem dX6_choose_24 : decode cX6_choose 24 = .ok (.iload_n 1, 1) := by decide +kernel
theorem dX6_choose_25 : decode cX6_choose 25 = .ok (.if_icmp .eq 14, 3) := by decide +kernel
theorem dX6_choose_28 : decode cX6_choose 28 = .ok (.aload_n 0, 1) := by decide +kernel
theorem dX6_choose_29 : decode cX6_choose 29 = .ok (.getfield 9, 3) := by decide +kernel
theorem dX6_choose_32 : decode cX6_choose 32 = .ok (.iload 4, 2) := by decide +kernel
theorem dX6_choose_34 : decode cX6_choose 34 = .ok (.iaload, 1) := by decide +kernel
theorem dX6_choose_35 : decode cX6_choose 35 = .ok (.iload_n 2, 1) := by decide +kernel
theorem dX6_choose_36 : decode cX6_choose 36 = .ok (.if_icmp .ne 59, 3) := by decide +kernel
theorem dX6_choose_39 : decode cX6_choose 39 = .ok (.aload_n 0, 1) := by decide +kernel
theorem dX6_choose_40 : decode cX6_choose 40 = .ok (.aload_n 0, 1) := by decide +kernel
theorem dX6_choose_41 : decode cX6_choose 41 = .ok (.getfield 15, 3) := by decide +kernel
theorem dX6_choose_44 : decode cX6_choose 44 = .ok (.iload 4, 2) := by decide +kernel
theorem dX6_choose_46 : decode cX6_choose 46 = .ok (.iaload, 1) := by decide +kernel
theorem dX6_choose_47 : decode cX6_choose 47 = .ok (.iload_n 3, 1) := by decide +kernel
theorem dX6_choose_48 : decode cX6_choose 48 = .ok (.isub, 1) := by decide +kernel
theorem dX6_choose_49 : decode cX6_choose 49 = .ok (.iconst 2, 1) := by decide +kernel
theorem dX6_choose_50 : decode cX6_choose 50 = .ok (.aload_n 0, 1) := by decide +kernel
theorem dX6_choose_51 : decode cX6_choose 51 = .ok (.getfield 49, 3) := by decide +kernel
theorem dX6_choose_54 : decode cX6_choose 54 = .ok (.imul, 1) := by decide +kernel
theorem dX6_choose_55 : decode cX6_choose 55 = .ok (.invokevirtual 56, 3) := by decide +kernel
theorem dX6_choose_58 : decode cX6_choose 58 = .ok (.aload_n 0, 1) := by decide +kernel
theorem dX6_choose_59 : decode cX6_choose 59 = .ok (.aload_n 0, 1) := by decide +kernel
theorem dX6_choose_60 : decode cX6_choose 60 = .ok (.getfield 21, 3) := by decide +kernel
theorem dX6_choose_63 : decode cX6_choose 63 = .ok (.iload 4, 2) := by decide +kernel
theorem dX6_choose_65 : decode cX6_choose 65 = .ok (.iaload, 1) := by decide +kernel
theorem dX6_choose_66 : decode cX6_choose 66 = .ok (.iload_n 3, 1) := by decide +kernel
theorem dX6_choose_67 : decode cX6_choose 67 = .ok (.iadd, 1) := by decide +kernel
theorem dX6_choose_68 : decode cX6_choose 68 = .ok (.iconst 2, 1) := by decide +kernel
theorem dX6_choose_69 : decode cX6_choose 69 = .ok (.aload_n 0, 1) := by decide +kernel
theorem dX6_choose_70 : decode cX6_choose 70 = .ok (.getfield 49, 3) := by decide +kernel
theorem dX6_choose_73 : decode cX6_choose 73 = .ok (.imul, 1) := by decide +kernel
theorem dX6_choose_74 : decode cX6_choose 74 = .ok (.iconst 1, 1) := by decide +kernel
theorem dX6_choose_75 : decode cX6_choose 75 = .ok (.iadd, 1) := by decide +kernel
theorem dX6_choose_76 : decode cX6_choose 76 = .ok (.invokevirtual 56, 3) := by decide +kernel
theorem dX6_choose_79 : decode cX6_choose 79 = .ok (.aload_n 0, 1) := by decide +kernel
theorem dX6_choose_80 : decode cX6_choose 80 = .ok (.iload 4, 2) := by decide +kernel
theorem dX6_choose_82 : decode cX6_choose 82 = .ok (.invokevirtual 60, 3) := by decide +kernel
theorem dX6_choose_85 : decode cX6_choose 85 = .ok (.aload_n 0, 1) := by decide +kernel
theorem dX6_choose_86 : decode cX6_choose 86 = .ok (.dup, 1) := by decide +kernel
theorem dX6_choose_87 : decode cX6_choose 87 = .ok (.getfield 49, 3) := by decide +kernel
theorem dX6_choose_90 : decode cX6_choose 90 = .ok (.iconst 1, 1) := by decide +kernel
theorem dX6_choose_91 : decode cX6_choose 91 = .ok (.iadd, 1) := by decide +kernel
theorem dX6_choose_92 : decode cX6_choose 92 = .ok (.putfield 49, 3) := by decide +kernel
theorem dX6_choose_95 : decode cX6_choose 95 = .ok (.iinc 4 1, 3) := by decide +kernel
theorem dX6_choose_98 : decode cX6_choose 98 = .ok (.goto (-90), 3) := by decide +kernel
theorem dX6_choose_101 : decode cX6_choose 101 = .ok (.return_, 1) := by decide +kernel
theorem dX6_putEdge_0 : decode cX6_putEdge 0 = .ok (.iload_n 2, 1) := by decide +kernel
theorem dX6_putEdge_1 : decode cX6_putEdge 1 = .ok (.istore_n 3, 1) := by decide +kernel
theorem dX6_putEdge_2 : decode cX6_putEdge 2 = .ok (.iload_n 3, 1) := by decide +kernel
theorem dX6_putEdge_3 : decode cX6_putEdge 3 = .ok (.ifCond .le 35, 3) := by decide +kernel
theorem dX6_putEdge_6 : decode cX6_putEdge 6 = .ok (.aload_n 0, 1) := by decide +kernel
theorem dX6_putEdge_7 : decode cX6_putEdge 7 = .ok (.getfield 30, 3) := by decide +kernel
theorem dX6_putEdge_10 : decode cX6_putEdge 10 = .ok (.iload_n 3, 1) := by decide +kernel
theorem dX6_putEdge_11 : decode cX6_putEdge 11 = .ok (.iconst 1, 1) := by decide +kernel
theorem dX6_putEdge_12 : decode cX6_putEdge 12 = .ok (.isub, 1) := by decide +kernel
theorem dX6_putEdge_13 : decode cX6_putEdge 13 = .ok (.iaload, 1) := by decide +kernel
theorem dX6_putEdge_14 : decode cX6_putEdge 14 = .ok (.iload_n 1, 1) := by decide +kernel
theorem dX6_putEdge_15 : decode cX6_putEdge 15 = .ok (.if_icmp .le 23, 3) := by decide +kernel
theorem dX6_putEdge_18 : decode cX6_putEdge 18 = .ok (.aload_n 0, 1) := by decide +kernel
theorem dX6_putEdge_19 : decode cX6_putEdge 19 = .ok (.getfield 30, 3) := by decide +kernel
theorem dX6_putEdge_22 : decode cX6_putEdge 22 = .ok (.iload_n 3, 1) := by decide +kernel
theorem dX6_putEdge_23 : decode cX6_putEdge 23 = .ok (.aload_n 0, 1) := by decide +kernel
theorem dX6_putEdge_24 : decode cX6_putEdge 24 = .ok (.getfield 30, 3) := by decide +kernel
theorem dX6_putEdge_27 : decode cX6_putEdge 27 = .ok (.iload_n 3, 1) := by decide +kernel
theorem dX6_putEdge_28 : decode cX6_putEdge 28 = .ok (.iconst 1, 1) := by decide +kernel
theorem dX6_putEdge_29 : decode cX6_putEdge 29 = .ok (.isub, 1) := by decide +kernel
theorem dX6_putEdge_30 : decode cX6_putEdge 30 = .ok (.iaload, 1) := by decide +kernel
theorem dX6_putEdge_31 : decode cX6_putEdge 31 = .ok (.iastore, 1) := by decide +kernel
theorem dX6_putEdge_32 : decode cX6_putEdge 32 = .ok (.iinc 3 (-1), 3) := by decide +kernel
theorem dX6_putEdge_35 : decode cX6_putEdge 35 = .ok (.goto (-33), 3) := by decide +kernel
theorem dX6_putEdge_38 : decode cX6_putEdge 38 = .ok (.aload_n 0, 1) := by decide +kernel
theorem dX6_putEdge_39 : decode cX6_putEdge 39 = .ok (.getfield 30, 3) := by decide +kernel
theorem dX6_putEdge_42 : decode cX6_putEdge 42 = .ok (.iload_n 3, 1) := by decide +kernel
theorem dX6_putEdge_43 : decode cX6_putEdge 43 = .ok (.iload_n 1, 1) := by decide +kernel
theorem dX6_putEdge_44 : decode cX6_putEdge 44 = .ok (.iastore, 1) := by decide +kernel
theorem dX6_putEdge_45 : decode cX6_putEdge 45 = .ok (.return_, 1) := by decide +kernel
theorem dX6_putByBottom_0 : decode cX6_putByBottom 0 = .ok (.aload_n 0, 1) := by decide +kernel
theorem dX6_putByBottom_1 : decode cX6_putByBottom 1 = .ok (.getfield 49, 3) := by decide +kernel
theorem dX6_putByBottom_4 : decode cX6_putByBottom 4 = .ok (.istore_n 2, 1) := by decide +kernel
theorem dX6_putByBottom_5 : decode cX6_putByBottom 5 = .ok (.iload_n 2, 1) := by decide +kernel
theorem dX6_putByBottom_6 : decode cX6_putByBottom 6 = .ok (.ifCond .le 45, 3) := by decide +kernel
theorem dX6_putByBottom_9 : decode cX6_putByBottom 9 = .ok (.aload_n 0, 1) := by decide +kernel
theorem dX6_putByBottom_10 : decode cX6_putByBottom 10 = .ok (.getfield 18, 3) := by decide +kernel
theorem dX6_putByBottom_13 : decode cX6_putByBottom 13 = .ok (.aload_n 0, 1) := by decide +kernel
theorem dX6_putByBottom_14 : decode cX6_putByBottom 14 = .ok (.getfield 27, 3) := by decide +kernel
theorem dX6_putByBottom_17 : decode cX6_putByBottom 17 = .ok (.iload_n 2, 1) := by decide +kernel
theorem dX6_putByBottom_18 : decode cX6_putByBottom 18 = .ok (.iconst 1, 1) := by decide +kernel
theorem dX6_putByBottom_19 : decode cX6_putByBottom 19 = .ok (.isub, 1) := by decide +kernel
theorem dX6_putByBottom_20 : decode cX6_putByBottom 20 = .ok (.iaload, 1) := by decide +kernel
theorem dX6_putByBottom_21 : decode cX6_putByBottom 21 = .ok (.iaload, 1) := by decide +kernel
theorem dX6_putByBottom_22 : decode cX6_putByBottom 22 = .ok (.aload_n 0, 1) := by decide +kernel
theorem dX6_putByBottom_23 : decode cX6_putByBottom 23 = .ok (.getfield 18, 3) := by decide +kernel
theorem dX6_putByBottom_26 : decode cX6_putByBottom 26 = .ok (.iload_n 1, 1) := by decide +kernel
theorem dX6_putByBottom_27 : decode cX6_putByBottom 27 = .ok (.iaload, 1) := by decide +kernel
theorem dX6_putByBottom_28 : decode cX6_putByBottom 28 = .ok (.if_icmp .le 23, 3) := by decide +kernel
theorem dX6_putByBottom_31 : decode cX6_putByBottom 31 = .ok (.aload_n 0, 1) := by decide +kernel
theorem dX6_putByBottom_32 : decode cX6_putByBottom 32 = .ok (.getfield 27, 3) := by decide +kernel
theorem dX6_putByBottom_35 : decode cX6_putByBottom 35 = .ok (.iload_n 2, 1) := by decide +kernel
theorem dX6_putByBottom_36 : decode cX6_putByBottom 36 = .ok (.aload_n 0, 1) := by decide +kernel
theorem dX6_putByBottom_37 : decode cX6_putByBottom 37 = .ok (.getfield 27, 3) := by decide +kernel
theorem dX6_putByBottom_40 : decode cX6_putByBottom 40 = .ok (.iload_n 2, 1) := by decide +kernel
theorem dX6_putByBottom_41 : decode cX6_putByBottom 41 = .ok (.iconst 1, 1) := by decide +kernel
theorem dX6_putByBottom_42 : decode cX6_putByBottom 42 = .ok (.isub, 1) := by decide +kernel
theorem dX6_putByBottom_43 : decode cX6_putByBottom 43 = .ok (.iaload, 1) := by decide +kernel
theorem dX6_putByBottom_44 : decode cX6_putByBottom 44 = .ok (.iastore, 1) := by decide +kernel
theorem dX6_putByBottom_45 : decode cX6_putByBottom 45 = .ok (.iinc 2 (-1), 3) := by decide +kernel
theorem dX6_putByBottom_48 : decode cX6_putByBottom 48 = .ok (.goto (-43), 3) := by decide +kernel
theorem dX6_putByBottom_51 : decode cX6_putByBottom 51 = .ok (.aload_n 0, 1) := by decide +kernel
theorem dX6_putByBottom_52 : decode cX6_putByBottom 52 = .ok (.getfield 27, 3) := by decide +kernel
theorem dX6_putByBottom_55 : decode cX6_putByBottom 55 = .ok (.iload_n 2, 1) := by decide +kernel
theorem dX6_putByBottom_56 : decode cX6_putByBottom 56 = .ok (.iload_n 1, 1) := by decide +kernel
theorem dX6_putByBottom_57 : decode cX6_putByBottom 57 = .ok (.iastore, 1) := by decide +kernel
theorem dX6_putByBottom_58 : decode cX6_putByBottom 58 = .ok (.return_, 1) := by decide +kernel
theorem dX6_heightAt_0 : decode cX6_heightAt 0 = .ok (.iconst 0, 1) := by decide +kernel
theorem dX6_heightAt_1 : decode cX6_heightAt 1 = .ok (.istore_n 3, 1) := by decide +kernel
theorem dX6_heightAt_2 : decode cX6_heightAt 2 = .ok (.iload_n 2, 1) := by decide +kernel
theorem dX6_heightAt_3 : decode cX6_heightAt 3 = .ok (.ineg, 1) := by decide +kernel
theorem dX6_heightAt_4 : decode cX6_heightAt 4 = .ok (.istore 4, 2) := by decide +kernel
theorem dX6_heightAt_6 : decode cX6_heightAt 6 = .ok (.iconst 0, 1) := by decide +kernel
theorem dX6_heightAt_7 : decode cX6_heightAt 7 = .ok (.istore 5, 2) := by decide +kernel
theorem dX6_heightAt_9 : decode cX6_heightAt 9 = .ok (.iload 5, 2) := by decide +kernel
theorem dX6_heightAt_11 : decode cX6_heightAt 11 = .ok (.aload_n 0, 1) := by decide +kernel
theorem dX6_heightAt_12 : decode cX6_heightAt 12 = .ok (.getfield 49, 3) := by decide +kernel
theorem dX6_heightAt_15 : decode cX6_heightAt 15 = .ok (.if_icmp .ge 88, 3) := by decide +kernel
theorem dX6_heightAt_18 : decode cX6_heightAt 18 = .ok (.aload_n 0, 1) := by decide +kernel
theorem dX6_heightAt_19 : decode cX6_heightAt 19 = .ok (.getfield 27, 3) := by decide +kernel
theorem dX6_heightAt_22 : decode cX6_heightAt 22 = .ok (.iload 5, 2) := by decide +kernel
theorem dX6_heightAt_24 : decode cX6_heightAt 24 = .ok (.iaload, 1) := by decide +kernel
theorem dX6_heightAt_25 : decode cX6_heightAt 25 = .ok (.istore 6, 2) := by decide +kernel
theorem dX6_heightAt_27 : decode cX6_heightAt 27 = .ok (.aload_n 0, 1) := by decide +kernel
theorem dX6_heightAt_28 : decode cX6_heightAt 28 = .ok (.getfield 15, 3) := by decide +kernel
theorem dX6_heightAt_31 : decode cX6_heightAt 31 = .ok (.iload 6, 2) := by decide +kernel
theorem dX6_heightAt_33 : decode cX6_heightAt 33 = .ok (.iaload, 1) := by decide +kernel
theorem dX6_heightAt_34 : decode cX6_heightAt 34 = .ok (.iload_n 2, 1) := by decide +kernel
theorem dX6_heightAt_35 : decode cX6_heightAt 35 = .ok (.isub, 1) := by decide +kernel
theorem dX6_heightAt_36 : decode cX6_heightAt 36 = .ok (.iload_n 1, 1) := by decide +kernel
theorem dX6_heightAt_37 : decode cX6_heightAt 37 = .ok (.if_icmp .gt 60, 3) := by decide +kernel
theorem dX6_heightAt_40 : decode cX6_heightAt 40 = .ok (.iload_n 1, 1) := by decide +kernel
theorem dX6_heightAt_41 : decode cX6_heightAt 41 = .ok (.aload_n 0, 1) := by decide +kernel
theorem dX6_heightAt_42 : decode cX6_heightAt 42 = .ok (.getfield 21, 3) := by decide +kernel
theorem dX6_heightAt_45 : decode cX6_heightAt 45 = .ok (.iload 6, 2) := by decide +kernel
theorem dX6_heightAt_47 : decode cX6_heightAt 47 = .ok (.iaload, 1) := by decide +kernel
theorem dX6_heightAt_48 : decode cX6_heightAt 48 = .ok (.iload_n 2, 1) := by decide +kernel
theorem dX6_heightAt_49 : decode cX6_heightAt 49 = .ok (.iadd, 1) := by decide +kernel
theorem dX6_heightAt_50 : decode cX6_heightAt 50 = .ok (.if_icmp .ge 47, 3) := by decide +kernel
theorem dX6_heightAt_53 : decode cX6_heightAt 53 = .ok (.aload_n 0, 1) := by decide +kernel
theorem dX6_heightAt_54 : decode cX6_heightAt 54 = .ok (.getfield 18, 3) := by decide +kernel
theorem dX6_heightAt_57 : decode cX6_heightAt 57 = .ok (.iload 6, 2) := by decide +kernel
theorem dX6_heightAt_59 : decode cX6_heightAt 59 = .ok (.iaload, 1) := by decide +kernel
theorem dX6_heightAt_60 : decode cX6_heightAt 60 = .ok (.iload_n 2, 1) := by decide +kernel
theorem dX6_heightAt_61 : decode cX6_heightAt 61 = .ok (.isub, 1) := by decide +kernel
theorem dX6_heightAt_62 : decode cX6_heightAt 62 = .ok (.iload 4, 2) := by decide +kernel
theorem dX6_heightAt_64 : decode cX6_heightAt 64 = .ok (.invokestatic 64, 3) := by decide +kernel
theorem dX6_heightAt_67 : decode cX6_heightAt 67 = .ok (.istore 7, 2) := by decide +kernel
theorem dX6_heightAt_69 : decode cX6_heightAt 69 = .ok (.aload_n 0, 1) := by decide +kernel
theorem dX6_heightAt_70 : decode cX6_heightAt 70 = .ok (.getfield 24, 3) := by decide +kernel
theorem dX6_heightAt_73 : decode cX6_heightAt 73 = .ok (.iload 6, 2) := by decide +kernel
theorem dX6_heightAt_75 : decode cX6_heightAt 75 = .ok (.iaload, 1) := by decide +kernel
theorem dX6_heightAt_76 : decode cX6_heightAt 76 = .ok (.iload_n 2, 1) := by decide +kernel
theorem dX6_heightAt_77 : decode cX6_heightAt 77 = .ok (.iadd, 1) := by decide +kernel
theorem dX6_heightAt_78 : decode cX6_heightAt 78 = .ok (.iload 7, 2) := by decide +kernel
theorem dX6_heightAt_80 : decode cX6_heightAt 80 = .ok (.invokestatic 64, 3) := by decide +kernel
theorem dX6_heightAt_83 : decode cX6_heightAt 83 = .ok (.istore 8, 2) := by decide +kernel
theorem dX6_heightAt_85 : decode cX6_heightAt 85 = .ok (.iload_n 3, 1) := by decide +kernel
theorem dX6_heightAt_86 : decode cX6_heightAt 86 = .ok (.iload 8, 2) := by decide +kernel
theorem dX6_heightAt_88 : decode cX6_heightAt 88 = .ok (.iload 7, 2) := by decide +kernel
theorem dX6_heightAt_90 : decode cX6_heightAt 90 = .ok (.isub, 1) := by decide +kernel
theorem dX6_heightAt_91 : decode cX6_heightAt 91 = .ok (.iadd, 1) := by decide +kernel
theorem dX6_heightAt_92 : decode cX6_heightAt 92 = .ok (.istore_n 3, 1) := by decide +kernel
theorem dX6_heightAt_93 : decode cX6_heightAt 93 = .ok (.iload 8, 2) := by decide +kernel
theorem dX6_heightAt_95 : decode cX6_heightAt 95 = .ok (.istore 4, 2) := by decide +kernel
theorem dX6_heightAt_97 : decode cX6_heightAt 97 = .ok (.iinc 5 1, 3) := by decide +kernel
theorem dX6_heightAt_100 : decode cX6_heightAt 100 = .ok (.goto (-91), 3) := by decide +kernel
theorem dX6_heightAt_103 : decode cX6_heightAt 103 = .ok (.iload_n 3, 1) := by decide +kernel
theorem dX6_heightAt_104 : decode cX6_heightAt 104 = .ok (.ireturn, 1) := by decide +kernel
theorem dX6_forget_0 : decode cX6_forget 0 = .ok (.aload_n 0, 1) := by decide +kernel
theorem dX6_forget_1 : decode cX6_forget 1 = .ok (.iconst 0, 1) := by decide +kernel
theorem dX6_forget_2 : decode cX6_forget 2 = .ok (.putfield 33, 3) := by decide +kernel
theorem dX6_forget_5 : decode cX6_forget 5 = .ok (.return_, 1) := by decide +kernel
