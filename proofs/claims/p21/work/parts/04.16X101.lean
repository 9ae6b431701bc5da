theorem dX10_chain_22 : decode cX10_chain 22 = .ok (.getfield 49, 3) := by decide +kernel
theorem dX10_chain_25 : decode cX10_chain 25 = .ok (.iload_n 1, 1) := by decide +kernel
theorem dX10_chain_26 : decode cX10_chain 26 = .ok (.invokevirtual 195, 3) := by decide +kernel
theorem dX10_chain_29 : decode cX10_chain 29 = .ok (.return_, 1) := by decide +kernel
set_option maxRecDepth 20000 in
theorem ggX10_caught_X10_needChain : GoodIn wsX10_caught wsX10_needChain := goodIn_ca (goodIn_r _ [8, 1, 2, 3, 9, 10, 11, 12, 13, 14, 26, 27, 28, 29, 30, 31, 32, 33, 34, 35, 36, 37] (by eq_refl) (by decide +kernel)) (goodIn_sub (fun _ h => List.mem_cons_of_mem _ (List.mem_append_right _ h)) (by decide +kernel))
set_option maxRecDepth 20000 in
theorem gX10_caught_X10_needChain : GoodIn wsX10_caught (wsV RX10 198 RX10 yX10_needChain wsX10_needChain) := goodIn_app (goodIn_r _ [4, 5, 6, 7] (by eq_refl) (by decide +kernel)) ggX10_caught_X10_needChain
set_option maxRecDepth 20000 in
theorem ggX10_caught_X1_rows : GoodIn wsX10_caught wsX1_rows := goodIn_r _ [18, 19, 34, 35, 36, 37] (by eq_refl) (by decide +kernel)
set_option maxRecDepth 20000 in
theorem gX10_caught_X1_rows : GoodIn wsX10_caught (wsV RX10 201 RX1 yX1_rows wsX1_rows) := goodIn_app (goodIn_r _ [15, 16, 17, 12] (by eq_refl) (by decide +kernel)) ggX10_caught_X1_rows
set_option maxRecDepth 20000 in
theorem ggX10_caught_X1_addRow : GoodIn wsX10_caught wsX1_addRow := goodIn_r _ [23, 24, 19, 25, 34, 35, 36, 37] (by eq_refl) (by decide +kernel)
set_option maxRecDepth 20000 in
theorem gX10_caught_X1_addRow : GoodIn wsX10_caught (wsV RX10 206 RX1 yX1_addRow wsX1_addRow) := goodIn_app (goodIn_r _ [20, 21, 22, 12] (by eq_refl) (by decide +kernel)) ggX10_caught_X1_addRow
theorem dX10_caught_0 : decode cX10_caught 0 = .ok (.aload_n 0, 1) := by decide +kernel
theorem dX10_caught_1 : decode cX10_caught 1 = .ok (.invokevirtual 198, 3) := by decide +kernel
theorem dX10_caught_4 : decode cX10_caught 4 = .ok (.aload_n 0, 1) := by decide +kernel
theorem dX10_caught_5 : decode cX10_caught 5 = .ok (.getfield 49, 3) := by decide +kernel
theorem dX10_caught_8 : decode cX10_caught 8 = .ok (.invokevirtual 201, 3) := by decide +kernel
theorem dX10_caught_11 : decode cX10_caught 11 = .ok (.bipush 30, 2) := by decide +kernel
theorem dX10_caught_13 : decode cX10_caught 13 = .ok (.if_icmp .ne 13, 3) := by decide +kernel
theorem dX10_caught_16 : decode cX10_caught 16 = .ok (.new 71, 3) := by decide +kernel
theorem dX10_caught_19 : decode cX10_caught 19 = .ok (.dup, 1) := by decide +kernel
theorem dX10_caught_20 : decode cX10_caught 20 = .ok (.ldc 204, 2) := by decide +kernel
theorem dX10_caught_22 : decode cX10_caught 22 = .ok (.invokespecial 75, 3) := by decide +kernel
theorem dX10_caught_25 : decode cX10_caught 25 = .ok (.athrow, 1) := by decide +kernel
theorem dX10_caught_26 : decode cX10_caught 26 = .ok (.aload_n 0, 1) := by decide +kernel
theorem dX10_caught_27 : decode cX10_caught 27 = .ok (.getfield 49, 3) := by decide +kernel
theorem dX10_caught_30 : decode cX10_caught 30 = .ok (.lload_n 1, 1) := by decide +kernel
theorem dX10_caught_31 : decode cX10_caught 31 = .ok (.lload_n 3, 1) := by decide +kernel
theorem dX10_caught_32 : decode cX10_caught 32 = .ok (.invokevirtual 206, 3) := by decide +kernel
theorem dX10_caught_35 : decode cX10_caught 35 = .ok (.ireturn, 1) := by decide +kernel
set_option maxRecDepth 20000 in
theorem ggX10_span_X10_needChain : GoodIn wsX10_span wsX10_needChain := goodIn_ca (goodIn_r _ [8, 9, 10, 3, 11, 12, 13, 14, 15, 16, 36, 37, 38, 39, 40, 41, 42, 43, 44, 45, 46, 47] (by eq_refl) (by decide +kernel)) (goodIn_sub (fun _ h => List.mem_cons_of_mem _ (List.mem_append_right _ h)) (by decide +kernel))
set_option maxRecDepth 20000 in
theorem gX10_span_X10_needChain : GoodIn wsX10_span (wsV RX10 198 RX10 yX10_needChain wsX10_needChain) := goodIn_app (goodIn_r _ [4, 5, 6, 7] (by eq_refl) (by decide +kernel)) ggX10_span_X10_needChain
set_option maxRecDepth 20000 in
theorem ggX10_span_X1_leastStuckAt : GoodIn wsX10_span wsX1_leastStuckAt := goodIn_r _ [20, 16, 21, 22, 23, 14, 24, 25, 26, 27, 28, 29, 30, 31, 44, 45, 46, 47] (by eq_refl) (by decide +kernel)
set_option maxRecDepth 20000 in
theorem gX10_span_X1_leastStuckAt : GoodIn wsX10_span (wsV RX10 212 RX1 yX1_leastStuckAt wsX1_leastStuckAt) := goodIn_app (goodIn_r _ [17, 18, 19, 14] (by eq_refl) (by decide +kernel)) ggX10_span_X1_leastStuckAt
set_option maxRecDepth 20000 in
theorem ggX10_span_X1_greatestStuckAt : GoodIn wsX10_span wsX1_greatestStuckAt := goodIn_r _ [35, 16, 21, 22, 23, 14, 24, 25, 26, 27, 28, 29, 30, 31, 44, 45, 46, 47] (by eq_refl) (by decide +kernel)
set_option maxRecDepth 20000 in
theorem gX10_span_X1_greatestStuckAt : GoodIn wsX10_span (wsV RX10 215 RX1 yX1_greatestStuckAt wsX1_greatestStuckAt) := goodIn_app (goodIn_r _ [32, 33, 34, 14] (by eq_refl) (by decide +kernel)) ggX10_span_X1_greatestStuckAt
theorem dX10_span_0 : decode cX10_span 0 = .ok (.iload_n 1, 1) := by decide +kernel
theorem dX10_span_1 : decode cX10_span 1 = .ok (.ifCond .lt 17, 3) := by decide +kernel
theorem dX10_span_4 : decode cX10_span 4 = .ok (.iload_n 1, 1) := by decide +kernel
theorem dX10_span_5 : decode cX10_span 5 = .ok (.iconst 1, 1) := by decide +kernel
theorem dX10_span_6 : decode cX10_span 6 = .ok (.if_icmp .gt 12, 3) := by decide +kernel
theorem dX10_span_9 : decode cX10_span 9 = .ok (.iload_n 2, 1) := by decide +kernel
theorem dX10_span_10 : decode cX10_span 10 = .ok (.ifCond .lt 8, 3) := by decide +kernel
theorem dX10_span_13 : decode cX10_span 13 = .ok (.iload_n 2, 1) := by decide +kernel
theorem dX10_span_14 : decode cX10_span 14 = .ok (.iconst 1, 1) := by decide +kernel
theorem dX10_span_15 : decode cX10_span 15 = .ok (.if_icmp .le 13, 3) := by decide +kernel
theorem dX10_span_18 : decode cX10_span 18 = .ok (.new 114, 3) := by decide +kernel
theorem dX10_span_21 : decode cX10_span 21 = .ok (.dup, 1) := by decide +kernel
theorem dX10_span_22 : decode cX10_span 22 = .ok (.ldc 210, 2) := by decide +kernel
theorem dX10_span_24 : decode cX10_span 24 = .ok (.invokespecial 118, 3) := by decide +kernel
theorem dX10_span_27 : decode cX10_span 27 = .ok (.athrow, 1) := by decide +kernel
theorem dX10_span_28 : decode cX10_span 28 = .ok (.aload_n 0, 1) := by decide +kernel
theorem dX10_span_29 : decode cX10_span 29 = .ok (.invokevirtual 198, 3) := by decide +kernel
theorem dX10_span_32 : decode cX10_span 32 = .ok (.iload_n 2, 1) := by decide +kernel
theorem dX10_span_33 : decode cX10_span 33 = .ok (.ifCond .ne 14, 3) := by decide +kernel
theorem dX10_span_36 : decode cX10_span 36 = .ok (.aload_n 0, 1) := by decide +kernel
theorem dX10_span_37 : decode cX10_span 37 = .ok (.getfield 49, 3) := by decide +kernel
theorem dX10_span_40 : decode cX10_span 40 = .ok (.iload_n 1, 1) := by decide +kernel
theorem dX10_span_41 : decode cX10_span 41 = .ok (.invokevirtual 212, 3) := by decide +kernel
theorem dX10_span_44 : decode cX10_span 44 = .ok (.goto 11, 3) := by decide +kernel
theorem dX10_span_47 : decode cX10_span 47 = .ok (.aload_n 0, 1) := by decide +kernel
theorem dX10_span_48 : decode cX10_span 48 = .ok (.getfield 49, 3) := by decide +kernel
theorem dX10_span_51 : decode cX10_span 51 = .ok (.iload_n 1, 1) := by decide +kernel
theorem dX10_span_52 : decode cX10_span 52 = .ok (.invokevirtual 215, 3) := by decide +kernel
theorem dX10_span_55 : decode cX10_span 55 = .ok (.ireturn, 1) := by decide +kernel
set_option maxRecDepth 20000 in
theorem ggX10_shape_X10_needNet : GoodIn wsX10_shape wsX10_needNet := goodIn_ca (goodIn_r _ [10, 11, 12, 13, 14, 15, 16, 17, 18, 19, 42, 43, 44, 45, 46, 47, 48, 49, 50, 51, 52, 53, 54, 55, 56, 57, 58] (by eq_refl) (by decide +kernel)) (goodIn_sub (fun _ h => List.mem_cons_of_mem _ (List.mem_append_right _ h)) (by decide +kernel))
set_option maxRecDepth 20000 in
theorem gX10_shape_X10_needNet : GoodIn wsX10_shape (wsV RX10 81 RX10 yX10_needNet wsX10_needNet) := goodIn_app (goodIn_r _ [6, 7, 8, 9] (by eq_refl) (by decide +kernel)) ggX10_shape_X10_needNet
set_option maxRecDepth 20000 in
theorem ggX10_shape_X6_size : GoodIn wsX10_shape wsX6_size := goodIn_r _ [24, 25, 59, 60, 61, 62, 63, 64, 65, 66, 67] (by eq_refl) (by decide +kernel)
set_option maxRecDepth 20000 in
theorem gX10_shape_X6_size : GoodIn wsX10_shape (wsV RX10 218 RX6 yX6_size wsX6_size) := goodIn_app (goodIn_r _ [20, 21, 22, 23] (by eq_refl) (by decide +kernel)) ggX10_shape_X6_size
set_option maxRecDepth 20000 in
theorem ggX10_shape_X10_isStretch : GoodIn wsX10_shape wsX10_isStretch := goodIn_r _ [28] (by eq_refl) (by decide +kernel)
set_option maxRecDepth 20000 in
theorem gX10_shape_X10_isStretch : GoodIn wsX10_shape (va_wsS RX10 221 yX10_isStretch wsX10_isStretch) := goodIn_app (goodIn_r _ [26, 27, 9] (by eq_refl) (by decide +kernel)) ggX10_shape_X10_isStretch
set_option maxRecDepth 20000 in
theorem ggX10_shape_X6_add : GoodIn wsX10_shape wsX6_add := goodIn_r _ [32, 33, 25, 34, 35, 36, 37, 38, 39, 40, 23, 41, 59, 60, 61, 62, 63, 64, 65, 66, 67] (by eq_refl) (by decide +kernel)
set_option maxRecDepth 20000 in
theorem gX10_shape_X6_add : GoodIn wsX10_shape (wsV RX10 226 RX6 yX6_add wsX6_add) := goodIn_app (goodIn_r _ [29, 30, 31, 23] (by eq_refl) (by decide +kernel)) ggX10_shape_X6_add
theorem dX10_shape_0 : decode cX10_shape 0 = .ok (.aload_n 0, 1) := by decide +kernel
theorem dX10_shape_1 : decode cX10_shape 1 = .ok (.iload_n 1, 1) := by decide +kernel
theorem dX10_shape_2 : decode cX10_shape 2 = .ok (.invokevirtual 81, 3) := by decide +kernel
theorem dX10_shape_5 : decode cX10_shape 5 = .ok (.aload_n 0, 1) := by decide +kernel
theorem dX10_shape_6 : decode cX10_shape 6 = .ok (.getfield 56, 3) := by decide +kernel
theorem dX10_shape_9 : decode cX10_shape 9 = .ok (.invokevirtual 218, 3) := by decide +kernel
theorem dX10_shape_12 : decode cX10_shape 12 = .ok (.bipush 60, 2) := by decide +kernel
theorem dX10_shape_14 : decode cX10_shape 14 = .ok (.if_icmp .ne 13, 3) := by decide +kernel
theorem dX10_shape_17 : decode cX10_shape 17 = .ok (.new 71, 3) := by decide +kernel
theorem dX10_shape_20 : decode cX10_shape 20 = .ok (.dup, 1) := by decide +kernel
theorem dX10_shape_21 : decode cX10_shape 21 = .ok (.ldc 219, 2) := by decide +kernel
theorem dX10_shape_23 : decode cX10_shape 23 = .ok (.invokespecial 75, 3) := by decide +kernel
theorem dX10_shape_26 : decode cX10_shape 26 = .ok (.athrow, 1) := by decide +kernel
theorem dX10_shape_27 : decode cX10_shape 27 = .ok (.iload_n 2, 1) := by decide +kernel
theorem dX10_shape_28 : decode cX10_shape 28 = .ok (.iload 4, 2) := by decide +kernel
theorem dX10_shape_30 : decode cX10_shape 30 = .ok (.invokestatic 221, 3) := by decide +kernel
theorem dX10_shape_33 : decode cX10_shape 33 = .ok (.ifCond .eq 12, 3) := by decide +kernel
theorem dX10_shape_36 : decode cX10_shape 36 = .ok (.iload_n 3, 1) := by decide +kernel
theorem dX10_shape_37 : decode cX10_shape 37 = .ok (.iload 5, 2) := by decide +kernel
theorem dX10_shape_39 : decode cX10_shape 39 = .ok (.invokestatic 221, 3) := by decide +kernel
theorem dX10_shape_42 : decode cX10_shape 42 = .ok (.ifCond .ne 13, 3) := by decide +kernel
theorem dX10_shape_45 : decode cX10_shape 45 = .ok (.new 87, 3) := by decide +kernel
theorem dX10_shape_48 : decode cX10_shape 48 = .ok (.dup, 1) := by decide +kernel
theorem dX10_shape_49 : decode cX10_shape 49 = .ok (.ldc 224, 2) := by decide +kernel
theorem dX10_shape_51 : decode cX10_shape 51 = .ok (.invokespecial 91, 3) := by decide +kernel
theorem dX10_shape_54 : decode cX10_shape 54 = .ok (.athrow, 1) := by decide +kernel
theorem dX10_shape_55 : decode cX10_shape 55 = .ok (.aload_n 0, 1) := by decide +kernel
theorem dX10_shape_56 : decode cX10_shape 56 = .ok (.getfield 56, 3) := by decide +kernel
theorem dX10_shape_59 : decode cX10_shape 59 = .ok (.iload_n 1, 1) := by decide +kernel
theorem dX10_shape_60 : decode cX10_shape 60 = .ok (.iload_n 2, 1) := by decide +kernel
theorem dX10_shape_61 : decode cX10_shape 61 = .ok (.iload_n 3, 1) := by decide +kernel
theorem dX10_shape_62 : decode cX10_shape 62 = .ok (.iload 4, 2) := by decide +kernel
theorem dX10_shape_64 : decode cX10_shape 64 = .ok (.iload 5, 2) := by decide +kernel
theorem dX10_shape_66 : decode cX10_shape 66 = .ok (.invokevirtual 226, 3) := by decide +kernel
theorem dX10_shape_69 : decode cX10_shape 69 = .ok (.ireturn, 1) := by decide +kernel
set_option maxRecDepth 20000 in
theorem ggX10_area_X10_needNet : GoodIn wsX10_area wsX10_needNet := goodIn_ca (goodIn_r _ [6, 7, 8, 9, 10, 11, 12, 13, 14, 15, 55, 56, 57, 58, 59, 60, 61, 62, 63, 64, 65, 66, 67, 68, 69, 70, 71] (by eq_refl) (by decide +kernel)) (goodIn_sub (fun _ h => List.mem_cons_of_mem _ (List.mem_append_left _ (List.mem_append_right _ h))) (by decide +kernel))
set_option maxRecDepth 20000 in
theorem gX10_area_X10_needNet : GoodIn wsX10_area (wsV RX10 81 RX10 yX10_needNet wsX10_needNet) := goodIn_app (goodIn_r _ [2, 3, 4, 5] (by eq_refl) (by decide +kernel)) ggX10_area_X10_needNet
set_option maxRecDepth 20000 in
theorem ggX10_area_X10_needGrowth : GoodIn wsX10_area wsX10_needGrowth := goodIn_ca (goodIn_r _ [18, 19, 20] (by eq_refl) (by decide +kernel)) (goodIn_sub (fun _ h => List.mem_cons_of_mem _ (List.mem_append_right _ h)) (by decide +kernel))
set_option maxRecDepth 20000 in
theorem gX10_area_X10_needGrowth : GoodIn wsX10_area (va_wsS RX10 229 yX10_needGrowth wsX10_needGrowth) := goodIn_app (goodIn_r _ [16, 17, 5] (by eq_refl) (by decide +kernel)) ggX10_area_X10_needGrowth
set_option maxRecDepth 20000 in
theorem ggX10_area_X6_coveredByEither : GoodIn wsX10_area wsX6_coveredByEither := goodIn_r _ [25, 26, 27, 28, 29, 30, 24, 31, 32, 33, 34, 35, 36, 37, 38, 39, 40, 41, 42, 43, 44, 45, 46, 47, 48, 49, 50, 51, 52, 53, 54, 72, 73, 74, 75, 76, 77, 78, 79, 80] (by eq_refl) (by decide +kernel)
set_option maxRecDepth 20000 in
theorem gX10_area_X6_coveredByEither : GoodIn wsX10_area (wsV RX10 232 RX6 yX6_coveredByEither wsX6_coveredByEither) := goodIn_app (goodIn_r _ [21, 22, 23, 24] (by eq_refl) (by decide +kernel)) ggX10_area_X6_coveredByEither
theorem dX10_area_0 : decode cX10_area 0 = .ok (.aload_n 0, 1) := by decide +kernel
theorem dX10_area_1 : decode cX10_area 1 = .ok (.iload_n 1, 1) := by decide +kernel
theorem dX10_area_2 : decode cX10_area 2 = .ok (.invokevirtual 81, 3) := by decide +kernel
theorem dX10_area_5 : decode cX10_area 5 = .ok (.iload_n 2, 1) := by decide +kernel
theorem dX10_area_6 : decode cX10_area 6 = .ok (.invokestatic 229, 3) := by decide +kernel
theorem dX10_area_9 : decode cX10_area 9 = .ok (.aload_n 0, 1) := by decide +kernel
theorem dX10_area_10 : decode cX10_area 10 = .ok (.getfield 56, 3) := by decide +kernel
theorem dX10_area_13 : decode cX10_area 13 = .ok (.iload_n 1, 1) := by decide +kernel
theorem dX10_area_14 : decode cX10_area 14 = .ok (.iload_n 1, 1) := by decide +kernel
theorem dX10_area_15 : decode cX10_area 15 = .ok (.iload_n 2, 1) := by decide +kernel
theorem dX10_area_16 : decode cX10_area 16 = .ok (.invokevirtual 232, 3) := by decide +kernel
theorem dX10_area_19 : decode cX10_area 19 = .ok (.ireturn, 1) := by decide +kernel
set_option maxRecDepth 20000 in
theorem ggX10_common_X10_needNet : GoodIn wsX10_common wsX10_needNet := goodIn_ca (goodIn_r _ [6, 7, 8, 9, 10, 11, 12, 13, 14, 15, 59, 60, 61, 62, 63, 64, 65, 66, 67, 68, 69, 70, 71, 72, 73, 74, 75] (by eq_refl) (by decide +kernel)) (goodIn_sub (fun _ h => List.mem_cons_of_mem _ (List.mem_append_left _ (List.mem_append_right _ h))) (by decide +kernel))
set_option maxRecDepth 20000 in
theorem gX10_common_X10_needNet : GoodIn wsX10_common (wsV RX10 81 RX10 yX10_needNet wsX10_needNet) := goodIn_app (goodIn_r _ [2, 3, 4, 5] (by eq_refl) (by decide +kernel)) ggX10_common_X10_needNet
set_option maxRecDepth 20000 in
theorem ggX10_common_X10_needGrowth : GoodIn wsX10_common wsX10_needGrowth := goodIn_ca (goodIn_r _ [18, 19, 20] (by eq_refl) (by decide +kernel)) (goodIn_sub (fun _ h => List.mem_cons_of_mem _ (List.mem_append_right _ h)) (by decide +kernel))
set_option maxRecDepth 20000 in
theorem gX10_common_X10_needGrowth : GoodIn wsX10_common (va_wsS RX10 229 yX10_needGrowth wsX10_needGrowth) := goodIn_app (goodIn_r _ [16, 17, 5] (by eq_refl) (by decide +kernel)) ggX10_common_X10_needGrowth
set_option maxRecDepth 20000 in
theorem ggX10_common_X6_coveredByBoth : GoodIn wsX10_common wsX6_coveredByBoth := goodIn_r _ [25, 26, 27, 28, 24, 29, 30, 31, 32, 33, 34, 35, 36, 37, 38, 39, 40, 41, 42, 43, 44, 45, 46, 47, 48, 49, 50, 51, 52, 53, 54, 55, 56, 57, 58, 76, 77, 78, 79, 80, 81, 82, 83, 84] (by eq_refl) (by decide +kernel)
set_option maxRecDepth 20000 in
theorem gX10_common_X6_coveredByBoth : GoodIn wsX10_common (wsV RX10 235 RX6 yX6_coveredByBoth wsX6_coveredByBoth) := goodIn_app (goodIn_r _ [21, 22, 23, 24] (by eq_refl) (by decide +kernel)) ggX10_common_X6_coveredByBoth
theorem dX10_common_0 : decode cX10_common 0 = .ok (.aload_n 0, 1) := by decide +kernel
theorem dX10_common_1 : decode cX10_common 1 = .ok (.iload_n 1, 1) := by decide +kernel
theorem dX10_common_2 : decode cX10_common 2 = .ok (.invokevirtual 81, 3) := by decide +kernel
theorem dX10_common_5 : decode cX10_common 5 = .ok (.aload_n 0, 1) := by decide +kernel
theorem dX10_common_6 : decode cX10_common 6 = .ok (.iload_n 2, 1) := by decide +kernel
theorem dX10_common_7 : decode cX10_common 7 = .ok (.invokevirtual 81, 3) := by decide +kernel
theorem dX10_common_10 : decode cX10_common 10 = .ok (.iload_n 3, 1) := by decide +kernel
theorem dX10_common_11 : decode cX10_common 11 = .ok (.invokestatic 229, 3) := by decide +kernel
theorem dX10_common_14 : decode cX10_common 14 = .ok (.aload_n 0, 1) := by decide +kernel
theorem dX10_common_15 : decode cX10_common 15 = .ok (.getfield 56, 3) := by decide +kernel
theorem dX10_common_18 : decode cX10_common 18 = .ok (.iload_n 1, 1) := by decide +kernel
theorem dX10_common_19 : decode cX10_common 19 = .ok (.iload_n 2, 1) := by decide +kernel
theorem dX10_common_20 : decode cX10_common 20 = .ok (.iload_n 3, 1) := by decide +kernel
theorem dX10_common_21 : decode cX10_common 21 = .ok (.invokevirtual 235, 3) := by decide +kernel
theorem dX10_common_24 : decode cX10_common 24 = .ok (.ireturn, 1) := by decide +kernel
set_option maxRecDepth 20000 in
theorem ggX10_count_X2_nets : GoodIn wsX10_count wsX2_nets := goodIn_r _ [15, 16, 77, 78, 79, 80, 81, 82, 83, 84, 85] (by eq_refl) (by decide +kernel)
set_option maxRecDepth 20000 in
theorem gX10_count_X2_nets : GoodIn wsX10_count (wsV RX10 68 RX2 yX2_nets wsX2_nets) := goodIn_app (goodIn_r _ [11, 12, 13, 14] (by eq_refl) (by decide +kernel)) ggX10_count_X2_nets
set_option maxRecDepth 20000 in
theorem ggX10_count_X2_inputs : GoodIn wsX10_count wsX2_inputs := goodIn_r _ [20, 21, 77, 78, 79, 80, 81, 82, 83, 84, 85] (by eq_refl) (by decide +kernel)
set_option maxRecDepth 20000 in
theorem gX10_count_X2_inputs : GoodIn wsX10_count (wsV RX10 64 RX2 yX2_inputs wsX2_inputs) := goodIn_app (goodIn_r _ [17, 18, 19, 14] (by eq_refl) (by decide +kernel)) ggX10_count_X2_inputs
set_option maxRecDepth 20000 in
theorem ggX10_count_X5_size : GoodIn wsX10_count wsX5_size := goodIn_r _ [26, 27, 86, 87, 88] (by eq_refl) (by decide +kernel)
set_option maxRecDepth 20000 in
theorem gX10_count_X5_size : GoodIn wsX10_count (wsV RX10 96 RX5 yX5_size wsX5_size) := goodIn_app (goodIn_r _ [22, 23, 24, 25] (by eq_refl) (by decide +kernel)) ggX10_count_X5_size
set_option maxRecDepth 20000 in
theorem ggX10_count_X4_size : GoodIn wsX10_count wsX4_size := goodIn_r _ [32, 33, 89, 90, 91] (by eq_refl) (by decide +kernel)
set_option maxRecDepth 20000 in
theorem gX10_count_X4_size : GoodIn wsX10_count (wsV RX10 133 RX4 yX4_size wsX4_size) := goodIn_app (goodIn_r _ [28, 29, 30, 31] (by eq_refl) (by decide +kernel)) ggX10_count_X4_size
set_option maxRecDepth 20000 in
theorem ggX10_count_X3_suspects : GoodIn wsX10_count wsX3_suspects := goodIn_r _ [38, 39, 92, 93, 94, 95, 96, 97, 98] (by eq_refl) (by decide +kernel)
set_option maxRecDepth 20000 in
theorem gX10_count_X3_suspects : GoodIn wsX10_count (wsV RX10 158 RX3 yX3_suspects wsX3_suspects) := goodIn_app (goodIn_r _ [34, 35, 36, 37] (by eq_refl) (by decide +kernel)) ggX10_count_X3_suspects
set_option maxRecDepth 20000 in
theorem ggX10_count_X8_size : GoodIn wsX10_count wsX8_size := goodIn_r _ [44, 45, 99, 100, 101, 102, 103, 104, 105] (by eq_refl) (by decide +kernel)
set_option maxRecDepth 20000 in
theorem gX10_count_X8_size : GoodIn wsX10_count (wsV RX10 162 RX8 yX8_size wsX8_size) := goodIn_app (goodIn_r _ [40, 41, 42, 43] (by eq_refl) (by decide +kernel)) ggX10_count_X8_size
set_option maxRecDepth 20000 in
theorem ggX10_count_X6_size : GoodIn wsX10_count wsX6_size := goodIn_r _ [50, 51, 106, 107, 108, 109, 110, 111, 112, 113, 114] (by eq_refl) (by decide +kernel)
set_option maxRecDepth 20000 in
theorem gX10_count_X6_size : GoodIn wsX10_count (wsV RX10 218 RX6 yX6_size wsX6_size) := goodIn_app (goodIn_r _ [46, 47, 48, 49] (by eq_refl) (by decide +kernel)) ggX10_count_X6_size
set_option maxRecDepth 20000 in
theorem ggX10_count_X2_patternCount : GoodIn wsX10_count wsX2_patternCount := goodIn_r _ [55, 56, 77, 78, 79, 80, 81, 82, 83, 84, 85] (by eq_refl) (by decide +kernel)
set_option maxRecDepth 20000 in
theorem gX10_count_X2_patternCount : GoodIn wsX10_count (wsV RX10 238 RX2 yX2_patternCount wsX2_patternCount) := goodIn_app (goodIn_r _ [52, 53, 54, 14] (by eq_refl) (by decide +kernel)) ggX10_count_X2_patternCount
set_option maxRecDepth 20000 in
theorem ggX10_count_X1_rows : GoodIn wsX10_count wsX1_rows := goodIn_r _ [61, 62, 115, 116, 117, 118] (by eq_refl) (by decide +kernel)
set_option maxRecDepth 20000 in
theorem gX10_count_X1_rows : GoodIn wsX10_count (wsV RX10 201 RX1 yX1_rows wsX1_rows) := goodIn_app (goodIn_r _ [57, 58, 59, 60] (by eq_refl) (by decide +kernel)) ggX10_count_X1_rows
set_option maxRecDepth 20000 in
theorem ggX10_count_X7_chips : GoodIn wsX10_count wsX7_chips := goodIn_r _ [67, 68, 119, 120] (by eq_refl) (by decide +kernel)
set_option maxRecDepth 20000 in
theorem gX10_count_X7_chips : GoodIn wsX10_count (wsV RX10 241 RX7 yX7_chips wsX7_chips) := goodIn_app (goodIn_r _ [63, 64, 65, 66] (by eq_refl) (by decide +kernel)) ggX10_count_X7_chips
theorem dX10_count_0 : decode cX10_count 0 = .ok (.iload_n 1, 1) := by decide +kernel
theorem dX10_count_1 : decode cX10_count 1 = .ok (.tableswitch 137 0 8 #[51, 59, 67, 75, 83, 105, 113, 121, 129], 51) := by decide +kernel
theorem dX10_count_52 : decode cX10_count 52 = .ok (.aload_n 0, 1) := by decide +kernel
theorem dX10_count_53 : decode cX10_count 53 = .ok (.getfield 12, 3) := by decide +kernel
theorem dX10_count_56 : decode cX10_count 56 = .ok (.invokevirtual 68, 3) := by decide +kernel
theorem dX10_count_59 : decode cX10_count 59 = .ok (.ireturn, 1) := by decide +kernel
theorem dX10_count_60 : decode cX10_count 60 = .ok (.aload_n 0, 1) := by decide +kernel
theorem dX10_count_61 : decode cX10_count 61 = .ok (.getfield 12, 3) := by decide +kernel
theorem dX10_count_64 : decode cX10_count 64 = .ok (.invokevirtual 64, 3) := by decide +kernel
theorem dX10_count_67 : decode cX10_count 67 = .ok (.ireturn, 1) := by decide +kernel
theorem dX10_count_68 : decode cX10_count 68 = .ok (.aload_n 0, 1) := by decide +kernel
theorem dX10_count_69 : decode cX10_count 69 = .ok (.getfield 19, 3) := by decide +kernel
theorem dX10_count_72 : decode cX10_count 72 = .ok (.invokevirtual 96, 3) := by decide +kernel
theorem dX10_count_75 : decode cX10_count 75 = .ok (.ireturn, 1) := by decide +kernel
theorem dX10_count_76 : decode cX10_count 76 = .ok (.aload_n 0, 1) := by decide +kernel
theorem dX10_count_77 : decode cX10_count 77 = .ok (.getfield 26, 3) := by decide +kernel
theorem dX10_count_80 : decode cX10_count 80 = .ok (.invokevirtual 133, 3) := by decide +kernel
theorem dX10_count_83 : decode cX10_count 83 = .ok (.ireturn, 1) := by decide +kernel
theorem dX10_count_84 : decode cX10_count 84 = .ok (.aload_n 0, 1) := by decide +kernel
theorem dX10_count_85 : decode cX10_count 85 = .ok (.getfield 60, 3) := by decide +kernel
theorem dX10_count_88 : decode cX10_count 88 = .ok (.ifCond .eq 16, 3) := by decide +kernel
theorem dX10_count_91 : decode cX10_count 91 = .ok (.aload_n 0, 1) := by decide +kernel
theorem dX10_count_92 : decode cX10_count 92 = .ok (.getfield 35, 3) := by decide +kernel
theorem dX10_count_95 : decode cX10_count 95 = .ok (.invokevirtual 158, 3) := by decide +kernel
theorem dX10_count_98 : decode cX10_count 98 = .ok (.invokevirtual 162, 3) := by decide +kernel
theorem dX10_count_101 : decode cX10_count 101 = .ok (.goto 4, 3) := by decide +kernel
theorem dX10_count_104 : decode cX10_count 104 = .ok (.iconst 0, 1) := by decide +kernel
theorem dX10_count_105 : decode cX10_count 105 = .ok (.ireturn, 1) := by decide +kernel
theorem dX10_count_106 : decode cX10_count 106 = .ok (.aload_n 0, 1) := by decide +kernel
theorem dX10_count_107 : decode cX10_count 107 = .ok (.getfield 56, 3) := by decide +kernel
theorem dX10_count_110 : decode cX10_count 110 = .ok (.invokevirtual 218, 3) := by decide +kernel
theorem dX10_count_113 : decode cX10_count 113 = .ok (.ireturn, 1) := by decide +kernel
theorem dX10_count_114 : decode cX10_count 114 = .ok (.aload_n 0, 1) := by decide +kernel
theorem dX10_count_115 : decode cX10_count 115 = .ok (.getfield 12, 3) := by decide +kernel
theorem dX10_count_118 : decode cX10_count 118 = .ok (.invokevirtual 238, 3) := by decide +kernel
theorem dX10_count_121 : decode cX10_count 121 = .ok (.ireturn, 1) := by decide +kernel
theorem dX10_count_122 : decode cX10_count 122 = .ok (.aload_n 0, 1) := by decide +kernel
theorem dX10_count_123 : decode cX10_count 123 = .ok (.getfield 49, 3) := by decide +kernel
theorem dX10_count_126 : decode cX10_count 126 = .ok (.invokevirtual 201, 3) := by decide +kernel
theorem dX10_count_129 : decode cX10_count 129 = .ok (.ireturn, 1) := by decide +kernel
theorem dX10_count_130 : decode cX10_count 130 = .ok (.aload_n 0, 1) := by decide +kernel
theorem dX10_count_131 : decode cX10_count 131 = .ok (.getfield 42, 3) := by decide +kernel
theorem dX10_count_134 : decode cX10_count 134 = .ok (.invokevirtual 241, 3) := by decide +kernel
theorem dX10_count_137 : decode cX10_count 137 = .ok (.ireturn, 1) := by decide +kernel
theorem dX10_count_138 : decode cX10_count 138 = .ok (.new 114, 3) := by decide +kernel
theorem dX10_count_141 : decode cX10_count 141 = .ok (.dup, 1) := by decide +kernel
theorem dX10_count_142 : decode cX10_count 142 = .ok (.ldc 244, 2) := by decide +kernel
theorem dX10_count_144 : decode cX10_count 144 = .ok (.invokespecial 118, 3) := by decide +kernel
theorem dX10_count_147 : decode cX10_count 147 = .ok (.athrow, 1) := by decide +kernel
set_option maxRecDepth 20000 in
theorem ggX10_clear_X2_forget : GoodIn wsX10_clear wsX2_forget := goodIn_r _ [12, 13, 14, 15, 60, 61, 62, 63, 64, 65, 66, 67, 68] (by eq_refl) (by decide +kernel)
set_option maxRecDepth 20000 in
theorem gX10_clear_X2_forget : GoodIn wsX10_clear (wsV RX10 246 RX2 yX2_forget wsX2_forget) := goodIn_app (goodIn_r _ [8, 9, 10, 11] (by eq_refl) (by decide +kernel)) ggX10_clear_X2_forget
set_option maxRecDepth 20000 in
theorem ggX10_clear_X5_forget : GoodIn wsX10_clear wsX5_forget := goodIn_r _ [20, 21, 69, 70, 71] (by eq_refl) (by decide +kernel)
set_option maxRecDepth 20000 in
theorem gX10_clear_X5_forget : GoodIn wsX10_clear (wsV RX10 249 RX5 yX5_forget wsX5_forget) := goodIn_app (goodIn_r _ [16, 17, 18, 19] (by eq_refl) (by decide +kernel)) ggX10_clear_X5_forget
set_option maxRecDepth 20000 in
theorem ggX10_clear_X4_forget : GoodIn wsX10_clear wsX4_forget := goodIn_r _ [26, 27, 72, 73, 74] (by eq_refl) (by decide +kernel)
set_option maxRecDepth 20000 in
theorem gX10_clear_X4_forget : GoodIn wsX10_clear (wsV RX10 250 RX4 yX4_forget wsX4_forget) := goodIn_app (goodIn_r _ [22, 23, 24, 25] (by eq_refl) (by decide +kernel)) ggX10_clear_X4_forget
set_option maxRecDepth 20000 in
theorem ggX10_clear_X7_forget : GoodIn wsX10_clear wsX7_forget := goodIn_r _ [32, 33, 34, 35, 36, 37, 38, 75, 76] (by eq_refl) (by decide +kernel)
set_option maxRecDepth 20000 in
theorem gX10_clear_X7_forget : GoodIn wsX10_clear (wsV RX10 251 RX7 yX7_forget wsX7_forget) := goodIn_app (goodIn_r _ [28, 29, 30, 31] (by eq_refl) (by decide +kernel)) ggX10_clear_X7_forget
set_option maxRecDepth 20000 in
theorem ggX10_clear_X1_forget : GoodIn wsX10_clear wsX1_forget := goodIn_r _ [43, 44, 45, 77, 78, 79, 80] (by eq_refl) (by decide +kernel)
set_option maxRecDepth 20000 in
theorem gX10_clear_X1_forget : GoodIn wsX10_clear (wsV RX10 252 RX1 yX1_forget wsX1_forget) := goodIn_app (goodIn_r _ [39, 40, 41, 42] (by eq_refl) (by decide +kernel)) ggX10_clear_X1_forget
set_option maxRecDepth 20000 in
theorem ggX10_clear_X6_forget : GoodIn wsX10_clear wsX6_forget := goodIn_r _ [50, 51, 81, 82, 83, 84, 85, 86, 87, 88, 89] (by eq_refl) (by decide +kernel)
set_option maxRecDepth 20000 in
theorem gX10_clear_X6_forget : GoodIn wsX10_clear (wsV RX10 253 RX6 yX6_forget wsX6_forget) := goodIn_app (goodIn_r _ [46, 47, 48, 49] (by eq_refl) (by decide +kernel)) ggX10_clear_X6_forget
theorem dX10_clear_0 : decode cX10_clear 0 = .ok (.aload_n 0, 1) := by decide +kernel
theorem dX10_clear_1 : decode cX10_clear 1 = .ok (.getfield 12, 3) := by decide +kernel
theorem dX10_clear_4 : decode cX10_clear 4 = .ok (.invokevirtual 246, 3) := by decide +kernel
theorem dX10_clear_7 : decode cX10_clear 7 = .ok (.aload_n 0, 1) := by decide +kernel
theorem dX10_clear_8 : decode cX10_clear 8 = .ok (.getfield 19, 3) := by decide +kernel
theorem dX10_clear_11 : decode cX10_clear 11 = .ok (.invokevirtual 249, 3) := by decide +kernel
theorem dX10_clear_14 : decode cX10_clear 14 = .ok (.aload_n 0, 1) := by decide +kernel
theorem dX10_clear_15 : decode cX10_clear 15 = .ok (.getfield 26, 3) := by decide +kernel
theorem dX10_clear_18 : decode cX10_clear 18 = .ok (.invokevirtual 250, 3) := by decide +kernel
theorem dX10_clear_21 : decode cX10_clear 21 = .ok (.aload_n 0, 1) := by decide +kernel
theorem dX10_clear_22 : decode cX10_clear 22 = .ok (.getfield 42, 3) := by decide +kernel
theorem dX10_clear_25 : decode cX10_clear 25 = .ok (.invokevirtual 251, 3) := by decide +kernel
theorem dX10_clear_28 : decode cX10_clear 28 = .ok (.aload_n 0, 1) := by decide +kernel
theorem dX10_clear_29 : decode cX10_clear 29 = .ok (.getfield 49, 3) := by decide +kernel
theorem dX10_clear_32 : decode cX10_clear 32 = .ok (.invokevirtual 252, 3) := by decide +kernel
theorem dX10_clear_35 : decode cX10_clear 35 = .ok (.aload_n 0, 1) := by decide +kernel
theorem dX10_clear_36 : decode cX10_clear 36 = .ok (.getfield 56, 3) := by decide +kernel
theorem dX10_clear_39 : decode cX10_clear 39 = .ok (.invokevirtual 253, 3) := by decide +kernel
theorem dX10_clear_42 : decode cX10_clear 42 = .ok (.aload_n 0, 1) := by decide +kernel
theorem dX10_clear_43 : decode cX10_clear 43 = .ok (.iconst 0, 1) := by decide +kernel
theorem dX10_clear_44 : decode cX10_clear 44 = .ok (.putfield 60, 3) := by decide +kernel
theorem dX10_clear_47 : decode cX10_clear 47 = .ok (.return_, 1) := by decide +kernel
set_option maxRecDepth 20000 in
theorem ggX10_needNet_X2_has : GoodIn wsX10_needNet wsX2_has := goodIn_r _ [8, 9, 18, 19, 20, 21, 22, 23, 24, 25, 26] (by eq_refl) (by decide +kernel)
set_option maxRecDepth 20000 in
theorem gX10_needNet_X2_has : GoodIn wsX10_needNet (wsV RX10 254 RX2 yX2_has wsX2_has) := goodIn_app (goodIn_r _ [4, 5, 6, 7] (by eq_refl) (by decide +kernel)) ggX10_needNet_X2_has
theorem dX10_needNet_0 : decode cX10_needNet 0 = .ok (.aload_n 0, 1) := by decide +kernel
theorem dX10_needNet_1 : decode cX10_needNet 1 = .ok (.getfield 12, 3) := by decide +kernel
theorem dX10_needNet_4 : decode cX10_needNet 4 = .ok (.iload_n 1, 1) := by decide +kernel
theorem dX10_needNet_5 : decode cX10_needNet 5 = .ok (.invokevirtual 254, 3) := by decide +kernel
theorem dX10_needNet_8 : decode cX10_needNet 8 = .ok (.ifCond .ne 14, 3) := by decide +kernel
theorem dX10_needNet_11 : decode cX10_needNet 11 = .ok (.new 114, 3) := by decide +kernel
theorem dX10_needNet_14 : decode cX10_needNet 14 = .ok (.dup, 1) := by decide +kernel
theorem dX10_needNet_15 : decode cX10_needNet 15 = .ok (.ldc_w 257, 3) := by decide +kernel
theorem dX10_needNet_18 : decode cX10_needNet 18 = .ok (.invokespecial 118, 3) := by decide +kernel
theorem dX10_needNet_21 : decode cX10_needNet 21 = .ok (.athrow, 1) := by decide +kernel
theorem dX10_needNet_22 : decode cX10_needNet 22 = .ok (.return_, 1) := by decide +kernel
set_option maxRecDepth 20000 in
theorem ggX10_needOutput_X5_size : GoodIn wsX10_needOutput wsX5_size := goodIn_r _ [8, 9, 18, 19, 20] (by eq_refl) (by decide +kernel)
set_option maxRecDepth 20000 in
theorem gX10_needOutput_X5_size : GoodIn wsX10_needOutput (wsV RX10 96 RX5 yX5_size wsX5_size) := goodIn_app (goodIn_r _ [4, 5, 6, 7] (by eq_refl) (by decide +kernel)) ggX10_needOutput_X5_size
theorem dX10_needOutput_0 : decode cX10_needOutput 0 = .ok (.iload_n 1, 1) := by decide +kernel
theorem dX10_needOutput_1 : decode cX10_needOutput 1 = .ok (.ifCond .lt 14, 3) := by decide +kernel
theorem dX10_needOutput_4 : decode cX10_needOutput 4 = .ok (.iload_n 1, 1) := by decide +kernel
theorem dX10_needOutput_5 : decode cX10_needOutput 5 = .ok (.aload_n 0, 1) := by decide +kernel
theorem dX10_needOutput_6 : decode cX10_needOutput 6 = .ok (.getfield 19, 3) := by decide +kernel
theorem dX10_needOutput_9 : decode cX10_needOutput 9 = .ok (.invokevirtual 96, 3) := by decide +kernel
theorem dX10_needOutput_12 : decode cX10_needOutput 12 = .ok (.if_icmp .lt 14, 3) := by decide +kernel
theorem dX10_needOutput_15 : decode cX10_needOutput 15 = .ok (.new 114, 3) := by decide +kernel
theorem dX10_needOutput_18 : decode cX10_needOutput 18 = .ok (.dup, 1) := by decide +kernel
theorem dX10_needOutput_19 : decode cX10_needOutput 19 = .ok (.ldc_w 259, 3) := by decide +kernel
theorem dX10_needOutput_22 : decode cX10_needOutput 22 = .ok (.invokespecial 118, 3) := by decide +kernel
theorem dX10_needOutput_25 : decode cX10_needOutput 25 = .ok (.athrow, 1) := by decide +kernel
theorem dX10_needOutput_26 : decode cX10_needOutput 26 = .ok (.return_, 1) := by decide +kernel
theorem dX10_needTold_0 : decode cX10_needTold 0 = .ok (.aload_n 0, 1) := by decide +kernel
theorem dX10_needTold_1 : decode cX10_needTold 1 = .ok (.getfield 60, 3) := by decide +kernel
theorem dX10_needTold_4 : decode cX10_needTold 4 = .ok (.ifCond .ne 14, 3) := by decide +kernel
theorem dX10_needTold_7 : decode cX10_needTold 7 = .ok (.new 71, 3) := by decide +kernel
theorem dX10_needTold_10 : decode cX10_needTold 10 = .ok (.dup, 1) := by decide +kernel
theorem dX10_needTold_11 : decode cX10_needTold 11 = .ok (.ldc_w 261, 3) := by decide +kernel
theorem dX10_needTold_14 : decode cX10_needTold 14 = .ok (.invokespecial 75, 3) := by decide +kernel
theorem dX10_needTold_17 : decode cX10_needTold 17 = .ok (.athrow, 1) := by decide +kernel
theorem dX10_needTold_18 : decode cX10_needTold 18 = .ok (.return_, 1) := by decide +kernel
set_option maxRecDepth 20000 in
theorem ggX10_needChain_X1_begun : GoodIn wsX10_needChain wsX1_begun := goodIn_r _ [8, 9, 18, 19, 20, 21] (by eq_refl) (by decide +kernel)
set_option maxRecDepth 20000 in
theorem gX10_needChain_X1_begun : GoodIn wsX10_needChain (wsV RX10 263 RX1 yX1_begun wsX1_begun) := goodIn_app (goodIn_r _ [4, 5, 6, 7] (by eq_refl) (by decide +kernel)) ggX10_needChain_X1_begun
theorem dX10_needChain_0 : decode cX10_needChain 0 = .ok (.aload_n 0, 1) := by decide +kernel
theorem dX10_needChain_1 : decode cX10_needChain 1 = .ok (.getfield 49, 3) := by decide +kernel
theorem dX10_needChain_4 : decode cX10_needChain 4 = .ok (.invokevirtual 263, 3) := by decide +kernel
theorem dX10_needChain_7 : decode cX10_needChain 7 = .ok (.ifCond .ne 14, 3) := by decide +kernel
theorem dX10_needChain_10 : decode cX10_needChain 10 = .ok (.new 71, 3) := by decide +kernel
theorem dX10_needChain_13 : decode cX10_needChain 13 = .ok (.dup, 1) := by decide +kernel
theorem dX10_needChain_14 : decode cX10_needChain 14 = .ok (.ldc_w 267, 3) := by decide +kernel
theorem dX10_needChain_17 : decode cX10_needChain 17 = .ok (.invokespecial 75, 3) := by decide +kernel
theorem dX10_needChain_20 : decode cX10_needChain 20 = .ok (.athrow, 1) := by decide +kernel
theorem dX10_needChain_21 : decode cX10_needChain 21 = .ok (.return_, 1) := by decide +kernel
theorem dX10_needGrowth_0 : decode cX10_needGrowth 0 = .ok (.iload_n 0, 1) := by decide +kernel
theorem dX10_needGrowth_1 : decode cX10_needGrowth 1 = .ok (.ifCond .lt 9, 3) := by decide +kernel
theorem dX10_needGrowth_4 : decode cX10_needGrowth 4 = .ok (.iload_n 0, 1) := by decide +kernel
theorem dX10_needGrowth_5 : decode cX10_needGrowth 5 = .ok (.bipush 100, 2) := by decide +kernel
theorem dX10_needGrowth_7 : decode cX10_needGrowth 7 = .ok (.if_icmp .le 14, 3) := by decide +kernel
theorem dX10_needGrowth_10 : decode cX10_needGrowth 10 = .ok (.new 87, 3) := by decide +kernel
theorem dX10_needGrowth_13 : decode cX10_needGrowth 13 = .ok (.dup, 1) := by decide +kernel
theorem dX10_needGrowth_14 : decode cX10_needGrowth 14 = .ok (.ldc_w 269, 3) := by decide +kernel
theorem dX10_needGrowth_17 : decode cX10_needGrowth 17 = .ok (.invokespecial 91, 3) := by decide +kernel
theorem dX10_needGrowth_20 : decode cX10_needGrowth 20 = .ok (.athrow, 1) := by decide +kernel
theorem dX10_needGrowth_21 : decode cX10_needGrowth 21 = .ok (.return_, 1) := by decide +kernel
theorem dX10_isStretch_0 : decode cX10_isStretch 0 = .ok (.iload_n 0, 1) := by decide +kernel
theorem dX10_isStretch_1 : decode cX10_isStretch 1 = .ok (.ifCond .lt 19, 3) := by decide +kernel
theorem dX10_isStretch_4 : decode cX10_isStretch 4 = .ok (.iload_n 0, 1) := by decide +kernel
theorem dX10_isStretch_5 : decode cX10_isStretch 5 = .ok (.iload_n 1, 1) := by decide +kernel
theorem dX10_isStretch_6 : decode cX10_isStretch 6 = .ok (.if_icmp .ge 14, 3) := by decide +kernel
theorem dX10_isStretch_9 : decode cX10_isStretch 9 = .ok (.iload_n 1, 1) := by decide +kernel
theorem dX10_isStretch_10 : decode cX10_isStretch 10 = .ok (.sipush 1000, 3) := by decide +kernel
theorem dX10_isStretch_13 : decode cX10_isStretch 13 = .ok (.if_icmp .gt 7, 3) := by decide +kernel
theorem dX10_isStretch_16 : decode cX10_isStretch 16 = .ok (.iconst 1, 1) := by decide +kernel
theorem dX10_isStretch_17 : decode cX10_isStretch 17 = .ok (.goto 4, 3) := by decide +kernel
theorem dX10_isStretch_20 : decode cX10_isStretch 20 = .ok (.iconst 0, 1) := by decide +kernel
theorem dX10_isStretch_21 : decode cX10_isStretch 21 = .ok (.ireturn, 1) := by decide +kernel
set_option maxRecDepth 20000 in
theorem ggX10_ofSuspect_X3_suspects : GoodIn wsX10_ofSuspect wsX3_suspects := goodIn_r _ [6, 7, 74, 75, 76, 77, 78, 79, 80] (by eq_refl) (by decide +kernel)
set_option maxRecDepth 20000 in
theorem gX10_ofSuspect_X3_suspects : GoodIn wsX10_ofSuspect (wsV RX10 158 RX3 yX3_suspects wsX3_suspects) := goodIn_app (goodIn_r _ [2, 3, 4, 5] (by eq_refl) (by decide +kernel)) ggX10_ofSuspect_X3_suspects
set_option maxRecDepth 20000 in
theorem ggX10_ofSuspect_X8_kind : GoodIn wsX10_ofSuspect wsX8_kind := goodIn_r _ [12, 13, 14, 81, 82, 83, 84, 85, 86, 87] (by eq_refl) (by decide +kernel)
set_option maxRecDepth 20000 in
theorem gX10_ofSuspect_X8_kind : GoodIn wsX10_ofSuspect (wsV RX10 271 RX8 yX8_kind wsX8_kind) := goodIn_app (goodIn_r _ [8, 9, 10, 11] (by eq_refl) (by decide +kernel)) ggX10_ofSuspect_X8_kind
set_option maxRecDepth 20000 in
theorem ggX10_ofSuspect_X3_firstNet : GoodIn wsX10_ofSuspect wsX3_firstNet := goodIn_r _ [18, 7, 19, 20, 21, 22, 11, 23, 24, 14, 25, 26, 27, 28, 29, 9, 10, 12, 13, 30, 31, 32, 33, 34, 35, 74, 75, 76, 77, 78, 79, 80, 81, 82, 83, 84, 85, 86, 87, 88, 89, 90] (by eq_refl) (by decide +kernel)
set_option maxRecDepth 20000 in
theorem gX10_ofSuspect_X3_firstNet : GoodIn wsX10_ofSuspect (wsV RX10 274 RX3 yX3_firstNet wsX3_firstNet) := goodIn_app (goodIn_r _ [15, 16, 17, 5] (by eq_refl) (by decide +kernel)) ggX10_ofSuspect_X3_firstNet
set_option maxRecDepth 20000 in
theorem ggX10_ofSuspect_X3_secondNet : GoodIn wsX10_ofSuspect wsX3_secondNet := goodIn_r _ [39, 7, 19, 25, 26, 27, 11, 28, 29, 9, 10, 12, 13, 14, 20, 21, 22, 23, 24, 40, 41, 42, 33, 43, 44, 74, 75, 76, 77, 78, 79, 80, 81, 82, 83, 84, 85, 86, 87, 88, 89, 90] (by eq_refl) (by decide +kernel)
set_option maxRecDepth 20000 in
theorem gX10_ofSuspect_X3_secondNet : GoodIn wsX10_ofSuspect (wsV RX10 277 RX3 yX3_secondNet wsX3_secondNet) := goodIn_app (goodIn_r _ [36, 37, 38, 5] (by eq_refl) (by decide +kernel)) ggX10_ofSuspect_X3_secondNet
set_option maxRecDepth 20000 in
theorem ggX10_ofSuspect_X8_sum : GoodIn wsX10_ofSuspect wsX8_sum := goodIn_r _ [48, 49, 50, 51, 11, 52, 53, 14, 54, 55, 56, 57, 58, 81, 82, 83, 84, 85, 86, 87] (by eq_refl) (by decide +kernel)
set_option maxRecDepth 20000 in
theorem gX10_ofSuspect_X8_sum : GoodIn wsX10_ofSuspect (wsV RX10 280 RX8 yX8_sum wsX8_sum) := goodIn_app (goodIn_r _ [45, 46, 47, 11] (by eq_refl) (by decide +kernel)) ggX10_ofSuspect_X8_sum
set_option maxRecDepth 20000 in
theorem ggX10_ofSuspect_X8_explained : GoodIn wsX10_ofSuspect wsX8_explained := goodIn_r _ [62, 63, 14, 81, 82, 83, 84, 85, 86, 87] (by eq_refl) (by decide +kernel)
set_option maxRecDepth 20000 in
theorem gX10_ofSuspect_X8_explained : GoodIn wsX10_ofSuspect (wsV RX10 283 RX8 yX8_explained wsX8_explained) := goodIn_app (goodIn_r _ [59, 60, 61, 11] (by eq_refl) (by decide +kernel)) ggX10_ofSuspect_X8_explained
set_option maxRecDepth 20000 in
theorem ggX10_ofSuspect_X8_missed : GoodIn wsX10_ofSuspect wsX8_missed := goodIn_r _ [52, 53, 14, 81, 82, 83, 84, 85, 86, 87] (by eq_refl) (by decide +kernel)
set_option maxRecDepth 20000 in
theorem gX10_ofSuspect_X8_missed : GoodIn wsX10_ofSuspect (wsV RX10 286 RX8 yX8_missed wsX8_missed) := goodIn_app (goodIn_r _ [64, 50, 51, 11] (by eq_refl) (by decide +kernel)) ggX10_ofSuspect_X8_missed
set_option maxRecDepth 20000 in
theorem ggX10_ofSuspect_X8_wrong : GoodIn wsX10_ofSuspect wsX8_wrong := goodIn_r _ [57, 58, 14, 81, 82, 83, 84, 85, 86, 87] (by eq_refl) (by decide +kernel)
set_option maxRecDepth 20000 in
theorem gX10_ofSuspect_X8_wrong : GoodIn wsX10_ofSuspect (wsV RX10 289 RX8 yX8_wrong wsX8_wrong) := goodIn_app (goodIn_r _ [65, 55, 56, 11] (by eq_refl) (by decide +kernel)) ggX10_ofSuspect_X8_wrong
theorem dX10_ofSuspect_0 : decode cX10_ofSuspect 0 = .ok (.aload_n 0, 1) := by decide +kernel
theorem dX10_ofSuspect_1 : decode cX10_ofSuspect 1 = .ok (.getfield 35, 3) := by decide +kernel
theorem dX10_ofSuspect_4 : decode cX10_ofSuspect 4 = .ok (.invokevirtual 158, 3) := by decide +kernel
theorem dX10_ofSuspect_7 : decode cX10_ofSuspect 7 = .ok (.astore_n 3, 1) := by decide +kernel
theorem dX10_ofSuspect_8 : decode cX10_ofSuspect 8 = .ok (.iload_n 2, 1) := by decide +kernel
theorem dX10_ofSuspect_9 : decode cX10_ofSuspect 9 = .ok (.tableswitch 81 0 5 #[39, 45, 54, 63, 69, 75], 39) := by decide +kernel
theorem dX10_ofSuspect_48 : decode cX10_ofSuspect 48 = .ok (.aload_n 3, 1) := by decide +kernel
theorem dX10_ofSuspect_49 : decode cX10_ofSuspect 49 = .ok (.iload_n 1, 1) := by decide +kernel
theorem dX10_ofSuspect_50 : decode cX10_ofSuspect 50 = .ok (.invokevirtual 271, 3) := by decide +kernel
theorem dX10_ofSuspect_53 : decode cX10_ofSuspect 53 = .ok (.ireturn, 1) := by decide +kernel
theorem dX10_ofSuspect_54 : decode cX10_ofSuspect 54 = .ok (.aload_n 0, 1) := by decide +kernel
theorem dX10_ofSuspect_55 : decode cX10_ofSuspect 55 = .ok (.getfield 35, 3) := by decide +kernel
theorem dX10_ofSuspect_58 : decode cX10_ofSuspect 58 = .ok (.iload_n 1, 1) := by decide +kernel
theorem dX10_ofSuspect_59 : decode cX10_ofSuspect 59 = .ok (.invokevirtual 274, 3) := by decide +kernel
theorem dX10_ofSuspect_62 : decode cX10_ofSuspect 62 = .ok (.ireturn, 1) := by decide +kernel
theorem dX10_ofSuspect_63 : decode cX10_ofSuspect 63 = .ok (.aload_n 0, 1) := by decide +kernel
theorem dX10_ofSuspect_64 : decode cX10_ofSuspect 64 = .ok (.getfield 35, 3) := by decide +kernel
theorem dX10_ofSuspect_67 : decode cX10_ofSuspect 67 = .ok (.iload_n 1, 1) := by decide +kernel
theorem dX10_ofSuspect_68 : decode cX10_ofSuspect 68 = .ok (.invokevirtual 277, 3) := by decide +kernel
theorem dX10_ofSuspect_71 : decode cX10_ofSuspect 71 = .ok (.ireturn, 1) := by decide +kernel
theorem dX10_ofSuspect_72 : decode cX10_ofSuspect 72 = .ok (.aload_n 3, 1) := by decide +kernel
theorem dX10_ofSuspect_73 : decode cX10_ofSuspect 73 = .ok (.iload_n 1, 1) := by decide +kernel
theorem dX10_ofSuspect_74 : decode cX10_ofSuspect 74 = .ok (.invokevirtual 280, 3) := by decide +kernel
theorem dX10_ofSuspect_77 : decode cX10_ofSuspect 77 = .ok (.ireturn, 1) := by decide +kernel
theorem dX10_ofSuspect_78 : decode cX10_ofSuspect 78 = .ok (.aload_n 3, 1) := by decide +kernel
theorem dX10_ofSuspect_79 : decode cX10_ofSuspect 79 = .ok (.iload_n 1, 1) := by decide +kernel
theorem dX10_ofSuspect_80 : decode cX10_ofSuspect 80 = .ok (.invokevirtual 283, 3) := by decide +kernel
theorem dX10_ofSuspect_83 : decode cX10_ofSuspect 83 = .ok (.ireturn, 1) := by decide +kernel
theorem dX10_ofSuspect_84 : decode cX10_ofSuspect 84 = .ok (.aload_n 3, 1) := by decide +kernel
theorem dX10_ofSuspect_85 : decode cX10_ofSuspect 85 = .ok (.iload_n 1, 1) := by decide +kernel
theorem dX10_ofSuspect_86 : decode cX10_ofSuspect 86 = .ok (.invokevirtual 286, 3) := by decide +kernel
theorem dX10_ofSuspect_89 : decode cX10_ofSuspect 89 = .ok (.ireturn, 1) := by decide +kernel
theorem dX10_ofSuspect_90 : decode cX10_ofSuspect 90 = .ok (.aload_n 3, 1) := by decide +kernel
theorem dX10_ofSuspect_91 : decode cX10_ofSuspect 91 = .ok (.iload_n 1, 1) := by decide +kernel
theorem dX10_ofSuspect_92 : decode cX10_ofSuspect 92 = .ok (.invokevirtual 289, 3) := by decide +kernel
theorem dX10_ofSuspect_95 : decode cX10_ofSuspect 95 = .ok (.ireturn, 1) := by decide +kernel
set_option maxRecDepth 20000 in
theorem ggX10_ofBestPair_X3_bestPair : GoodIn wsX10_ofBestPair wsX3_bestPair := goodIn_r _ [6, 7, 52, 53, 54, 55, 56, 57, 58] (by eq_refl) (by decide +kernel)
set_option maxRecDepth 20000 in
theorem gX10_ofBestPair_X3_bestPair : GoodIn wsX10_ofBestPair (wsV RX10 292 RX3 yX3_bestPair wsX3_bestPair) := goodIn_app (goodIn_r _ [2, 3, 4, 5] (by eq_refl) (by decide +kernel)) ggX10_ofBestPair_X3_bestPair
set_option maxRecDepth 20000 in
theorem ggX10_ofBestPair_X0_first : GoodIn wsX10_ofBestPair wsX0_first := goodIn_r _ [12, 13, 59, 60, 61] (by eq_refl) (by decide +kernel)
set_option maxRecDepth 20000 in
theorem gX10_ofBestPair_X0_first : GoodIn wsX10_ofBestPair (wsV RX10 296 RX0 yX0_first wsX0_first) := goodIn_app (goodIn_r _ [8, 9, 10, 11] (by eq_refl) (by decide +kernel)) ggX10_ofBestPair_X0_first
set_option maxRecDepth 20000 in
theorem ggX10_ofBestPair_X0_second : GoodIn wsX10_ofBestPair wsX0_second := goodIn_r _ [17, 18, 59, 60, 61] (by eq_refl) (by decide +kernel)
set_option maxRecDepth 20000 in
theorem gX10_ofBestPair_X0_second : GoodIn wsX10_ofBestPair (wsV RX10 301 RX0 yX0_second wsX0_second) := goodIn_app (goodIn_r _ [14, 15, 16, 11] (by eq_refl) (by decide +kernel)) ggX10_ofBestPair_X0_second
set_option maxRecDepth 20000 in
theorem ggX10_ofBestPair_X0_tally : GoodIn wsX10_ofBestPair wsX0_tally := goodIn_r _ [22, 23, 59, 60, 61] (by eq_refl) (by decide +kernel)
set_option maxRecDepth 20000 in
theorem gX10_ofBestPair_X0_tally : GoodIn wsX10_ofBestPair (wsV RX10 304 RX0 yX0_tally wsX0_tally) := goodIn_app (goodIn_r _ [19, 20, 21, 11] (by eq_refl) (by decide +kernel)) ggX10_ofBestPair_X0_tally
set_option maxRecDepth 20000 in
theorem ggX10_ofBestPair_X9_sum : GoodIn wsX10_ofBestPair wsX9_sum := goodIn_r _ [28, 29, 30, 62, 63, 64] (by eq_refl) (by decide +kernel)
set_option maxRecDepth 20000 in
theorem gX10_ofBestPair_X9_sum : GoodIn wsX10_ofBestPair (wsV RX10 308 RX9 yX9_sum wsX9_sum) := goodIn_app (goodIn_r _ [24, 25, 26, 27] (by eq_refl) (by decide +kernel)) ggX10_ofBestPair_X9_sum
set_option maxRecDepth 20000 in
theorem ggX10_ofBestPair_X9_explained : GoodIn wsX10_ofBestPair wsX9_explained := goodIn_r _ [34, 35, 62, 63, 64] (by eq_refl) (by decide +kernel)
set_option maxRecDepth 20000 in
theorem gX10_ofBestPair_X9_explained : GoodIn wsX10_ofBestPair (wsV RX10 312 RX9 yX9_explained wsX9_explained) := goodIn_app (goodIn_r _ [31, 32, 33, 27] (by eq_refl) (by decide +kernel)) ggX10_ofBestPair_X9_explained
set_option maxRecDepth 20000 in
theorem ggX10_ofBestPair_X9_missed : GoodIn wsX10_ofBestPair wsX9_missed := goodIn_r _ [39, 29, 62, 63, 64] (by eq_refl) (by decide +kernel)
set_option maxRecDepth 20000 in
theorem gX10_ofBestPair_X9_missed : GoodIn wsX10_ofBestPair (wsV RX10 314 RX9 yX9_missed wsX9_missed) := goodIn_app (goodIn_r _ [36, 37, 38, 27] (by eq_refl) (by decide +kernel)) ggX10_ofBestPair_X9_missed
set_option maxRecDepth 20000 in
theorem ggX10_ofBestPair_X9_wrong : GoodIn wsX10_ofBestPair wsX9_wrong := goodIn_r _ [43, 30, 62, 63, 64] (by eq_refl) (by decide +kernel)
set_option maxRecDepth 20000 in
theorem gX10_ofBestPair_X9_wrong : GoodIn wsX10_ofBestPair (wsV RX10 316 RX9 yX9_wrong wsX9_wrong) := goodIn_app (goodIn_r _ [40, 41, 42, 27] (by eq_refl) (by decide +kernel)) ggX10_ofBestPair_X9_wrong
theorem dX10_ofBestPair_0 : decode cX10_ofBestPair 0 = .ok (.aload_n 0, 1) := by decide +kernel
theorem dX10_ofBestPair_1 : decode cX10_ofBestPair 1 = .ok (.getfield 35, 3) := by decide +kernel
theorem dX10_ofBestPair_4 : decode cX10_ofBestPair 4 = .ok (.invokevirtual 292, 3) := by decide +kernel
theorem dX10_ofBestPair_7 : decode cX10_ofBestPair 7 = .ok (.astore_n 2, 1) := by decide +kernel
theorem dX10_ofBestPair_8 : decode cX10_ofBestPair 8 = .ok (.iload_n 1, 1) := by decide +kernel
theorem dX10_ofBestPair_9 : decode cX10_ofBestPair 9 = .ok (.tableswitch 69 0 4 #[35, 40, 45, 53, 61], 35) := by decide +kernel
theorem dX10_ofBestPair_44 : decode cX10_ofBestPair 44 = .ok (.aload_n 2, 1) := by decide +kernel
theorem dX10_ofBestPair_45 : decode cX10_ofBestPair 45 = .ok (.invokevirtual 296, 3) := by decide +kernel
theorem dX10_ofBestPair_48 : decode cX10_ofBestPair 48 = .ok (.ireturn, 1) := by decide +kernel
theorem dX10_ofBestPair_49 : decode cX10_ofBestPair 49 = .ok (.aload_n 2, 1) := by decide +kernel
theorem dX10_ofBestPair_50 : decode cX10_ofBestPair 50 = .ok (.invokevirtual 301, 3) := by decide +kernel
theorem dX10_ofBestPair_53 : decode cX10_ofBestPair 53 = .ok (.ireturn, 1) := by decide +kernel
theorem dX10_ofBestPair_54 : decode cX10_ofBestPair 54 = .ok (.aload_n 2, 1) := by decide +kernel
theorem dX10_ofBestPair_55 : decode cX10_ofBestPair 55 = .ok (.invokevirtual 304, 3) := by decide +kernel
theorem dX10_ofBestPair_58 : decode cX10_ofBestPair 58 = .ok (.invokevirtual 308, 3) := by decide +kernel
theorem dX10_ofBestPair_61 : decode cX10_ofBestPair 61 = .ok (.ireturn, 1) := by decide +kernel
theorem dX10_ofBestPair_62 : decode cX10_ofBestPair 62 = .ok (.aload_n 2, 1) := by decide +kernel
theorem dX10_ofBestPair_63 : decode cX10_ofBestPair 63 = .ok (.invokevirtual 304, 3) := by decide +kernel
theorem dX10_ofBestPair_66 : decode cX10_ofBestPair 66 = .ok (.invokevirtual 312, 3) := by decide +kernel
theorem dX10_ofBestPair_69 : decode cX10_ofBestPair 69 = .ok (.ireturn, 1) := by decide +kernel
theorem dX10_ofBestPair_70 : decode cX10_ofBestPair 70 = .ok (.aload_n 2, 1) := by decide +kernel
theorem dX10_ofBestPair_71 : decode cX10_ofBestPair 71 = .ok (.invokevirtual 304, 3) := by decide +kernel
theorem dX10_ofBestPair_74 : decode cX10_ofBestPair 74 = .ok (.invokevirtual 314, 3) := by decide +kernel
theorem dX10_ofBestPair_77 : decode cX10_ofBestPair 77 = .ok (.ireturn, 1) := by decide +kernel
theorem dX10_ofBestPair_78 : decode cX10_ofBestPair 78 = .ok (.aload_n 2, 1) := by decide +kernel
theorem dX10_ofBestPair_79 : decode cX10_ofBestPair 79 = .ok (.invokevirtual 304, 3) := by decide +kernel
theorem dX10_ofBestPair_82 : decode cX10_ofBestPair 82 = .ok (.invokevirtual 316, 3) := by decide +kernel
theorem dX10_ofBestPair_85 : decode cX10_ofBestPair 85 = .ok (.ireturn, 1) := by decide +kernel
set_option maxRecDepth 20000 in
theorem ggX10_giveShares_X3_firstNet : GoodIn wsX10_giveShares wsX3_firstNet := goodIn_r _ [7, 8, 9, 10, 11, 12, 13, 14, 15, 16, 17, 18, 19, 20, 21, 22, 23, 24, 25, 26, 27, 28, 29, 30, 31, 55, 56, 57, 58, 59, 60, 61, 62, 63, 64, 65, 66, 67, 68, 69, 70, 71] (by eq_refl) (by decide +kernel)
set_option maxRecDepth 20000 in
theorem gX10_giveShares_X3_firstNet : GoodIn wsX10_giveShares (wsV RX10 274 RX3 yX3_firstNet wsX3_firstNet) := goodIn_app (goodIn_r _ [3, 4, 5, 6] (by eq_refl) (by decide +kernel)) ggX10_giveShares_X3_firstNet
set_option maxRecDepth 20000 in
theorem ggX10_giveShares_X7_give : GoodIn wsX10_giveShares wsX7_give := goodIn_r _ [36, 37, 72, 73] (by eq_refl) (by decide +kernel)
set_option maxRecDepth 20000 in
theorem gX10_giveShares_X7_give : GoodIn wsX10_giveShares (wsV RX10 318 RX7 yX7_give wsX7_give) := goodIn_app (goodIn_r _ [32, 33, 34, 35] (by eq_refl) (by decide +kernel)) ggX10_giveShares_X7_give
set_option maxRecDepth 20000 in
theorem ggX10_giveShares_X3_secondNet : GoodIn wsX10_giveShares wsX3_secondNet := goodIn_r _ [41, 8, 9, 17, 18, 19, 13, 20, 21, 22, 23, 24, 25, 16, 10, 11, 12, 14, 15, 42, 43, 44, 29, 45, 46, 55, 56, 57, 58, 59, 60, 61, 62, 63, 64, 65, 66, 67, 68, 69, 70, 71] (by eq_refl) (by decide +kernel)
set_option maxRecDepth 20000 in
theorem gX10_giveShares_X3_secondNet : GoodIn wsX10_giveShares (wsV RX10 277 RX3 yX3_secondNet wsX3_secondNet) := goodIn_app (goodIn_r _ [38, 39, 40, 6] (by eq_refl) (by decide +kernel)) ggX10_giveShares_X3_secondNet
theorem dX10_giveShares_0 : decode cX10_giveShares 0 = .ok (.iconst 0, 1) := by decide +kernel
theorem dX10_giveShares_1 : decode cX10_giveShares 1 = .ok (.istore_n 3, 1) := by decide +kernel
theorem dX10_giveShares_2 : decode cX10_giveShares 2 = .ok (.iload_n 3, 1) := by decide +kernel
theorem dX10_giveShares_3 : decode cX10_giveShares 3 = .ok (.iload_n 1, 1) := by decide +kernel
theorem dX10_giveShares_4 : decode cX10_giveShares 4 = .ok (.if_icmp .ge 53, 3) := by decide +kernel
theorem dX10_giveShares_7 : decode cX10_giveShares 7 = .ok (.aload_n 0, 1) := by decide +kernel
theorem dX10_giveShares_8 : decode cX10_giveShares 8 = .ok (.getfield 42, 3) := by decide +kernel
theorem dX10_giveShares_11 : decode cX10_giveShares 11 = .ok (.aload_n 0, 1) := by decide +kernel
theorem dX10_giveShares_12 : decode cX10_giveShares 12 = .ok (.getfield 35, 3) := by decide +kernel
theorem dX10_giveShares_15 : decode cX10_giveShares 15 = .ok (.iload_n 3, 1) := by decide +kernel
theorem dX10_giveShares_16 : decode cX10_giveShares 16 = .ok (.invokevirtual 274, 3) := by decide +kernel
theorem dX10_giveShares_19 : decode cX10_giveShares 19 = .ok (.iload_n 2, 1) := by decide +kernel
theorem dX10_giveShares_20 : decode cX10_giveShares 20 = .ok (.invokevirtual 318, 3) := by decide +kernel
theorem dX10_giveShares_23 : decode cX10_giveShares 23 = .ok (.aload_n 0, 1) := by decide +kernel
theorem dX10_giveShares_24 : decode cX10_giveShares 24 = .ok (.getfield 35, 3) := by decide +kernel
theorem dX10_giveShares_27 : decode cX10_giveShares 27 = .ok (.iload_n 3, 1) := by decide +kernel
theorem dX10_giveShares_28 : decode cX10_giveShares 28 = .ok (.invokevirtual 277, 3) := by decide +kernel
theorem dX10_giveShares_31 : decode cX10_giveShares 31 = .ok (.iconst (-1), 1) := by decide +kernel
theorem dX10_giveShares_32 : decode cX10_giveShares 32 = .ok (.if_icmp .eq 19, 3) := by decide +kernel
theorem dX10_giveShares_35 : decode cX10_giveShares 35 = .ok (.aload_n 0, 1) := by decide +kernel
theorem dX10_giveShares_36 : decode cX10_giveShares 36 = .ok (.getfield 42, 3) := by decide +kernel
theorem dX10_giveShares_39 : decode cX10_giveShares 39 = .ok (.aload_n 0, 1) := by decide +kernel
theorem dX10_giveShares_40 : decode cX10_giveShares 40 = .ok (.getfield 35, 3) := by decide +kernel
theorem dX10_giveShares_43 : decode cX10_giveShares 43 = .ok (.iload_n 3, 1) := by decide +kernel
theorem dX10_giveShares_44 : decode cX10_giveShares 44 = .ok (.invokevirtual 277, 3) := by decide +kernel
theorem dX10_giveShares_47 : decode cX10_giveShares 47 = .ok (.iload_n 2, 1) := by decide +kernel
theorem dX10_giveShares_48 : decode cX10_giveShares 48 = .ok (.invokevirtual 318, 3) := by decide +kernel
theorem dX10_giveShares_51 : decode cX10_giveShares 51 = .ok (.iinc 3 1, 3) := by decide +kernel
