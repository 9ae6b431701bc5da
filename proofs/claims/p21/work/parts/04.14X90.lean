theorem dX9_init_0 : decode cX9_init 0 = .ok (.aload_n 0, 1) := by decide +kernel
theorem dX9_init_1 : decode cX9_init 1 = .ok (.invokespecial 1, 3) := by decide +kernel
theorem dX9_init_4 : decode cX9_init 4 = .ok (.return_, 1) := by decide +kernel
theorem dX9_explained_0 : decode cX9_explained 0 = .ok (.aload_n 0, 1) := by decide +kernel
theorem dX9_explained_1 : decode cX9_explained 1 = .ok (.getfield 7, 3) := by decide +kernel
theorem dX9_explained_4 : decode cX9_explained 4 = .ok (.ireturn, 1) := by decide +kernel
theorem dX9_missed_0 : decode cX9_missed 0 = .ok (.aload_n 0, 1) := by decide +kernel
theorem dX9_missed_1 : decode cX9_missed 1 = .ok (.getfield 13, 3) := by decide +kernel
theorem dX9_missed_4 : decode cX9_missed 4 = .ok (.ireturn, 1) := by decide +kernel
theorem dX9_wrong_0 : decode cX9_wrong 0 = .ok (.aload_n 0, 1) := by decide +kernel
theorem dX9_wrong_1 : decode cX9_wrong 1 = .ok (.getfield 16, 3) := by decide +kernel
theorem dX9_wrong_4 : decode cX9_wrong 4 = .ok (.ireturn, 1) := by decide +kernel
theorem dX9_sum_0 : decode cX9_sum 0 = .ok (.iconst 2, 1) := by decide +kernel
theorem dX9_sum_1 : decode cX9_sum 1 = .ok (.aload_n 0, 1) := by decide +kernel
theorem dX9_sum_2 : decode cX9_sum 2 = .ok (.getfield 13, 3) := by decide +kernel
theorem dX9_sum_5 : decode cX9_sum 5 = .ok (.imul, 1) := by decide +kernel
theorem dX9_sum_6 : decode cX9_sum 6 = .ok (.aload_n 0, 1) := by decide +kernel
theorem dX9_sum_7 : decode cX9_sum 7 = .ok (.getfield 16, 3) := by decide +kernel
theorem dX9_sum_10 : decode cX9_sum 10 = .ok (.iadd, 1) := by decide +kernel
theorem dX9_sum_11 : decode cX9_sum 11 = .ok (.ireturn, 1) := by decide +kernel
theorem dX9_reset_0 : decode cX9_reset 0 = .ok (.aload_n 0, 1) := by decide +kernel
theorem dX9_reset_1 : decode cX9_reset 1 = .ok (.iconst 0, 1) := by decide +kernel
theorem dX9_reset_2 : decode cX9_reset 2 = .ok (.putfield 7, 3) := by decide +kernel
theorem dX9_reset_5 : decode cX9_reset 5 = .ok (.aload_n 0, 1) := by decide +kernel
theorem dX9_reset_6 : decode cX9_reset 6 = .ok (.iconst 0, 1) := by decide +kernel
theorem dX9_reset_7 : decode cX9_reset 7 = .ok (.putfield 13, 3) := by decide +kernel
theorem dX9_reset_10 : decode cX9_reset 10 = .ok (.aload_n 0, 1) := by decide +kernel
theorem dX9_reset_11 : decode cX9_reset 11 = .ok (.iconst 0, 1) := by decide +kernel
theorem dX9_reset_12 : decode cX9_reset 12 = .ok (.putfield 16, 3) := by decide +kernel
theorem dX9_reset_15 : decode cX9_reset 15 = .ok (.return_, 1) := by decide +kernel
set_option maxRecDepth 20000 in
theorem ggX9_add_J13_bitCount_95d88 : GoodIn wsX9_add wsJ13_bitCount_95d88 := goodIn_r _ [8, 9, 10, 11] (by eq_refl) (by decide +kernel)
set_option maxRecDepth 20000 in
theorem gX9_add_J13_bitCount_95d88 : GoodIn wsX9_add (va_wsS RX9 19 yJ13_bitCount_95d88 wsJ13_bitCount_95d88) := goodIn_app (goodIn_r _ [5, 6, 7] (by eq_refl) (by decide +kernel)) ggX9_add_J13_bitCount_95d88
theorem dX9_add_0 : decode cX9_add 0 = .ok (.aload_n 0, 1) := by decide +kernel
theorem dX9_add_1 : decode cX9_add 1 = .ok (.dup, 1) := by decide +kernel
theorem dX9_add_2 : decode cX9_add 2 = .ok (.getfield 7, 3) := by decide +kernel
theorem dX9_add_5 : decode cX9_add 5 = .ok (.lload_n 1, 1) := by decide +kernel
theorem dX9_add_6 : decode cX9_add 6 = .ok (.lload_n 3, 1) := by decide +kernel
theorem dX9_add_7 : decode cX9_add 7 = .ok (.land, 1) := by decide +kernel
theorem dX9_add_8 : decode cX9_add 8 = .ok (.invokestatic 19, 3) := by decide +kernel
theorem dX9_add_11 : decode cX9_add 11 = .ok (.iadd, 1) := by decide +kernel
theorem dX9_add_12 : decode cX9_add 12 = .ok (.putfield 7, 3) := by decide +kernel
theorem dX9_add_15 : decode cX9_add 15 = .ok (.aload_n 0, 1) := by decide +kernel
theorem dX9_add_16 : decode cX9_add 16 = .ok (.dup, 1) := by decide +kernel
theorem dX9_add_17 : decode cX9_add 17 = .ok (.getfield 13, 3) := by decide +kernel
theorem dX9_add_20 : decode cX9_add 20 = .ok (.lload_n 3, 1) := by decide +kernel
theorem dX9_add_21 : decode cX9_add 21 = .ok (.lload_n 1, 1) := by decide +kernel
theorem dX9_add_22 : decode cX9_add 22 = .ok (.ldc2_w 25, 3) := by decide +kernel
theorem dX9_add_25 : decode cX9_add 25 = .ok (.lxor, 1) := by decide +kernel
theorem dX9_add_26 : decode cX9_add 26 = .ok (.land, 1) := by decide +kernel
theorem dX9_add_27 : decode cX9_add 27 = .ok (.invokestatic 19, 3) := by decide +kernel
theorem dX9_add_30 : decode cX9_add 30 = .ok (.iadd, 1) := by decide +kernel
theorem dX9_add_31 : decode cX9_add 31 = .ok (.putfield 13, 3) := by decide +kernel
theorem dX9_add_34 : decode cX9_add 34 = .ok (.aload_n 0, 1) := by decide +kernel
theorem dX9_add_35 : decode cX9_add 35 = .ok (.dup, 1) := by decide +kernel
theorem dX9_add_36 : decode cX9_add 36 = .ok (.getfield 16, 3) := by decide +kernel
theorem dX9_add_39 : decode cX9_add 39 = .ok (.lload_n 1, 1) := by decide +kernel
theorem dX9_add_40 : decode cX9_add 40 = .ok (.lload_n 3, 1) := by decide +kernel
theorem dX9_add_41 : decode cX9_add 41 = .ok (.ldc2_w 25, 3) := by decide +kernel
theorem dX9_add_44 : decode cX9_add 44 = .ok (.lxor, 1) := by decide +kernel
theorem dX9_add_45 : decode cX9_add 45 = .ok (.land, 1) := by decide +kernel
theorem dX9_add_46 : decode cX9_add 46 = .ok (.invokestatic 19, 3) := by decide +kernel
theorem dX9_add_49 : decode cX9_add 49 = .ok (.iadd, 1) := by decide +kernel
theorem dX9_add_50 : decode cX9_add 50 = .ok (.putfield 16, 3) := by decide +kernel
theorem dX9_add_53 : decode cX9_add 53 = .ok (.return_, 1) := by decide +kernel
theorem dX9_copy_0 : decode cX9_copy 0 = .ok (.aload_n 0, 1) := by decide +kernel
theorem dX9_copy_1 : decode cX9_copy 1 = .ok (.aload_n 1, 1) := by decide +kernel
theorem dX9_copy_2 : decode cX9_copy 2 = .ok (.getfield 7, 3) := by decide +kernel
theorem dX9_copy_5 : decode cX9_copy 5 = .ok (.putfield 7, 3) := by decide +kernel
theorem dX9_copy_8 : decode cX9_copy 8 = .ok (.aload_n 0, 1) := by decide +kernel
theorem dX9_copy_9 : decode cX9_copy 9 = .ok (.aload_n 1, 1) := by decide +kernel
theorem dX9_copy_10 : decode cX9_copy 10 = .ok (.getfield 13, 3) := by decide +kernel
theorem dX9_copy_13 : decode cX9_copy 13 = .ok (.putfield 13, 3) := by decide +kernel
theorem dX9_copy_16 : decode cX9_copy 16 = .ok (.aload_n 0, 1) := by decide +kernel
theorem dX9_copy_17 : decode cX9_copy 17 = .ok (.aload_n 1, 1) := by decide +kernel
theorem dX9_copy_18 : decode cX9_copy 18 = .ok (.getfield 16, 3) := by decide +kernel
theorem dX9_copy_21 : decode cX9_copy 21 = .ok (.putfield 16, 3) := by decide +kernel
theorem dX9_copy_24 : decode cX9_copy 24 = .ok (.return_, 1) := by decide +kernel
