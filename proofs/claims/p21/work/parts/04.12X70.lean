theorem dX7_init_0 : decode cX7_init 0 = .ok (.aload_n 0, 1) := by decide +kernel
theorem dX7_init_1 : decode cX7_init 1 = .ok (.invokespecial 3, 3) := by decide +kernel
theorem dX7_init_4 : decode cX7_init 4 = .ok (.aload_n 0, 1) := by decide +kernel
theorem dX7_init_5 : decode cX7_init 5 = .ok (.sipush 200, 3) := by decide +kernel
theorem dX7_init_8 : decode cX7_init 8 = .ok (.newarray .int, 2) := by decide +kernel
theorem dX7_init_10 : decode cX7_init 10 = .ok (.putfield 9, 3) := by decide +kernel
theorem dX7_init_13 : decode cX7_init 13 = .ok (.return_, 1) := by decide +kernel
theorem dX7_of_0 : decode cX7_of 0 = .ok (.aload_n 0, 1) := by decide +kernel
theorem dX7_of_1 : decode cX7_of 1 = .ok (.getfield 9, 3) := by decide +kernel
theorem dX7_of_4 : decode cX7_of 4 = .ok (.iload_n 1, 1) := by decide +kernel
theorem dX7_of_5 : decode cX7_of 5 = .ok (.iaload, 1) := by decide +kernel
theorem dX7_of_6 : decode cX7_of 6 = .ok (.ireturn, 1) := by decide +kernel
theorem dX7_chips_0 : decode cX7_chips 0 = .ok (.aload_n 0, 1) := by decide +kernel
theorem dX7_chips_1 : decode cX7_chips 1 = .ok (.getfield 15, 3) := by decide +kernel
theorem dX7_chips_4 : decode cX7_chips 4 = .ok (.ireturn, 1) := by decide +kernel
theorem dX7_countChip_0 : decode cX7_countChip 0 = .ok (.aload_n 0, 1) := by decide +kernel
theorem dX7_countChip_1 : decode cX7_countChip 1 = .ok (.dup, 1) := by decide +kernel
theorem dX7_countChip_2 : decode cX7_countChip 2 = .ok (.getfield 15, 3) := by decide +kernel
theorem dX7_countChip_5 : decode cX7_countChip 5 = .ok (.iconst 1, 1) := by decide +kernel
theorem dX7_countChip_6 : decode cX7_countChip 6 = .ok (.iadd, 1) := by decide +kernel
theorem dX7_countChip_7 : decode cX7_countChip 7 = .ok (.putfield 15, 3) := by decide +kernel
theorem dX7_countChip_10 : decode cX7_countChip 10 = .ok (.return_, 1) := by decide +kernel
theorem dX7_give_0 : decode cX7_give 0 = .ok (.aload_n 0, 1) := by decide +kernel
theorem dX7_give_1 : decode cX7_give 1 = .ok (.getfield 9, 3) := by decide +kernel
theorem dX7_give_4 : decode cX7_give 4 = .ok (.iload_n 1, 1) := by decide +kernel
theorem dX7_give_5 : decode cX7_give 5 = .ok (.dup2, 1) := by decide +kernel
theorem dX7_give_6 : decode cX7_give 6 = .ok (.iaload, 1) := by decide +kernel
theorem dX7_give_7 : decode cX7_give 7 = .ok (.iload_n 2, 1) := by decide +kernel
theorem dX7_give_8 : decode cX7_give 8 = .ok (.iadd, 1) := by decide +kernel
theorem dX7_give_9 : decode cX7_give 9 = .ok (.iastore, 1) := by decide +kernel
theorem dX7_give_10 : decode cX7_give 10 = .ok (.return_, 1) := by decide +kernel
set_option maxRecDepth 20000 in
theorem ggX7_forget_J7_fill_53178 : GoodIn wsX7_forget wsJ7_fill_53178 := goodIn_r _ [6] (by eq_refl) (by decide +kernel)
set_option maxRecDepth 20000 in
theorem gX7_forget_J7_fill_53178 : GoodIn wsX7_forget (va_wsS RX7 19 yJ7_fill_53178 wsJ7_fill_53178) := goodIn_app (goodIn_r _ [3, 4, 5] (by eq_refl) (by decide +kernel)) ggX7_forget_J7_fill_53178
theorem dX7_forget_0 : decode cX7_forget 0 = .ok (.aload_n 0, 1) := by decide +kernel
theorem dX7_forget_1 : decode cX7_forget 1 = .ok (.getfield 9, 3) := by decide +kernel
theorem dX7_forget_4 : decode cX7_forget 4 = .ok (.iconst 0, 1) := by decide +kernel
theorem dX7_forget_5 : decode cX7_forget 5 = .ok (.invokestatic 19, 3) := by decide +kernel
theorem dX7_forget_8 : decode cX7_forget 8 = .ok (.aload_n 0, 1) := by decide +kernel
theorem dX7_forget_9 : decode cX7_forget 9 = .ok (.iconst 0, 1) := by decide +kernel
theorem dX7_forget_10 : decode cX7_forget 10 = .ok (.putfield 15, 3) := by decide +kernel
theorem dX7_forget_13 : decode cX7_forget 13 = .ok (.return_, 1) := by decide +kernel
