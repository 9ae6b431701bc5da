theorem dX4_init_0 : decode cX4_init 0 = .ok (.aload_n 0, 1) := by decide +kernel
theorem dX4_init_1 : decode cX4_init 1 = .ok (.invokespecial 3, 3) := by decide +kernel
theorem dX4_init_4 : decode cX4_init 4 = .ok (.aload_n 0, 1) := by decide +kernel
theorem dX4_init_5 : decode cX4_init 5 = .ok (.bipush 40, 2) := by decide +kernel
theorem dX4_init_7 : decode cX4_init 7 = .ok (.newarray .int, 2) := by decide +kernel
theorem dX4_init_9 : decode cX4_init 9 = .ok (.putfield 9, 3) := by decide +kernel
theorem dX4_init_12 : decode cX4_init 12 = .ok (.aload_n 0, 1) := by decide +kernel
theorem dX4_init_13 : decode cX4_init 13 = .ok (.bipush 40, 2) := by decide +kernel
theorem dX4_init_15 : decode cX4_init 15 = .ok (.newarray .int, 2) := by decide +kernel
theorem dX4_init_17 : decode cX4_init 17 = .ok (.putfield 15, 3) := by decide +kernel
theorem dX4_init_20 : decode cX4_init 20 = .ok (.return_, 1) := by decide +kernel
theorem dX4_size_0 : decode cX4_size 0 = .ok (.aload_n 0, 1) := by decide +kernel
theorem dX4_size_1 : decode cX4_size 1 = .ok (.getfield 18, 3) := by decide +kernel
theorem dX4_size_4 : decode cX4_size 4 = .ok (.ireturn, 1) := by decide +kernel
theorem dX4_first_0 : decode cX4_first 0 = .ok (.aload_n 0, 1) := by decide +kernel
theorem dX4_first_1 : decode cX4_first 1 = .ok (.getfield 9, 3) := by decide +kernel
theorem dX4_first_4 : decode cX4_first 4 = .ok (.iload_n 1, 1) := by decide +kernel
theorem dX4_first_5 : decode cX4_first 5 = .ok (.iaload, 1) := by decide +kernel
theorem dX4_first_6 : decode cX4_first 6 = .ok (.ireturn, 1) := by decide +kernel
theorem dX4_second_0 : decode cX4_second 0 = .ok (.aload_n 0, 1) := by decide +kernel
theorem dX4_second_1 : decode cX4_second 1 = .ok (.getfield 15, 3) := by decide +kernel
theorem dX4_second_4 : decode cX4_second 4 = .ok (.iload_n 1, 1) := by decide +kernel
theorem dX4_second_5 : decode cX4_second 5 = .ok (.iaload, 1) := by decide +kernel
theorem dX4_second_6 : decode cX4_second 6 = .ok (.ireturn, 1) := by decide +kernel
set_option maxRecDepth 20000 in
theorem ggX4_findOrAdd_X4_isOf : GoodIn wsX4_findOrAdd wsX4_isOf := goodIn_r _ [8, 2, 3, 9, 10, 11] (by eq_refl) (by decide +kernel)
set_option maxRecDepth 20000 in
theorem gX4_findOrAdd_X4_isOf : GoodIn wsX4_findOrAdd (wsV RX4 22 RX4 yX4_isOf wsX4_isOf) := goodIn_app (goodIn_r _ [4, 5, 6, 7] (by eq_refl) (by decide +kernel)) ggX4_findOrAdd_X4_isOf
theorem dX4_findOrAdd_0 : decode cX4_findOrAdd 0 = .ok (.iconst 0, 1) := by decide +kernel
theorem dX4_findOrAdd_1 : decode cX4_findOrAdd 1 = .ok (.istore_n 3, 1) := by decide +kernel
theorem dX4_findOrAdd_2 : decode cX4_findOrAdd 2 = .ok (.iload_n 3, 1) := by decide +kernel
theorem dX4_findOrAdd_3 : decode cX4_findOrAdd 3 = .ok (.aload_n 0, 1) := by decide +kernel
theorem dX4_findOrAdd_4 : decode cX4_findOrAdd 4 = .ok (.getfield 18, 3) := by decide +kernel
theorem dX4_findOrAdd_7 : decode cX4_findOrAdd 7 = .ok (.if_icmp .ge 31, 3) := by decide +kernel
theorem dX4_findOrAdd_10 : decode cX4_findOrAdd 10 = .ok (.aload_n 0, 1) := by decide +kernel
theorem dX4_findOrAdd_11 : decode cX4_findOrAdd 11 = .ok (.iload_n 3, 1) := by decide +kernel
theorem dX4_findOrAdd_12 : decode cX4_findOrAdd 12 = .ok (.iload_n 1, 1) := by decide +kernel
theorem dX4_findOrAdd_13 : decode cX4_findOrAdd 13 = .ok (.iload_n 2, 1) := by decide +kernel
theorem dX4_findOrAdd_14 : decode cX4_findOrAdd 14 = .ok (.invokevirtual 22, 3) := by decide +kernel
theorem dX4_findOrAdd_17 : decode cX4_findOrAdd 17 = .ok (.ifCond .ne 13, 3) := by decide +kernel
theorem dX4_findOrAdd_20 : decode cX4_findOrAdd 20 = .ok (.aload_n 0, 1) := by decide +kernel
theorem dX4_findOrAdd_21 : decode cX4_findOrAdd 21 = .ok (.iload_n 3, 1) := by decide +kernel
theorem dX4_findOrAdd_22 : decode cX4_findOrAdd 22 = .ok (.iload_n 2, 1) := by decide +kernel
theorem dX4_findOrAdd_23 : decode cX4_findOrAdd 23 = .ok (.iload_n 1, 1) := by decide +kernel
theorem dX4_findOrAdd_24 : decode cX4_findOrAdd 24 = .ok (.invokevirtual 22, 3) := by decide +kernel
theorem dX4_findOrAdd_27 : decode cX4_findOrAdd 27 = .ok (.ifCond .eq 5, 3) := by decide +kernel
theorem dX4_findOrAdd_30 : decode cX4_findOrAdd 30 = .ok (.iload_n 3, 1) := by decide +kernel
theorem dX4_findOrAdd_31 : decode cX4_findOrAdd 31 = .ok (.ireturn, 1) := by decide +kernel
theorem dX4_findOrAdd_32 : decode cX4_findOrAdd 32 = .ok (.iinc 3 1, 3) := by decide +kernel
theorem dX4_findOrAdd_35 : decode cX4_findOrAdd 35 = .ok (.goto (-33), 3) := by decide +kernel
theorem dX4_findOrAdd_38 : decode cX4_findOrAdd 38 = .ok (.aload_n 0, 1) := by decide +kernel
theorem dX4_findOrAdd_39 : decode cX4_findOrAdd 39 = .ok (.getfield 9, 3) := by decide +kernel
theorem dX4_findOrAdd_42 : decode cX4_findOrAdd 42 = .ok (.aload_n 0, 1) := by decide +kernel
theorem dX4_findOrAdd_43 : decode cX4_findOrAdd 43 = .ok (.getfield 18, 3) := by decide +kernel
theorem dX4_findOrAdd_46 : decode cX4_findOrAdd 46 = .ok (.iload_n 1, 1) := by decide +kernel
theorem dX4_findOrAdd_47 : decode cX4_findOrAdd 47 = .ok (.iastore, 1) := by decide +kernel
theorem dX4_findOrAdd_48 : decode cX4_findOrAdd 48 = .ok (.aload_n 0, 1) := by decide +kernel
theorem dX4_findOrAdd_49 : decode cX4_findOrAdd 49 = .ok (.getfield 15, 3) := by decide +kernel
theorem dX4_findOrAdd_52 : decode cX4_findOrAdd 52 = .ok (.aload_n 0, 1) := by decide +kernel
theorem dX4_findOrAdd_53 : decode cX4_findOrAdd 53 = .ok (.getfield 18, 3) := by decide +kernel
theorem dX4_findOrAdd_56 : decode cX4_findOrAdd 56 = .ok (.iload_n 2, 1) := by decide +kernel
theorem dX4_findOrAdd_57 : decode cX4_findOrAdd 57 = .ok (.iastore, 1) := by decide +kernel
theorem dX4_findOrAdd_58 : decode cX4_findOrAdd 58 = .ok (.aload_n 0, 1) := by decide +kernel
theorem dX4_findOrAdd_59 : decode cX4_findOrAdd 59 = .ok (.dup, 1) := by decide +kernel
theorem dX4_findOrAdd_60 : decode cX4_findOrAdd 60 = .ok (.getfield 18, 3) := by decide +kernel
theorem dX4_findOrAdd_63 : decode cX4_findOrAdd 63 = .ok (.iconst 1, 1) := by decide +kernel
theorem dX4_findOrAdd_64 : decode cX4_findOrAdd 64 = .ok (.iadd, 1) := by decide +kernel
theorem dX4_findOrAdd_65 : decode cX4_findOrAdd 65 = .ok (.putfield 18, 3) := by decide +kernel
theorem dX4_findOrAdd_68 : decode cX4_findOrAdd 68 = .ok (.aload_n 0, 1) := by decide +kernel
theorem dX4_findOrAdd_69 : decode cX4_findOrAdd 69 = .ok (.getfield 18, 3) := by decide +kernel
theorem dX4_findOrAdd_72 : decode cX4_findOrAdd 72 = .ok (.iconst 1, 1) := by decide +kernel
theorem dX4_findOrAdd_73 : decode cX4_findOrAdd 73 = .ok (.isub, 1) := by decide +kernel
theorem dX4_findOrAdd_74 : decode cX4_findOrAdd 74 = .ok (.ireturn, 1) := by decide +kernel
theorem dX4_isOf_0 : decode cX4_isOf 0 = .ok (.aload_n 0, 1) := by decide +kernel
theorem dX4_isOf_1 : decode cX4_isOf 1 = .ok (.getfield 9, 3) := by decide +kernel
theorem dX4_isOf_4 : decode cX4_isOf 4 = .ok (.iload_n 1, 1) := by decide +kernel
theorem dX4_isOf_5 : decode cX4_isOf 5 = .ok (.iaload, 1) := by decide +kernel
theorem dX4_isOf_6 : decode cX4_isOf 6 = .ok (.iload_n 2, 1) := by decide +kernel
theorem dX4_isOf_7 : decode cX4_isOf 7 = .ok (.if_icmp .ne 17, 3) := by decide +kernel
theorem dX4_isOf_10 : decode cX4_isOf 10 = .ok (.aload_n 0, 1) := by decide +kernel
theorem dX4_isOf_11 : decode cX4_isOf 11 = .ok (.getfield 15, 3) := by decide +kernel
theorem dX4_isOf_14 : decode cX4_isOf 14 = .ok (.iload_n 1, 1) := by decide +kernel
theorem dX4_isOf_15 : decode cX4_isOf 15 = .ok (.iaload, 1) := by decide +kernel
theorem dX4_isOf_16 : decode cX4_isOf 16 = .ok (.iload_n 3, 1) := by decide +kernel
theorem dX4_isOf_17 : decode cX4_isOf 17 = .ok (.if_icmp .ne 7, 3) := by decide +kernel
theorem dX4_isOf_20 : decode cX4_isOf 20 = .ok (.iconst 1, 1) := by decide +kernel
theorem dX4_isOf_21 : decode cX4_isOf 21 = .ok (.goto 4, 3) := by decide +kernel
theorem dX4_isOf_24 : decode cX4_isOf 24 = .ok (.iconst 0, 1) := by decide +kernel
theorem dX4_isOf_25 : decode cX4_isOf 25 = .ok (.ireturn, 1) := by decide +kernel
theorem dX4_forget_0 : decode cX4_forget 0 = .ok (.aload_n 0, 1) := by decide +kernel
theorem dX4_forget_1 : decode cX4_forget 1 = .ok (.iconst 0, 1) := by decide +kernel
theorem dX4_forget_2 : decode cX4_forget 2 = .ok (.putfield 18, 3) := by decide +kernel
theorem dX4_forget_5 : decode cX4_forget 5 = .ok (.return_, 1) := by decide +kernel
