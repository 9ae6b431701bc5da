set_option maxRecDepth 20000 in
theorem ggX0_init_X9_init : GoodIn wsX0_init wsX9_init := goodIn_r _ [11, 12, 2, 3] (by eq_refl) (by decide +kernel)
set_option maxRecDepth 20000 in
theorem gX0_init_X9_init_n11 : GoodIn wsX0_init (wsX9_init) := ggX0_init_X9_init
theorem dX0_init_0 : decode cX0_init 0 = .ok (.aload_n 0, 1) := by decide +kernel
theorem dX0_init_1 : decode cX0_init 1 = .ok (.invokespecial 3, 3) := by decide +kernel
theorem dX0_init_4 : decode cX0_init 4 = .ok (.aload_n 0, 1) := by decide +kernel
theorem dX0_init_5 : decode cX0_init 5 = .ok (.new 9, 3) := by decide +kernel
theorem dX0_init_8 : decode cX0_init 8 = .ok (.dup, 1) := by decide +kernel
theorem dX0_init_9 : decode cX0_init 9 = .ok (.invokespecial 11, 3) := by decide +kernel
theorem dX0_init_12 : decode cX0_init 12 = .ok (.putfield 12, 3) := by decide +kernel
theorem dX0_init_15 : decode cX0_init 15 = .ok (.aload_n 0, 1) := by decide +kernel
theorem dX0_init_16 : decode cX0_init 16 = .ok (.iconst (-1), 1) := by decide +kernel
theorem dX0_init_17 : decode cX0_init 17 = .ok (.putfield 18, 3) := by decide +kernel
theorem dX0_init_20 : decode cX0_init 20 = .ok (.aload_n 0, 1) := by decide +kernel
theorem dX0_init_21 : decode cX0_init 21 = .ok (.iconst (-1), 1) := by decide +kernel
theorem dX0_init_22 : decode cX0_init 22 = .ok (.putfield 22, 3) := by decide +kernel
theorem dX0_init_25 : decode cX0_init 25 = .ok (.return_, 1) := by decide +kernel
theorem dX0_first_0 : decode cX0_first 0 = .ok (.aload_n 0, 1) := by decide +kernel
theorem dX0_first_1 : decode cX0_first 1 = .ok (.getfield 18, 3) := by decide +kernel
theorem dX0_first_4 : decode cX0_first 4 = .ok (.ireturn, 1) := by decide +kernel
theorem dX0_second_0 : decode cX0_second 0 = .ok (.aload_n 0, 1) := by decide +kernel
theorem dX0_second_1 : decode cX0_second 1 = .ok (.getfield 22, 3) := by decide +kernel
theorem dX0_second_4 : decode cX0_second 4 = .ok (.ireturn, 1) := by decide +kernel
theorem dX0_tally_0 : decode cX0_tally 0 = .ok (.aload_n 0, 1) := by decide +kernel
theorem dX0_tally_1 : decode cX0_tally 1 = .ok (.getfield 12, 3) := by decide +kernel
theorem dX0_tally_4 : decode cX0_tally 4 = .ok (.areturn, 1) := by decide +kernel
set_option maxRecDepth 20000 in
theorem ggX0_offer_X9_sum : GoodIn wsX0_offer wsX9_sum := goodIn_r _ [8, 9, 10, 19, 20, 21] (by eq_refl) (by decide +kernel)
set_option maxRecDepth 20000 in
theorem gX0_offer_X9_sum : GoodIn wsX0_offer (wsV RX0 25 RX9 yX9_sum wsX9_sum) := goodIn_app (goodIn_r _ [4, 5, 6, 7] (by eq_refl) (by decide +kernel)) ggX0_offer_X9_sum
set_option maxRecDepth 20000 in
theorem ggX0_offer_X9_copy : GoodIn wsX0_offer wsX9_copy := goodIn_r _ [14, 15, 9, 10, 19, 20, 21] (by eq_refl) (by decide +kernel)
set_option maxRecDepth 20000 in
theorem gX0_offer_X9_copy : GoodIn wsX0_offer (wsV RX0 29 RX9 yX9_copy wsX9_copy) := goodIn_app (goodIn_r _ [11, 12, 13, 7] (by eq_refl) (by decide +kernel)) ggX0_offer_X9_copy
theorem dX0_offer_0 : decode cX0_offer 0 = .ok (.aload_n 0, 1) := by decide +kernel
theorem dX0_offer_1 : decode cX0_offer 1 = .ok (.getfield 18, 3) := by decide +kernel
theorem dX0_offer_4 : decode cX0_offer 4 = .ok (.iconst (-1), 1) := by decide +kernel
theorem dX0_offer_5 : decode cX0_offer 5 = .ok (.if_icmp .eq 17, 3) := by decide +kernel
theorem dX0_offer_8 : decode cX0_offer 8 = .ok (.aload_n 3, 1) := by decide +kernel
theorem dX0_offer_9 : decode cX0_offer 9 = .ok (.invokevirtual 25, 3) := by decide +kernel
theorem dX0_offer_12 : decode cX0_offer 12 = .ok (.aload_n 0, 1) := by decide +kernel
theorem dX0_offer_13 : decode cX0_offer 13 = .ok (.getfield 12, 3) := by decide +kernel
theorem dX0_offer_16 : decode cX0_offer 16 = .ok (.invokevirtual 25, 3) := by decide +kernel
theorem dX0_offer_19 : decode cX0_offer 19 = .ok (.if_icmp .ge 21, 3) := by decide +kernel
theorem dX0_offer_22 : decode cX0_offer 22 = .ok (.aload_n 0, 1) := by decide +kernel
theorem dX0_offer_23 : decode cX0_offer 23 = .ok (.iload_n 1, 1) := by decide +kernel
theorem dX0_offer_24 : decode cX0_offer 24 = .ok (.putfield 18, 3) := by decide +kernel
theorem dX0_offer_27 : decode cX0_offer 27 = .ok (.aload_n 0, 1) := by decide +kernel
theorem dX0_offer_28 : decode cX0_offer 28 = .ok (.iload_n 2, 1) := by decide +kernel
theorem dX0_offer_29 : decode cX0_offer 29 = .ok (.putfield 22, 3) := by decide +kernel
theorem dX0_offer_32 : decode cX0_offer 32 = .ok (.aload_n 0, 1) := by decide +kernel
theorem dX0_offer_33 : decode cX0_offer 33 = .ok (.getfield 12, 3) := by decide +kernel
theorem dX0_offer_36 : decode cX0_offer 36 = .ok (.aload_n 3, 1) := by decide +kernel
theorem dX0_offer_37 : decode cX0_offer 37 = .ok (.invokevirtual 29, 3) := by decide +kernel
theorem dX0_offer_40 : decode cX0_offer 40 = .ok (.return_, 1) := by decide +kernel
set_option maxRecDepth 20000 in
theorem ggX0_reset_X9_reset : GoodIn wsX0_reset wsX9_reset := goodIn_r _ [8, 9, 10, 11, 15, 16, 17] (by eq_refl) (by decide +kernel)
set_option maxRecDepth 20000 in
theorem gX0_reset_X9_reset : GoodIn wsX0_reset (wsV RX0 33 RX9 yX9_reset wsX9_reset) := goodIn_app (goodIn_r _ [4, 5, 6, 7] (by eq_refl) (by decide +kernel)) ggX0_reset_X9_reset
theorem dX0_reset_0 : decode cX0_reset 0 = .ok (.aload_n 0, 1) := by decide +kernel
theorem dX0_reset_1 : decode cX0_reset 1 = .ok (.iconst (-1), 1) := by decide +kernel
theorem dX0_reset_2 : decode cX0_reset 2 = .ok (.putfield 18, 3) := by decide +kernel
theorem dX0_reset_5 : decode cX0_reset 5 = .ok (.aload_n 0, 1) := by decide +kernel
theorem dX0_reset_6 : decode cX0_reset 6 = .ok (.iconst (-1), 1) := by decide +kernel
theorem dX0_reset_7 : decode cX0_reset 7 = .ok (.putfield 22, 3) := by decide +kernel
theorem dX0_reset_10 : decode cX0_reset 10 = .ok (.aload_n 0, 1) := by decide +kernel
theorem dX0_reset_11 : decode cX0_reset 11 = .ok (.getfield 12, 3) := by decide +kernel
theorem dX0_reset_14 : decode cX0_reset 14 = .ok (.invokevirtual 33, 3) := by decide +kernel
theorem dX0_reset_17 : decode cX0_reset 17 = .ok (.return_, 1) := by decide +kernel
