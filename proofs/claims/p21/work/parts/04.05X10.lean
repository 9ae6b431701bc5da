theorem dX1_init_0 : decode cX1_init 0 = .ok (.aload_n 0, 1) := by decide +kernel
theorem dX1_init_1 : decode cX1_init 1 = .ok (.invokespecial 3, 3) := by decide +kernel
theorem dX1_init_4 : decode cX1_init 4 = .ok (.aload_n 0, 1) := by decide +kernel
theorem dX1_init_5 : decode cX1_init 5 = .ok (.bipush 30, 2) := by decide +kernel
theorem dX1_init_7 : decode cX1_init 7 = .ok (.newarray .long, 2) := by decide +kernel
theorem dX1_init_9 : decode cX1_init 9 = .ok (.putfield 9, 3) := by decide +kernel
theorem dX1_init_12 : decode cX1_init 12 = .ok (.aload_n 0, 1) := by decide +kernel
theorem dX1_init_13 : decode cX1_init 13 = .ok (.bipush 30, 2) := by decide +kernel
theorem dX1_init_15 : decode cX1_init 15 = .ok (.newarray .long, 2) := by decide +kernel
theorem dX1_init_17 : decode cX1_init 17 = .ok (.putfield 15, 3) := by decide +kernel
theorem dX1_init_20 : decode cX1_init 20 = .ok (.return_, 1) := by decide +kernel
theorem dX1_begun_0 : decode cX1_begun 0 = .ok (.aload_n 0, 1) := by decide +kernel
theorem dX1_begun_1 : decode cX1_begun 1 = .ok (.getfield 18, 3) := by decide +kernel
theorem dX1_begun_4 : decode cX1_begun 4 = .ok (.ifCond .le 7, 3) := by decide +kernel
theorem dX1_begun_7 : decode cX1_begun 7 = .ok (.iconst 1, 1) := by decide +kernel
theorem dX1_begun_8 : decode cX1_begun 8 = .ok (.goto 4, 3) := by decide +kernel
theorem dX1_begun_11 : decode cX1_begun 11 = .ok (.iconst 0, 1) := by decide +kernel
theorem dX1_begun_12 : decode cX1_begun 12 = .ok (.ireturn, 1) := by decide +kernel
theorem dX1_rows_0 : decode cX1_rows 0 = .ok (.aload_n 0, 1) := by decide +kernel
theorem dX1_rows_1 : decode cX1_rows 1 = .ok (.getfield 22, 3) := by decide +kernel
theorem dX1_rows_4 : decode cX1_rows 4 = .ok (.ireturn, 1) := by decide +kernel
theorem dX1_begin_0 : decode cX1_begin 0 = .ok (.aload_n 0, 1) := by decide +kernel
theorem dX1_begin_1 : decode cX1_begin 1 = .ok (.iload_n 1, 1) := by decide +kernel
theorem dX1_begin_2 : decode cX1_begin 2 = .ok (.putfield 18, 3) := by decide +kernel
theorem dX1_begin_5 : decode cX1_begin 5 = .ok (.aload_n 0, 1) := by decide +kernel
theorem dX1_begin_6 : decode cX1_begin 6 = .ok (.iconst 0, 1) := by decide +kernel
theorem dX1_begin_7 : decode cX1_begin 7 = .ok (.putfield 22, 3) := by decide +kernel
theorem dX1_begin_10 : decode cX1_begin 10 = .ok (.return_, 1) := by decide +kernel
theorem dX1_addRow_0 : decode cX1_addRow 0 = .ok (.aload_n 0, 1) := by decide +kernel
theorem dX1_addRow_1 : decode cX1_addRow 1 = .ok (.getfield 9, 3) := by decide +kernel
theorem dX1_addRow_4 : decode cX1_addRow 4 = .ok (.aload_n 0, 1) := by decide +kernel
theorem dX1_addRow_5 : decode cX1_addRow 5 = .ok (.getfield 22, 3) := by decide +kernel
theorem dX1_addRow_8 : decode cX1_addRow 8 = .ok (.lload_n 1, 1) := by decide +kernel
theorem dX1_addRow_9 : decode cX1_addRow 9 = .ok (.lastore, 1) := by decide +kernel
theorem dX1_addRow_10 : decode cX1_addRow 10 = .ok (.aload_n 0, 1) := by decide +kernel
theorem dX1_addRow_11 : decode cX1_addRow 11 = .ok (.getfield 15, 3) := by decide +kernel
theorem dX1_addRow_14 : decode cX1_addRow 14 = .ok (.aload_n 0, 1) := by decide +kernel
theorem dX1_addRow_15 : decode cX1_addRow 15 = .ok (.getfield 22, 3) := by decide +kernel
theorem dX1_addRow_18 : decode cX1_addRow 18 = .ok (.lload_n 3, 1) := by decide +kernel
theorem dX1_addRow_19 : decode cX1_addRow 19 = .ok (.lastore, 1) := by decide +kernel
theorem dX1_addRow_20 : decode cX1_addRow 20 = .ok (.aload_n 0, 1) := by decide +kernel
theorem dX1_addRow_21 : decode cX1_addRow 21 = .ok (.dup, 1) := by decide +kernel
theorem dX1_addRow_22 : decode cX1_addRow 22 = .ok (.getfield 22, 3) := by decide +kernel
theorem dX1_addRow_25 : decode cX1_addRow 25 = .ok (.iconst 1, 1) := by decide +kernel
theorem dX1_addRow_26 : decode cX1_addRow 26 = .ok (.iadd, 1) := by decide +kernel
theorem dX1_addRow_27 : decode cX1_addRow 27 = .ok (.putfield 22, 3) := by decide +kernel
theorem dX1_addRow_30 : decode cX1_addRow 30 = .ok (.aload_n 0, 1) := by decide +kernel
theorem dX1_addRow_31 : decode cX1_addRow 31 = .ok (.getfield 22, 3) := by decide +kernel
theorem dX1_addRow_34 : decode cX1_addRow 34 = .ok (.ireturn, 1) := by decide +kernel
set_option maxRecDepth 20000 in
theorem ggX1_leastStuckAt_X1_mayBeStuck : GoodIn wsX1_leastStuckAt wsX1_mayBeStuck := goodIn_r _ [6, 1, 7, 8, 9, 10, 11, 12, 5, 13, 14, 15, 16, 17] (by eq_refl) (by decide +kernel)
set_option maxRecDepth 20000 in
theorem gX1_leastStuckAt_X1_mayBeStuck : GoodIn wsX1_leastStuckAt (wsV RX1 25 RX1 yX1_mayBeStuck wsX1_mayBeStuck) := goodIn_app (goodIn_r _ [2, 3, 4, 5] (by eq_refl) (by decide +kernel)) ggX1_leastStuckAt_X1_mayBeStuck
theorem dX1_leastStuckAt_0 : decode cX1_leastStuckAt 0 = .ok (.iconst 0, 1) := by decide +kernel
theorem dX1_leastStuckAt_1 : decode cX1_leastStuckAt 1 = .ok (.istore_n 2, 1) := by decide +kernel
theorem dX1_leastStuckAt_2 : decode cX1_leastStuckAt 2 = .ok (.iload_n 2, 1) := by decide +kernel
theorem dX1_leastStuckAt_3 : decode cX1_leastStuckAt 3 = .ok (.aload_n 0, 1) := by decide +kernel
theorem dX1_leastStuckAt_4 : decode cX1_leastStuckAt 4 = .ok (.getfield 18, 3) := by decide +kernel
theorem dX1_leastStuckAt_7 : decode cX1_leastStuckAt 7 = .ok (.if_icmp .ge 20, 3) := by decide +kernel
theorem dX1_leastStuckAt_10 : decode cX1_leastStuckAt 10 = .ok (.aload_n 0, 1) := by decide +kernel
theorem dX1_leastStuckAt_11 : decode cX1_leastStuckAt 11 = .ok (.iload_n 2, 1) := by decide +kernel
theorem dX1_leastStuckAt_12 : decode cX1_leastStuckAt 12 = .ok (.iload_n 1, 1) := by decide +kernel
theorem dX1_leastStuckAt_13 : decode cX1_leastStuckAt 13 = .ok (.invokevirtual 25, 3) := by decide +kernel
theorem dX1_leastStuckAt_16 : decode cX1_leastStuckAt 16 = .ok (.ifCond .eq 5, 3) := by decide +kernel
theorem dX1_leastStuckAt_19 : decode cX1_leastStuckAt 19 = .ok (.iload_n 2, 1) := by decide +kernel
theorem dX1_leastStuckAt_20 : decode cX1_leastStuckAt 20 = .ok (.ireturn, 1) := by decide +kernel
theorem dX1_leastStuckAt_21 : decode cX1_leastStuckAt 21 = .ok (.iinc 2 1, 3) := by decide +kernel
theorem dX1_leastStuckAt_24 : decode cX1_leastStuckAt 24 = .ok (.goto (-22), 3) := by decide +kernel
theorem dX1_leastStuckAt_27 : decode cX1_leastStuckAt 27 = .ok (.iconst (-1), 1) := by decide +kernel
theorem dX1_leastStuckAt_28 : decode cX1_leastStuckAt 28 = .ok (.ireturn, 1) := by decide +kernel
set_option maxRecDepth 20000 in
theorem ggX1_greatestStuckAt_X1_mayBeStuck : GoodIn wsX1_greatestStuckAt wsX1_mayBeStuck := goodIn_r _ [6, 1, 7, 8, 9, 10, 11, 12, 5, 13, 14, 15, 16, 17] (by eq_refl) (by decide +kernel)
set_option maxRecDepth 20000 in
theorem gX1_greatestStuckAt_X1_mayBeStuck : GoodIn wsX1_greatestStuckAt (wsV RX1 25 RX1 yX1_mayBeStuck wsX1_mayBeStuck) := goodIn_app (goodIn_r _ [2, 3, 4, 5] (by eq_refl) (by decide +kernel)) ggX1_greatestStuckAt_X1_mayBeStuck
theorem dX1_greatestStuckAt_0 : decode cX1_greatestStuckAt 0 = .ok (.aload_n 0, 1) := by decide +kernel
theorem dX1_greatestStuckAt_1 : decode cX1_greatestStuckAt 1 = .ok (.getfield 18, 3) := by decide +kernel
theorem dX1_greatestStuckAt_4 : decode cX1_greatestStuckAt 4 = .ok (.iconst 1, 1) := by decide +kernel
theorem dX1_greatestStuckAt_5 : decode cX1_greatestStuckAt 5 = .ok (.isub, 1) := by decide +kernel
theorem dX1_greatestStuckAt_6 : decode cX1_greatestStuckAt 6 = .ok (.istore_n 2, 1) := by decide +kernel
theorem dX1_greatestStuckAt_7 : decode cX1_greatestStuckAt 7 = .ok (.iload_n 2, 1) := by decide +kernel
theorem dX1_greatestStuckAt_8 : decode cX1_greatestStuckAt 8 = .ok (.ifCond .lt 20, 3) := by decide +kernel
theorem dX1_greatestStuckAt_11 : decode cX1_greatestStuckAt 11 = .ok (.aload_n 0, 1) := by decide +kernel
theorem dX1_greatestStuckAt_12 : decode cX1_greatestStuckAt 12 = .ok (.iload_n 2, 1) := by decide +kernel
theorem dX1_greatestStuckAt_13 : decode cX1_greatestStuckAt 13 = .ok (.iload_n 1, 1) := by decide +kernel
theorem dX1_greatestStuckAt_14 : decode cX1_greatestStuckAt 14 = .ok (.invokevirtual 25, 3) := by decide +kernel
theorem dX1_greatestStuckAt_17 : decode cX1_greatestStuckAt 17 = .ok (.ifCond .eq 5, 3) := by decide +kernel
theorem dX1_greatestStuckAt_20 : decode cX1_greatestStuckAt 20 = .ok (.iload_n 2, 1) := by decide +kernel
theorem dX1_greatestStuckAt_21 : decode cX1_greatestStuckAt 21 = .ok (.ireturn, 1) := by decide +kernel
theorem dX1_greatestStuckAt_22 : decode cX1_greatestStuckAt 22 = .ok (.iinc 2 (-1), 3) := by decide +kernel
theorem dX1_greatestStuckAt_25 : decode cX1_greatestStuckAt 25 = .ok (.goto (-18), 3) := by decide +kernel
theorem dX1_greatestStuckAt_28 : decode cX1_greatestStuckAt 28 = .ok (.iconst (-1), 1) := by decide +kernel
theorem dX1_greatestStuckAt_29 : decode cX1_greatestStuckAt 29 = .ok (.ireturn, 1) := by decide +kernel
set_option maxRecDepth 20000 in
theorem ggX1_mayBeStuck_X1_upTo : GoodIn wsX1_mayBeStuck wsX1_upTo := goodIn_r _ [9, 4] (by eq_refl) (by decide +kernel)
set_option maxRecDepth 20000 in
theorem gX1_mayBeStuck_X1_upTo : GoodIn wsX1_mayBeStuck (va_wsS RX1 29 yX1_upTo wsX1_upTo) := goodIn_app (goodIn_r _ [6, 7, 8] (by eq_refl) (by decide +kernel)) ggX1_mayBeStuck_X1_upTo
theorem dX1_mayBeStuck_0 : decode cX1_mayBeStuck 0 = .ok (.iload_n 1, 1) := by decide +kernel
theorem dX1_mayBeStuck_1 : decode cX1_mayBeStuck 1 = .ok (.invokestatic 29, 3) := by decide +kernel
theorem dX1_mayBeStuck_4 : decode cX1_mayBeStuck 4 = .ok (.lstore_n 3, 1) := by decide +kernel
theorem dX1_mayBeStuck_5 : decode cX1_mayBeStuck 5 = .ok (.aload_n 0, 1) := by decide +kernel
theorem dX1_mayBeStuck_6 : decode cX1_mayBeStuck 6 = .ok (.getfield 18, 3) := by decide +kernel
theorem dX1_mayBeStuck_9 : decode cX1_mayBeStuck 9 = .ok (.iconst 1, 1) := by decide +kernel
theorem dX1_mayBeStuck_10 : decode cX1_mayBeStuck 10 = .ok (.isub, 1) := by decide +kernel
theorem dX1_mayBeStuck_11 : decode cX1_mayBeStuck 11 = .ok (.invokestatic 29, 3) := by decide +kernel
theorem dX1_mayBeStuck_14 : decode cX1_mayBeStuck 14 = .ok (.lstore 5, 2) := by decide +kernel
theorem dX1_mayBeStuck_16 : decode cX1_mayBeStuck 16 = .ok (.iload_n 2, 1) := by decide +kernel
theorem dX1_mayBeStuck_17 : decode cX1_mayBeStuck 17 = .ok (.ifCond .ne 7, 3) := by decide +kernel
theorem dX1_mayBeStuck_20 : decode cX1_mayBeStuck 20 = .ok (.lconst 0, 1) := by decide +kernel
theorem dX1_mayBeStuck_21 : decode cX1_mayBeStuck 21 = .ok (.goto 4, 3) := by decide +kernel
theorem dX1_mayBeStuck_24 : decode cX1_mayBeStuck 24 = .ok (.lload_n 3, 1) := by decide +kernel
theorem dX1_mayBeStuck_25 : decode cX1_mayBeStuck 25 = .ok (.lstore 7, 2) := by decide +kernel
theorem dX1_mayBeStuck_27 : decode cX1_mayBeStuck 27 = .ok (.iconst 0, 1) := by decide +kernel
theorem dX1_mayBeStuck_28 : decode cX1_mayBeStuck 28 = .ok (.istore 9, 2) := by decide +kernel
theorem dX1_mayBeStuck_30 : decode cX1_mayBeStuck 30 = .ok (.iload 9, 2) := by decide +kernel
theorem dX1_mayBeStuck_32 : decode cX1_mayBeStuck 32 = .ok (.aload_n 0, 1) := by decide +kernel
theorem dX1_mayBeStuck_33 : decode cX1_mayBeStuck 33 = .ok (.getfield 22, 3) := by decide +kernel
theorem dX1_mayBeStuck_36 : decode cX1_mayBeStuck 36 = .ok (.if_icmp .ge 47, 3) := by decide +kernel
theorem dX1_mayBeStuck_39 : decode cX1_mayBeStuck 39 = .ok (.lload 7, 2) := by decide +kernel
theorem dX1_mayBeStuck_41 : decode cX1_mayBeStuck 41 = .ok (.aload_n 0, 1) := by decide +kernel
theorem dX1_mayBeStuck_42 : decode cX1_mayBeStuck 42 = .ok (.getfield 9, 3) := by decide +kernel
theorem dX1_mayBeStuck_45 : decode cX1_mayBeStuck 45 = .ok (.iload 9, 2) := by decide +kernel
theorem dX1_mayBeStuck_47 : decode cX1_mayBeStuck 47 = .ok (.laload, 1) := by decide +kernel
theorem dX1_mayBeStuck_48 : decode cX1_mayBeStuck 48 = .ok (.lload_n 3, 1) := by decide +kernel
theorem dX1_mayBeStuck_49 : decode cX1_mayBeStuck 49 = .ok (.ldc2_w 33, 3) := by decide +kernel
theorem dX1_mayBeStuck_52 : decode cX1_mayBeStuck 52 = .ok (.lxor, 1) := by decide +kernel
theorem dX1_mayBeStuck_53 : decode cX1_mayBeStuck 53 = .ok (.land, 1) := by decide +kernel
theorem dX1_mayBeStuck_54 : decode cX1_mayBeStuck 54 = .ok (.lor, 1) := by decide +kernel
theorem dX1_mayBeStuck_55 : decode cX1_mayBeStuck 55 = .ok (.lstore 10, 2) := by decide +kernel
theorem dX1_mayBeStuck_57 : decode cX1_mayBeStuck 57 = .ok (.lload 10, 2) := by decide +kernel
theorem dX1_mayBeStuck_59 : decode cX1_mayBeStuck 59 = .ok (.aload_n 0, 1) := by decide +kernel
theorem dX1_mayBeStuck_60 : decode cX1_mayBeStuck 60 = .ok (.getfield 15, 3) := by decide +kernel
theorem dX1_mayBeStuck_63 : decode cX1_mayBeStuck 63 = .ok (.iload 9, 2) := by decide +kernel
theorem dX1_mayBeStuck_65 : decode cX1_mayBeStuck 65 = .ok (.laload, 1) := by decide +kernel
theorem dX1_mayBeStuck_66 : decode cX1_mayBeStuck 66 = .ok (.lxor, 1) := by decide +kernel
theorem dX1_mayBeStuck_67 : decode cX1_mayBeStuck 67 = .ok (.lload 5, 2) := by decide +kernel
theorem dX1_mayBeStuck_69 : decode cX1_mayBeStuck 69 = .ok (.land, 1) := by decide +kernel
theorem dX1_mayBeStuck_70 : decode cX1_mayBeStuck 70 = .ok (.lconst 0, 1) := by decide +kernel
theorem dX1_mayBeStuck_71 : decode cX1_mayBeStuck 71 = .ok (.lcmp, 1) := by decide +kernel
theorem dX1_mayBeStuck_72 : decode cX1_mayBeStuck 72 = .ok (.ifCond .eq 5, 3) := by decide +kernel
theorem dX1_mayBeStuck_75 : decode cX1_mayBeStuck 75 = .ok (.iconst 0, 1) := by decide +kernel
theorem dX1_mayBeStuck_76 : decode cX1_mayBeStuck 76 = .ok (.ireturn, 1) := by decide +kernel
theorem dX1_mayBeStuck_77 : decode cX1_mayBeStuck 77 = .ok (.iinc 9 1, 3) := by decide +kernel
theorem dX1_mayBeStuck_80 : decode cX1_mayBeStuck 80 = .ok (.goto (-50), 3) := by decide +kernel
theorem dX1_mayBeStuck_83 : decode cX1_mayBeStuck 83 = .ok (.iconst 1, 1) := by decide +kernel
theorem dX1_mayBeStuck_84 : decode cX1_mayBeStuck 84 = .ok (.ireturn, 1) := by decide +kernel
theorem dX1_upTo_0 : decode cX1_upTo 0 = .ok (.ldc2_w 33, 3) := by decide +kernel
theorem dX1_upTo_3 : decode cX1_upTo 3 = .ok (.bipush 63, 2) := by decide +kernel
theorem dX1_upTo_5 : decode cX1_upTo 5 = .ok (.iload_n 0, 1) := by decide +kernel
theorem dX1_upTo_6 : decode cX1_upTo 6 = .ok (.isub, 1) := by decide +kernel
theorem dX1_upTo_7 : decode cX1_upTo 7 = .ok (.lushr, 1) := by decide +kernel
theorem dX1_upTo_8 : decode cX1_upTo 8 = .ok (.lreturn, 1) := by decide +kernel
theorem dX1_forget_0 : decode cX1_forget 0 = .ok (.aload_n 0, 1) := by decide +kernel
theorem dX1_forget_1 : decode cX1_forget 1 = .ok (.iconst 0, 1) := by decide +kernel
theorem dX1_forget_2 : decode cX1_forget 2 = .ok (.putfield 18, 3) := by decide +kernel
theorem dX1_forget_5 : decode cX1_forget 5 = .ok (.aload_n 0, 1) := by decide +kernel
theorem dX1_forget_6 : decode cX1_forget 6 = .ok (.iconst 0, 1) := by decide +kernel
theorem dX1_forget_7 : decode cX1_forget 7 = .ok (.putfield 22, 3) := by decide +kernel
theorem dX1_forget_10 : decode cX1_forget 10 = .ok (.return_, 1) := by decide +kernel
