theorem dX11_own_10 : decode cX11_own 10 = .ok (.aload_n 0, 1) := by decide +kernel
theorem dX11_own_11 : decode cX11_own 11 = .ok (.getfield 19, 3) := by decide +kernel
theorem dX11_own_14 : decode cX11_own 14 = .ok (.iload_n 1, 1) := by decide +kernel
theorem dX11_own_15 : decode cX11_own 15 = .ok (.laload, 1) := by decide +kernel
theorem dX11_own_16 : decode cX11_own 16 = .ok (.goto 28, 3) := by decide +kernel
theorem dX11_own_19 : decode cX11_own 19 = .ok (.aload_n 0, 1) := by decide +kernel
theorem dX11_own_20 : decode cX11_own 20 = .ok (.getfield 7, 3) := by decide +kernel
theorem dX11_own_23 : decode cX11_own 23 = .ok (.iload_n 1, 1) := by decide +kernel
theorem dX11_own_24 : decode cX11_own 24 = .ok (.iaload, 1) := by decide +kernel
theorem dX11_own_25 : decode cX11_own 25 = .ok (.aload_n 2, 1) := by decide +kernel
theorem dX11_own_26 : decode cX11_own 26 = .ok (.aload_n 0, 1) := by decide +kernel
theorem dX11_own_27 : decode cX11_own 27 = .ok (.getfield 13, 3) := by decide +kernel
theorem dX11_own_30 : decode cX11_own 30 = .ok (.iload_n 1, 1) := by decide +kernel
theorem dX11_own_31 : decode cX11_own 31 = .ok (.iaload, 1) := by decide +kernel
theorem dX11_own_32 : decode cX11_own 32 = .ok (.laload, 1) := by decide +kernel
theorem dX11_own_33 : decode cX11_own 33 = .ok (.aload_n 2, 1) := by decide +kernel
theorem dX11_own_34 : decode cX11_own 34 = .ok (.aload_n 0, 1) := by decide +kernel
theorem dX11_own_35 : decode cX11_own 35 = .ok (.getfield 16, 3) := by decide +kernel
theorem dX11_own_38 : decode cX11_own 38 = .ok (.iload_n 1, 1) := by decide +kernel
theorem dX11_own_39 : decode cX11_own 39 = .ok (.iaload, 1) := by decide +kernel
theorem dX11_own_40 : decode cX11_own 40 = .ok (.laload, 1) := by decide +kernel
theorem dX11_own_41 : decode cX11_own 41 = .ok (.invokestatic 131, 3) := by decide +kernel
theorem dX11_own_44 : decode cX11_own 44 = .ok (.lstore_n 3, 1) := by decide +kernel
theorem dX11_own_45 : decode cX11_own 45 = .ok (.lload_n 3, 1) := by decide +kernel
theorem dX11_own_46 : decode cX11_own 46 = .ok (.aload_n 0, 1) := by decide +kernel
theorem dX11_own_47 : decode cX11_own 47 = .ok (.invokevirtual 135, 3) := by decide +kernel
theorem dX11_own_50 : decode cX11_own 50 = .ok (.land, 1) := by decide +kernel
theorem dX11_own_51 : decode cX11_own 51 = .ok (.lreturn, 1) := by decide +kernel
set_option maxRecDepth 20000 in
theorem ggX11_workPlain_X11_own : GoodIn wsX11_workPlain wsX11_own := goodIn_r _ [7, 8, 9, 10, 11, 12, 13, 6, 14, 15, 16, 17, 18, 19, 20, 21, 22, 23, 24, 25, 26, 27, 28, 29, 30, 31, 32, 33, 34, 35, 36, 37, 38, 39, 40, 41, 42, 43, 44, 45, 46, 47, 48, 49, 50, 51, 52, 53, 54, 55, 56, 57, 58, 59, 60, 61, 62, 63] (by eq_refl) (by decide +kernel)
set_option maxRecDepth 20000 in
theorem gX11_workPlain_X11_own : GoodIn wsX11_workPlain (wsV RX11 139 RX11 yX11_own wsX11_own) := goodIn_app (goodIn_r _ [3, 4, 5, 6] (by eq_refl) (by decide +kernel)) ggX11_workPlain_X11_own
theorem dX11_workPlain_0 : decode cX11_workPlain 0 = .ok (.iconst 0, 1) := by decide +kernel
theorem dX11_workPlain_1 : decode cX11_workPlain 1 = .ok (.istore_n 1, 1) := by decide +kernel
theorem dX11_workPlain_2 : decode cX11_workPlain 2 = .ok (.iload_n 1, 1) := by decide +kernel
theorem dX11_workPlain_3 : decode cX11_workPlain 3 = .ok (.aload_n 0, 1) := by decide +kernel
theorem dX11_workPlain_4 : decode cX11_workPlain 4 = .ok (.getfield 113, 3) := by decide +kernel
theorem dX11_workPlain_7 : decode cX11_workPlain 7 = .ok (.if_icmp .ge 24, 3) := by decide +kernel
theorem dX11_workPlain_10 : decode cX11_workPlain 10 = .ok (.aload_n 0, 1) := by decide +kernel
theorem dX11_workPlain_11 : decode cX11_workPlain 11 = .ok (.getfield 35, 3) := by decide +kernel
theorem dX11_workPlain_14 : decode cX11_workPlain 14 = .ok (.iload_n 1, 1) := by decide +kernel
theorem dX11_workPlain_15 : decode cX11_workPlain 15 = .ok (.aload_n 0, 1) := by decide +kernel
theorem dX11_workPlain_16 : decode cX11_workPlain 16 = .ok (.iload_n 1, 1) := by decide +kernel
theorem dX11_workPlain_17 : decode cX11_workPlain 17 = .ok (.aload_n 0, 1) := by decide +kernel
theorem dX11_workPlain_18 : decode cX11_workPlain 18 = .ok (.getfield 35, 3) := by decide +kernel
theorem dX11_workPlain_21 : decode cX11_workPlain 21 = .ok (.invokevirtual 139, 3) := by decide +kernel
theorem dX11_workPlain_24 : decode cX11_workPlain 24 = .ok (.lastore, 1) := by decide +kernel
theorem dX11_workPlain_25 : decode cX11_workPlain 25 = .ok (.iinc 1 1, 3) := by decide +kernel
theorem dX11_workPlain_28 : decode cX11_workPlain 28 = .ok (.goto (-26), 3) := by decide +kernel
theorem dX11_workPlain_31 : decode cX11_workPlain 31 = .ok (.return_, 1) := by decide +kernel
set_option maxRecDepth 20000 in
theorem ggX11_work_X11_mask : GoodIn wsX11_work wsX11_mask := goodIn_r _ [7, 8, 9, 21, 22, 23, 24, 25, 26, 27, 28, 29, 30, 31, 32, 33, 34, 35, 36, 37, 38, 39, 40, 41, 42, 43, 44, 45, 46, 47, 48, 49, 50, 51, 52, 53, 54, 55, 56, 57, 58, 59, 60, 61, 62, 63] (by eq_refl) (by decide +kernel)
set_option maxRecDepth 20000 in
theorem gX11_work_X11_mask : GoodIn wsX11_work (wsV RX11 135 RX11 yX11_mask wsX11_mask) := goodIn_app (goodIn_r _ [3, 4, 5, 6] (by eq_refl) (by decide +kernel)) ggX11_work_X11_mask
set_option maxRecDepth 20000 in
theorem ggX11_work_X11_own : GoodIn wsX11_work wsX11_own := goodIn_r _ [13, 14, 15, 16, 17, 18, 19, 6, 20, 9, 3, 4, 5, 7, 8, 21, 22, 23, 24, 25, 26, 27, 28, 29, 30, 31, 32, 33, 34, 35, 36, 37, 38, 39, 40, 41, 42, 43, 44, 45, 46, 47, 48, 49, 50, 51, 52, 53, 54, 55, 56, 57, 58, 59, 60, 61, 62, 63] (by eq_refl) (by decide +kernel)
set_option maxRecDepth 20000 in
theorem gX11_work_X11_own : GoodIn wsX11_work (wsV RX11 139 RX11 yX11_own wsX11_own) := goodIn_app (goodIn_r _ [10, 11, 12, 6] (by eq_refl) (by decide +kernel)) ggX11_work_X11_own
theorem dX11_work_0 : decode cX11_work 0 = .ok (.iconst 0, 1) := by decide +kernel
theorem dX11_work_1 : decode cX11_work 1 = .ok (.istore 7, 2) := by decide +kernel
theorem dX11_work_3 : decode cX11_work 3 = .ok (.iload 7, 2) := by decide +kernel
theorem dX11_work_5 : decode cX11_work 5 = .ok (.aload_n 0, 1) := by decide +kernel
theorem dX11_work_6 : decode cX11_work 6 = .ok (.getfield 113, 3) := by decide +kernel
theorem dX11_work_9 : decode cX11_work 9 = .ok (.if_icmp .ge 58, 3) := by decide +kernel
theorem dX11_work_12 : decode cX11_work 12 = .ok (.aload_n 0, 1) := by decide +kernel
theorem dX11_work_13 : decode cX11_work 13 = .ok (.getfield 38, 3) := by decide +kernel
theorem dX11_work_16 : decode cX11_work 16 = .ok (.iload 7, 2) := by decide +kernel
theorem dX11_work_18 : decode cX11_work 18 = .ok (.iload 7, 2) := by decide +kernel
theorem dX11_work_20 : decode cX11_work 20 = .ok (.iload_n 1, 1) := by decide +kernel
theorem dX11_work_21 : decode cX11_work 21 = .ok (.if_icmp .ne 12, 3) := by decide +kernel
theorem dX11_work_24 : decode cX11_work 24 = .ok (.lload_n 2, 1) := by decide +kernel
theorem dX11_work_25 : decode cX11_work 25 = .ok (.aload_n 0, 1) := by decide +kernel
theorem dX11_work_26 : decode cX11_work 26 = .ok (.invokevirtual 135, 3) := by decide +kernel
theorem dX11_work_29 : decode cX11_work 29 = .ok (.land, 1) := by decide +kernel
theorem dX11_work_30 : decode cX11_work 30 = .ok (.goto 30, 3) := by decide +kernel
theorem dX11_work_33 : decode cX11_work 33 = .ok (.iload 7, 2) := by decide +kernel
theorem dX11_work_35 : decode cX11_work 35 = .ok (.iload 4, 2) := by decide +kernel
theorem dX11_work_37 : decode cX11_work 37 = .ok (.if_icmp .ne 13, 3) := by decide +kernel
theorem dX11_work_40 : decode cX11_work 40 = .ok (.lload 5, 2) := by decide +kernel
theorem dX11_work_42 : decode cX11_work 42 = .ok (.aload_n 0, 1) := by decide +kernel
theorem dX11_work_43 : decode cX11_work 43 = .ok (.invokevirtual 135, 3) := by decide +kernel
theorem dX11_work_46 : decode cX11_work 46 = .ok (.land, 1) := by decide +kernel
theorem dX11_work_47 : decode cX11_work 47 = .ok (.goto 13, 3) := by decide +kernel
theorem dX11_work_50 : decode cX11_work 50 = .ok (.aload_n 0, 1) := by decide +kernel
theorem dX11_work_51 : decode cX11_work 51 = .ok (.iload 7, 2) := by decide +kernel
theorem dX11_work_53 : decode cX11_work 53 = .ok (.aload_n 0, 1) := by decide +kernel
theorem dX11_work_54 : decode cX11_work 54 = .ok (.getfield 38, 3) := by decide +kernel
theorem dX11_work_57 : decode cX11_work 57 = .ok (.invokevirtual 139, 3) := by decide +kernel
theorem dX11_work_60 : decode cX11_work 60 = .ok (.lastore, 1) := by decide +kernel
theorem dX11_work_61 : decode cX11_work 61 = .ok (.iinc 7 1, 3) := by decide +kernel
theorem dX11_work_64 : decode cX11_work 64 = .ok (.goto (-61), 3) := by decide +kernel
theorem dX11_work_67 : decode cX11_work 67 = .ok (.return_, 1) := by decide +kernel
set_option maxRecDepth 20000 in
theorem ggX11_workFault_X11_work : GoodIn wsX11_workFault wsX11_work := goodIn_r _ [9, 10, 11, 12, 13, 14, 8, 15, 16, 1, 17, 18, 19, 20, 21, 22, 23, 24, 25, 26, 27, 28, 29, 30, 31, 32, 33, 34, 35, 36, 37, 38, 39, 40, 41, 42, 43, 44, 45, 46, 47, 48, 49, 50, 51, 52, 53, 54, 55, 56, 57, 58, 59, 60, 61, 62, 63, 64, 65, 66, 67, 68, 69, 70] (by eq_refl) (by decide +kernel)
set_option maxRecDepth 20000 in
theorem gX11_workFault_X11_work : GoodIn wsX11_workFault (wsV RX11 143 RX11 yX11_work wsX11_work) := goodIn_app (goodIn_r _ [5, 6, 7, 8] (by eq_refl) (by decide +kernel)) ggX11_workFault_X11_work
theorem dX11_workFault_0 : decode cX11_workFault 0 = .ok (.iload_n 1, 1) := by decide +kernel
theorem dX11_workFault_1 : decode cX11_workFault 1 = .ok (.iconst 2, 1) := by decide +kernel
theorem dX11_workFault_2 : decode cX11_workFault 2 = .ok (.if_icmp .ge 25, 3) := by decide +kernel
theorem dX11_workFault_5 : decode cX11_workFault 5 = .ok (.aload_n 0, 1) := by decide +kernel
theorem dX11_workFault_6 : decode cX11_workFault 6 = .ok (.iload_n 2, 1) := by decide +kernel
theorem dX11_workFault_7 : decode cX11_workFault 7 = .ok (.iload_n 1, 1) := by decide +kernel
theorem dX11_workFault_8 : decode cX11_workFault 8 = .ok (.iconst 1, 1) := by decide +kernel
theorem dX11_workFault_9 : decode cX11_workFault 9 = .ok (.if_icmp .ne 9, 3) := by decide +kernel
theorem dX11_workFault_12 : decode cX11_workFault 12 = .ok (.ldc2_w 129, 3) := by decide +kernel
theorem dX11_workFault_15 : decode cX11_workFault 15 = .ok (.goto 4, 3) := by decide +kernel
theorem dX11_workFault_18 : decode cX11_workFault 18 = .ok (.lconst 0, 1) := by decide +kernel
theorem dX11_workFault_19 : decode cX11_workFault 19 = .ok (.iload_n 2, 1) := by decide +kernel
theorem dX11_workFault_20 : decode cX11_workFault 20 = .ok (.lconst 0, 1) := by decide +kernel
theorem dX11_workFault_21 : decode cX11_workFault 21 = .ok (.invokevirtual 143, 3) := by decide +kernel
theorem dX11_workFault_24 : decode cX11_workFault 24 = .ok (.goto 67, 3) := by decide +kernel
theorem dX11_workFault_27 : decode cX11_workFault 27 = .ok (.aload_n 0, 1) := by decide +kernel
theorem dX11_workFault_28 : decode cX11_workFault 28 = .ok (.getfield 29, 3) := by decide +kernel
theorem dX11_workFault_31 : decode cX11_workFault 31 = .ok (.iload_n 2, 1) := by decide +kernel
theorem dX11_workFault_32 : decode cX11_workFault 32 = .ok (.iaload, 1) := by decide +kernel
theorem dX11_workFault_33 : decode cX11_workFault 33 = .ok (.istore_n 3, 1) := by decide +kernel
theorem dX11_workFault_34 : decode cX11_workFault 34 = .ok (.aload_n 0, 1) := by decide +kernel
theorem dX11_workFault_35 : decode cX11_workFault 35 = .ok (.getfield 32, 3) := by decide +kernel
theorem dX11_workFault_38 : decode cX11_workFault 38 = .ok (.iload_n 2, 1) := by decide +kernel
theorem dX11_workFault_39 : decode cX11_workFault 39 = .ok (.iaload, 1) := by decide +kernel
theorem dX11_workFault_40 : decode cX11_workFault 40 = .ok (.istore 4, 2) := by decide +kernel
theorem dX11_workFault_42 : decode cX11_workFault 42 = .ok (.iload_n 1, 1) := by decide +kernel
theorem dX11_workFault_43 : decode cX11_workFault 43 = .ok (.iconst 2, 1) := by decide +kernel
theorem dX11_workFault_44 : decode cX11_workFault 44 = .ok (.if_icmp .ne 20, 3) := by decide +kernel
theorem dX11_workFault_47 : decode cX11_workFault 47 = .ok (.aload_n 0, 1) := by decide +kernel
theorem dX11_workFault_48 : decode cX11_workFault 48 = .ok (.getfield 35, 3) := by decide +kernel
theorem dX11_workFault_51 : decode cX11_workFault 51 = .ok (.iload_n 3, 1) := by decide +kernel
theorem dX11_workFault_52 : decode cX11_workFault 52 = .ok (.laload, 1) := by decide +kernel
theorem dX11_workFault_53 : decode cX11_workFault 53 = .ok (.aload_n 0, 1) := by decide +kernel
theorem dX11_workFault_54 : decode cX11_workFault 54 = .ok (.getfield 35, 3) := by decide +kernel
theorem dX11_workFault_57 : decode cX11_workFault 57 = .ok (.iload 4, 2) := by decide +kernel
theorem dX11_workFault_59 : decode cX11_workFault 59 = .ok (.laload, 1) := by decide +kernel
theorem dX11_workFault_60 : decode cX11_workFault 60 = .ok (.land, 1) := by decide +kernel
theorem dX11_workFault_61 : decode cX11_workFault 61 = .ok (.goto 17, 3) := by decide +kernel
theorem dX11_workFault_64 : decode cX11_workFault 64 = .ok (.aload_n 0, 1) := by decide +kernel
theorem dX11_workFault_65 : decode cX11_workFault 65 = .ok (.getfield 35, 3) := by decide +kernel
theorem dX11_workFault_68 : decode cX11_workFault 68 = .ok (.iload_n 3, 1) := by decide +kernel
theorem dX11_workFault_69 : decode cX11_workFault 69 = .ok (.laload, 1) := by decide +kernel
theorem dX11_workFault_70 : decode cX11_workFault 70 = .ok (.aload_n 0, 1) := by decide +kernel
theorem dX11_workFault_71 : decode cX11_workFault 71 = .ok (.getfield 35, 3) := by decide +kernel
theorem dX11_workFault_74 : decode cX11_workFault 74 = .ok (.iload 4, 2) := by decide +kernel
theorem dX11_workFault_76 : decode cX11_workFault 76 = .ok (.laload, 1) := by decide +kernel
theorem dX11_workFault_77 : decode cX11_workFault 77 = .ok (.lor, 1) := by decide +kernel
theorem dX11_workFault_78 : decode cX11_workFault 78 = .ok (.lstore 5, 2) := by decide +kernel
theorem dX11_workFault_80 : decode cX11_workFault 80 = .ok (.aload_n 0, 1) := by decide +kernel
theorem dX11_workFault_81 : decode cX11_workFault 81 = .ok (.iload_n 3, 1) := by decide +kernel
theorem dX11_workFault_82 : decode cX11_workFault 82 = .ok (.lload 5, 2) := by decide +kernel
theorem dX11_workFault_84 : decode cX11_workFault 84 = .ok (.iload 4, 2) := by decide +kernel
theorem dX11_workFault_86 : decode cX11_workFault 86 = .ok (.lload 5, 2) := by decide +kernel
theorem dX11_workFault_88 : decode cX11_workFault 88 = .ok (.invokevirtual 143, 3) := by decide +kernel
theorem dX11_workFault_91 : decode cX11_workFault 91 = .ok (.return_, 1) := by decide +kernel
set_option maxRecDepth 20000 in
theorem ggX11_row_X11_isIn : GoodIn wsX11_row wsX11_isIn := goodIn_r _ [7] (by eq_refl) (by decide +kernel)
set_option maxRecDepth 20000 in
theorem gX11_row_X11_isIn : GoodIn wsX11_row (va_wsS RX11 119 yX11_isIn wsX11_isIn) := goodIn_app (goodIn_r _ [4, 5, 6] (by eq_refl) (by decide +kernel)) ggX11_row_X11_isIn
set_option maxRecDepth 20000 in
theorem ggX11_row_X11_workPlain : GoodIn wsX11_row wsX11_workPlain := goodIn_r _ [11, 1, 3, 12, 13, 14, 6, 15, 16, 17, 18, 19, 20, 21, 22, 23, 24, 25, 26, 27, 28, 29, 30, 31, 32, 33, 34, 35, 36, 37, 38, 39, 40, 41, 42, 43, 44, 45, 46, 47, 48, 49, 50, 51, 52, 53, 54, 55, 56, 57, 58, 59, 60, 61, 62, 63, 64, 65, 66, 67, 68, 69, 70, 71] (by eq_refl) (by decide +kernel)
set_option maxRecDepth 20000 in
theorem gX11_row_X11_workPlain : GoodIn wsX11_row (wsV RX11 147 RX11 yX11_workPlain wsX11_workPlain) := goodIn_app (goodIn_r _ [8, 9, 10, 6] (by eq_refl) (by decide +kernel)) ggX11_row_X11_workPlain
theorem dX11_row_0 : decode cX11_row 0 = .ok (.aload_n 0, 1) := by decide +kernel
theorem dX11_row_1 : decode cX11_row 1 = .ok (.iload_n 1, 1) := by decide +kernel
theorem dX11_row_2 : decode cX11_row 2 = .ok (.aload_n 0, 1) := by decide +kernel
theorem dX11_row_3 : decode cX11_row 3 = .ok (.getfield 113, 3) := by decide +kernel
theorem dX11_row_6 : decode cX11_row 6 = .ok (.invokestatic 119, 3) := by decide +kernel
theorem dX11_row_9 : decode cX11_row 9 = .ok (.ifCond .eq 7, 3) := by decide +kernel
theorem dX11_row_12 : decode cX11_row 12 = .ok (.iconst 0, 1) := by decide +kernel
theorem dX11_row_13 : decode cX11_row 13 = .ok (.goto 4, 3) := by decide +kernel
theorem dX11_row_16 : decode cX11_row 16 = .ok (.iconst 1, 1) := by decide +kernel
theorem dX11_row_17 : decode cX11_row 17 = .ok (.putfield 99, 3) := by decide +kernel
theorem dX11_row_20 : decode cX11_row 20 = .ok (.aload_n 0, 1) := by decide +kernel
theorem dX11_row_21 : decode cX11_row 21 = .ok (.getfield 99, 3) := by decide +kernel
theorem dX11_row_24 : decode cX11_row 24 = .ok (.ifCond .le 5, 3) := by decide +kernel
theorem dX11_row_27 : decode cX11_row 27 = .ok (.lconst 0, 1) := by decide +kernel
theorem dX11_row_28 : decode cX11_row 28 = .ok (.lreturn, 1) := by decide +kernel
theorem dX11_row_29 : decode cX11_row 29 = .ok (.aload_n 0, 1) := by decide +kernel
theorem dX11_row_30 : decode cX11_row 30 = .ok (.invokevirtual 147, 3) := by decide +kernel
theorem dX11_row_33 : decode cX11_row 33 = .ok (.aload_n 0, 1) := by decide +kernel
theorem dX11_row_34 : decode cX11_row 34 = .ok (.getfield 35, 3) := by decide +kernel
theorem dX11_row_37 : decode cX11_row 37 = .ok (.iload_n 1, 1) := by decide +kernel
theorem dX11_row_38 : decode cX11_row 38 = .ok (.laload, 1) := by decide +kernel
theorem dX11_row_39 : decode cX11_row 39 = .ok (.lreturn, 1) := by decide +kernel
set_option maxRecDepth 20000 in
theorem ggX11_fail_X11_isIn : GoodIn wsX11_fail wsX11_isIn := goodIn_r _ [7] (by eq_refl) (by decide +kernel)
set_option maxRecDepth 20000 in
theorem gX11_fail_X11_isIn : GoodIn wsX11_fail (va_wsS RX11 119 yX11_isIn wsX11_isIn) := goodIn_app (goodIn_r _ [4, 5, 6] (by eq_refl) (by decide +kernel)) ggX11_fail_X11_isIn
set_option maxRecDepth 20000 in
theorem ggX11_fail_X11_changed : GoodIn wsX11_fail wsX11_changed := goodIn_r _ [11, 12, 13, 14, 15, 16, 17, 18, 19, 20, 21, 22, 23, 24, 25, 26, 27, 28, 29, 30, 31, 32, 33, 34, 35, 36, 37, 38, 39, 40, 41, 42, 43, 44, 45, 46, 47, 48, 49, 50, 51, 52, 53, 54, 55, 56] (by eq_refl) (by decide +kernel)
set_option maxRecDepth 20000 in
theorem gX11_fail_X11_changed : GoodIn wsX11_fail (wsV RX11 116 RX11 yX11_changed wsX11_changed) := goodIn_app (goodIn_r _ [8, 9, 10, 6] (by eq_refl) (by decide +kernel)) ggX11_fail_X11_changed
theorem dX11_fail_0 : decode cX11_fail 0 = .ok (.aload_n 0, 1) := by decide +kernel
theorem dX11_fail_1 : decode cX11_fail 1 = .ok (.iload_n 1, 1) := by decide +kernel
theorem dX11_fail_2 : decode cX11_fail 2 = .ok (.aload_n 0, 1) := by decide +kernel
theorem dX11_fail_3 : decode cX11_fail 3 = .ok (.getfield 123, 3) := by decide +kernel
theorem dX11_fail_6 : decode cX11_fail 6 = .ok (.invokestatic 119, 3) := by decide +kernel
theorem dX11_fail_9 : decode cX11_fail 9 = .ok (.ifCond .eq 7, 3) := by decide +kernel
theorem dX11_fail_12 : decode cX11_fail 12 = .ok (.iconst 0, 1) := by decide +kernel
theorem dX11_fail_13 : decode cX11_fail 13 = .ok (.goto 4, 3) := by decide +kernel
theorem dX11_fail_16 : decode cX11_fail 16 = .ok (.iconst 1, 1) := by decide +kernel
theorem dX11_fail_17 : decode cX11_fail 17 = .ok (.putfield 99, 3) := by decide +kernel
theorem dX11_fail_20 : decode cX11_fail 20 = .ok (.aload_n 0, 1) := by decide +kernel
theorem dX11_fail_21 : decode cX11_fail 21 = .ok (.getfield 99, 3) := by decide +kernel
theorem dX11_fail_24 : decode cX11_fail 24 = .ok (.ifCond .le 5, 3) := by decide +kernel
theorem dX11_fail_27 : decode cX11_fail 27 = .ok (.lconst 0, 1) := by decide +kernel
theorem dX11_fail_28 : decode cX11_fail 28 = .ok (.lreturn, 1) := by decide +kernel
theorem dX11_fail_29 : decode cX11_fail 29 = .ok (.aload_n 0, 1) := by decide +kernel
theorem dX11_fail_30 : decode cX11_fail 30 = .ok (.getfield 26, 3) := by decide +kernel
theorem dX11_fail_33 : decode cX11_fail 33 = .ok (.iload_n 1, 1) := by decide +kernel
theorem dX11_fail_34 : decode cX11_fail 34 = .ok (.laload, 1) := by decide +kernel
theorem dX11_fail_35 : decode cX11_fail 35 = .ok (.lstore 4, 2) := by decide +kernel
theorem dX11_fail_37 : decode cX11_fail 37 = .ok (.aload_n 0, 1) := by decide +kernel
theorem dX11_fail_38 : decode cX11_fail 38 = .ok (.getfield 26, 3) := by decide +kernel
theorem dX11_fail_41 : decode cX11_fail 41 = .ok (.iload_n 1, 1) := by decide +kernel
theorem dX11_fail_42 : decode cX11_fail 42 = .ok (.lload_n 2, 1) := by decide +kernel
theorem dX11_fail_43 : decode cX11_fail 43 = .ok (.lastore, 1) := by decide +kernel
theorem dX11_fail_44 : decode cX11_fail 44 = .ok (.aload_n 0, 1) := by decide +kernel
theorem dX11_fail_45 : decode cX11_fail 45 = .ok (.invokevirtual 116, 3) := by decide +kernel
theorem dX11_fail_48 : decode cX11_fail 48 = .ok (.lload 4, 2) := by decide +kernel
theorem dX11_fail_50 : decode cX11_fail 50 = .ok (.lreturn, 1) := by decide +kernel
theorem dX11_reaches_0 : decode cX11_reaches 0 = .ok (.iconst 0, 1) := by decide +kernel
theorem dX11_reaches_1 : decode cX11_reaches 1 = .ok (.istore_n 3, 1) := by decide +kernel
theorem dX11_reaches_2 : decode cX11_reaches 2 = .ok (.iload_n 3, 1) := by decide +kernel
theorem dX11_reaches_3 : decode cX11_reaches 3 = .ok (.aload_n 0, 1) := by decide +kernel
theorem dX11_reaches_4 : decode cX11_reaches 4 = .ok (.getfield 113, 3) := by decide +kernel
theorem dX11_reaches_7 : decode cX11_reaches 7 = .ok (.if_icmp .ge 63, 3) := by decide +kernel
theorem dX11_reaches_10 : decode cX11_reaches 10 = .ok (.aload_n 0, 1) := by decide +kernel
theorem dX11_reaches_11 : decode cX11_reaches 11 = .ok (.getfield 41, 3) := by decide +kernel
theorem dX11_reaches_14 : decode cX11_reaches 14 = .ok (.iload_n 3, 1) := by decide +kernel
theorem dX11_reaches_15 : decode cX11_reaches 15 = .ok (.iload_n 3, 1) := by decide +kernel
theorem dX11_reaches_16 : decode cX11_reaches 16 = .ok (.iload_n 1, 1) := by decide +kernel
theorem dX11_reaches_17 : decode cX11_reaches 17 = .ok (.if_icmp .eq 41, 3) := by decide +kernel
theorem dX11_reaches_20 : decode cX11_reaches 20 = .ok (.aload_n 0, 1) := by decide +kernel
theorem dX11_reaches_21 : decode cX11_reaches 21 = .ok (.getfield 7, 3) := by decide +kernel
theorem dX11_reaches_24 : decode cX11_reaches 24 = .ok (.iload_n 3, 1) := by decide +kernel
theorem dX11_reaches_25 : decode cX11_reaches 25 = .ok (.iaload, 1) := by decide +kernel
theorem dX11_reaches_26 : decode cX11_reaches 26 = .ok (.iconst (-1), 1) := by decide +kernel
theorem dX11_reaches_27 : decode cX11_reaches 27 = .ok (.if_icmp .eq 35, 3) := by decide +kernel
theorem dX11_reaches_30 : decode cX11_reaches 30 = .ok (.aload_n 0, 1) := by decide +kernel
theorem dX11_reaches_31 : decode cX11_reaches 31 = .ok (.getfield 41, 3) := by decide +kernel
theorem dX11_reaches_34 : decode cX11_reaches 34 = .ok (.aload_n 0, 1) := by decide +kernel
theorem dX11_reaches_35 : decode cX11_reaches 35 = .ok (.getfield 13, 3) := by decide +kernel
theorem dX11_reaches_38 : decode cX11_reaches 38 = .ok (.iload_n 3, 1) := by decide +kernel
theorem dX11_reaches_39 : decode cX11_reaches 39 = .ok (.iaload, 1) := by decide +kernel
theorem dX11_reaches_40 : decode cX11_reaches 40 = .ok (.baload, 1) := by decide +kernel
theorem dX11_reaches_41 : decode cX11_reaches 41 = .ok (.ifCond .ne 17, 3) := by decide +kernel
theorem dX11_reaches_44 : decode cX11_reaches 44 = .ok (.aload_n 0, 1) := by decide +kernel
theorem dX11_reaches_45 : decode cX11_reaches 45 = .ok (.getfield 41, 3) := by decide +kernel
theorem dX11_reaches_48 : decode cX11_reaches 48 = .ok (.aload_n 0, 1) := by decide +kernel
theorem dX11_reaches_49 : decode cX11_reaches 49 = .ok (.getfield 16, 3) := by decide +kernel
theorem dX11_reaches_52 : decode cX11_reaches 52 = .ok (.iload_n 3, 1) := by decide +kernel
theorem dX11_reaches_53 : decode cX11_reaches 53 = .ok (.iaload, 1) := by decide +kernel
theorem dX11_reaches_54 : decode cX11_reaches 54 = .ok (.baload, 1) := by decide +kernel
theorem dX11_reaches_55 : decode cX11_reaches 55 = .ok (.ifCond .eq 7, 3) := by decide +kernel
theorem dX11_reaches_58 : decode cX11_reaches 58 = .ok (.iconst 1, 1) := by decide +kernel
theorem dX11_reaches_59 : decode cX11_reaches 59 = .ok (.goto 4, 3) := by decide +kernel
theorem dX11_reaches_62 : decode cX11_reaches 62 = .ok (.iconst 0, 1) := by decide +kernel
theorem dX11_reaches_63 : decode cX11_reaches 63 = .ok (.bastore, 1) := by decide +kernel
theorem dX11_reaches_64 : decode cX11_reaches 64 = .ok (.iinc 3 1, 3) := by decide +kernel
theorem dX11_reaches_67 : decode cX11_reaches 67 = .ok (.goto (-65), 3) := by decide +kernel
theorem dX11_reaches_70 : decode cX11_reaches 70 = .ok (.aload_n 0, 1) := by decide +kernel
theorem dX11_reaches_71 : decode cX11_reaches 71 = .ok (.getfield 41, 3) := by decide +kernel
theorem dX11_reaches_74 : decode cX11_reaches 74 = .ok (.iload_n 2, 1) := by decide +kernel
theorem dX11_reaches_75 : decode cX11_reaches 75 = .ok (.baload, 1) := by decide +kernel
theorem dX11_reaches_76 : decode cX11_reaches 76 = .ok (.ireturn, 1) := by decide +kernel
set_option maxRecDepth 20000 in
theorem ggX11_near_X11_isIn : GoodIn wsX11_near wsX11_isIn := goodIn_r _ [9] (by eq_refl) (by decide +kernel)
set_option maxRecDepth 20000 in
theorem gX11_near_X11_isIn : GoodIn wsX11_near (va_wsS RX11 119 yX11_isIn wsX11_isIn) := goodIn_app (goodIn_r _ [6, 7, 8] (by eq_refl) (by decide +kernel)) ggX11_near_X11_isIn
set_option maxRecDepth 20000 in
theorem ggX11_near_X11_reaches : GoodIn wsX11_near wsX11_reaches := goodIn_r _ [13, 1, 14, 15, 16, 17, 24, 25, 26, 27, 28, 29, 30, 31, 32, 33, 34, 35, 36, 37, 38, 39, 40, 41, 42, 43, 44, 45, 46, 47, 48, 49, 50, 51, 52, 53, 54, 55, 56, 57, 58, 59, 60, 61, 62, 63, 64, 65, 66] (by eq_refl) (by decide +kernel)
set_option maxRecDepth 20000 in
theorem gX11_near_X11_reaches : GoodIn wsX11_near (wsV RX11 153 RX11 yX11_reaches wsX11_reaches) := goodIn_app (goodIn_r _ [10, 11, 12, 8] (by eq_refl) (by decide +kernel)) ggX11_near_X11_reaches
set_option maxRecDepth 20000 in
theorem ggX11_near_X11_changed : GoodIn wsX11_near wsX11_changed := goodIn_r _ [21, 22, 23, 24, 25, 26, 27, 28, 29, 30, 31, 32, 33, 34, 35, 36, 37, 38, 39, 40, 41, 42, 43, 44, 45, 46, 47, 48, 49, 50, 51, 52, 53, 54, 55, 56, 57, 58, 59, 60, 61, 62, 63, 64, 65, 66] (by eq_refl) (by decide +kernel)
set_option maxRecDepth 20000 in
theorem gX11_near_X11_changed : GoodIn wsX11_near (wsV RX11 116 RX11 yX11_changed wsX11_changed) := goodIn_app (goodIn_r _ [18, 19, 20, 8] (by eq_refl) (by decide +kernel)) ggX11_near_X11_changed
theorem dX11_near_0 : decode cX11_near 0 = .ok (.iload_n 1, 1) := by decide +kernel
theorem dX11_near_1 : decode cX11_near 1 = .ok (.aload_n 0, 1) := by decide +kernel
theorem dX11_near_2 : decode cX11_near 2 = .ok (.getfield 113, 3) := by decide +kernel
theorem dX11_near_5 : decode cX11_near 5 = .ok (.invokestatic 119, 3) := by decide +kernel
theorem dX11_near_8 : decode cX11_near 8 = .ok (.ifCond .eq 18, 3) := by decide +kernel
theorem dX11_near_11 : decode cX11_near 11 = .ok (.iload_n 2, 1) := by decide +kernel
theorem dX11_near_12 : decode cX11_near 12 = .ok (.aload_n 0, 1) := by decide +kernel
theorem dX11_near_13 : decode cX11_near 13 = .ok (.getfield 113, 3) := by decide +kernel
theorem dX11_near_16 : decode cX11_near 16 = .ok (.invokestatic 119, 3) := by decide +kernel
theorem dX11_near_19 : decode cX11_near 19 = .ok (.ifCond .eq 7, 3) := by decide +kernel
theorem dX11_near_22 : decode cX11_near 22 = .ok (.iconst 1, 1) := by decide +kernel
theorem dX11_near_23 : decode cX11_near 23 = .ok (.goto 4, 3) := by decide +kernel
theorem dX11_near_26 : decode cX11_near 26 = .ok (.iconst 0, 1) := by decide +kernel
theorem dX11_near_27 : decode cX11_near 27 = .ok (.istore_n 3, 1) := by decide +kernel
theorem dX11_near_28 : decode cX11_near 28 = .ok (.iconst (-1), 1) := by decide +kernel
theorem dX11_near_29 : decode cX11_near 29 = .ok (.istore 4, 2) := by decide +kernel
theorem dX11_near_31 : decode cX11_near 31 = .ok (.iconst 0, 1) := by decide +kernel
theorem dX11_near_32 : decode cX11_near 32 = .ok (.istore 5, 2) := by decide +kernel
theorem dX11_near_34 : decode cX11_near 34 = .ok (.iload 5, 2) := by decide +kernel
theorem dX11_near_36 : decode cX11_near 36 = .ok (.aload_n 0, 1) := by decide +kernel
theorem dX11_near_37 : decode cX11_near 37 = .ok (.getfield 150, 3) := by decide +kernel
theorem dX11_near_40 : decode cX11_near 40 = .ok (.if_icmp .ge 62, 3) := by decide +kernel
theorem dX11_near_43 : decode cX11_near 43 = .ok (.aload_n 0, 1) := by decide +kernel
theorem dX11_near_44 : decode cX11_near 44 = .ok (.getfield 29, 3) := by decide +kernel
theorem dX11_near_47 : decode cX11_near 47 = .ok (.iload 5, 2) := by decide +kernel
theorem dX11_near_49 : decode cX11_near 49 = .ok (.iaload, 1) := by decide +kernel
theorem dX11_near_50 : decode cX11_near 50 = .ok (.iload_n 1, 1) := by decide +kernel
theorem dX11_near_51 : decode cX11_near 51 = .ok (.if_icmp .ne 14, 3) := by decide +kernel
theorem dX11_near_54 : decode cX11_near 54 = .ok (.aload_n 0, 1) := by decide +kernel
theorem dX11_near_55 : decode cX11_near 55 = .ok (.getfield 32, 3) := by decide +kernel
theorem dX11_near_58 : decode cX11_near 58 = .ok (.iload 5, 2) := by decide +kernel
theorem dX11_near_60 : decode cX11_near 60 = .ok (.iaload, 1) := by decide +kernel
theorem dX11_near_61 : decode cX11_near 61 = .ok (.iload_n 2, 1) := by decide +kernel
theorem dX11_near_62 : decode cX11_near 62 = .ok (.if_icmp .eq 25, 3) := by decide +kernel
theorem dX11_near_65 : decode cX11_near 65 = .ok (.aload_n 0, 1) := by decide +kernel
theorem dX11_near_66 : decode cX11_near 66 = .ok (.getfield 29, 3) := by decide +kernel
theorem dX11_near_69 : decode cX11_near 69 = .ok (.iload 5, 2) := by decide +kernel
theorem dX11_near_71 : decode cX11_near 71 = .ok (.iaload, 1) := by decide +kernel
theorem dX11_near_72 : decode cX11_near 72 = .ok (.iload_n 2, 1) := by decide +kernel
theorem dX11_near_73 : decode cX11_near 73 = .ok (.if_icmp .ne 19, 3) := by decide +kernel
theorem dX11_near_76 : decode cX11_near 76 = .ok (.aload_n 0, 1) := by decide +kernel
theorem dX11_near_77 : decode cX11_near 77 = .ok (.getfield 32, 3) := by decide +kernel
theorem dX11_near_80 : decode cX11_near 80 = .ok (.iload 5, 2) := by decide +kernel
theorem dX11_near_82 : decode cX11_near 82 = .ok (.iaload, 1) := by decide +kernel
theorem dX11_near_83 : decode cX11_near 83 = .ok (.iload_n 1, 1) := by decide +kernel
theorem dX11_near_84 : decode cX11_near 84 = .ok (.if_icmp .ne 8, 3) := by decide +kernel
theorem dX11_near_87 : decode cX11_near 87 = .ok (.iload 5, 2) := by decide +kernel
theorem dX11_near_89 : decode cX11_near 89 = .ok (.goto 5, 3) := by decide +kernel
theorem dX11_near_92 : decode cX11_near 92 = .ok (.iload 4, 2) := by decide +kernel
theorem dX11_near_94 : decode cX11_near 94 = .ok (.istore 4, 2) := by decide +kernel
theorem dX11_near_96 : decode cX11_near 96 = .ok (.iinc 5 1, 3) := by decide +kernel
theorem dX11_near_99 : decode cX11_near 99 = .ok (.goto (-65), 3) := by decide +kernel
theorem dX11_near_102 : decode cX11_near 102 = .ok (.aload_n 0, 1) := by decide +kernel
theorem dX11_near_103 : decode cX11_near 103 = .ok (.iload_n 3, 1) := by decide +kernel
theorem dX11_near_104 : decode cX11_near 104 = .ok (.ifCond .ne 7, 3) := by decide +kernel
theorem dX11_near_107 : decode cX11_near 107 = .ok (.iconst 1, 1) := by decide +kernel
theorem dX11_near_108 : decode cX11_near 108 = .ok (.goto 45, 3) := by decide +kernel
theorem dX11_near_111 : decode cX11_near 111 = .ok (.iload 4, 2) := by decide +kernel
theorem dX11_near_113 : decode cX11_near 113 = .ok (.iconst (-1), 1) := by decide +kernel
theorem dX11_near_114 : decode cX11_near 114 = .ok (.if_icmp .ne 16, 3) := by decide +kernel
theorem dX11_near_117 : decode cX11_near 117 = .ok (.aload_n 0, 1) := by decide +kernel
theorem dX11_near_118 : decode cX11_near 118 = .ok (.getfield 150, 3) := by decide +kernel
theorem dX11_near_121 : decode cX11_near 121 = .ok (.bipush 40, 2) := by decide +kernel
theorem dX11_near_123 : decode cX11_near 123 = .ok (.if_icmp .ne 7, 3) := by decide +kernel
theorem dX11_near_126 : decode cX11_near 126 = .ok (.iconst 2, 1) := by decide +kernel
theorem dX11_near_127 : decode cX11_near 127 = .ok (.goto 26, 3) := by decide +kernel
theorem dX11_near_130 : decode cX11_near 130 = .ok (.aload_n 0, 1) := by decide +kernel
theorem dX11_near_131 : decode cX11_near 131 = .ok (.iload_n 1, 1) := by decide +kernel
theorem dX11_near_132 : decode cX11_near 132 = .ok (.iload_n 2, 1) := by decide +kernel
theorem dX11_near_133 : decode cX11_near 133 = .ok (.invokevirtual 153, 3) := by decide +kernel
theorem dX11_near_136 : decode cX11_near 136 = .ok (.ifCond .ne 12, 3) := by decide +kernel
theorem dX11_near_139 : decode cX11_near 139 = .ok (.aload_n 0, 1) := by decide +kernel
theorem dX11_near_140 : decode cX11_near 140 = .ok (.iload_n 2, 1) := by decide +kernel
theorem dX11_near_141 : decode cX11_near 141 = .ok (.iload_n 1, 1) := by decide +kernel
theorem dX11_near_142 : decode cX11_near 142 = .ok (.invokevirtual 153, 3) := by decide +kernel
theorem dX11_near_145 : decode cX11_near 145 = .ok (.ifCond .eq 7, 3) := by decide +kernel
theorem dX11_near_148 : decode cX11_near 148 = .ok (.iconst 3, 1) := by decide +kernel
theorem dX11_near_149 : decode cX11_near 149 = .ok (.goto 4, 3) := by decide +kernel
theorem dX11_near_152 : decode cX11_near 152 = .ok (.iconst 0, 1) := by decide +kernel
theorem dX11_near_153 : decode cX11_near 153 = .ok (.putfield 99, 3) := by decide +kernel
theorem dX11_near_156 : decode cX11_near 156 = .ok (.aload_n 0, 1) := by decide +kernel
theorem dX11_near_157 : decode cX11_near 157 = .ok (.getfield 99, 3) := by decide +kernel
theorem dX11_near_160 : decode cX11_near 160 = .ok (.ifCond .le 5, 3) := by decide +kernel
theorem dX11_near_163 : decode cX11_near 163 = .ok (.iconst 0, 1) := by decide +kernel
theorem dX11_near_164 : decode cX11_near 164 = .ok (.ireturn, 1) := by decide +kernel
theorem dX11_near_165 : decode cX11_near 165 = .ok (.aload_n 0, 1) := by decide +kernel
theorem dX11_near_166 : decode cX11_near 166 = .ok (.invokevirtual 116, 3) := by decide +kernel
theorem dX11_near_169 : decode cX11_near 169 = .ok (.iload 4, 2) := by decide +kernel
theorem dX11_near_171 : decode cX11_near 171 = .ok (.iconst (-1), 1) := by decide +kernel
theorem dX11_near_172 : decode cX11_near 172 = .ok (.if_icmp .eq 6, 3) := by decide +kernel
theorem dX11_near_175 : decode cX11_near 175 = .ok (.iload 4, 2) := by decide +kernel
theorem dX11_near_177 : decode cX11_near 177 = .ok (.ireturn, 1) := by decide +kernel
theorem dX11_near_178 : decode cX11_near 178 = .ok (.aload_n 0, 1) := by decide +kernel
theorem dX11_near_179 : decode cX11_near 179 = .ok (.getfield 29, 3) := by decide +kernel
theorem dX11_near_182 : decode cX11_near 182 = .ok (.aload_n 0, 1) := by decide +kernel
theorem dX11_near_183 : decode cX11_near 183 = .ok (.getfield 150, 3) := by decide +kernel
theorem dX11_near_186 : decode cX11_near 186 = .ok (.iload_n 1, 1) := by decide +kernel
theorem dX11_near_187 : decode cX11_near 187 = .ok (.iastore, 1) := by decide +kernel
theorem dX11_near_188 : decode cX11_near 188 = .ok (.aload_n 0, 1) := by decide +kernel
theorem dX11_near_189 : decode cX11_near 189 = .ok (.getfield 32, 3) := by decide +kernel
theorem dX11_near_192 : decode cX11_near 192 = .ok (.aload_n 0, 1) := by decide +kernel
theorem dX11_near_193 : decode cX11_near 193 = .ok (.getfield 150, 3) := by decide +kernel
theorem dX11_near_196 : decode cX11_near 196 = .ok (.iload_n 2, 1) := by decide +kernel
theorem dX11_near_197 : decode cX11_near 197 = .ok (.iastore, 1) := by decide +kernel
theorem dX11_near_198 : decode cX11_near 198 = .ok (.aload_n 0, 1) := by decide +kernel
theorem dX11_near_199 : decode cX11_near 199 = .ok (.dup, 1) := by decide +kernel
theorem dX11_near_200 : decode cX11_near 200 = .ok (.getfield 150, 3) := by decide +kernel
theorem dX11_near_203 : decode cX11_near 203 = .ok (.iconst 1, 1) := by decide +kernel
theorem dX11_near_204 : decode cX11_near 204 = .ok (.iadd, 1) := by decide +kernel
theorem dX11_near_205 : decode cX11_near 205 = .ok (.putfield 150, 3) := by decide +kernel
theorem dX11_near_208 : decode cX11_near 208 = .ok (.aload_n 0, 1) := by decide +kernel
theorem dX11_near_209 : decode cX11_near 209 = .ok (.getfield 150, 3) := by decide +kernel
theorem dX11_near_212 : decode cX11_near 212 = .ok (.iconst 1, 1) := by decide +kernel
theorem dX11_near_213 : decode cX11_near 213 = .ok (.isub, 1) := by decide +kernel
theorem dX11_near_214 : decode cX11_near 214 = .ok (.ireturn, 1) := by decide +kernel
theorem dX11_bits_0 : decode cX11_bits 0 = .ok (.iconst 0, 1) := by decide +kernel
theorem dX11_bits_1 : decode cX11_bits 1 = .ok (.istore_n 2, 1) := by decide +kernel
theorem dX11_bits_2 : decode cX11_bits 2 = .ok (.iconst 0, 1) := by decide +kernel
theorem dX11_bits_3 : decode cX11_bits 3 = .ok (.istore_n 3, 1) := by decide +kernel
theorem dX11_bits_4 : decode cX11_bits 4 = .ok (.iload_n 3, 1) := by decide +kernel
theorem dX11_bits_5 : decode cX11_bits 5 = .ok (.bipush 64, 2) := by decide +kernel
theorem dX11_bits_7 : decode cX11_bits 7 = .ok (.if_icmp .ge 18, 3) := by decide +kernel
theorem dX11_bits_10 : decode cX11_bits 10 = .ok (.iload_n 2, 1) := by decide +kernel
theorem dX11_bits_11 : decode cX11_bits 11 = .ok (.lload_n 0, 1) := by decide +kernel
theorem dX11_bits_12 : decode cX11_bits 12 = .ok (.iload_n 3, 1) := by decide +kernel
theorem dX11_bits_13 : decode cX11_bits 13 = .ok (.lushr, 1) := by decide +kernel
theorem dX11_bits_14 : decode cX11_bits 14 = .ok (.lconst 1, 1) := by decide +kernel
theorem dX11_bits_15 : decode cX11_bits 15 = .ok (.land, 1) := by decide +kernel
theorem dX11_bits_16 : decode cX11_bits 16 = .ok (.l2i, 1) := by decide +kernel
theorem dX11_bits_17 : decode cX11_bits 17 = .ok (.iadd, 1) := by decide +kernel
theorem dX11_bits_18 : decode cX11_bits 18 = .ok (.istore_n 2, 1) := by decide +kernel
theorem dX11_bits_19 : decode cX11_bits 19 = .ok (.iinc 3 1, 3) := by decide +kernel
theorem dX11_bits_22 : decode cX11_bits 22 = .ok (.goto (-18), 3) := by decide +kernel
theorem dX11_bits_25 : decode cX11_bits 25 = .ok (.iload_n 2, 1) := by decide +kernel
theorem dX11_bits_26 : decode cX11_bits 26 = .ok (.ireturn, 1) := by decide +kernel
set_option maxRecDepth 20000 in
theorem ggX11_shows_X11_isIn : GoodIn wsX11_shows wsX11_isIn := goodIn_r _ [11] (by eq_refl) (by decide +kernel)
set_option maxRecDepth 20000 in
theorem gX11_shows_X11_isIn : GoodIn wsX11_shows (va_wsS RX11 119 yX11_isIn wsX11_isIn) := goodIn_app (goodIn_r _ [8, 9, 10] (by eq_refl) (by decide +kernel)) ggX11_shows_X11_isIn
set_option maxRecDepth 20000 in
theorem ggX11_shows_X11_workPlain : GoodIn wsX11_shows wsX11_workPlain := goodIn_r _ [15, 1, 5, 16, 17, 18, 10, 19, 20, 21, 22, 23, 24, 25, 26, 27, 28, 29, 30, 31, 32, 43, 44, 45, 46, 47, 48, 49, 50, 51, 52, 53, 54, 55, 56, 57, 58, 59, 60, 61, 62, 63, 64, 65, 66, 67, 68, 69, 70, 71, 72, 73, 74, 75, 76, 77, 78, 79, 80, 81, 82, 83, 84, 85] (by eq_refl) (by decide +kernel)
set_option maxRecDepth 20000 in
theorem gX11_shows_X11_workPlain : GoodIn wsX11_shows (wsV RX11 147 RX11 yX11_workPlain wsX11_workPlain) := goodIn_app (goodIn_r _ [12, 13, 14, 10] (by eq_refl) (by decide +kernel)) ggX11_shows_X11_workPlain
set_option maxRecDepth 20000 in
theorem ggX11_shows_X11_workFault : GoodIn wsX11_shows wsX11_workFault := goodIn_r _ [36, 27, 37, 38, 5, 39, 40, 41, 10, 42, 1, 7, 28, 29, 30, 31, 32, 16, 17, 18, 19, 20, 21, 22, 23, 24, 25, 26, 43, 44, 45, 46, 47, 48, 49, 50, 51, 52, 53, 54, 55, 56, 57, 58, 59, 60, 61, 62, 63, 64, 65, 66, 67, 68, 69, 70, 71, 72, 73, 74, 75, 76, 77, 78, 79, 80, 81, 82, 83, 84, 85] (by eq_refl) (by decide +kernel)
set_option maxRecDepth 20000 in
theorem gX11_shows_X11_workFault : GoodIn wsX11_shows (wsV RX11 156 RX11 yX11_workFault wsX11_workFault) := goodIn_app (goodIn_r _ [33, 34, 35, 10] (by eq_refl) (by decide +kernel)) ggX11_shows_X11_workFault
theorem dX11_shows_0 : decode cX11_shows 0 = .ok (.iload_n 1, 1) := by decide +kernel
theorem dX11_shows_1 : decode cX11_shows 1 = .ok (.ifCond .eq 8, 3) := by decide +kernel
theorem dX11_shows_4 : decode cX11_shows 4 = .ok (.iload_n 1, 1) := by decide +kernel
theorem dX11_shows_5 : decode cX11_shows 5 = .ok (.iconst 1, 1) := by decide +kernel
theorem dX11_shows_6 : decode cX11_shows 6 = .ok (.if_icmp .ne 14, 3) := by decide +kernel
theorem dX11_shows_9 : decode cX11_shows 9 = .ok (.iload_n 2, 1) := by decide +kernel
theorem dX11_shows_10 : decode cX11_shows 10 = .ok (.aload_n 0, 1) := by decide +kernel
theorem dX11_shows_11 : decode cX11_shows 11 = .ok (.getfield 113, 3) := by decide +kernel
theorem dX11_shows_14 : decode cX11_shows 14 = .ok (.invokestatic 119, 3) := by decide +kernel
theorem dX11_shows_17 : decode cX11_shows 17 = .ok (.ifCond .ne 24, 3) := by decide +kernel
theorem dX11_shows_20 : decode cX11_shows 20 = .ok (.iload_n 1, 1) := by decide +kernel
theorem dX11_shows_21 : decode cX11_shows 21 = .ok (.iconst 2, 1) := by decide +kernel
theorem dX11_shows_22 : decode cX11_shows 22 = .ok (.if_icmp .eq 8, 3) := by decide +kernel
theorem dX11_shows_25 : decode cX11_shows 25 = .ok (.iload_n 1, 1) := by decide +kernel
theorem dX11_shows_26 : decode cX11_shows 26 = .ok (.iconst 3, 1) := by decide +kernel
theorem dX11_shows_27 : decode cX11_shows 27 = .ok (.if_icmp .ne 18, 3) := by decide +kernel
theorem dX11_shows_30 : decode cX11_shows 30 = .ok (.iload_n 2, 1) := by decide +kernel
theorem dX11_shows_31 : decode cX11_shows 31 = .ok (.aload_n 0, 1) := by decide +kernel
theorem dX11_shows_32 : decode cX11_shows 32 = .ok (.getfield 150, 3) := by decide +kernel
theorem dX11_shows_35 : decode cX11_shows 35 = .ok (.invokestatic 119, 3) := by decide +kernel
theorem dX11_shows_38 : decode cX11_shows 38 = .ok (.ifCond .eq 7, 3) := by decide +kernel
theorem dX11_shows_41 : decode cX11_shows 41 = .ok (.iconst 1, 1) := by decide +kernel
theorem dX11_shows_42 : decode cX11_shows 42 = .ok (.goto 4, 3) := by decide +kernel
theorem dX11_shows_45 : decode cX11_shows 45 = .ok (.iconst 0, 1) := by decide +kernel
theorem dX11_shows_46 : decode cX11_shows 46 = .ok (.istore 4, 2) := by decide +kernel
theorem dX11_shows_48 : decode cX11_shows 48 = .ok (.aload_n 0, 1) := by decide +kernel
theorem dX11_shows_49 : decode cX11_shows 49 = .ok (.iload 4, 2) := by decide +kernel
theorem dX11_shows_51 : decode cX11_shows 51 = .ok (.ifCond .eq 18, 3) := by decide +kernel
theorem dX11_shows_54 : decode cX11_shows 54 = .ok (.iload_n 3, 1) := by decide +kernel
theorem dX11_shows_55 : decode cX11_shows 55 = .ok (.aload_n 0, 1) := by decide +kernel
theorem dX11_shows_56 : decode cX11_shows 56 = .ok (.getfield 123, 3) := by decide +kernel
theorem dX11_shows_59 : decode cX11_shows 59 = .ok (.invokestatic 119, 3) := by decide +kernel
theorem dX11_shows_62 : decode cX11_shows 62 = .ok (.ifCond .eq 7, 3) := by decide +kernel
theorem dX11_shows_65 : decode cX11_shows 65 = .ok (.iconst 0, 1) := by decide +kernel
theorem dX11_shows_66 : decode cX11_shows 66 = .ok (.goto 4, 3) := by decide +kernel
theorem dX11_shows_69 : decode cX11_shows 69 = .ok (.iconst 1, 1) := by decide +kernel
theorem dX11_shows_70 : decode cX11_shows 70 = .ok (.putfield 99, 3) := by decide +kernel
theorem dX11_shows_73 : decode cX11_shows 73 = .ok (.aload_n 0, 1) := by decide +kernel
theorem dX11_shows_74 : decode cX11_shows 74 = .ok (.getfield 99, 3) := by decide +kernel
theorem dX11_shows_77 : decode cX11_shows 77 = .ok (.ifCond .le 5, 3) := by decide +kernel
theorem dX11_shows_80 : decode cX11_shows 80 = .ok (.lconst 0, 1) := by decide +kernel
theorem dX11_shows_81 : decode cX11_shows 81 = .ok (.lreturn, 1) := by decide +kernel
theorem dX11_shows_82 : decode cX11_shows 82 = .ok (.aload_n 0, 1) := by decide +kernel
theorem dX11_shows_83 : decode cX11_shows 83 = .ok (.invokevirtual 147, 3) := by decide +kernel
theorem dX11_shows_86 : decode cX11_shows 86 = .ok (.aload_n 0, 1) := by decide +kernel
theorem dX11_shows_87 : decode cX11_shows 87 = .ok (.iload_n 1, 1) := by decide +kernel
theorem dX11_shows_88 : decode cX11_shows 88 = .ok (.iload_n 2, 1) := by decide +kernel
theorem dX11_shows_89 : decode cX11_shows 89 = .ok (.invokevirtual 156, 3) := by decide +kernel
theorem dX11_shows_92 : decode cX11_shows 92 = .ok (.aload_n 0, 1) := by decide +kernel
theorem dX11_shows_93 : decode cX11_shows 93 = .ok (.getfield 35, 3) := by decide +kernel
theorem dX11_shows_96 : decode cX11_shows 96 = .ok (.aload_n 0, 1) := by decide +kernel
theorem dX11_shows_97 : decode cX11_shows 97 = .ok (.getfield 23, 3) := by decide +kernel
theorem dX11_shows_100 : decode cX11_shows 100 = .ok (.iload_n 3, 1) := by decide +kernel
theorem dX11_shows_101 : decode cX11_shows 101 = .ok (.iaload, 1) := by decide +kernel
theorem dX11_shows_102 : decode cX11_shows 102 = .ok (.laload, 1) := by decide +kernel
theorem dX11_shows_103 : decode cX11_shows 103 = .ok (.aload_n 0, 1) := by decide +kernel
