set_option maxRecDepth 20000 in
theorem ggX3_init_X8_init : GoodIn wsX3_init wsX8_init := goodIn_r _ [22, 23, 2, 3, 16, 24, 25, 26, 27, 28, 29, 40, 41, 42, 43, 44, 45, 46] (by eq_refl) (by decide +kernel)
set_option maxRecDepth 20000 in
theorem gX3_init_X8_init_n11 : GoodIn wsX3_init (wsX8_init) := ggX3_init_X8_init
set_option maxRecDepth 20000 in
theorem ggX3_init_X0_init : GoodIn wsX3_init wsX0_init := goodIn_r _ [31, 32, 2, 3, 33, 13, 14, 34, 35, 36, 37, 38, 39, 57, 58, 59, 54, 55, 56] (by eq_refl) (by decide +kernel)
set_option maxRecDepth 20000 in
theorem gX3_init_X0_init_n20 : GoodIn wsX3_init (wsX0_init) := ggX3_init_X0_init
set_option maxRecDepth 20000 in
theorem ggX3_init_X9_init : GoodIn wsX3_init wsX9_init := goodIn_r _ [38, 39, 2, 3] (by eq_refl) (by decide +kernel)
set_option maxRecDepth 20000 in
theorem gX3_init_X9_init_n27 : GoodIn wsX3_init (wsX9_init) := ggX3_init_X9_init
theorem dX3_init_0 : decode cX3_init 0 = .ok (.aload_n 0, 1) := by decide +kernel
theorem dX3_init_1 : decode cX3_init 1 = .ok (.invokespecial 3, 3) := by decide +kernel
theorem dX3_init_4 : decode cX3_init 4 = .ok (.aload_n 0, 1) := by decide +kernel
theorem dX3_init_5 : decode cX3_init 5 = .ok (.new 9, 3) := by decide +kernel
theorem dX3_init_8 : decode cX3_init 8 = .ok (.dup, 1) := by decide +kernel
theorem dX3_init_9 : decode cX3_init 9 = .ok (.invokespecial 11, 3) := by decide +kernel
theorem dX3_init_12 : decode cX3_init 12 = .ok (.putfield 12, 3) := by decide +kernel
theorem dX3_init_15 : decode cX3_init 15 = .ok (.aload_n 0, 1) := by decide +kernel
theorem dX3_init_16 : decode cX3_init 16 = .ok (.new 18, 3) := by decide +kernel
theorem dX3_init_19 : decode cX3_init 19 = .ok (.dup, 1) := by decide +kernel
theorem dX3_init_20 : decode cX3_init 20 = .ok (.invokespecial 20, 3) := by decide +kernel
theorem dX3_init_23 : decode cX3_init 23 = .ok (.putfield 21, 3) := by decide +kernel
theorem dX3_init_26 : decode cX3_init 26 = .ok (.aload_n 0, 1) := by decide +kernel
theorem dX3_init_27 : decode cX3_init 27 = .ok (.new 25, 3) := by decide +kernel
theorem dX3_init_30 : decode cX3_init 30 = .ok (.dup, 1) := by decide +kernel
theorem dX3_init_31 : decode cX3_init 31 = .ok (.invokespecial 27, 3) := by decide +kernel
theorem dX3_init_34 : decode cX3_init 34 = .ok (.putfield 28, 3) := by decide +kernel
theorem dX3_init_37 : decode cX3_init 37 = .ok (.aload_n 0, 1) := by decide +kernel
theorem dX3_init_38 : decode cX3_init 38 = .ok (.bipush 12, 2) := by decide +kernel
theorem dX3_init_40 : decode cX3_init 40 = .ok (.newarray .int, 2) := by decide +kernel
theorem dX3_init_42 : decode cX3_init 42 = .ok (.putfield 32, 3) := by decide +kernel
theorem dX3_init_45 : decode cX3_init 45 = .ok (.aload_n 0, 1) := by decide +kernel
theorem dX3_init_46 : decode cX3_init 46 = .ok (.aload_n 1, 1) := by decide +kernel
theorem dX3_init_47 : decode cX3_init 47 = .ok (.putfield 36, 3) := by decide +kernel
theorem dX3_init_50 : decode cX3_init 50 = .ok (.aload_n 0, 1) := by decide +kernel
theorem dX3_init_51 : decode cX3_init 51 = .ok (.aload_n 2, 1) := by decide +kernel
theorem dX3_init_52 : decode cX3_init 52 = .ok (.putfield 40, 3) := by decide +kernel
theorem dX3_init_55 : decode cX3_init 55 = .ok (.aload_n 0, 1) := by decide +kernel
theorem dX3_init_56 : decode cX3_init 56 = .ok (.aload_n 3, 1) := by decide +kernel
theorem dX3_init_57 : decode cX3_init 57 = .ok (.putfield 44, 3) := by decide +kernel
theorem dX3_init_60 : decode cX3_init 60 = .ok (.return_, 1) := by decide +kernel
theorem dX3_suspects_0 : decode cX3_suspects 0 = .ok (.aload_n 0, 1) := by decide +kernel
theorem dX3_suspects_1 : decode cX3_suspects 1 = .ok (.getfield 12, 3) := by decide +kernel
theorem dX3_suspects_4 : decode cX3_suspects 4 = .ok (.areturn, 1) := by decide +kernel
theorem dX3_bestPair_0 : decode cX3_bestPair 0 = .ok (.aload_n 0, 1) := by decide +kernel
theorem dX3_bestPair_1 : decode cX3_bestPair 1 = .ok (.getfield 21, 3) := by decide +kernel
theorem dX3_bestPair_4 : decode cX3_bestPair 4 = .ok (.areturn, 1) := by decide +kernel
set_option maxRecDepth 20000 in
theorem ggX3_firstNet_X8_number : GoodIn wsX3_firstNet wsX8_number := goodIn_r _ [7, 8, 9, 32, 33, 34, 35, 36, 37, 38] (by eq_refl) (by decide +kernel)
set_option maxRecDepth 20000 in
theorem gX3_firstNet_X8_number : GoodIn wsX3_firstNet (wsV RX3 48 RX8 yX8_number wsX8_number) := goodIn_app (goodIn_r _ [3, 4, 5, 6] (by eq_refl) (by decide +kernel)) ggX3_firstNet_X8_number
set_option maxRecDepth 20000 in
theorem ggX3_firstNet_X8_isStuck : GoodIn wsX3_firstNet wsX8_isStuck := goodIn_r _ [13, 14, 15, 16, 6, 17, 18, 9, 32, 33, 34, 35, 36, 37, 38] (by eq_refl) (by decide +kernel)
set_option maxRecDepth 20000 in
theorem gX3_firstNet_X8_isStuck : GoodIn wsX3_firstNet (wsV RX3 52 RX8 yX8_isStuck wsX8_isStuck) := goodIn_app (goodIn_r _ [10, 11, 12, 6] (by eq_refl) (by decide +kernel)) ggX3_firstNet_X8_isStuck
set_option maxRecDepth 20000 in
theorem ggX3_firstNet_X4_first : GoodIn wsX3_firstNet wsX4_first := goodIn_r _ [23, 24, 39, 40, 41] (by eq_refl) (by decide +kernel)
set_option maxRecDepth 20000 in
theorem gX3_firstNet_X4_first : GoodIn wsX3_firstNet (wsV RX3 56 RX4 yX4_first wsX4_first) := goodIn_app (goodIn_r _ [19, 20, 21, 22] (by eq_refl) (by decide +kernel)) ggX3_firstNet_X4_first
theorem dX3_firstNet_0 : decode cX3_firstNet 0 = .ok (.aload_n 0, 1) := by decide +kernel
theorem dX3_firstNet_1 : decode cX3_firstNet 1 = .ok (.getfield 12, 3) := by decide +kernel
theorem dX3_firstNet_4 : decode cX3_firstNet 4 = .ok (.iload_n 1, 1) := by decide +kernel
theorem dX3_firstNet_5 : decode cX3_firstNet 5 = .ok (.invokevirtual 48, 3) := by decide +kernel
theorem dX3_firstNet_8 : decode cX3_firstNet 8 = .ok (.istore_n 2, 1) := by decide +kernel
theorem dX3_firstNet_9 : decode cX3_firstNet 9 = .ok (.aload_n 0, 1) := by decide +kernel
theorem dX3_firstNet_10 : decode cX3_firstNet 10 = .ok (.getfield 12, 3) := by decide +kernel
theorem dX3_firstNet_13 : decode cX3_firstNet 13 = .ok (.iload_n 1, 1) := by decide +kernel
theorem dX3_firstNet_14 : decode cX3_firstNet 14 = .ok (.invokevirtual 52, 3) := by decide +kernel
theorem dX3_firstNet_17 : decode cX3_firstNet 17 = .ok (.ifCond .eq 7, 3) := by decide +kernel
theorem dX3_firstNet_20 : decode cX3_firstNet 20 = .ok (.iload_n 2, 1) := by decide +kernel
theorem dX3_firstNet_21 : decode cX3_firstNet 21 = .ok (.goto 11, 3) := by decide +kernel
theorem dX3_firstNet_24 : decode cX3_firstNet 24 = .ok (.aload_n 0, 1) := by decide +kernel
theorem dX3_firstNet_25 : decode cX3_firstNet 25 = .ok (.getfield 44, 3) := by decide +kernel
theorem dX3_firstNet_28 : decode cX3_firstNet 28 = .ok (.iload_n 2, 1) := by decide +kernel
theorem dX3_firstNet_29 : decode cX3_firstNet 29 = .ok (.invokevirtual 56, 3) := by decide +kernel
theorem dX3_firstNet_32 : decode cX3_firstNet 32 = .ok (.ireturn, 1) := by decide +kernel
set_option maxRecDepth 20000 in
theorem ggX3_secondNet_X8_isStuck : GoodIn wsX3_secondNet wsX8_isStuck := goodIn_r _ [7, 8, 9, 10, 6, 11, 12, 13, 32, 33, 34, 35, 36, 37, 38] (by eq_refl) (by decide +kernel)
set_option maxRecDepth 20000 in
theorem gX3_secondNet_X8_isStuck : GoodIn wsX3_secondNet (wsV RX3 52 RX8 yX8_isStuck wsX8_isStuck) := goodIn_app (goodIn_r _ [3, 4, 5, 6] (by eq_refl) (by decide +kernel)) ggX3_secondNet_X8_isStuck
set_option maxRecDepth 20000 in
theorem ggX3_secondNet_X8_number : GoodIn wsX3_secondNet wsX8_number := goodIn_r _ [17, 18, 13, 32, 33, 34, 35, 36, 37, 38] (by eq_refl) (by decide +kernel)
set_option maxRecDepth 20000 in
theorem gX3_secondNet_X8_number : GoodIn wsX3_secondNet (wsV RX3 48 RX8 yX8_number wsX8_number) := goodIn_app (goodIn_r _ [14, 15, 16, 6] (by eq_refl) (by decide +kernel)) ggX3_secondNet_X8_number
set_option maxRecDepth 20000 in
theorem ggX3_secondNet_X4_second : GoodIn wsX3_secondNet wsX4_second := goodIn_r _ [23, 24, 39, 40, 41] (by eq_refl) (by decide +kernel)
set_option maxRecDepth 20000 in
theorem gX3_secondNet_X4_second : GoodIn wsX3_secondNet (wsV RX3 61 RX4 yX4_second wsX4_second) := goodIn_app (goodIn_r _ [19, 20, 21, 22] (by eq_refl) (by decide +kernel)) ggX3_secondNet_X4_second
theorem dX3_secondNet_0 : decode cX3_secondNet 0 = .ok (.aload_n 0, 1) := by decide +kernel
theorem dX3_secondNet_1 : decode cX3_secondNet 1 = .ok (.getfield 12, 3) := by decide +kernel
theorem dX3_secondNet_4 : decode cX3_secondNet 4 = .ok (.iload_n 1, 1) := by decide +kernel
theorem dX3_secondNet_5 : decode cX3_secondNet 5 = .ok (.invokevirtual 52, 3) := by decide +kernel
theorem dX3_secondNet_8 : decode cX3_secondNet 8 = .ok (.ifCond .eq 7, 3) := by decide +kernel
theorem dX3_secondNet_11 : decode cX3_secondNet 11 = .ok (.iconst (-1), 1) := by decide +kernel
theorem dX3_secondNet_12 : decode cX3_secondNet 12 = .ok (.goto 18, 3) := by decide +kernel
theorem dX3_secondNet_15 : decode cX3_secondNet 15 = .ok (.aload_n 0, 1) := by decide +kernel
theorem dX3_secondNet_16 : decode cX3_secondNet 16 = .ok (.getfield 44, 3) := by decide +kernel
theorem dX3_secondNet_19 : decode cX3_secondNet 19 = .ok (.aload_n 0, 1) := by decide +kernel
theorem dX3_secondNet_20 : decode cX3_secondNet 20 = .ok (.getfield 12, 3) := by decide +kernel
theorem dX3_secondNet_23 : decode cX3_secondNet 23 = .ok (.iload_n 1, 1) := by decide +kernel
theorem dX3_secondNet_24 : decode cX3_secondNet 24 = .ok (.invokevirtual 48, 3) := by decide +kernel
theorem dX3_secondNet_27 : decode cX3_secondNet 27 = .ok (.invokevirtual 61, 3) := by decide +kernel
theorem dX3_secondNet_30 : decode cX3_secondNet 30 = .ok (.ireturn, 1) := by decide +kernel
set_option maxRecDepth 20000 in
theorem ggX3_hasFault_X3_faultsOf : GoodIn wsX3_hasFault wsX3_faultsOf := goodIn_r _ [5, 6, 7, 8, 9, 10, 11, 12, 13, 14, 15, 16, 17, 18, 19, 20, 21, 22, 23, 24, 25, 26, 27, 28, 29, 30, 31, 32, 33, 34, 35, 36, 37, 38] (by eq_refl) (by decide +kernel)
set_option maxRecDepth 20000 in
theorem gX3_hasFault_X3_faultsOf : GoodIn wsX3_hasFault (wsV RX3 64 RX3 yX3_faultsOf wsX3_faultsOf) := goodIn_app (goodIn_r _ [1, 2, 3, 4] (by eq_refl) (by decide +kernel)) ggX3_hasFault_X3_faultsOf
theorem dX3_hasFault_0 : decode cX3_hasFault 0 = .ok (.iload_n 1, 1) := by decide +kernel
theorem dX3_hasFault_1 : decode cX3_hasFault 1 = .ok (.ifCond .lt 25, 3) := by decide +kernel
theorem dX3_hasFault_4 : decode cX3_hasFault 4 = .ok (.iload_n 1, 1) := by decide +kernel
theorem dX3_hasFault_5 : decode cX3_hasFault 5 = .ok (.iconst 3, 1) := by decide +kernel
theorem dX3_hasFault_6 : decode cX3_hasFault 6 = .ok (.if_icmp .gt 20, 3) := by decide +kernel
theorem dX3_hasFault_9 : decode cX3_hasFault 9 = .ok (.iload_n 2, 1) := by decide +kernel
theorem dX3_hasFault_10 : decode cX3_hasFault 10 = .ok (.ifCond .lt 16, 3) := by decide +kernel
theorem dX3_hasFault_13 : decode cX3_hasFault 13 = .ok (.iload_n 2, 1) := by decide +kernel
theorem dX3_hasFault_14 : decode cX3_hasFault 14 = .ok (.aload_n 0, 1) := by decide +kernel
theorem dX3_hasFault_15 : decode cX3_hasFault 15 = .ok (.iload_n 1, 1) := by decide +kernel
theorem dX3_hasFault_16 : decode cX3_hasFault 16 = .ok (.invokevirtual 64, 3) := by decide +kernel
theorem dX3_hasFault_19 : decode cX3_hasFault 19 = .ok (.if_icmp .ge 7, 3) := by decide +kernel
theorem dX3_hasFault_22 : decode cX3_hasFault 22 = .ok (.iconst 1, 1) := by decide +kernel
theorem dX3_hasFault_23 : decode cX3_hasFault 23 = .ok (.goto 4, 3) := by decide +kernel
theorem dX3_hasFault_26 : decode cX3_hasFault 26 = .ok (.iconst 0, 1) := by decide +kernel
theorem dX3_hasFault_27 : decode cX3_hasFault 27 = .ok (.ireturn, 1) := by decide +kernel
set_option maxRecDepth 20000 in
theorem ggX3_shownBy_X3_tryFault : GoodIn wsX3_shownBy wsX3_tryFault := goodIn_r _ [7, 1, 8, 9, 10, 11, 12, 13, 14, 15, 16, 17, 18, 19, 20, 21, 22, 23, 24, 25, 26, 27, 28, 29, 30, 31, 32, 33, 34, 35, 36, 37, 38, 39, 40, 41, 42, 43, 44, 45, 46, 47, 48, 49, 50, 51, 52, 53, 54, 70, 71, 72, 73, 74, 75, 76, 77, 78, 79, 80, 81, 82, 83, 84, 85, 86, 87, 88] (by eq_refl) (by decide +kernel)
set_option maxRecDepth 20000 in
theorem gX3_shownBy_X3_tryFault : GoodIn wsX3_shownBy (wsV RX3 67 RX3 yX3_tryFault wsX3_tryFault) := goodIn_app (goodIn_r _ [3, 4, 5, 6] (by eq_refl) (by decide +kernel)) ggX3_shownBy_X3_tryFault
set_option maxRecDepth 20000 in
theorem ggX3_shownBy_X5_net : GoodIn wsX3_shownBy wsX5_net := goodIn_r _ [59, 60, 89, 90, 91] (by eq_refl) (by decide +kernel)
set_option maxRecDepth 20000 in
theorem gX3_shownBy_X5_net : GoodIn wsX3_shownBy (wsV RX3 71 RX5 yX5_net wsX5_net) := goodIn_app (goodIn_r _ [55, 56, 57, 58] (by eq_refl) (by decide +kernel)) ggX3_shownBy_X5_net
set_option maxRecDepth 20000 in
theorem ggX3_shownBy_X2_changed : GoodIn wsX3_shownBy wsX2_changed := goodIn_r _ [64, 22, 23, 65, 66, 67, 12, 68, 69, 17, 77, 78, 79, 80, 81, 82, 83, 84, 85] (by eq_refl) (by decide +kernel)
set_option maxRecDepth 20000 in
theorem gX3_shownBy_X2_changed : GoodIn wsX3_shownBy (wsV RX3 76 RX2 yX2_changed wsX2_changed) := goodIn_app (goodIn_r _ [61, 62, 63, 12] (by eq_refl) (by decide +kernel)) ggX3_shownBy_X2_changed
theorem dX3_shownBy_0 : decode cX3_shownBy 0 = .ok (.aload_n 0, 1) := by decide +kernel
theorem dX3_shownBy_1 : decode cX3_shownBy 1 = .ok (.iload_n 1, 1) := by decide +kernel
theorem dX3_shownBy_2 : decode cX3_shownBy 2 = .ok (.iload_n 2, 1) := by decide +kernel
theorem dX3_shownBy_3 : decode cX3_shownBy 3 = .ok (.invokevirtual 67, 3) := by decide +kernel
theorem dX3_shownBy_6 : decode cX3_shownBy 6 = .ok (.aload_n 0, 1) := by decide +kernel
theorem dX3_shownBy_7 : decode cX3_shownBy 7 = .ok (.getfield 36, 3) := by decide +kernel
theorem dX3_shownBy_10 : decode cX3_shownBy 10 = .ok (.aload_n 0, 1) := by decide +kernel
theorem dX3_shownBy_11 : decode cX3_shownBy 11 = .ok (.getfield 40, 3) := by decide +kernel
theorem dX3_shownBy_14 : decode cX3_shownBy 14 = .ok (.iload_n 3, 1) := by decide +kernel
theorem dX3_shownBy_15 : decode cX3_shownBy 15 = .ok (.invokevirtual 71, 3) := by decide +kernel
theorem dX3_shownBy_18 : decode cX3_shownBy 18 = .ok (.invokevirtual 76, 3) := by decide +kernel
theorem dX3_shownBy_21 : decode cX3_shownBy 21 = .ok (.lreturn, 1) := by decide +kernel
set_option maxRecDepth 20000 in
theorem ggX3_find_X3_findSuspects : GoodIn wsX3_find wsX3_findSuspects := goodIn_r _ [5, 6, 7, 8, 9, 10, 11, 12, 13, 14, 15, 16, 4, 17, 18, 19, 20, 21, 22, 23, 24, 25, 26, 27, 28, 29, 30, 31, 32, 33, 34, 35, 36, 37, 38, 39, 40, 41, 42, 43, 44, 45, 46, 47, 48, 49, 50, 51, 52, 53, 54, 55, 56, 57, 58, 59, 60, 61, 62, 63, 64, 65, 66, 67, 68, 69, 70, 71, 72, 73, 74, 75, 76, 77, 78, 79, 80, 81, 82, 83, 84, 85, 86, 87, 88, 89, 90, 91, 92, 93, 94, 95, 96, 97, 98, 99, 100, 101, 102, 103, 104, 105, 106, 107, 108, 109, 110, 111, 112, 113, 114, 115, 116, 117, 118, 119, 120, 121, 122, 123, 124, 125, 126, 127, 128, 129, 130, 131, 132, 133, 134, 135, 136, 137, 138, 139, 140, 141, 142, 143, 144, 145, 146, 147, 148, 149, 150, 151, 152, 153, 154, 155, 156, 157, 158, 159, 160, 161, 162, 163, 164, 165, 166, 167, 168, 218, 219, 220, 221, 222, 223, 224, 225, 226, 227, 228, 229, 230, 231, 232, 233, 234, 235, 236, 237, 238, 239, 240, 241, 242, 243, 244, 245, 246, 247, 248, 249] (by eq_refl) (by decide +kernel)
set_option maxRecDepth 20000 in
theorem gX3_find_X3_findSuspects : GoodIn wsX3_find (wsV RX3 82 RX3 yX3_findSuspects wsX3_findSuspects) := goodIn_app (goodIn_r _ [1, 2, 3, 4] (by eq_refl) (by decide +kernel)) ggX3_find_X3_findSuspects
set_option maxRecDepth 20000 in
theorem ggX3_find_X3_findBestPair : GoodIn wsX3_find wsX3_findBestPair := goodIn_r _ [172, 173, 174, 175, 176, 177, 178, 179, 180, 181, 182, 183, 90, 91, 92, 93, 94, 95, 96, 184, 185, 186, 4, 187, 6, 188, 189, 190, 11, 191, 13, 192, 193, 194, 195, 196, 197, 198, 199, 138, 143, 200, 201, 202, 203, 18, 7, 204, 205, 206, 207, 139, 208, 36, 37, 38, 23, 39, 40, 41, 42, 43, 44, 45, 46, 47, 48, 49, 25, 50, 51, 52, 53, 54, 55, 56, 57, 58, 59, 60, 61, 62, 63, 64, 79, 80, 81, 82, 83, 84, 85, 86, 87, 88, 89, 97, 98, 99, 100, 101, 102, 103, 104, 105, 106, 107, 108, 109, 110, 111, 112, 113, 114, 115, 116, 117, 118, 119, 120, 121, 122, 123, 124, 125, 126, 127, 128, 129, 130, 131, 132, 133, 209, 210, 211, 212, 213, 166, 167, 168, 214, 215, 216, 217, 218, 219, 220, 221, 222, 223, 224, 250, 251, 252, 244, 245, 246, 225, 226, 227, 228, 229, 230, 231, 232, 233, 234, 235, 236, 237, 238, 239, 240, 247, 248, 249] (by eq_refl) (by decide +kernel)
set_option maxRecDepth 20000 in
theorem gX3_find_X3_findBestPair : GoodIn wsX3_find (wsV RX3 85 RX3 yX3_findBestPair wsX3_findBestPair) := goodIn_app (goodIn_r _ [169, 170, 171, 4] (by eq_refl) (by decide +kernel)) ggX3_find_X3_findBestPair
theorem dX3_find_0 : decode cX3_find 0 = .ok (.aload_n 0, 1) := by decide +kernel
theorem dX3_find_1 : decode cX3_find 1 = .ok (.invokevirtual 82, 3) := by decide +kernel
theorem dX3_find_4 : decode cX3_find 4 = .ok (.aload_n 0, 1) := by decide +kernel
theorem dX3_find_5 : decode cX3_find 5 = .ok (.invokevirtual 85, 3) := by decide +kernel
theorem dX3_find_8 : decode cX3_find 8 = .ok (.return_, 1) := by decide +kernel
set_option maxRecDepth 20000 in
theorem ggX3_findSuspects_X8_reset : GoodIn wsX3_findSuspects wsX8_reset := goodIn_r _ [7, 8, 172, 173, 174, 175, 176, 177, 178] (by eq_refl) (by decide +kernel)
set_option maxRecDepth 20000 in
theorem gX3_findSuspects_X8_reset : GoodIn wsX3_findSuspects (wsV RX3 88 RX8 yX8_reset wsX8_reset) := goodIn_app (goodIn_r _ [3, 4, 5, 6] (by eq_refl) (by decide +kernel)) ggX3_findSuspects_X8_reset
set_option maxRecDepth 20000 in
theorem ggX3_findSuspects_X3_faultsOf : GoodIn wsX3_findSuspects wsX3_faultsOf := goodIn_r _ [13, 14, 15, 16, 17, 18, 19, 20, 21, 22, 23, 24, 25, 26, 27, 165, 166, 167, 168, 169, 170, 171, 179, 180, 181, 182, 183, 184, 185, 186, 187, 188, 189, 190] (by eq_refl) (by decide +kernel)
set_option maxRecDepth 20000 in
theorem gX3_findSuspects_X3_faultsOf : GoodIn wsX3_findSuspects (wsV RX3 64 RX3 yX3_faultsOf wsX3_faultsOf) := goodIn_app (goodIn_r _ [9, 10, 11, 12] (by eq_refl) (by decide +kernel)) ggX3_findSuspects_X3_faultsOf
set_option maxRecDepth 20000 in
theorem ggX3_findSuspects_X3_tryFault : GoodIn wsX3_findSuspects wsX3_tryFault := goodIn_r _ [31, 14, 15, 32, 33, 34, 19, 35, 36, 37, 38, 39, 40, 41, 42, 43, 44, 45, 21, 46, 47, 48, 49, 50, 51, 52, 53, 54, 55, 56, 57, 58, 59, 60, 61, 62, 63, 25, 64, 65, 66, 67, 68, 69, 70, 71, 72, 73, 74, 165, 166, 167, 168, 169, 170, 171, 179, 180, 181, 182, 183, 184, 185, 186, 187, 188, 189, 190] (by eq_refl) (by decide +kernel)
set_option maxRecDepth 20000 in
theorem gX3_findSuspects_X3_tryFault : GoodIn wsX3_findSuspects (wsV RX3 67 RX3 yX3_tryFault wsX3_tryFault) := goodIn_app (goodIn_r _ [28, 29, 30, 12] (by eq_refl) (by decide +kernel)) ggX3_findSuspects_X3_tryFault
set_option maxRecDepth 20000 in
theorem ggX3_findSuspects_X3_compareWithFails : GoodIn wsX3_findSuspects wsX3_compareWithFails := goodIn_r _ [78, 14, 2, 79, 80, 81, 82, 19, 83, 84, 39, 85, 86, 87, 88, 89, 90, 91, 92, 93, 94, 95, 96, 97, 98, 99, 100, 101, 102, 103, 104, 105, 106, 107, 44, 45, 108, 109, 110, 111, 112, 113, 114, 115, 116, 117, 118, 119, 120, 121, 122, 123, 124, 125, 165, 166, 167, 168, 169, 170, 171, 179, 180, 181, 182, 183, 184, 185, 186, 187, 191, 192, 193, 194, 195, 196] (by eq_refl) (by decide +kernel)
set_option maxRecDepth 20000 in
theorem gX3_findSuspects_X3_compareWithFails : GoodIn wsX3_findSuspects (wsV RX3 91 RX3 yX3_compareWithFails wsX3_compareWithFails) := goodIn_app (goodIn_r _ [75, 76, 77, 12] (by eq_refl) (by decide +kernel)) ggX3_findSuspects_X3_compareWithFails
set_option maxRecDepth 20000 in
theorem ggX3_findSuspects_X9_explained : GoodIn wsX3_findSuspects wsX9_explained := goodIn_r _ [129, 90, 191, 192, 193] (by eq_refl) (by decide +kernel)
set_option maxRecDepth 20000 in
theorem gX3_findSuspects_X9_explained : GoodIn wsX3_findSuspects (wsV RX3 94 RX9 yX9_explained wsX9_explained) := goodIn_app (goodIn_r _ [126, 127, 128, 88] (by eq_refl) (by decide +kernel)) ggX3_findSuspects_X9_explained
set_option maxRecDepth 20000 in
theorem ggX3_findSuspects_X8_add : GoodIn wsX3_findSuspects wsX8_add := goodIn_r _ [133, 134, 8, 135, 136, 137, 138, 139, 140, 127, 128, 88, 129, 90, 141, 142, 143, 144, 91, 145, 146, 147, 148, 92, 149, 150, 151, 6, 152, 153, 154, 155, 156, 157, 158, 159, 160, 161, 162, 163, 164, 172, 173, 174, 175, 176, 177, 178, 191, 192, 193] (by eq_refl) (by decide +kernel)
set_option maxRecDepth 20000 in
theorem gX3_findSuspects_X8_add : GoodIn wsX3_findSuspects (wsV RX3 98 RX8 yX8_add wsX8_add) := goodIn_app (goodIn_r _ [130, 131, 132, 6] (by eq_refl) (by decide +kernel)) ggX3_findSuspects_X8_add
theorem dX3_findSuspects_0 : decode cX3_findSuspects 0 = .ok (.aload_n 0, 1) := by decide +kernel
theorem dX3_findSuspects_1 : decode cX3_findSuspects 1 = .ok (.getfield 12, 3) := by decide +kernel
theorem dX3_findSuspects_4 : decode cX3_findSuspects 4 = .ok (.invokevirtual 88, 3) := by decide +kernel
theorem dX3_findSuspects_7 : decode cX3_findSuspects 7 = .ok (.iconst 0, 1) := by decide +kernel
theorem dX3_findSuspects_8 : decode cX3_findSuspects 8 = .ok (.istore_n 1, 1) := by decide +kernel
theorem dX3_findSuspects_9 : decode cX3_findSuspects 9 = .ok (.iload_n 1, 1) := by decide +kernel
theorem dX3_findSuspects_10 : decode cX3_findSuspects 10 = .ok (.iconst 3, 1) := by decide +kernel
theorem dX3_findSuspects_11 : decode cX3_findSuspects 11 = .ok (.if_icmp .gt 61, 3) := by decide +kernel
theorem dX3_findSuspects_14 : decode cX3_findSuspects 14 = .ok (.aload_n 0, 1) := by decide +kernel
theorem dX3_findSuspects_15 : decode cX3_findSuspects 15 = .ok (.iload_n 1, 1) := by decide +kernel
theorem dX3_findSuspects_16 : decode cX3_findSuspects 16 = .ok (.invokevirtual 64, 3) := by decide +kernel
theorem dX3_findSuspects_19 : decode cX3_findSuspects 19 = .ok (.istore_n 2, 1) := by decide +kernel
theorem dX3_findSuspects_20 : decode cX3_findSuspects 20 = .ok (.iconst 0, 1) := by decide +kernel
theorem dX3_findSuspects_21 : decode cX3_findSuspects 21 = .ok (.istore_n 3, 1) := by decide +kernel
theorem dX3_findSuspects_22 : decode cX3_findSuspects 22 = .ok (.iload_n 3, 1) := by decide +kernel
theorem dX3_findSuspects_23 : decode cX3_findSuspects 23 = .ok (.iload_n 2, 1) := by decide +kernel
theorem dX3_findSuspects_24 : decode cX3_findSuspects 24 = .ok (.if_icmp .ge 42, 3) := by decide +kernel
theorem dX3_findSuspects_27 : decode cX3_findSuspects 27 = .ok (.aload_n 0, 1) := by decide +kernel
theorem dX3_findSuspects_28 : decode cX3_findSuspects 28 = .ok (.iload_n 1, 1) := by decide +kernel
theorem dX3_findSuspects_29 : decode cX3_findSuspects 29 = .ok (.iload_n 3, 1) := by decide +kernel
theorem dX3_findSuspects_30 : decode cX3_findSuspects 30 = .ok (.invokevirtual 67, 3) := by decide +kernel
theorem dX3_findSuspects_33 : decode cX3_findSuspects 33 = .ok (.aload_n 0, 1) := by decide +kernel
theorem dX3_findSuspects_34 : decode cX3_findSuspects 34 = .ok (.invokevirtual 91, 3) := by decide +kernel
theorem dX3_findSuspects_37 : decode cX3_findSuspects 37 = .ok (.aload_n 0, 1) := by decide +kernel
theorem dX3_findSuspects_38 : decode cX3_findSuspects 38 = .ok (.getfield 28, 3) := by decide +kernel
theorem dX3_findSuspects_41 : decode cX3_findSuspects 41 = .ok (.invokevirtual 94, 3) := by decide +kernel
theorem dX3_findSuspects_44 : decode cX3_findSuspects 44 = .ok (.ifCond .le 16, 3) := by decide +kernel
theorem dX3_findSuspects_47 : decode cX3_findSuspects 47 = .ok (.aload_n 0, 1) := by decide +kernel
theorem dX3_findSuspects_48 : decode cX3_findSuspects 48 = .ok (.getfield 12, 3) := by decide +kernel
theorem dX3_findSuspects_51 : decode cX3_findSuspects 51 = .ok (.iload_n 1, 1) := by decide +kernel
theorem dX3_findSuspects_52 : decode cX3_findSuspects 52 = .ok (.iload_n 3, 1) := by decide +kernel
theorem dX3_findSuspects_53 : decode cX3_findSuspects 53 = .ok (.aload_n 0, 1) := by decide +kernel
theorem dX3_findSuspects_54 : decode cX3_findSuspects 54 = .ok (.getfield 28, 3) := by decide +kernel
theorem dX3_findSuspects_57 : decode cX3_findSuspects 57 = .ok (.invokevirtual 98, 3) := by decide +kernel
theorem dX3_findSuspects_60 : decode cX3_findSuspects 60 = .ok (.iinc 3 1, 3) := by decide +kernel
theorem dX3_findSuspects_63 : decode cX3_findSuspects 63 = .ok (.goto (-41), 3) := by decide +kernel
theorem dX3_findSuspects_66 : decode cX3_findSuspects 66 = .ok (.iinc 1 1, 3) := by decide +kernel
theorem dX3_findSuspects_69 : decode cX3_findSuspects 69 = .ok (.goto (-60), 3) := by decide +kernel
theorem dX3_findSuspects_72 : decode cX3_findSuspects 72 = .ok (.return_, 1) := by decide +kernel
set_option maxRecDepth 20000 in
theorem ggX3_findBestPair_X0_reset : GoodIn wsX3_findBestPair wsX0_reset := goodIn_r _ [7, 8, 9, 10, 11, 12, 13, 14, 15, 16, 17, 18, 151, 152, 153, 154, 155, 156] (by eq_refl) (by decide +kernel)
set_option maxRecDepth 20000 in
theorem gX3_findBestPair_X0_reset : GoodIn wsX3_findBestPair (wsV RX3 102 RX0 yX0_reset wsX0_reset) := goodIn_app (goodIn_r _ [3, 4, 5, 6] (by eq_refl) (by decide +kernel)) ggX3_findBestPair_X0_reset
set_option maxRecDepth 20000 in
theorem ggX3_findBestPair_X3_chooseForPairs : GoodIn wsX3_findBestPair wsX3_chooseForPairs := goodIn_r _ [23, 24, 2, 25, 26, 27, 28, 29, 30, 31, 32, 33, 34, 35, 36, 37, 38, 39, 40, 144, 145, 146, 147, 148, 149, 150, 157, 158, 159, 160, 161, 162, 163] (by eq_refl) (by decide +kernel)
set_option maxRecDepth 20000 in
theorem gX3_findBestPair_X3_chooseForPairs : GoodIn wsX3_findBestPair (wsV RX3 103 RX3 yX3_chooseForPairs wsX3_chooseForPairs) := goodIn_app (goodIn_r _ [19, 20, 21, 22] (by eq_refl) (by decide +kernel)) ggX3_findBestPair_X3_chooseForPairs
set_option maxRecDepth 20000 in
theorem ggX3_findBestPair_X3_offerPair : GoodIn wsX3_findBestPair wsX3_offerPair := goodIn_r _ [44, 24, 45, 46, 1, 47, 48, 49, 28, 50, 51, 40, 52, 36, 37, 38, 39, 53, 54, 55, 56, 57, 58, 59, 60, 61, 62, 63, 64, 65, 66, 67, 68, 69, 70, 71, 72, 73, 74, 75, 76, 77, 78, 79, 80, 81, 82, 83, 84, 85, 86, 22, 87, 88, 89, 90, 91, 92, 93, 94, 12, 13, 14, 15, 16, 17, 18, 95, 96, 97, 98, 99, 100, 101, 102, 103, 104, 105, 106, 107, 108, 109, 110, 111, 112, 113, 114, 115, 116, 117, 118, 119, 120, 121, 122, 123, 124, 125, 126, 127, 128, 129, 130, 131, 132, 133, 134, 6, 135, 8, 10, 9, 136, 137, 138, 139, 140, 141, 142, 143, 144, 145, 146, 147, 148, 149, 150, 157, 158, 159, 160, 161, 162, 163, 164, 165, 166, 167, 168, 169, 170, 171, 172, 154, 155, 156, 173, 174, 175, 151, 152, 153] (by eq_refl) (by decide +kernel)
set_option maxRecDepth 20000 in
theorem gX3_findBestPair_X3_offerPair : GoodIn wsX3_findBestPair (wsV RX3 106 RX3 yX3_offerPair wsX3_offerPair) := goodIn_app (goodIn_r _ [41, 42, 43, 22] (by eq_refl) (by decide +kernel)) ggX3_findBestPair_X3_offerPair
theorem dX3_findBestPair_0 : decode cX3_findBestPair 0 = .ok (.aload_n 0, 1) := by decide +kernel
theorem dX3_findBestPair_1 : decode cX3_findBestPair 1 = .ok (.getfield 21, 3) := by decide +kernel
theorem dX3_findBestPair_4 : decode cX3_findBestPair 4 = .ok (.invokevirtual 102, 3) := by decide +kernel
theorem dX3_findBestPair_7 : decode cX3_findBestPair 7 = .ok (.aload_n 0, 1) := by decide +kernel
theorem dX3_findBestPair_8 : decode cX3_findBestPair 8 = .ok (.invokevirtual 103, 3) := by decide +kernel
theorem dX3_findBestPair_11 : decode cX3_findBestPair 11 = .ok (.istore_n 1, 1) := by decide +kernel
theorem dX3_findBestPair_12 : decode cX3_findBestPair 12 = .ok (.iconst 0, 1) := by decide +kernel
theorem dX3_findBestPair_13 : decode cX3_findBestPair 13 = .ok (.istore_n 2, 1) := by decide +kernel
theorem dX3_findBestPair_14 : decode cX3_findBestPair 14 = .ok (.iload_n 2, 1) := by decide +kernel
theorem dX3_findBestPair_15 : decode cX3_findBestPair 15 = .ok (.iload_n 1, 1) := by decide +kernel
theorem dX3_findBestPair_16 : decode cX3_findBestPair 16 = .ok (.if_icmp .ge 40, 3) := by decide +kernel
theorem dX3_findBestPair_19 : decode cX3_findBestPair 19 = .ok (.iload_n 2, 1) := by decide +kernel
theorem dX3_findBestPair_20 : decode cX3_findBestPair 20 = .ok (.iconst 1, 1) := by decide +kernel
theorem dX3_findBestPair_21 : decode cX3_findBestPair 21 = .ok (.iadd, 1) := by decide +kernel
theorem dX3_findBestPair_22 : decode cX3_findBestPair 22 = .ok (.istore_n 3, 1) := by decide +kernel
theorem dX3_findBestPair_23 : decode cX3_findBestPair 23 = .ok (.iload_n 3, 1) := by decide +kernel
theorem dX3_findBestPair_24 : decode cX3_findBestPair 24 = .ok (.iload_n 1, 1) := by decide +kernel
theorem dX3_findBestPair_25 : decode cX3_findBestPair 25 = .ok (.if_icmp .ge 25, 3) := by decide +kernel
theorem dX3_findBestPair_28 : decode cX3_findBestPair 28 = .ok (.aload_n 0, 1) := by decide +kernel
theorem dX3_findBestPair_29 : decode cX3_findBestPair 29 = .ok (.aload_n 0, 1) := by decide +kernel
theorem dX3_findBestPair_30 : decode cX3_findBestPair 30 = .ok (.getfield 32, 3) := by decide +kernel
theorem dX3_findBestPair_33 : decode cX3_findBestPair 33 = .ok (.iload_n 2, 1) := by decide +kernel
theorem dX3_findBestPair_34 : decode cX3_findBestPair 34 = .ok (.iaload, 1) := by decide +kernel
theorem dX3_findBestPair_35 : decode cX3_findBestPair 35 = .ok (.aload_n 0, 1) := by decide +kernel
theorem dX3_findBestPair_36 : decode cX3_findBestPair 36 = .ok (.getfield 32, 3) := by decide +kernel
theorem dX3_findBestPair_39 : decode cX3_findBestPair 39 = .ok (.iload_n 3, 1) := by decide +kernel
theorem dX3_findBestPair_40 : decode cX3_findBestPair 40 = .ok (.iaload, 1) := by decide +kernel
theorem dX3_findBestPair_41 : decode cX3_findBestPair 41 = .ok (.invokevirtual 106, 3) := by decide +kernel
theorem dX3_findBestPair_44 : decode cX3_findBestPair 44 = .ok (.iinc 3 1, 3) := by decide +kernel
theorem dX3_findBestPair_47 : decode cX3_findBestPair 47 = .ok (.goto (-24), 3) := by decide +kernel
theorem dX3_findBestPair_50 : decode cX3_findBestPair 50 = .ok (.iinc 2 1, 3) := by decide +kernel
theorem dX3_findBestPair_53 : decode cX3_findBestPair 53 = .ok (.goto (-39), 3) := by decide +kernel
theorem dX3_findBestPair_56 : decode cX3_findBestPair 56 = .ok (.return_, 1) := by decide +kernel
set_option maxRecDepth 20000 in
theorem ggX3_chooseForPairs_X8_size : GoodIn wsX3_chooseForPairs wsX8_size := goodIn_r _ [7, 8, 26, 27, 28, 29, 30, 31, 32] (by eq_refl) (by decide +kernel)
set_option maxRecDepth 20000 in
theorem gX3_chooseForPairs_X8_size : GoodIn wsX3_chooseForPairs (wsV RX3 109 RX8 yX8_size wsX8_size) := goodIn_app (goodIn_r _ [3, 4, 5, 6] (by eq_refl) (by decide +kernel)) ggX3_chooseForPairs_X8_size
set_option maxRecDepth 20000 in
theorem ggX3_chooseForPairs_X8_isStuck : GoodIn wsX3_chooseForPairs wsX8_isStuck := goodIn_r _ [12, 13, 14, 15, 6, 16, 17, 18, 26, 27, 28, 29, 30, 31, 32] (by eq_refl) (by decide +kernel)
set_option maxRecDepth 20000 in
theorem gX3_chooseForPairs_X8_isStuck : GoodIn wsX3_chooseForPairs (wsV RX3 52 RX8 yX8_isStuck wsX8_isStuck) := goodIn_app (goodIn_r _ [9, 10, 11, 6] (by eq_refl) (by decide +kernel)) ggX3_chooseForPairs_X8_isStuck
theorem dX3_chooseForPairs_0 : decode cX3_chooseForPairs 0 = .ok (.iconst 0, 1) := by decide +kernel
theorem dX3_chooseForPairs_1 : decode cX3_chooseForPairs 1 = .ok (.istore_n 1, 1) := by decide +kernel
theorem dX3_chooseForPairs_2 : decode cX3_chooseForPairs 2 = .ok (.iconst 0, 1) := by decide +kernel
theorem dX3_chooseForPairs_3 : decode cX3_chooseForPairs 3 = .ok (.istore_n 2, 1) := by decide +kernel
theorem dX3_chooseForPairs_4 : decode cX3_chooseForPairs 4 = .ok (.iload_n 2, 1) := by decide +kernel
theorem dX3_chooseForPairs_5 : decode cX3_chooseForPairs 5 = .ok (.aload_n 0, 1) := by decide +kernel
theorem dX3_chooseForPairs_6 : decode cX3_chooseForPairs 6 = .ok (.getfield 12, 3) := by decide +kernel
theorem dX3_chooseForPairs_9 : decode cX3_chooseForPairs 9 = .ok (.invokevirtual 109, 3) := by decide +kernel
theorem dX3_chooseForPairs_12 : decode cX3_chooseForPairs 12 = .ok (.if_icmp .ge 36, 3) := by decide +kernel
theorem dX3_chooseForPairs_15 : decode cX3_chooseForPairs 15 = .ok (.iload_n 1, 1) := by decide +kernel
theorem dX3_chooseForPairs_16 : decode cX3_chooseForPairs 16 = .ok (.bipush 12, 2) := by decide +kernel
theorem dX3_chooseForPairs_18 : decode cX3_chooseForPairs 18 = .ok (.if_icmp .ge 30, 3) := by decide +kernel
theorem dX3_chooseForPairs_21 : decode cX3_chooseForPairs 21 = .ok (.aload_n 0, 1) := by decide +kernel
theorem dX3_chooseForPairs_22 : decode cX3_chooseForPairs 22 = .ok (.getfield 12, 3) := by decide +kernel
theorem dX3_chooseForPairs_25 : decode cX3_chooseForPairs 25 = .ok (.iload_n 2, 1) := by decide +kernel
theorem dX3_chooseForPairs_26 : decode cX3_chooseForPairs 26 = .ok (.invokevirtual 52, 3) := by decide +kernel
theorem dX3_chooseForPairs_29 : decode cX3_chooseForPairs 29 = .ok (.ifCond .eq 13, 3) := by decide +kernel
theorem dX3_chooseForPairs_32 : decode cX3_chooseForPairs 32 = .ok (.aload_n 0, 1) := by decide +kernel
theorem dX3_chooseForPairs_33 : decode cX3_chooseForPairs 33 = .ok (.getfield 32, 3) := by decide +kernel
theorem dX3_chooseForPairs_36 : decode cX3_chooseForPairs 36 = .ok (.iload_n 1, 1) := by decide +kernel
theorem dX3_chooseForPairs_37 : decode cX3_chooseForPairs 37 = .ok (.iload_n 2, 1) := by decide +kernel
theorem dX3_chooseForPairs_38 : decode cX3_chooseForPairs 38 = .ok (.iastore, 1) := by decide +kernel
theorem dX3_chooseForPairs_39 : decode cX3_chooseForPairs 39 = .ok (.iinc 1 1, 3) := by decide +kernel
theorem dX3_chooseForPairs_42 : decode cX3_chooseForPairs 42 = .ok (.iinc 2 1, 3) := by decide +kernel
theorem dX3_chooseForPairs_45 : decode cX3_chooseForPairs 45 = .ok (.goto (-41), 3) := by decide +kernel
theorem dX3_chooseForPairs_48 : decode cX3_chooseForPairs 48 = .ok (.iload_n 1, 1) := by decide +kernel
theorem dX3_chooseForPairs_49 : decode cX3_chooseForPairs 49 = .ok (.ireturn, 1) := by decide +kernel
set_option maxRecDepth 20000 in
theorem ggX3_offerPair_X8_number : GoodIn wsX3_offerPair wsX8_number := goodIn_r _ [9, 10, 11, 127, 128, 129, 130, 131, 132, 133] (by eq_refl) (by decide +kernel)
set_option maxRecDepth 20000 in
theorem gX3_offerPair_X8_number : GoodIn wsX3_offerPair (wsV RX3 48 RX8 yX8_number wsX8_number) := goodIn_app (goodIn_r _ [5, 6, 7, 8] (by eq_refl) (by decide +kernel)) ggX3_offerPair_X8_number
set_option maxRecDepth 20000 in
theorem ggX3_offerPair_X8_kind : GoodIn wsX3_offerPair wsX8_kind := goodIn_r _ [15, 16, 11, 127, 128, 129, 130, 131, 132, 133] (by eq_refl) (by decide +kernel)
set_option maxRecDepth 20000 in
theorem gX3_offerPair_X8_kind : GoodIn wsX3_offerPair (wsV RX3 112 RX8 yX8_kind wsX8_kind) := goodIn_app (goodIn_r _ [12, 13, 14, 8] (by eq_refl) (by decide +kernel)) ggX3_offerPair_X8_kind
set_option maxRecDepth 20000 in
theorem ggX3_offerPair_X2_holdStuck : GoodIn wsX3_offerPair wsX2_holdStuck := goodIn_r _ [21, 22, 23, 20, 24, 25, 26, 27, 28, 29, 30, 31, 32, 33, 34, 35, 36, 37, 38, 39, 40, 41, 42, 43, 44, 45, 46, 47, 134, 135, 136, 137, 138, 139, 140, 141, 142] (by eq_refl) (by decide +kernel)
set_option maxRecDepth 20000 in
theorem gX3_offerPair_X2_holdStuck : GoodIn wsX3_offerPair (wsV RX3 115 RX2 yX2_holdStuck wsX2_holdStuck) := goodIn_app (goodIn_r _ [17, 18, 19, 20] (by eq_refl) (by decide +kernel)) ggX3_offerPair_X2_holdStuck
set_option maxRecDepth 20000 in
theorem ggX3_offerPair_X3_compareWithFails : GoodIn wsX3_offerPair wsX3_compareWithFails := goodIn_r _ [52, 2, 3, 53, 54, 55, 56, 20, 57, 58, 25, 59, 60, 61, 62, 63, 64, 65, 66, 67, 68, 69, 70, 71, 72, 73, 74, 75, 76, 77, 78, 79, 80, 81, 30, 31, 82, 83, 84, 85, 86, 87, 88, 89, 90, 91, 92, 93, 94, 95, 96, 97, 98, 99, 120, 121, 122, 123, 124, 125, 126, 134, 135, 136, 137, 138, 139, 140, 141, 142, 143, 144, 145, 146, 147, 148] (by eq_refl) (by decide +kernel)
set_option maxRecDepth 20000 in
theorem gX3_offerPair_X3_compareWithFails : GoodIn wsX3_offerPair (wsV RX3 91 RX3 yX3_compareWithFails wsX3_compareWithFails) := goodIn_app (goodIn_r _ [48, 49, 50, 51] (by eq_refl) (by decide +kernel)) ggX3_offerPair_X3_compareWithFails
set_option maxRecDepth 20000 in
theorem ggX3_offerPair_X9_explained : GoodIn wsX3_offerPair wsX9_explained := goodIn_r _ [103, 64, 143, 144, 145] (by eq_refl) (by decide +kernel)
set_option maxRecDepth 20000 in
theorem gX3_offerPair_X9_explained : GoodIn wsX3_offerPair (wsV RX3 94 RX9 yX9_explained wsX9_explained) := goodIn_app (goodIn_r _ [100, 101, 102, 62] (by eq_refl) (by decide +kernel)) ggX3_offerPair_X9_explained
set_option maxRecDepth 20000 in
theorem ggX3_offerPair_X0_offer : GoodIn wsX3_offerPair wsX0_offer := goodIn_r _ [108, 109, 110, 111, 112, 113, 114, 62, 115, 65, 66, 116, 117, 118, 119, 64, 149, 150, 151, 143, 144, 145] (by eq_refl) (by decide +kernel)
set_option maxRecDepth 20000 in
theorem gX3_offerPair_X0_offer : GoodIn wsX3_offerPair (wsV RX3 119 RX0 yX0_offer wsX0_offer) := goodIn_app (goodIn_r _ [104, 105, 106, 107] (by eq_refl) (by decide +kernel)) ggX3_offerPair_X0_offer
theorem dX3_offerPair_0 : decode cX3_offerPair 0 = .ok (.aload_n 0, 1) := by decide +kernel
theorem dX3_offerPair_1 : decode cX3_offerPair 1 = .ok (.getfield 12, 3) := by decide +kernel
theorem dX3_offerPair_4 : decode cX3_offerPair 4 = .ok (.iload_n 1, 1) := by decide +kernel
theorem dX3_offerPair_5 : decode cX3_offerPair 5 = .ok (.invokevirtual 48, 3) := by decide +kernel
theorem dX3_offerPair_8 : decode cX3_offerPair 8 = .ok (.istore_n 3, 1) := by decide +kernel
theorem dX3_offerPair_9 : decode cX3_offerPair 9 = .ok (.aload_n 0, 1) := by decide +kernel
theorem dX3_offerPair_10 : decode cX3_offerPair 10 = .ok (.getfield 12, 3) := by decide +kernel
theorem dX3_offerPair_13 : decode cX3_offerPair 13 = .ok (.iload_n 2, 1) := by decide +kernel
theorem dX3_offerPair_14 : decode cX3_offerPair 14 = .ok (.invokevirtual 48, 3) := by decide +kernel
theorem dX3_offerPair_17 : decode cX3_offerPair 17 = .ok (.istore 4, 2) := by decide +kernel
theorem dX3_offerPair_19 : decode cX3_offerPair 19 = .ok (.iload_n 3, 1) := by decide +kernel
theorem dX3_offerPair_20 : decode cX3_offerPair 20 = .ok (.iload 4, 2) := by decide +kernel
theorem dX3_offerPair_22 : decode cX3_offerPair 22 = .ok (.if_icmp .ne 4, 3) := by decide +kernel
theorem dX3_offerPair_25 : decode cX3_offerPair 25 = .ok (.return_, 1) := by decide +kernel
theorem dX3_offerPair_26 : decode cX3_offerPair 26 = .ok (.aload_n 0, 1) := by decide +kernel
theorem dX3_offerPair_27 : decode cX3_offerPair 27 = .ok (.getfield 36, 3) := by decide +kernel
theorem dX3_offerPair_30 : decode cX3_offerPair 30 = .ok (.iload_n 3, 1) := by decide +kernel
theorem dX3_offerPair_31 : decode cX3_offerPair 31 = .ok (.aload_n 0, 1) := by decide +kernel
theorem dX3_offerPair_32 : decode cX3_offerPair 32 = .ok (.getfield 12, 3) := by decide +kernel
theorem dX3_offerPair_35 : decode cX3_offerPair 35 = .ok (.iload_n 1, 1) := by decide +kernel
theorem dX3_offerPair_36 : decode cX3_offerPair 36 = .ok (.invokevirtual 112, 3) := by decide +kernel
theorem dX3_offerPair_39 : decode cX3_offerPair 39 = .ok (.iload 4, 2) := by decide +kernel
theorem dX3_offerPair_41 : decode cX3_offerPair 41 = .ok (.aload_n 0, 1) := by decide +kernel
theorem dX3_offerPair_42 : decode cX3_offerPair 42 = .ok (.getfield 12, 3) := by decide +kernel
theorem dX3_offerPair_45 : decode cX3_offerPair 45 = .ok (.iload_n 2, 1) := by decide +kernel
theorem dX3_offerPair_46 : decode cX3_offerPair 46 = .ok (.invokevirtual 112, 3) := by decide +kernel
theorem dX3_offerPair_49 : decode cX3_offerPair 49 = .ok (.invokevirtual 115, 3) := by decide +kernel
theorem dX3_offerPair_52 : decode cX3_offerPair 52 = .ok (.aload_n 0, 1) := by decide +kernel
theorem dX3_offerPair_53 : decode cX3_offerPair 53 = .ok (.invokevirtual 91, 3) := by decide +kernel
theorem dX3_offerPair_56 : decode cX3_offerPair 56 = .ok (.aload_n 0, 1) := by decide +kernel
theorem dX3_offerPair_57 : decode cX3_offerPair 57 = .ok (.getfield 28, 3) := by decide +kernel
theorem dX3_offerPair_60 : decode cX3_offerPair 60 = .ok (.invokevirtual 94, 3) := by decide +kernel
theorem dX3_offerPair_63 : decode cX3_offerPair 63 = .ok (.ifCond .le 16, 3) := by decide +kernel
theorem dX3_offerPair_66 : decode cX3_offerPair 66 = .ok (.aload_n 0, 1) := by decide +kernel
theorem dX3_offerPair_67 : decode cX3_offerPair 67 = .ok (.getfield 21, 3) := by decide +kernel
theorem dX3_offerPair_70 : decode cX3_offerPair 70 = .ok (.iload_n 1, 1) := by decide +kernel
theorem dX3_offerPair_71 : decode cX3_offerPair 71 = .ok (.iload_n 2, 1) := by decide +kernel
theorem dX3_offerPair_72 : decode cX3_offerPair 72 = .ok (.aload_n 0, 1) := by decide +kernel
theorem dX3_offerPair_73 : decode cX3_offerPair 73 = .ok (.getfield 28, 3) := by decide +kernel
theorem dX3_offerPair_76 : decode cX3_offerPair 76 = .ok (.invokevirtual 119, 3) := by decide +kernel
theorem dX3_offerPair_79 : decode cX3_offerPair 79 = .ok (.return_, 1) := by decide +kernel
set_option maxRecDepth 20000 in
theorem ggX3_faultsOf_X2_nets : GoodIn wsX3_faultsOf wsX2_nets := goodIn_r _ [7, 8, 22, 23, 24, 25, 26, 27, 28, 29, 30] (by eq_refl) (by decide +kernel)
set_option maxRecDepth 20000 in
theorem gX3_faultsOf_X2_nets : GoodIn wsX3_faultsOf (wsV RX3 122 RX2 yX2_nets wsX2_nets) := goodIn_app (goodIn_r _ [3, 4, 5, 6] (by eq_refl) (by decide +kernel)) ggX3_faultsOf_X2_nets
set_option maxRecDepth 20000 in
theorem ggX3_faultsOf_X4_size : GoodIn wsX3_faultsOf wsX4_size := goodIn_r _ [13, 14, 31, 32, 33] (by eq_refl) (by decide +kernel)
set_option maxRecDepth 20000 in
theorem gX3_faultsOf_X4_size : GoodIn wsX3_faultsOf (wsV RX3 125 RX4 yX4_size wsX4_size) := goodIn_app (goodIn_r _ [9, 10, 11, 12] (by eq_refl) (by decide +kernel)) ggX3_faultsOf_X4_size
theorem dX3_faultsOf_0 : decode cX3_faultsOf 0 = .ok (.iload_n 1, 1) := by decide +kernel
theorem dX3_faultsOf_1 : decode cX3_faultsOf 1 = .ok (.iconst 1, 1) := by decide +kernel
theorem dX3_faultsOf_2 : decode cX3_faultsOf 2 = .ok (.if_icmp .gt 13, 3) := by decide +kernel
theorem dX3_faultsOf_5 : decode cX3_faultsOf 5 = .ok (.aload_n 0, 1) := by decide +kernel
theorem dX3_faultsOf_6 : decode cX3_faultsOf 6 = .ok (.getfield 36, 3) := by decide +kernel
theorem dX3_faultsOf_9 : decode cX3_faultsOf 9 = .ok (.invokevirtual 122, 3) := by decide +kernel
theorem dX3_faultsOf_12 : decode cX3_faultsOf 12 = .ok (.goto 10, 3) := by decide +kernel
theorem dX3_faultsOf_15 : decode cX3_faultsOf 15 = .ok (.aload_n 0, 1) := by decide +kernel
theorem dX3_faultsOf_16 : decode cX3_faultsOf 16 = .ok (.getfield 44, 3) := by decide +kernel
theorem dX3_faultsOf_19 : decode cX3_faultsOf 19 = .ok (.invokevirtual 125, 3) := by decide +kernel
theorem dX3_faultsOf_22 : decode cX3_faultsOf 22 = .ok (.ireturn, 1) := by decide +kernel
set_option maxRecDepth 20000 in
theorem ggX3_tryFault_X2_holdStuck : GoodIn wsX3_tryFault wsX2_holdStuck := goodIn_r _ [7, 8, 9, 6, 10, 11, 12, 13, 14, 15, 16, 17, 18, 19, 20, 21, 22, 23, 24, 25, 26, 27, 28, 29, 30, 31, 32, 33, 56, 57, 58, 59, 60, 61, 62, 63, 64] (by eq_refl) (by decide +kernel)
set_option maxRecDepth 20000 in
theorem gX3_tryFault_X2_holdStuck : GoodIn wsX3_tryFault (wsV RX3 115 RX2 yX2_holdStuck wsX2_holdStuck) := goodIn_app (goodIn_r _ [3, 4, 5, 6] (by eq_refl) (by decide +kernel)) ggX3_tryFault_X2_holdStuck
set_option maxRecDepth 20000 in
theorem ggX3_tryFault_X4_first : GoodIn wsX3_tryFault wsX4_first := goodIn_r _ [38, 39, 65, 66, 67] (by eq_refl) (by decide +kernel)
set_option maxRecDepth 20000 in
theorem gX3_tryFault_X4_first : GoodIn wsX3_tryFault (wsV RX3 56 RX4 yX4_first wsX4_first) := goodIn_app (goodIn_r _ [34, 35, 36, 37] (by eq_refl) (by decide +kernel)) ggX3_tryFault_X4_first
set_option maxRecDepth 20000 in
theorem ggX3_tryFault_X4_second : GoodIn wsX3_tryFault wsX4_second := goodIn_r _ [43, 44, 65, 66, 67] (by eq_refl) (by decide +kernel)
set_option maxRecDepth 20000 in
theorem gX3_tryFault_X4_second : GoodIn wsX3_tryFault (wsV RX3 61 RX4 yX4_second wsX4_second) := goodIn_app (goodIn_r _ [40, 41, 42, 37] (by eq_refl) (by decide +kernel)) ggX3_tryFault_X4_second
set_option maxRecDepth 20000 in
theorem ggX3_tryFault_X2_holdJoined : GoodIn wsX3_tryFault wsX2_holdJoined := goodIn_r _ [48, 16, 12, 13, 14, 6, 15, 17, 18, 19, 20, 21, 22, 23, 24, 25, 26, 27, 28, 29, 30, 31, 32, 33, 11, 56, 57, 58, 59, 60, 61, 62, 63, 64] (by eq_refl) (by decide +kernel)
set_option maxRecDepth 20000 in
theorem gX3_tryFault_X2_holdJoined : GoodIn wsX3_tryFault (wsV RX3 126 RX2 yX2_holdJoined wsX2_holdJoined) := goodIn_app (goodIn_r _ [45, 46, 47, 6] (by eq_refl) (by decide +kernel)) ggX3_tryFault_X2_holdJoined
theorem dX3_tryFault_0 : decode cX3_tryFault 0 = .ok (.iload_n 1, 1) := by decide +kernel
theorem dX3_tryFault_1 : decode cX3_tryFault 1 = .ok (.iconst 1, 1) := by decide +kernel
theorem dX3_tryFault_2 : decode cX3_tryFault 2 = .ok (.if_icmp .gt 17, 3) := by decide +kernel
theorem dX3_tryFault_5 : decode cX3_tryFault 5 = .ok (.aload_n 0, 1) := by decide +kernel
theorem dX3_tryFault_6 : decode cX3_tryFault 6 = .ok (.getfield 36, 3) := by decide +kernel
theorem dX3_tryFault_9 : decode cX3_tryFault 9 = .ok (.iload_n 2, 1) := by decide +kernel
theorem dX3_tryFault_10 : decode cX3_tryFault 10 = .ok (.iload_n 1, 1) := by decide +kernel
theorem dX3_tryFault_11 : decode cX3_tryFault 11 = .ok (.iload_n 2, 1) := by decide +kernel
theorem dX3_tryFault_12 : decode cX3_tryFault 12 = .ok (.iload_n 1, 1) := by decide +kernel
theorem dX3_tryFault_13 : decode cX3_tryFault 13 = .ok (.invokevirtual 115, 3) := by decide +kernel
theorem dX3_tryFault_16 : decode cX3_tryFault 16 = .ok (.goto 27, 3) := by decide +kernel
theorem dX3_tryFault_19 : decode cX3_tryFault 19 = .ok (.aload_n 0, 1) := by decide +kernel
theorem dX3_tryFault_20 : decode cX3_tryFault 20 = .ok (.getfield 36, 3) := by decide +kernel
theorem dX3_tryFault_23 : decode cX3_tryFault 23 = .ok (.aload_n 0, 1) := by decide +kernel
theorem dX3_tryFault_24 : decode cX3_tryFault 24 = .ok (.getfield 44, 3) := by decide +kernel
theorem dX3_tryFault_27 : decode cX3_tryFault 27 = .ok (.iload_n 2, 1) := by decide +kernel
theorem dX3_tryFault_28 : decode cX3_tryFault 28 = .ok (.invokevirtual 56, 3) := by decide +kernel
theorem dX3_tryFault_31 : decode cX3_tryFault 31 = .ok (.aload_n 0, 1) := by decide +kernel
theorem dX3_tryFault_32 : decode cX3_tryFault 32 = .ok (.getfield 44, 3) := by decide +kernel
theorem dX3_tryFault_35 : decode cX3_tryFault 35 = .ok (.iload_n 2, 1) := by decide +kernel
theorem dX3_tryFault_36 : decode cX3_tryFault 36 = .ok (.invokevirtual 61, 3) := by decide +kernel
theorem dX3_tryFault_39 : decode cX3_tryFault 39 = .ok (.iload_n 1, 1) := by decide +kernel
theorem dX3_tryFault_40 : decode cX3_tryFault 40 = .ok (.invokevirtual 126, 3) := by decide +kernel
theorem dX3_tryFault_43 : decode cX3_tryFault 43 = .ok (.return_, 1) := by decide +kernel
set_option maxRecDepth 20000 in
theorem ggX3_compareWithFails_X2_counted : GoodIn wsX3_compareWithFails wsX2_counted := goodIn_r _ [8, 9, 10, 61, 62, 63, 64, 65, 66, 67, 68, 69] (by eq_refl) (by decide +kernel)
set_option maxRecDepth 20000 in
theorem gX3_compareWithFails_X2_counted : GoodIn wsX3_compareWithFails (wsV RX3 130 RX2 yX2_counted wsX2_counted) := goodIn_app (goodIn_r _ [4, 5, 6, 7] (by eq_refl) (by decide +kernel)) ggX3_compareWithFails_X2_counted
set_option maxRecDepth 20000 in
theorem ggX3_compareWithFails_X9_reset : GoodIn wsX3_compareWithFails wsX9_reset := goodIn_r _ [15, 16, 17, 18, 70, 71, 72] (by eq_refl) (by decide +kernel)
set_option maxRecDepth 20000 in
theorem gX3_compareWithFails_X9_reset : GoodIn wsX3_compareWithFails (wsV RX3 134 RX9 yX9_reset wsX9_reset) := goodIn_app (goodIn_r _ [11, 12, 13, 14] (by eq_refl) (by decide +kernel)) ggX3_compareWithFails_X9_reset
set_option maxRecDepth 20000 in
theorem ggX3_compareWithFails_X5_size : GoodIn wsX3_compareWithFails wsX5_size := goodIn_r _ [23, 24, 73, 74, 75] (by eq_refl) (by decide +kernel)
set_option maxRecDepth 20000 in
theorem gX3_compareWithFails_X5_size : GoodIn wsX3_compareWithFails (wsV RX3 135 RX5 yX5_size wsX5_size) := goodIn_app (goodIn_r _ [19, 20, 21, 22] (by eq_refl) (by decide +kernel)) ggX3_compareWithFails_X5_size
set_option maxRecDepth 20000 in
theorem ggX3_compareWithFails_X5_net : GoodIn wsX3_compareWithFails wsX5_net := goodIn_r _ [28, 29, 73, 74, 75] (by eq_refl) (by decide +kernel)
set_option maxRecDepth 20000 in
theorem gX3_compareWithFails_X5_net : GoodIn wsX3_compareWithFails (wsV RX3 71 RX5 yX5_net wsX5_net) := goodIn_app (goodIn_r _ [25, 26, 27, 22] (by eq_refl) (by decide +kernel)) ggX3_compareWithFails_X5_net
set_option maxRecDepth 20000 in
theorem ggX3_compareWithFails_X2_changed : GoodIn wsX3_compareWithFails wsX2_changed := goodIn_r _ [33, 34, 35, 36, 5, 6, 7, 8, 9, 10, 61, 62, 63, 64, 65, 66, 67, 68, 69] (by eq_refl) (by decide +kernel)
set_option maxRecDepth 20000 in
theorem gX3_compareWithFails_X2_changed : GoodIn wsX3_compareWithFails (wsV RX3 76 RX2 yX2_changed wsX2_changed) := goodIn_app (goodIn_r _ [30, 31, 32, 7] (by eq_refl) (by decide +kernel)) ggX3_compareWithFails_X2_changed
set_option maxRecDepth 20000 in
theorem ggX3_compareWithFails_X5_fails : GoodIn wsX3_compareWithFails wsX5_fails := goodIn_r _ [40, 41, 73, 74, 75] (by eq_refl) (by decide +kernel)
set_option maxRecDepth 20000 in
theorem gX3_compareWithFails_X5_fails : GoodIn wsX3_compareWithFails (wsV RX3 136 RX5 yX5_fails wsX5_fails) := goodIn_app (goodIn_r _ [37, 38, 39, 22] (by eq_refl) (by decide +kernel)) ggX3_compareWithFails_X5_fails
set_option maxRecDepth 20000 in
theorem ggX3_compareWithFails_X9_add : GoodIn wsX3_compareWithFails wsX9_add := goodIn_r _ [45, 16, 17, 46, 18, 47, 48, 49, 50, 51, 52, 53, 70, 71, 72] (by eq_refl) (by decide +kernel)
set_option maxRecDepth 20000 in
theorem gX3_compareWithFails_X9_add : GoodIn wsX3_compareWithFails (wsV RX3 139 RX9 yX9_add wsX9_add) := goodIn_app (goodIn_r _ [42, 43, 44, 14] (by eq_refl) (by decide +kernel)) ggX3_compareWithFails_X9_add
theorem dX3_compareWithFails_0 : decode cX3_compareWithFails 0 = .ok (.aload_n 0, 1) := by decide +kernel
theorem dX3_compareWithFails_1 : decode cX3_compareWithFails 1 = .ok (.getfield 36, 3) := by decide +kernel
theorem dX3_compareWithFails_4 : decode cX3_compareWithFails 4 = .ok (.invokevirtual 130, 3) := by decide +kernel
theorem dX3_compareWithFails_7 : decode cX3_compareWithFails 7 = .ok (.lstore_n 1, 1) := by decide +kernel
theorem dX3_compareWithFails_8 : decode cX3_compareWithFails 8 = .ok (.aload_n 0, 1) := by decide +kernel
theorem dX3_compareWithFails_9 : decode cX3_compareWithFails 9 = .ok (.getfield 28, 3) := by decide +kernel
theorem dX3_compareWithFails_12 : decode cX3_compareWithFails 12 = .ok (.invokevirtual 134, 3) := by decide +kernel
theorem dX3_compareWithFails_15 : decode cX3_compareWithFails 15 = .ok (.iconst 0, 1) := by decide +kernel
theorem dX3_compareWithFails_16 : decode cX3_compareWithFails 16 = .ok (.istore_n 3, 1) := by decide +kernel
theorem dX3_compareWithFails_17 : decode cX3_compareWithFails 17 = .ok (.iload_n 3, 1) := by decide +kernel
theorem dX3_compareWithFails_18 : decode cX3_compareWithFails 18 = .ok (.aload_n 0, 1) := by decide +kernel
theorem dX3_compareWithFails_19 : decode cX3_compareWithFails 19 = .ok (.getfield 40, 3) := by decide +kernel
theorem dX3_compareWithFails_22 : decode cX3_compareWithFails 22 = .ok (.invokevirtual 135, 3) := by decide +kernel
theorem dX3_compareWithFails_25 : decode cX3_compareWithFails 25 = .ok (.if_icmp .ge 41, 3) := by decide +kernel
theorem dX3_compareWithFails_28 : decode cX3_compareWithFails 28 = .ok (.aload_n 0, 1) := by decide +kernel
theorem dX3_compareWithFails_29 : decode cX3_compareWithFails 29 = .ok (.getfield 28, 3) := by decide +kernel
theorem dX3_compareWithFails_32 : decode cX3_compareWithFails 32 = .ok (.aload_n 0, 1) := by decide +kernel
theorem dX3_compareWithFails_33 : decode cX3_compareWithFails 33 = .ok (.getfield 36, 3) := by decide +kernel
theorem dX3_compareWithFails_36 : decode cX3_compareWithFails 36 = .ok (.aload_n 0, 1) := by decide +kernel
theorem dX3_compareWithFails_37 : decode cX3_compareWithFails 37 = .ok (.getfield 40, 3) := by decide +kernel
theorem dX3_compareWithFails_40 : decode cX3_compareWithFails 40 = .ok (.iload_n 3, 1) := by decide +kernel
theorem dX3_compareWithFails_41 : decode cX3_compareWithFails 41 = .ok (.invokevirtual 71, 3) := by decide +kernel
theorem dX3_compareWithFails_44 : decode cX3_compareWithFails 44 = .ok (.invokevirtual 76, 3) := by decide +kernel
theorem dX3_compareWithFails_47 : decode cX3_compareWithFails 47 = .ok (.aload_n 0, 1) := by decide +kernel
theorem dX3_compareWithFails_48 : decode cX3_compareWithFails 48 = .ok (.getfield 40, 3) := by decide +kernel
theorem dX3_compareWithFails_51 : decode cX3_compareWithFails 51 = .ok (.iload_n 3, 1) := by decide +kernel
theorem dX3_compareWithFails_52 : decode cX3_compareWithFails 52 = .ok (.invokevirtual 136, 3) := by decide +kernel
theorem dX3_compareWithFails_55 : decode cX3_compareWithFails 55 = .ok (.lload_n 1, 1) := by decide +kernel
theorem dX3_compareWithFails_56 : decode cX3_compareWithFails 56 = .ok (.land, 1) := by decide +kernel
theorem dX3_compareWithFails_57 : decode cX3_compareWithFails 57 = .ok (.invokevirtual 139, 3) := by decide +kernel
theorem dX3_compareWithFails_60 : decode cX3_compareWithFails 60 = .ok (.iinc 3 1, 3) := by decide +kernel
theorem dX3_compareWithFails_63 : decode cX3_compareWithFails 63 = .ok (.goto (-46), 3) := by decide +kernel
theorem dX3_compareWithFails_66 : decode cX3_compareWithFails 66 = .ok (.return_, 1) := by decide +kernel
