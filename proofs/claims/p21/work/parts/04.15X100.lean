set_option maxRecDepth 20000 in
theorem ggX10_init_X2_init : GoodIn wsX10_init wsX2_init := goodIn_r _ [34, 35, 2, 3, 36, 37, 38, 39, 40, 41, 42, 43, 44, 113, 114, 115, 116, 117, 118, 119, 120, 121] (by eq_refl) (by decide +kernel)
set_option maxRecDepth 20000 in
theorem gX10_init_X2_init_n11 : GoodIn wsX10_init (wsX2_init) := ggX10_init_X2_init
set_option maxRecDepth 20000 in
theorem ggX10_init_X5_init : GoodIn wsX10_init wsX5_init := goodIn_r _ [46, 47, 2, 3, 36, 48, 40, 49, 130, 131, 132] (by eq_refl) (by decide +kernel)
set_option maxRecDepth 20000 in
theorem gX10_init_X5_init_n18 : GoodIn wsX10_init (wsX5_init) := ggX10_init_X5_init
set_option maxRecDepth 20000 in
theorem ggX10_init_X4_init : GoodIn wsX10_init wsX4_init := goodIn_r _ [51, 52, 2, 3, 36, 53, 54, 133, 134, 135] (by eq_refl) (by decide +kernel)
set_option maxRecDepth 20000 in
theorem gX10_init_X4_init_n25 : GoodIn wsX10_init (wsX4_init) := ggX10_init_X4_init
set_option maxRecDepth 20000 in
theorem ggX10_init_X3_init : GoodIn wsX10_init wsX3_init := goodIn_r _ [57, 58, 2, 3, 59, 60, 61, 62, 63, 64, 65, 66, 67, 68, 69, 70, 36, 71, 72, 73, 74, 75, 76, 77, 78, 79, 80, 81, 82, 83, 84, 85, 86, 87, 88, 89, 90, 91, 92, 93, 158, 159, 160, 161, 162, 163, 164, 136, 137, 138, 139, 140, 141, 142, 165, 166, 167, 168, 169, 170] (by eq_refl) (by decide +kernel)
set_option maxRecDepth 20000 in
theorem gX10_init_X3_init : GoodIn wsX10_init (wsX3_init) := ggX10_init_X3_init
set_option maxRecDepth 20000 in
theorem ggX10_init_X7_init : GoodIn wsX10_init wsX7_init := goodIn_r _ [95, 96, 2, 3, 36, 97, 143, 144] (by eq_refl) (by decide +kernel)
set_option maxRecDepth 20000 in
theorem gX10_init_X7_init_n41 : GoodIn wsX10_init (wsX7_init) := ggX10_init_X7_init
set_option maxRecDepth 20000 in
theorem ggX10_init_X1_init : GoodIn wsX10_init wsX1_init := goodIn_r _ [99, 100, 2, 3, 40, 101, 102, 145, 146, 147, 148] (by eq_refl) (by decide +kernel)
set_option maxRecDepth 20000 in
theorem gX10_init_X1_init_n48 : GoodIn wsX10_init (wsX1_init) := ggX10_init_X1_init
set_option maxRecDepth 20000 in
theorem ggX10_init_X6_init : GoodIn wsX10_init wsX6_init := goodIn_r _ [104, 105, 2, 3, 36, 106, 107, 108, 109, 110, 111, 112, 149, 150, 151, 152, 153, 154, 155, 156, 157] (by eq_refl) (by decide +kernel)
set_option maxRecDepth 20000 in
theorem gX10_init_X6_init_n55 : GoodIn wsX10_init (wsX6_init) := ggX10_init_X6_init
theorem dX10_init_0 : decode cX10_init 0 = .ok (.aload_n 0, 1) := by decide +kernel
theorem dX10_init_1 : decode cX10_init 1 = .ok (.invokespecial 3, 3) := by decide +kernel
theorem dX10_init_4 : decode cX10_init 4 = .ok (.aload_n 0, 1) := by decide +kernel
theorem dX10_init_5 : decode cX10_init 5 = .ok (.new 9, 3) := by decide +kernel
theorem dX10_init_8 : decode cX10_init 8 = .ok (.dup, 1) := by decide +kernel
theorem dX10_init_9 : decode cX10_init 9 = .ok (.invokespecial 11, 3) := by decide +kernel
theorem dX10_init_12 : decode cX10_init 12 = .ok (.putfield 12, 3) := by decide +kernel
theorem dX10_init_15 : decode cX10_init 15 = .ok (.aload_n 0, 1) := by decide +kernel
theorem dX10_init_16 : decode cX10_init 16 = .ok (.new 16, 3) := by decide +kernel
theorem dX10_init_19 : decode cX10_init 19 = .ok (.dup, 1) := by decide +kernel
theorem dX10_init_20 : decode cX10_init 20 = .ok (.invokespecial 18, 3) := by decide +kernel
theorem dX10_init_23 : decode cX10_init 23 = .ok (.putfield 19, 3) := by decide +kernel
theorem dX10_init_26 : decode cX10_init 26 = .ok (.aload_n 0, 1) := by decide +kernel
theorem dX10_init_27 : decode cX10_init 27 = .ok (.new 23, 3) := by decide +kernel
theorem dX10_init_30 : decode cX10_init 30 = .ok (.dup, 1) := by decide +kernel
theorem dX10_init_31 : decode cX10_init 31 = .ok (.invokespecial 25, 3) := by decide +kernel
theorem dX10_init_34 : decode cX10_init 34 = .ok (.putfield 26, 3) := by decide +kernel
theorem dX10_init_37 : decode cX10_init 37 = .ok (.aload_n 0, 1) := by decide +kernel
theorem dX10_init_38 : decode cX10_init 38 = .ok (.new 30, 3) := by decide +kernel
theorem dX10_init_41 : decode cX10_init 41 = .ok (.dup, 1) := by decide +kernel
theorem dX10_init_42 : decode cX10_init 42 = .ok (.aload_n 0, 1) := by decide +kernel
theorem dX10_init_43 : decode cX10_init 43 = .ok (.getfield 12, 3) := by decide +kernel
theorem dX10_init_46 : decode cX10_init 46 = .ok (.aload_n 0, 1) := by decide +kernel
theorem dX10_init_47 : decode cX10_init 47 = .ok (.getfield 19, 3) := by decide +kernel
theorem dX10_init_50 : decode cX10_init 50 = .ok (.aload_n 0, 1) := by decide +kernel
theorem dX10_init_51 : decode cX10_init 51 = .ok (.getfield 26, 3) := by decide +kernel
theorem dX10_init_54 : decode cX10_init 54 = .ok (.invokespecial 32, 3) := by decide +kernel
theorem dX10_init_57 : decode cX10_init 57 = .ok (.putfield 35, 3) := by decide +kernel
theorem dX10_init_60 : decode cX10_init 60 = .ok (.aload_n 0, 1) := by decide +kernel
theorem dX10_init_61 : decode cX10_init 61 = .ok (.new 39, 3) := by decide +kernel
theorem dX10_init_64 : decode cX10_init 64 = .ok (.dup, 1) := by decide +kernel
theorem dX10_init_65 : decode cX10_init 65 = .ok (.invokespecial 41, 3) := by decide +kernel
theorem dX10_init_68 : decode cX10_init 68 = .ok (.putfield 42, 3) := by decide +kernel
theorem dX10_init_71 : decode cX10_init 71 = .ok (.aload_n 0, 1) := by decide +kernel
theorem dX10_init_72 : decode cX10_init 72 = .ok (.new 46, 3) := by decide +kernel
theorem dX10_init_75 : decode cX10_init 75 = .ok (.dup, 1) := by decide +kernel
theorem dX10_init_76 : decode cX10_init 76 = .ok (.invokespecial 48, 3) := by decide +kernel
theorem dX10_init_79 : decode cX10_init 79 = .ok (.putfield 49, 3) := by decide +kernel
theorem dX10_init_82 : decode cX10_init 82 = .ok (.aload_n 0, 1) := by decide +kernel
theorem dX10_init_83 : decode cX10_init 83 = .ok (.new 53, 3) := by decide +kernel
theorem dX10_init_86 : decode cX10_init 86 = .ok (.dup, 1) := by decide +kernel
theorem dX10_init_87 : decode cX10_init 87 = .ok (.invokespecial 55, 3) := by decide +kernel
theorem dX10_init_90 : decode cX10_init 90 = .ok (.putfield 56, 3) := by decide +kernel
theorem dX10_init_93 : decode cX10_init 93 = .ok (.aload_n 0, 1) := by decide +kernel
theorem dX10_init_94 : decode cX10_init 94 = .ok (.iconst 0, 1) := by decide +kernel
theorem dX10_init_95 : decode cX10_init 95 = .ok (.putfield 60, 3) := by decide +kernel
theorem dX10_init_98 : decode cX10_init 98 = .ok (.return_, 1) := by decide +kernel
set_option maxRecDepth 20000 in
theorem ggX10_input_X2_inputs : GoodIn wsX10_input wsX2_inputs := goodIn_r _ [9, 10, 30, 31, 32, 33, 34, 35, 36, 37, 38] (by eq_refl) (by decide +kernel)
set_option maxRecDepth 20000 in
theorem gX10_input_X2_inputs : GoodIn wsX10_input (wsV RX10 64 RX2 yX2_inputs wsX2_inputs) := goodIn_app (goodIn_r _ [5, 6, 7, 8] (by eq_refl) (by decide +kernel)) ggX10_input_X2_inputs
set_option maxRecDepth 20000 in
theorem ggX10_input_X2_nets : GoodIn wsX10_input wsX2_nets := goodIn_r _ [14, 15, 30, 31, 32, 33, 34, 35, 36, 37, 38] (by eq_refl) (by decide +kernel)
set_option maxRecDepth 20000 in
theorem gX10_input_X2_nets : GoodIn wsX10_input (wsV RX10 68 RX2 yX2_nets wsX2_nets) := goodIn_app (goodIn_r _ [11, 12, 13, 8] (by eq_refl) (by decide +kernel)) ggX10_input_X2_nets
set_option maxRecDepth 20000 in
theorem ggX10_input_X2_addInput : GoodIn wsX10_input wsX2_addInput := goodIn_r _ [19, 20, 15, 21, 10, 30, 31, 32, 33, 34, 35, 36, 37, 38] (by eq_refl) (by decide +kernel)
set_option maxRecDepth 20000 in
theorem gX10_input_X2_addInput : GoodIn wsX10_input (wsV RX10 78 RX2 yX2_addInput wsX2_addInput) := goodIn_app (goodIn_r _ [16, 17, 18, 8] (by eq_refl) (by decide +kernel)) ggX10_input_X2_addInput
theorem dX10_input_0 : decode cX10_input 0 = .ok (.aload_n 0, 1) := by decide +kernel
theorem dX10_input_1 : decode cX10_input 1 = .ok (.getfield 12, 3) := by decide +kernel
theorem dX10_input_4 : decode cX10_input 4 = .ok (.invokevirtual 64, 3) := by decide +kernel
theorem dX10_input_7 : decode cX10_input 7 = .ok (.bipush 32, 2) := by decide +kernel
theorem dX10_input_9 : decode cX10_input 9 = .ok (.if_icmp .eq 16, 3) := by decide +kernel
theorem dX10_input_12 : decode cX10_input 12 = .ok (.aload_n 0, 1) := by decide +kernel
theorem dX10_input_13 : decode cX10_input 13 = .ok (.getfield 12, 3) := by decide +kernel
theorem dX10_input_16 : decode cX10_input 16 = .ok (.invokevirtual 68, 3) := by decide +kernel
theorem dX10_input_19 : decode cX10_input 19 = .ok (.sipush 200, 3) := by decide +kernel
theorem dX10_input_22 : decode cX10_input 22 = .ok (.if_icmp .ne 13, 3) := by decide +kernel
theorem dX10_input_25 : decode cX10_input 25 = .ok (.new 71, 3) := by decide +kernel
theorem dX10_input_28 : decode cX10_input 28 = .ok (.dup, 1) := by decide +kernel
theorem dX10_input_29 : decode cX10_input 29 = .ok (.ldc 73, 2) := by decide +kernel
theorem dX10_input_31 : decode cX10_input 31 = .ok (.invokespecial 75, 3) := by decide +kernel
theorem dX10_input_34 : decode cX10_input 34 = .ok (.athrow, 1) := by decide +kernel
theorem dX10_input_35 : decode cX10_input 35 = .ok (.aload_n 0, 1) := by decide +kernel
theorem dX10_input_36 : decode cX10_input 36 = .ok (.iconst 0, 1) := by decide +kernel
theorem dX10_input_37 : decode cX10_input 37 = .ok (.putfield 60, 3) := by decide +kernel
theorem dX10_input_40 : decode cX10_input 40 = .ok (.aload_n 0, 1) := by decide +kernel
theorem dX10_input_41 : decode cX10_input 41 = .ok (.getfield 12, 3) := by decide +kernel
theorem dX10_input_44 : decode cX10_input 44 = .ok (.invokevirtual 78, 3) := by decide +kernel
theorem dX10_input_47 : decode cX10_input 47 = .ok (.ireturn, 1) := by decide +kernel
set_option maxRecDepth 20000 in
theorem ggX10_gate_X10_needNet : GoodIn wsX10_gate wsX10_needNet := goodIn_ca (goodIn_r _ [11, 12, 13, 5, 14, 15, 16, 17, 18, 19, 37, 38, 39, 40, 41, 42, 43, 44, 45, 46, 47, 48, 49, 50, 51, 52, 53] (by eq_refl) (by decide +kernel)) (goodIn_sub (fun _ h => List.mem_cons_of_mem _ (List.mem_append_right _ h)) (by decide +kernel))
set_option maxRecDepth 20000 in
theorem gX10_gate_X10_needNet : GoodIn wsX10_gate (wsV RX10 81 RX10 yX10_needNet wsX10_needNet) := goodIn_app (goodIn_r _ [7, 8, 9, 10] (by eq_refl) (by decide +kernel)) ggX10_gate_X10_needNet
set_option maxRecDepth 20000 in
theorem ggX10_gate_X2_nets : GoodIn wsX10_gate wsX2_nets := goodIn_r _ [23, 19, 45, 46, 47, 48, 49, 50, 51, 52, 53] (by eq_refl) (by decide +kernel)
set_option maxRecDepth 20000 in
theorem gX10_gate_X2_nets : GoodIn wsX10_gate (wsV RX10 68 RX2 yX2_nets wsX2_nets) := goodIn_app (goodIn_r _ [20, 21, 22, 17] (by eq_refl) (by decide +kernel)) ggX10_gate_X2_nets
set_option maxRecDepth 20000 in
theorem ggX10_gate_X2_addGate : GoodIn wsX10_gate wsX2_addGate := goodIn_r _ [27, 28, 19, 29, 30, 31, 32, 33, 34, 17, 35, 36, 45, 46, 47, 48, 49, 50, 51, 52, 53] (by eq_refl) (by decide +kernel)
set_option maxRecDepth 20000 in
theorem gX10_gate_X2_addGate : GoodIn wsX10_gate (wsV RX10 92 RX2 yX2_addGate wsX2_addGate) := goodIn_app (goodIn_r _ [24, 25, 26, 17] (by eq_refl) (by decide +kernel)) ggX10_gate_X2_addGate
theorem dX10_gate_0 : decode cX10_gate 0 = .ok (.iload_n 1, 1) := by decide +kernel
theorem dX10_gate_1 : decode cX10_gate 1 = .ok (.iconst 5, 1) := by decide +kernel
theorem dX10_gate_2 : decode cX10_gate 2 = .ok (.if_icmp .eq 13, 3) := by decide +kernel
theorem dX10_gate_5 : decode cX10_gate 5 = .ok (.iload_n 1, 1) := by decide +kernel
theorem dX10_gate_6 : decode cX10_gate 6 = .ok (.bipush 6, 2) := by decide +kernel
theorem dX10_gate_8 : decode cX10_gate 8 = .ok (.if_icmp .eq 7, 3) := by decide +kernel
theorem dX10_gate_11 : decode cX10_gate 11 = .ok (.iconst 1, 1) := by decide +kernel
theorem dX10_gate_12 : decode cX10_gate 12 = .ok (.goto 4, 3) := by decide +kernel
theorem dX10_gate_15 : decode cX10_gate 15 = .ok (.iconst 0, 1) := by decide +kernel
theorem dX10_gate_16 : decode cX10_gate 16 = .ok (.istore 4, 2) := by decide +kernel
theorem dX10_gate_18 : decode cX10_gate 18 = .ok (.aload_n 0, 1) := by decide +kernel
theorem dX10_gate_19 : decode cX10_gate 19 = .ok (.iload_n 2, 1) := by decide +kernel
theorem dX10_gate_20 : decode cX10_gate 20 = .ok (.invokevirtual 81, 3) := by decide +kernel
theorem dX10_gate_23 : decode cX10_gate 23 = .ok (.iload 4, 2) := by decide +kernel
theorem dX10_gate_25 : decode cX10_gate 25 = .ok (.ifCond .eq 8, 3) := by decide +kernel
theorem dX10_gate_28 : decode cX10_gate 28 = .ok (.aload_n 0, 1) := by decide +kernel
theorem dX10_gate_29 : decode cX10_gate 29 = .ok (.iload_n 3, 1) := by decide +kernel
theorem dX10_gate_30 : decode cX10_gate 30 = .ok (.invokevirtual 81, 3) := by decide +kernel
theorem dX10_gate_33 : decode cX10_gate 33 = .ok (.aload_n 0, 1) := by decide +kernel
theorem dX10_gate_34 : decode cX10_gate 34 = .ok (.getfield 12, 3) := by decide +kernel
theorem dX10_gate_37 : decode cX10_gate 37 = .ok (.invokevirtual 68, 3) := by decide +kernel
theorem dX10_gate_40 : decode cX10_gate 40 = .ok (.sipush 200, 3) := by decide +kernel
theorem dX10_gate_43 : decode cX10_gate 43 = .ok (.if_icmp .ne 13, 3) := by decide +kernel
theorem dX10_gate_46 : decode cX10_gate 46 = .ok (.new 71, 3) := by decide +kernel
theorem dX10_gate_49 : decode cX10_gate 49 = .ok (.dup, 1) := by decide +kernel
theorem dX10_gate_50 : decode cX10_gate 50 = .ok (.ldc 85, 2) := by decide +kernel
theorem dX10_gate_52 : decode cX10_gate 52 = .ok (.invokespecial 75, 3) := by decide +kernel
theorem dX10_gate_55 : decode cX10_gate 55 = .ok (.athrow, 1) := by decide +kernel
theorem dX10_gate_56 : decode cX10_gate 56 = .ok (.iload_n 1, 1) := by decide +kernel
theorem dX10_gate_57 : decode cX10_gate 57 = .ok (.ifCond .lt 9, 3) := by decide +kernel
theorem dX10_gate_60 : decode cX10_gate 60 = .ok (.iload_n 1, 1) := by decide +kernel
theorem dX10_gate_61 : decode cX10_gate 61 = .ok (.bipush 6, 2) := by decide +kernel
theorem dX10_gate_63 : decode cX10_gate 63 = .ok (.if_icmp .le 13, 3) := by decide +kernel
theorem dX10_gate_66 : decode cX10_gate 66 = .ok (.new 87, 3) := by decide +kernel
theorem dX10_gate_69 : decode cX10_gate 69 = .ok (.dup, 1) := by decide +kernel
theorem dX10_gate_70 : decode cX10_gate 70 = .ok (.ldc 89, 2) := by decide +kernel
theorem dX10_gate_72 : decode cX10_gate 72 = .ok (.invokespecial 91, 3) := by decide +kernel
theorem dX10_gate_75 : decode cX10_gate 75 = .ok (.athrow, 1) := by decide +kernel
theorem dX10_gate_76 : decode cX10_gate 76 = .ok (.aload_n 0, 1) := by decide +kernel
theorem dX10_gate_77 : decode cX10_gate 77 = .ok (.iconst 0, 1) := by decide +kernel
theorem dX10_gate_78 : decode cX10_gate 78 = .ok (.putfield 60, 3) := by decide +kernel
theorem dX10_gate_81 : decode cX10_gate 81 = .ok (.aload_n 0, 1) := by decide +kernel
theorem dX10_gate_82 : decode cX10_gate 82 = .ok (.getfield 12, 3) := by decide +kernel
theorem dX10_gate_85 : decode cX10_gate 85 = .ok (.iload_n 1, 1) := by decide +kernel
theorem dX10_gate_86 : decode cX10_gate 86 = .ok (.iload_n 2, 1) := by decide +kernel
theorem dX10_gate_87 : decode cX10_gate 87 = .ok (.iload 4, 2) := by decide +kernel
theorem dX10_gate_89 : decode cX10_gate 89 = .ok (.ifCond .eq 7, 3) := by decide +kernel
theorem dX10_gate_92 : decode cX10_gate 92 = .ok (.iload_n 3, 1) := by decide +kernel
theorem dX10_gate_93 : decode cX10_gate 93 = .ok (.goto 4, 3) := by decide +kernel
theorem dX10_gate_96 : decode cX10_gate 96 = .ok (.iload_n 2, 1) := by decide +kernel
theorem dX10_gate_97 : decode cX10_gate 97 = .ok (.invokevirtual 92, 3) := by decide +kernel
theorem dX10_gate_100 : decode cX10_gate 100 = .ok (.ireturn, 1) := by decide +kernel
set_option maxRecDepth 20000 in
theorem ggX10_output_X10_needNet : GoodIn wsX10_output wsX10_needNet := goodIn_ca (goodIn_r _ [9, 10, 11, 12, 13, 14, 15, 16, 17, 18, 31, 32, 33, 34, 35, 36, 37, 38, 39, 40, 41, 42, 43, 44, 45, 46, 47] (by eq_refl) (by decide +kernel)) (goodIn_sub (fun _ h => List.mem_cons_of_mem _ (List.mem_append_right _ h)) (by decide +kernel))
set_option maxRecDepth 20000 in
theorem gX10_output_X10_needNet : GoodIn wsX10_output (wsV RX10 81 RX10 yX10_needNet wsX10_needNet) := goodIn_app (goodIn_r _ [5, 6, 7, 8] (by eq_refl) (by decide +kernel)) ggX10_output_X10_needNet
set_option maxRecDepth 20000 in
theorem ggX10_output_X5_size : GoodIn wsX10_output wsX5_size := goodIn_r _ [23, 24, 48, 49, 50] (by eq_refl) (by decide +kernel)
set_option maxRecDepth 20000 in
theorem gX10_output_X5_size : GoodIn wsX10_output (wsV RX10 96 RX5 yX5_size wsX5_size) := goodIn_app (goodIn_r _ [19, 20, 21, 22] (by eq_refl) (by decide +kernel)) ggX10_output_X5_size
set_option maxRecDepth 20000 in
theorem ggX10_output_X5_add : GoodIn wsX10_output wsX5_add := goodIn_r _ [28, 29, 24, 30, 48, 49, 50] (by eq_refl) (by decide +kernel)
set_option maxRecDepth 20000 in
theorem gX10_output_X5_add : GoodIn wsX10_output (wsV RX10 101 RX5 yX5_add wsX5_add) := goodIn_app (goodIn_r _ [25, 26, 27, 22] (by eq_refl) (by decide +kernel)) ggX10_output_X5_add
theorem dX10_output_0 : decode cX10_output 0 = .ok (.aload_n 0, 1) := by decide +kernel
theorem dX10_output_1 : decode cX10_output 1 = .ok (.iload_n 1, 1) := by decide +kernel
theorem dX10_output_2 : decode cX10_output 2 = .ok (.invokevirtual 81, 3) := by decide +kernel
theorem dX10_output_5 : decode cX10_output 5 = .ok (.aload_n 0, 1) := by decide +kernel
theorem dX10_output_6 : decode cX10_output 6 = .ok (.getfield 19, 3) := by decide +kernel
theorem dX10_output_9 : decode cX10_output 9 = .ok (.invokevirtual 96, 3) := by decide +kernel
theorem dX10_output_12 : decode cX10_output 12 = .ok (.bipush 32, 2) := by decide +kernel
theorem dX10_output_14 : decode cX10_output 14 = .ok (.if_icmp .ne 13, 3) := by decide +kernel
theorem dX10_output_17 : decode cX10_output 17 = .ok (.new 71, 3) := by decide +kernel
theorem dX10_output_20 : decode cX10_output 20 = .ok (.dup, 1) := by decide +kernel
theorem dX10_output_21 : decode cX10_output 21 = .ok (.ldc 99, 2) := by decide +kernel
theorem dX10_output_23 : decode cX10_output 23 = .ok (.invokespecial 75, 3) := by decide +kernel
theorem dX10_output_26 : decode cX10_output 26 = .ok (.athrow, 1) := by decide +kernel
theorem dX10_output_27 : decode cX10_output 27 = .ok (.aload_n 0, 1) := by decide +kernel
theorem dX10_output_28 : decode cX10_output 28 = .ok (.iconst 0, 1) := by decide +kernel
theorem dX10_output_29 : decode cX10_output 29 = .ok (.putfield 60, 3) := by decide +kernel
theorem dX10_output_32 : decode cX10_output 32 = .ok (.aload_n 0, 1) := by decide +kernel
theorem dX10_output_33 : decode cX10_output 33 = .ok (.getfield 19, 3) := by decide +kernel
theorem dX10_output_36 : decode cX10_output 36 = .ok (.iload_n 1, 1) := by decide +kernel
theorem dX10_output_37 : decode cX10_output 37 = .ok (.invokevirtual 101, 3) := by decide +kernel
theorem dX10_output_40 : decode cX10_output 40 = .ok (.ireturn, 1) := by decide +kernel
set_option maxRecDepth 20000 in
theorem ggX10_patterns_X2_putPatterns : GoodIn wsX10_patterns wsX2_putPatterns := goodIn_r _ [9, 10, 19, 20, 21, 22, 23, 24, 25, 26, 27] (by eq_refl) (by decide +kernel)
set_option maxRecDepth 20000 in
theorem gX10_patterns_X2_putPatterns : GoodIn wsX10_patterns (wsV RX10 107 RX2 yX2_putPatterns wsX2_putPatterns) := goodIn_app (goodIn_r _ [5, 6, 7, 8] (by eq_refl) (by decide +kernel)) ggX10_patterns_X2_putPatterns
theorem dX10_patterns_0 : decode cX10_patterns 0 = .ok (.iload_n 1, 1) := by decide +kernel
theorem dX10_patterns_1 : decode cX10_patterns 1 = .ok (.ifCond .lt 9, 3) := by decide +kernel
theorem dX10_patterns_4 : decode cX10_patterns 4 = .ok (.iload_n 1, 1) := by decide +kernel
theorem dX10_patterns_5 : decode cX10_patterns 5 = .ok (.bipush 64, 2) := by decide +kernel
theorem dX10_patterns_7 : decode cX10_patterns 7 = .ok (.if_icmp .le 13, 3) := by decide +kernel
theorem dX10_patterns_10 : decode cX10_patterns 10 = .ok (.new 87, 3) := by decide +kernel
theorem dX10_patterns_13 : decode cX10_patterns 13 = .ok (.dup, 1) := by decide +kernel
theorem dX10_patterns_14 : decode cX10_patterns 14 = .ok (.ldc 105, 2) := by decide +kernel
theorem dX10_patterns_16 : decode cX10_patterns 16 = .ok (.invokespecial 91, 3) := by decide +kernel
theorem dX10_patterns_19 : decode cX10_patterns 19 = .ok (.athrow, 1) := by decide +kernel
theorem dX10_patterns_20 : decode cX10_patterns 20 = .ok (.aload_n 0, 1) := by decide +kernel
theorem dX10_patterns_21 : decode cX10_patterns 21 = .ok (.iconst 0, 1) := by decide +kernel
theorem dX10_patterns_22 : decode cX10_patterns 22 = .ok (.putfield 60, 3) := by decide +kernel
theorem dX10_patterns_25 : decode cX10_patterns 25 = .ok (.aload_n 0, 1) := by decide +kernel
theorem dX10_patterns_26 : decode cX10_patterns 26 = .ok (.getfield 12, 3) := by decide +kernel
theorem dX10_patterns_29 : decode cX10_patterns 29 = .ok (.iload_n 1, 1) := by decide +kernel
theorem dX10_patterns_30 : decode cX10_patterns 30 = .ok (.invokevirtual 107, 3) := by decide +kernel
theorem dX10_patterns_33 : decode cX10_patterns 33 = .ok (.ireturn, 1) := by decide +kernel
set_option maxRecDepth 20000 in
theorem ggX10_pattern_X2_hasInput : GoodIn wsX10_pattern wsX2_hasInput := goodIn_r _ [9, 10, 11, 12, 13, 8, 14, 15, 36, 37, 38, 39, 40, 41, 42, 43, 44] (by eq_refl) (by decide +kernel)
set_option maxRecDepth 20000 in
theorem gX10_pattern_X2_hasInput : GoodIn wsX10_pattern (wsV RX10 110 RX2 yX2_hasInput wsX2_hasInput) := goodIn_app (goodIn_r _ [5, 6, 7, 8] (by eq_refl) (by decide +kernel)) ggX10_pattern_X2_hasInput
set_option maxRecDepth 20000 in
theorem ggX10_pattern_X2_putRow : GoodIn wsX10_pattern wsX2_putRow := goodIn_r _ [19, 20, 15, 10, 21, 22, 23, 8, 24, 25, 26, 27, 36, 37, 38, 39, 40, 41, 42, 43, 44] (by eq_refl) (by decide +kernel)
set_option maxRecDepth 20000 in
theorem gX10_pattern_X2_putRow : GoodIn wsX10_pattern (wsV RX10 119 RX2 yX2_putRow wsX2_putRow) := goodIn_app (goodIn_r _ [16, 17, 18, 8] (by eq_refl) (by decide +kernel)) ggX10_pattern_X2_putRow
theorem dX10_pattern_0 : decode cX10_pattern 0 = .ok (.aload_n 0, 1) := by decide +kernel
theorem dX10_pattern_1 : decode cX10_pattern 1 = .ok (.getfield 12, 3) := by decide +kernel
theorem dX10_pattern_4 : decode cX10_pattern 4 = .ok (.iload_n 1, 1) := by decide +kernel
theorem dX10_pattern_5 : decode cX10_pattern 5 = .ok (.invokevirtual 110, 3) := by decide +kernel
theorem dX10_pattern_8 : decode cX10_pattern 8 = .ok (.ifCond .ne 13, 3) := by decide +kernel
theorem dX10_pattern_11 : decode cX10_pattern 11 = .ok (.new 114, 3) := by decide +kernel
theorem dX10_pattern_14 : decode cX10_pattern 14 = .ok (.dup, 1) := by decide +kernel
theorem dX10_pattern_15 : decode cX10_pattern 15 = .ok (.ldc 116, 2) := by decide +kernel
theorem dX10_pattern_17 : decode cX10_pattern 17 = .ok (.invokespecial 118, 3) := by decide +kernel
theorem dX10_pattern_20 : decode cX10_pattern 20 = .ok (.athrow, 1) := by decide +kernel
theorem dX10_pattern_21 : decode cX10_pattern 21 = .ok (.aload_n 0, 1) := by decide +kernel
theorem dX10_pattern_22 : decode cX10_pattern 22 = .ok (.iconst 0, 1) := by decide +kernel
theorem dX10_pattern_23 : decode cX10_pattern 23 = .ok (.putfield 60, 3) := by decide +kernel
theorem dX10_pattern_26 : decode cX10_pattern 26 = .ok (.aload_n 0, 1) := by decide +kernel
theorem dX10_pattern_27 : decode cX10_pattern 27 = .ok (.getfield 12, 3) := by decide +kernel
theorem dX10_pattern_30 : decode cX10_pattern 30 = .ok (.iload_n 1, 1) := by decide +kernel
theorem dX10_pattern_31 : decode cX10_pattern 31 = .ok (.lload_n 2, 1) := by decide +kernel
theorem dX10_pattern_32 : decode cX10_pattern 32 = .ok (.invokevirtual 119, 3) := by decide +kernel
theorem dX10_pattern_35 : decode cX10_pattern 35 = .ok (.lreturn, 1) := by decide +kernel
set_option maxRecDepth 20000 in
theorem ggX10_row_X10_needNet : GoodIn wsX10_row wsX10_needNet := goodIn_ca (goodIn_r _ [6, 7, 8, 1, 9, 10, 11, 12, 13, 14, 26, 27, 28, 29, 30, 31, 32, 33, 34, 35, 36, 37, 38, 39, 40, 41, 42] (by eq_refl) (by decide +kernel)) (goodIn_sub (fun _ h => List.mem_cons_of_mem _ (List.mem_append_right _ h)) (by decide +kernel))
set_option maxRecDepth 20000 in
theorem gX10_row_X10_needNet : GoodIn wsX10_row (wsV RX10 81 RX10 yX10_needNet wsX10_needNet) := goodIn_app (goodIn_r _ [2, 3, 4, 5] (by eq_refl) (by decide +kernel)) ggX10_row_X10_needNet
set_option maxRecDepth 20000 in
theorem ggX10_row_X2_goodRow : GoodIn wsX10_row wsX2_goodRow := goodIn_r _ [18, 19, 20, 21, 22, 12, 23, 24, 25, 34, 35, 36, 37, 38, 39, 40, 41, 42] (by eq_refl) (by decide +kernel)
set_option maxRecDepth 20000 in
theorem gX10_row_X2_goodRow : GoodIn wsX10_row (wsV RX10 123 RX2 yX2_goodRow wsX2_goodRow) := goodIn_app (goodIn_r _ [15, 16, 17, 12] (by eq_refl) (by decide +kernel)) ggX10_row_X2_goodRow
theorem dX10_row_0 : decode cX10_row 0 = .ok (.aload_n 0, 1) := by decide +kernel
theorem dX10_row_1 : decode cX10_row 1 = .ok (.iload_n 1, 1) := by decide +kernel
theorem dX10_row_2 : decode cX10_row 2 = .ok (.invokevirtual 81, 3) := by decide +kernel
theorem dX10_row_5 : decode cX10_row 5 = .ok (.aload_n 0, 1) := by decide +kernel
theorem dX10_row_6 : decode cX10_row 6 = .ok (.getfield 12, 3) := by decide +kernel
theorem dX10_row_9 : decode cX10_row 9 = .ok (.iload_n 1, 1) := by decide +kernel
theorem dX10_row_10 : decode cX10_row 10 = .ok (.invokevirtual 123, 3) := by decide +kernel
theorem dX10_row_13 : decode cX10_row 13 = .ok (.lreturn, 1) := by decide +kernel
set_option maxRecDepth 20000 in
theorem ggX10_fail_X10_needOutput : GoodIn wsX10_fail wsX10_needOutput := goodIn_ca (goodIn_r _ [7, 8, 9, 2, 10, 11, 12, 13, 14, 15, 21, 22, 23, 24, 25, 26, 27, 28, 29, 30, 31] (by eq_refl) (by decide +kernel)) (goodIn_sub (fun _ h => List.mem_cons_of_mem _ (List.mem_append_right _ h)) (by decide +kernel))
set_option maxRecDepth 20000 in
theorem gX10_fail_X10_needOutput : GoodIn wsX10_fail (wsV RX10 127 RX10 yX10_needOutput wsX10_needOutput) := goodIn_app (goodIn_r _ [3, 4, 5, 6] (by eq_refl) (by decide +kernel)) ggX10_fail_X10_needOutput
set_option maxRecDepth 20000 in
theorem ggX10_fail_X5_putFails : GoodIn wsX10_fail wsX5_putFails := goodIn_r _ [19, 20, 29, 30, 31] (by eq_refl) (by decide +kernel)
set_option maxRecDepth 20000 in
theorem gX10_fail_X5_putFails : GoodIn wsX10_fail (wsV RX10 130 RX5 yX5_putFails wsX5_putFails) := goodIn_app (goodIn_r _ [16, 17, 18, 13] (by eq_refl) (by decide +kernel)) ggX10_fail_X5_putFails
theorem dX10_fail_0 : decode cX10_fail 0 = .ok (.aload_n 0, 1) := by decide +kernel
theorem dX10_fail_1 : decode cX10_fail 1 = .ok (.iload_n 1, 1) := by decide +kernel
theorem dX10_fail_2 : decode cX10_fail 2 = .ok (.invokevirtual 127, 3) := by decide +kernel
theorem dX10_fail_5 : decode cX10_fail 5 = .ok (.aload_n 0, 1) := by decide +kernel
theorem dX10_fail_6 : decode cX10_fail 6 = .ok (.iconst 0, 1) := by decide +kernel
theorem dX10_fail_7 : decode cX10_fail 7 = .ok (.putfield 60, 3) := by decide +kernel
theorem dX10_fail_10 : decode cX10_fail 10 = .ok (.aload_n 0, 1) := by decide +kernel
theorem dX10_fail_11 : decode cX10_fail 11 = .ok (.getfield 19, 3) := by decide +kernel
theorem dX10_fail_14 : decode cX10_fail 14 = .ok (.iload_n 1, 1) := by decide +kernel
theorem dX10_fail_15 : decode cX10_fail 15 = .ok (.lload_n 2, 1) := by decide +kernel
theorem dX10_fail_16 : decode cX10_fail 16 = .ok (.invokevirtual 130, 3) := by decide +kernel
theorem dX10_fail_19 : decode cX10_fail 19 = .ok (.lreturn, 1) := by decide +kernel
set_option maxRecDepth 20000 in
theorem ggX10_near_X10_needNet : GoodIn wsX10_near wsX10_needNet := goodIn_ca (goodIn_r _ [12, 13, 14, 6, 15, 16, 17, 18, 19, 20, 56, 57, 58, 59, 60, 61, 62, 63, 64, 65, 66, 67, 68, 69, 70, 71, 72] (by eq_refl) (by decide +kernel)) (goodIn_sub (fun _ h => List.mem_cons_of_mem _ (List.mem_append_right _ h)) (by decide +kernel))
set_option maxRecDepth 20000 in
theorem gX10_near_X10_needNet : GoodIn wsX10_near (wsV RX10 81 RX10 yX10_needNet wsX10_needNet) := goodIn_app (goodIn_r _ [8, 9, 10, 11] (by eq_refl) (by decide +kernel)) ggX10_near_X10_needNet
set_option maxRecDepth 20000 in
theorem ggX10_near_X4_size : GoodIn wsX10_near wsX4_size := goodIn_r _ [25, 26, 73, 74, 75] (by eq_refl) (by decide +kernel)
set_option maxRecDepth 20000 in
theorem gX10_near_X4_size : GoodIn wsX10_near (wsV RX10 133 RX4 yX4_size wsX4_size) := goodIn_app (goodIn_r _ [21, 22, 23, 24] (by eq_refl) (by decide +kernel)) ggX10_near_X4_size
set_option maxRecDepth 20000 in
theorem ggX10_near_X2_oneReachesTheOther : GoodIn wsX10_near wsX2_oneReachesTheOther := goodIn_r _ [30, 31, 32, 33, 34, 35, 36, 37, 38, 39, 40, 41, 42, 43, 44, 18, 45, 64, 65, 66, 67, 68, 69, 70, 71, 72] (by eq_refl) (by decide +kernel)
set_option maxRecDepth 20000 in
theorem gX10_near_X2_oneReachesTheOther : GoodIn wsX10_near (wsV RX10 136 RX2 yX2_oneReachesTheOther wsX2_oneReachesTheOther) := goodIn_app (goodIn_r _ [27, 28, 29, 18] (by eq_refl) (by decide +kernel)) ggX10_near_X2_oneReachesTheOther
set_option maxRecDepth 20000 in
theorem ggX10_near_X4_findOrAdd : GoodIn wsX10_near wsX4_findOrAdd := goodIn_r _ [49, 26, 50, 51, 52, 53, 54, 24, 55, 73, 74, 75] (by eq_refl) (by decide +kernel)
set_option maxRecDepth 20000 in
theorem gX10_near_X4_findOrAdd : GoodIn wsX10_near (wsV RX10 142 RX4 yX4_findOrAdd wsX4_findOrAdd) := goodIn_app (goodIn_r _ [46, 47, 48, 24] (by eq_refl) (by decide +kernel)) ggX10_near_X4_findOrAdd
theorem dX10_near_0 : decode cX10_near 0 = .ok (.aload_n 0, 1) := by decide +kernel
theorem dX10_near_1 : decode cX10_near 1 = .ok (.iload_n 1, 1) := by decide +kernel
theorem dX10_near_2 : decode cX10_near 2 = .ok (.invokevirtual 81, 3) := by decide +kernel
theorem dX10_near_5 : decode cX10_near 5 = .ok (.aload_n 0, 1) := by decide +kernel
theorem dX10_near_6 : decode cX10_near 6 = .ok (.iload_n 2, 1) := by decide +kernel
theorem dX10_near_7 : decode cX10_near 7 = .ok (.invokevirtual 81, 3) := by decide +kernel
theorem dX10_near_10 : decode cX10_near 10 = .ok (.aload_n 0, 1) := by decide +kernel
theorem dX10_near_11 : decode cX10_near 11 = .ok (.getfield 26, 3) := by decide +kernel
theorem dX10_near_14 : decode cX10_near 14 = .ok (.invokevirtual 133, 3) := by decide +kernel
theorem dX10_near_17 : decode cX10_near 17 = .ok (.bipush 40, 2) := by decide +kernel
theorem dX10_near_19 : decode cX10_near 19 = .ok (.if_icmp .ne 13, 3) := by decide +kernel
theorem dX10_near_22 : decode cX10_near 22 = .ok (.new 71, 3) := by decide +kernel
theorem dX10_near_25 : decode cX10_near 25 = .ok (.dup, 1) := by decide +kernel
theorem dX10_near_26 : decode cX10_near 26 = .ok (.ldc 134, 2) := by decide +kernel
theorem dX10_near_28 : decode cX10_near 28 = .ok (.invokespecial 75, 3) := by decide +kernel
theorem dX10_near_31 : decode cX10_near 31 = .ok (.athrow, 1) := by decide +kernel
theorem dX10_near_32 : decode cX10_near 32 = .ok (.aload_n 0, 1) := by decide +kernel
theorem dX10_near_33 : decode cX10_near 33 = .ok (.getfield 12, 3) := by decide +kernel
theorem dX10_near_36 : decode cX10_near 36 = .ok (.iload_n 1, 1) := by decide +kernel
theorem dX10_near_37 : decode cX10_near 37 = .ok (.iload_n 2, 1) := by decide +kernel
theorem dX10_near_38 : decode cX10_near 38 = .ok (.invokevirtual 136, 3) := by decide +kernel
theorem dX10_near_41 : decode cX10_near 41 = .ok (.ifCond .eq 13, 3) := by decide +kernel
theorem dX10_near_44 : decode cX10_near 44 = .ok (.new 87, 3) := by decide +kernel
theorem dX10_near_47 : decode cX10_near 47 = .ok (.dup, 1) := by decide +kernel
theorem dX10_near_48 : decode cX10_near 48 = .ok (.ldc 140, 2) := by decide +kernel
theorem dX10_near_50 : decode cX10_near 50 = .ok (.invokespecial 91, 3) := by decide +kernel
theorem dX10_near_53 : decode cX10_near 53 = .ok (.athrow, 1) := by decide +kernel
theorem dX10_near_54 : decode cX10_near 54 = .ok (.aload_n 0, 1) := by decide +kernel
theorem dX10_near_55 : decode cX10_near 55 = .ok (.iconst 0, 1) := by decide +kernel
theorem dX10_near_56 : decode cX10_near 56 = .ok (.putfield 60, 3) := by decide +kernel
theorem dX10_near_59 : decode cX10_near 59 = .ok (.aload_n 0, 1) := by decide +kernel
theorem dX10_near_60 : decode cX10_near 60 = .ok (.getfield 26, 3) := by decide +kernel
theorem dX10_near_63 : decode cX10_near 63 = .ok (.iload_n 1, 1) := by decide +kernel
theorem dX10_near_64 : decode cX10_near 64 = .ok (.iload_n 2, 1) := by decide +kernel
theorem dX10_near_65 : decode cX10_near 65 = .ok (.invokevirtual 142, 3) := by decide +kernel
theorem dX10_near_68 : decode cX10_near 68 = .ok (.ireturn, 1) := by decide +kernel
set_option maxRecDepth 20000 in
theorem ggX10_shows_X3_hasFault : GoodIn wsX10_shows wsX3_hasFault := goodIn_r _ [8, 9, 10, 11, 7, 12, 13, 14, 15, 16, 17, 18, 19, 20, 21, 22, 23, 24, 25, 26, 113, 114, 115, 116, 117, 118, 119, 120, 121, 122, 123, 124, 125, 126, 127, 128, 129, 130, 131] (by eq_refl) (by decide +kernel)
set_option maxRecDepth 20000 in
theorem gX10_shows_X3_hasFault : GoodIn wsX10_shows (wsV RX10 146 RX3 yX3_hasFault wsX3_hasFault) := goodIn_app (goodIn_r _ [4, 5, 6, 7] (by eq_refl) (by decide +kernel)) ggX10_shows_X3_hasFault
set_option maxRecDepth 20000 in
theorem ggX10_shows_X10_needOutput : GoodIn wsX10_shows wsX10_needOutput := goodIn_ca (goodIn_r _ [31, 1, 2, 32, 33, 34, 35, 36, 37, 38, 105, 106, 107, 108, 109, 110, 111, 112, 132, 133, 134] (by eq_refl) (by decide +kernel)) (goodIn_sub (fun _ h => List.mem_cons_of_mem _ (List.mem_append_right _ h)) (by decide +kernel))
set_option maxRecDepth 20000 in
theorem gX10_shows_X10_needOutput : GoodIn wsX10_shows (wsV RX10 127 RX10 yX10_needOutput wsX10_needOutput) := goodIn_app (goodIn_r _ [27, 28, 29, 30] (by eq_refl) (by decide +kernel)) ggX10_shows_X10_needOutput
set_option maxRecDepth 20000 in
theorem ggX10_shows_X3_shownBy : GoodIn wsX10_shows wsX3_shownBy := goodIn_r _ [42, 13, 43, 44, 45, 46, 7, 47, 14, 48, 49, 50, 18, 51, 52, 53, 54, 55, 56, 57, 58, 59, 60, 61, 20, 62, 63, 64, 65, 66, 67, 68, 69, 70, 71, 72, 73, 74, 75, 76, 77, 78, 79, 24, 80, 81, 82, 83, 84, 85, 86, 87, 88, 89, 90, 91, 92, 93, 36, 94, 95, 96, 97, 98, 99, 100, 101, 102, 103, 104, 113, 114, 115, 116, 117, 118, 119, 120, 121, 122, 123, 124, 125, 126, 127, 128, 129, 130, 131, 132, 133, 134] (by eq_refl) (by decide +kernel)
set_option maxRecDepth 20000 in
theorem gX10_shows_X3_shownBy : GoodIn wsX10_shows (wsV RX10 151 RX3 yX3_shownBy wsX3_shownBy) := goodIn_app (goodIn_r _ [39, 40, 41, 7] (by eq_refl) (by decide +kernel)) ggX10_shows_X3_shownBy
theorem dX10_shows_0 : decode cX10_shows 0 = .ok (.aload_n 0, 1) := by decide +kernel
theorem dX10_shows_1 : decode cX10_shows 1 = .ok (.getfield 35, 3) := by decide +kernel
theorem dX10_shows_4 : decode cX10_shows 4 = .ok (.iload_n 1, 1) := by decide +kernel
theorem dX10_shows_5 : decode cX10_shows 5 = .ok (.iload_n 2, 1) := by decide +kernel
theorem dX10_shows_6 : decode cX10_shows 6 = .ok (.invokevirtual 146, 3) := by decide +kernel
theorem dX10_shows_9 : decode cX10_shows 9 = .ok (.ifCond .ne 13, 3) := by decide +kernel
theorem dX10_shows_12 : decode cX10_shows 12 = .ok (.new 114, 3) := by decide +kernel
theorem dX10_shows_15 : decode cX10_shows 15 = .ok (.dup, 1) := by decide +kernel
theorem dX10_shows_16 : decode cX10_shows 16 = .ok (.ldc 149, 2) := by decide +kernel
theorem dX10_shows_18 : decode cX10_shows 18 = .ok (.invokespecial 118, 3) := by decide +kernel
theorem dX10_shows_21 : decode cX10_shows 21 = .ok (.athrow, 1) := by decide +kernel
theorem dX10_shows_22 : decode cX10_shows 22 = .ok (.aload_n 0, 1) := by decide +kernel
theorem dX10_shows_23 : decode cX10_shows 23 = .ok (.iload_n 3, 1) := by decide +kernel
theorem dX10_shows_24 : decode cX10_shows 24 = .ok (.invokevirtual 127, 3) := by decide +kernel
theorem dX10_shows_27 : decode cX10_shows 27 = .ok (.aload_n 0, 1) := by decide +kernel
theorem dX10_shows_28 : decode cX10_shows 28 = .ok (.getfield 35, 3) := by decide +kernel
theorem dX10_shows_31 : decode cX10_shows 31 = .ok (.iload_n 1, 1) := by decide +kernel
theorem dX10_shows_32 : decode cX10_shows 32 = .ok (.iload_n 2, 1) := by decide +kernel
theorem dX10_shows_33 : decode cX10_shows 33 = .ok (.iload_n 3, 1) := by decide +kernel
theorem dX10_shows_34 : decode cX10_shows 34 = .ok (.invokevirtual 151, 3) := by decide +kernel
theorem dX10_shows_37 : decode cX10_shows 37 = .ok (.lreturn, 1) := by decide +kernel
set_option maxRecDepth 20000 in
theorem ggX10_run_X3_find : GoodIn wsX10_run wsX3_find := goodIn_r _ [7, 8, 9, 10, 6, 11, 12, 13, 14, 15, 16, 17, 18, 19, 20, 21, 22, 23, 24, 25, 26, 27, 28, 29, 30, 31, 32, 33, 34, 35, 36, 37, 38, 39, 40, 41, 42, 43, 44, 45, 46, 47, 48, 49, 50, 51, 52, 53, 54, 55, 56, 57, 58, 59, 60, 61, 62, 63, 64, 65, 66, 67, 68, 69, 70, 71, 72, 73, 74, 75, 76, 77, 78, 79, 80, 81, 82, 83, 84, 85, 86, 87, 88, 89, 90, 91, 92, 93, 94, 95, 96, 97, 98, 99, 100, 101, 102, 103, 104, 105, 106, 107, 108, 109, 110, 111, 112, 113, 114, 115, 116, 117, 118, 119, 120, 121, 122, 123, 124, 125, 126, 127, 128, 129, 130, 131, 132, 133, 134, 135, 136, 137, 138, 139, 140, 141, 142, 143, 144, 145, 146, 147, 148, 149, 150, 151, 152, 153, 154, 155, 156, 157, 158, 159, 160, 161, 162, 163, 164, 165, 166, 167, 168, 169, 170, 171, 172, 173, 174, 175, 176, 177, 178, 179, 180, 181, 182, 183, 184, 185, 186, 187, 188, 189, 190, 191, 192, 193, 194, 195, 196, 197, 198, 199, 200, 201, 202, 203, 204, 205, 206, 207, 208, 209, 210, 211, 212, 213, 214, 215, 216, 217, 218, 219, 220, 221, 222, 223, 237, 238, 239, 240, 241, 242, 243, 244, 245, 246, 247, 248, 249, 250, 251, 252, 253, 254, 255, 256, 257, 258, 259, 260, 261, 262, 263, 264, 265, 266, 267, 268, 269, 270, 271] (by eq_refl) (by decide +kernel)
set_option maxRecDepth 20000 in
theorem gX10_run_X3_find : GoodIn wsX10_run (wsV RX10 155 RX3 yX3_find wsX3_find) := goodIn_app (goodIn_r _ [3, 4, 5, 6] (by eq_refl) (by decide +kernel)) ggX10_run_X3_find
set_option maxRecDepth 20000 in
theorem ggX10_run_X3_suspects : GoodIn wsX10_run wsX3_suspects := goodIn_r _ [227, 12, 237, 238, 239, 240, 241, 242, 243] (by eq_refl) (by decide +kernel)
set_option maxRecDepth 20000 in
theorem gX10_run_X3_suspects : GoodIn wsX10_run (wsV RX10 158 RX3 yX3_suspects wsX3_suspects) := goodIn_app (goodIn_r _ [224, 225, 226, 6] (by eq_refl) (by decide +kernel)) ggX10_run_X3_suspects
set_option maxRecDepth 20000 in
theorem ggX10_run_X8_size : GoodIn wsX10_run wsX8_size := goodIn_r _ [197, 19, 244, 245, 246, 247, 248, 249, 250] (by eq_refl) (by decide +kernel)
set_option maxRecDepth 20000 in
theorem gX10_run_X8_size : GoodIn wsX10_run (wsV RX10 162 RX8 yX8_size wsX8_size) := goodIn_app (goodIn_r _ [228, 195, 196, 17] (by eq_refl) (by decide +kernel)) ggX10_run_X8_size
theorem dX10_run_0 : decode cX10_run 0 = .ok (.aload_n 0, 1) := by decide +kernel
theorem dX10_run_1 : decode cX10_run 1 = .ok (.getfield 35, 3) := by decide +kernel
theorem dX10_run_4 : decode cX10_run 4 = .ok (.invokevirtual 155, 3) := by decide +kernel
theorem dX10_run_7 : decode cX10_run 7 = .ok (.aload_n 0, 1) := by decide +kernel
theorem dX10_run_8 : decode cX10_run 8 = .ok (.iconst 1, 1) := by decide +kernel
theorem dX10_run_9 : decode cX10_run 9 = .ok (.putfield 60, 3) := by decide +kernel
theorem dX10_run_12 : decode cX10_run 12 = .ok (.aload_n 0, 1) := by decide +kernel
theorem dX10_run_13 : decode cX10_run 13 = .ok (.getfield 35, 3) := by decide +kernel
theorem dX10_run_16 : decode cX10_run 16 = .ok (.invokevirtual 158, 3) := by decide +kernel
theorem dX10_run_19 : decode cX10_run 19 = .ok (.invokevirtual 162, 3) := by decide +kernel
theorem dX10_run_22 : decode cX10_run 22 = .ok (.ireturn, 1) := by decide +kernel
set_option maxRecDepth 20000 in
theorem ggX10_suspect_X10_needTold : GoodIn wsX10_suspect wsX10_needTold := goodIn_ca (goodIn_r _ [8, 9, 10, 11, 85, 86, 87, 88, 89, 90, 91, 92] (by eq_refl) (by decide +kernel)) (goodIn_sub (fun _ h => List.mem_cons_of_mem _ (List.mem_append_right _ h)) (by decide +kernel))
set_option maxRecDepth 20000 in
theorem gX10_suspect_X10_needTold : GoodIn wsX10_suspect (wsV RX10 167 RX10 yX10_needTold wsX10_needTold) := goodIn_app (goodIn_r _ [4, 5, 6, 7] (by eq_refl) (by decide +kernel)) ggX10_suspect_X10_needTold
set_option maxRecDepth 20000 in
theorem ggX10_suspect_X3_suspects : GoodIn wsX10_suspect wsX3_suspects := goodIn_r _ [16, 17, 93, 94, 95, 96, 97, 98, 99] (by eq_refl) (by decide +kernel)
set_option maxRecDepth 20000 in
theorem gX10_suspect_X3_suspects : GoodIn wsX10_suspect (wsV RX10 158 RX3 yX3_suspects wsX3_suspects) := goodIn_app (goodIn_r _ [12, 13, 14, 15] (by eq_refl) (by decide +kernel)) ggX10_suspect_X3_suspects
set_option maxRecDepth 20000 in
theorem ggX10_suspect_X8_size : GoodIn wsX10_suspect wsX8_size := goodIn_r _ [22, 23, 100, 101, 102, 103, 104, 105, 106] (by eq_refl) (by decide +kernel)
set_option maxRecDepth 20000 in
theorem gX10_suspect_X8_size : GoodIn wsX10_suspect (wsV RX10 162 RX8 yX8_size wsX8_size) := goodIn_app (goodIn_r _ [18, 19, 20, 21] (by eq_refl) (by decide +kernel)) ggX10_suspect_X8_size
set_option maxRecDepth 20000 in
theorem ggX10_suspect_X10_ofSuspect : GoodIn wsX10_suspect wsX10_ofSuspect := goodIn_r _ [27, 3, 12, 13, 14, 15, 16, 17, 28, 29, 30, 21, 31, 32, 33, 34, 35, 36, 37, 38, 39, 40, 41, 42, 43, 44, 45, 46, 47, 48, 49, 50, 51, 52, 53, 54, 55, 56, 57, 58, 59, 60, 61, 62, 63, 64, 65, 66, 67, 68, 69, 70, 71, 72, 73, 74, 75, 76, 77, 78, 79, 80, 81, 82, 83, 84, 85, 86, 87, 88, 89, 90, 91, 92, 93, 94, 95, 96, 97, 98, 99, 100, 101, 102, 103, 104, 105, 106, 107, 108, 109] (by eq_refl) (by decide +kernel)
set_option maxRecDepth 20000 in
theorem gX10_suspect_X10_ofSuspect : GoodIn wsX10_suspect (wsV RX10 172 RX10 yX10_ofSuspect wsX10_ofSuspect) := goodIn_app (goodIn_r _ [24, 25, 26, 7] (by eq_refl) (by decide +kernel)) ggX10_suspect_X10_ofSuspect
theorem dX10_suspect_0 : decode cX10_suspect 0 = .ok (.iload_n 2, 1) := by decide +kernel
theorem dX10_suspect_1 : decode cX10_suspect 1 = .ok (.ifCond .lt 9, 3) := by decide +kernel
theorem dX10_suspect_4 : decode cX10_suspect 4 = .ok (.iload_n 2, 1) := by decide +kernel
theorem dX10_suspect_5 : decode cX10_suspect 5 = .ok (.bipush 6, 2) := by decide +kernel
theorem dX10_suspect_7 : decode cX10_suspect 7 = .ok (.if_icmp .le 13, 3) := by decide +kernel
theorem dX10_suspect_10 : decode cX10_suspect 10 = .ok (.new 114, 3) := by decide +kernel
theorem dX10_suspect_13 : decode cX10_suspect 13 = .ok (.dup, 1) := by decide +kernel
theorem dX10_suspect_14 : decode cX10_suspect 14 = .ok (.ldc 165, 2) := by decide +kernel
theorem dX10_suspect_16 : decode cX10_suspect 16 = .ok (.invokespecial 118, 3) := by decide +kernel
theorem dX10_suspect_19 : decode cX10_suspect 19 = .ok (.athrow, 1) := by decide +kernel
theorem dX10_suspect_20 : decode cX10_suspect 20 = .ok (.aload_n 0, 1) := by decide +kernel
theorem dX10_suspect_21 : decode cX10_suspect 21 = .ok (.invokevirtual 167, 3) := by decide +kernel
theorem dX10_suspect_24 : decode cX10_suspect 24 = .ok (.iload_n 1, 1) := by decide +kernel
theorem dX10_suspect_25 : decode cX10_suspect 25 = .ok (.ifCond .lt 17, 3) := by decide +kernel
theorem dX10_suspect_28 : decode cX10_suspect 28 = .ok (.iload_n 1, 1) := by decide +kernel
theorem dX10_suspect_29 : decode cX10_suspect 29 = .ok (.aload_n 0, 1) := by decide +kernel
theorem dX10_suspect_30 : decode cX10_suspect 30 = .ok (.getfield 35, 3) := by decide +kernel
theorem dX10_suspect_33 : decode cX10_suspect 33 = .ok (.invokevirtual 158, 3) := by decide +kernel
theorem dX10_suspect_36 : decode cX10_suspect 36 = .ok (.invokevirtual 162, 3) := by decide +kernel
theorem dX10_suspect_39 : decode cX10_suspect 39 = .ok (.if_icmp .lt 13, 3) := by decide +kernel
theorem dX10_suspect_42 : decode cX10_suspect 42 = .ok (.new 114, 3) := by decide +kernel
theorem dX10_suspect_45 : decode cX10_suspect 45 = .ok (.dup, 1) := by decide +kernel
theorem dX10_suspect_46 : decode cX10_suspect 46 = .ok (.ldc 170, 2) := by decide +kernel
theorem dX10_suspect_48 : decode cX10_suspect 48 = .ok (.invokespecial 118, 3) := by decide +kernel
theorem dX10_suspect_51 : decode cX10_suspect 51 = .ok (.athrow, 1) := by decide +kernel
theorem dX10_suspect_52 : decode cX10_suspect 52 = .ok (.aload_n 0, 1) := by decide +kernel
theorem dX10_suspect_53 : decode cX10_suspect 53 = .ok (.iload_n 1, 1) := by decide +kernel
theorem dX10_suspect_54 : decode cX10_suspect 54 = .ok (.iload_n 2, 1) := by decide +kernel
theorem dX10_suspect_55 : decode cX10_suspect 55 = .ok (.invokevirtual 172, 3) := by decide +kernel
theorem dX10_suspect_58 : decode cX10_suspect 58 = .ok (.ireturn, 1) := by decide +kernel
set_option maxRecDepth 20000 in
theorem ggX10_pair_X10_needTold : GoodIn wsX10_pair wsX10_needTold := goodIn_ca (goodIn_r _ [7, 8, 9, 10, 58, 59, 60, 61, 62, 63, 64, 65] (by eq_refl) (by decide +kernel)) (goodIn_sub (fun _ h => List.mem_cons_of_mem _ (List.mem_append_right _ h)) (by decide +kernel))
set_option maxRecDepth 20000 in
theorem gX10_pair_X10_needTold : GoodIn wsX10_pair (wsV RX10 167 RX10 yX10_needTold wsX10_needTold) := goodIn_app (goodIn_r _ [3, 4, 5, 6] (by eq_refl) (by decide +kernel)) ggX10_pair_X10_needTold
set_option maxRecDepth 20000 in
theorem ggX10_pair_X10_ofBestPair : GoodIn wsX10_pair wsX10_ofBestPair := goodIn_r _ [14, 15, 16, 17, 18, 19, 20, 21, 22, 23, 24, 25, 26, 27, 28, 29, 30, 31, 32, 33, 34, 35, 36, 37, 38, 39, 40, 41, 42, 43, 44, 45, 46, 47, 48, 49, 50, 51, 52, 53, 54, 55, 56, 57, 58, 59, 60, 61, 62, 63, 64, 65, 66, 67, 68, 69, 70, 71, 72, 73, 74, 75, 76, 77, 78] (by eq_refl) (by decide +kernel)
set_option maxRecDepth 20000 in
theorem gX10_pair_X10_ofBestPair : GoodIn wsX10_pair (wsV RX10 177 RX10 yX10_ofBestPair wsX10_ofBestPair) := goodIn_app (goodIn_r _ [11, 12, 13, 6] (by eq_refl) (by decide +kernel)) ggX10_pair_X10_ofBestPair
theorem dX10_pair_0 : decode cX10_pair 0 = .ok (.iload_n 1, 1) := by decide +kernel
theorem dX10_pair_1 : decode cX10_pair 1 = .ok (.ifCond .lt 8, 3) := by decide +kernel
theorem dX10_pair_4 : decode cX10_pair 4 = .ok (.iload_n 1, 1) := by decide +kernel
theorem dX10_pair_5 : decode cX10_pair 5 = .ok (.iconst 5, 1) := by decide +kernel
theorem dX10_pair_6 : decode cX10_pair 6 = .ok (.if_icmp .le 13, 3) := by decide +kernel
theorem dX10_pair_9 : decode cX10_pair 9 = .ok (.new 114, 3) := by decide +kernel
theorem dX10_pair_12 : decode cX10_pair 12 = .ok (.dup, 1) := by decide +kernel
theorem dX10_pair_13 : decode cX10_pair 13 = .ok (.ldc 175, 2) := by decide +kernel
theorem dX10_pair_15 : decode cX10_pair 15 = .ok (.invokespecial 118, 3) := by decide +kernel
theorem dX10_pair_18 : decode cX10_pair 18 = .ok (.athrow, 1) := by decide +kernel
theorem dX10_pair_19 : decode cX10_pair 19 = .ok (.aload_n 0, 1) := by decide +kernel
theorem dX10_pair_20 : decode cX10_pair 20 = .ok (.invokevirtual 167, 3) := by decide +kernel
theorem dX10_pair_23 : decode cX10_pair 23 = .ok (.aload_n 0, 1) := by decide +kernel
theorem dX10_pair_24 : decode cX10_pair 24 = .ok (.iload_n 1, 1) := by decide +kernel
theorem dX10_pair_25 : decode cX10_pair 25 = .ok (.invokevirtual 177, 3) := by decide +kernel
theorem dX10_pair_28 : decode cX10_pair 28 = .ok (.ireturn, 1) := by decide +kernel
set_option maxRecDepth 20000 in
theorem ggX10_join_X10_needTold : GoodIn wsX10_join wsX10_needTold := goodIn_ca (goodIn_r _ [7, 8, 9, 10, 87, 88, 89, 90, 91, 92, 93, 94] (by eq_refl) (by decide +kernel)) (goodIn_sub (fun _ h => List.mem_cons_of_mem _ (List.mem_append_right _ h)) (by decide +kernel))
set_option maxRecDepth 20000 in
theorem gX10_join_X10_needTold : GoodIn wsX10_join (wsV RX10 167 RX10 yX10_needTold wsX10_needTold) := goodIn_app (goodIn_r _ [3, 4, 5, 6] (by eq_refl) (by decide +kernel)) ggX10_join_X10_needTold
set_option maxRecDepth 20000 in
theorem ggX10_join_X3_suspects : GoodIn wsX10_join wsX3_suspects := goodIn_r _ [15, 16, 95, 96, 97, 98, 99, 100, 101] (by eq_refl) (by decide +kernel)
set_option maxRecDepth 20000 in
theorem gX10_join_X3_suspects : GoodIn wsX10_join (wsV RX10 158 RX3 yX3_suspects wsX3_suspects) := goodIn_app (goodIn_r _ [11, 12, 13, 14] (by eq_refl) (by decide +kernel)) ggX10_join_X3_suspects
set_option maxRecDepth 20000 in
theorem ggX10_join_X8_withLeastSum : GoodIn wsX10_join wsX8_withLeastSum := goodIn_r _ [21, 22, 23, 24, 25, 20, 26, 27, 28, 29, 30, 31, 32, 33, 34, 35, 36, 37, 102, 103, 104, 105, 106, 107, 108] (by eq_refl) (by decide +kernel)
set_option maxRecDepth 20000 in
theorem gX10_join_X8_withLeastSum : GoodIn wsX10_join (wsV RX10 180 RX8 yX8_withLeastSum wsX8_withLeastSum) := goodIn_app (goodIn_r _ [17, 18, 19, 20] (by eq_refl) (by decide +kernel)) ggX10_join_X8_withLeastSum
set_option maxRecDepth 20000 in
theorem ggX10_join_X7_countChip : GoodIn wsX10_join wsX7_countChip := goodIn_r _ [42, 43, 109, 110] (by eq_refl) (by decide +kernel)
set_option maxRecDepth 20000 in
theorem gX10_join_X7_countChip : GoodIn wsX10_join (wsV RX10 183 RX7 yX7_countChip wsX7_countChip) := goodIn_app (goodIn_r _ [38, 39, 40, 41] (by eq_refl) (by decide +kernel)) ggX10_join_X7_countChip
set_option maxRecDepth 20000 in
theorem ggX10_join_X10_giveShares : GoodIn wsX10_join wsX10_giveShares := goodIn_r _ [47, 2, 1, 48, 49, 50, 14, 51, 16, 52, 53, 54, 55, 20, 56, 57, 32, 58, 59, 60, 61, 62, 63, 64, 65, 66, 67, 68, 69, 70, 71, 72, 73, 74, 75, 41, 76, 77, 78, 79, 80, 81, 82, 83, 84, 85, 86, 87, 88, 89, 90, 91, 92, 93, 94, 95, 96, 97, 98, 99, 100, 101, 102, 103, 104, 105, 106, 107, 108, 111, 112, 113, 109, 110] (by eq_refl) (by decide +kernel)
set_option maxRecDepth 20000 in
theorem gX10_join_X10_giveShares : GoodIn wsX10_join (wsV RX10 186 RX10 yX10_giveShares wsX10_giveShares) := goodIn_app (goodIn_r _ [44, 45, 46, 6] (by eq_refl) (by decide +kernel)) ggX10_join_X10_giveShares
theorem dX10_join_0 : decode cX10_join 0 = .ok (.aload_n 0, 1) := by decide +kernel
theorem dX10_join_1 : decode cX10_join 1 = .ok (.invokevirtual 167, 3) := by decide +kernel
theorem dX10_join_4 : decode cX10_join 4 = .ok (.aload_n 0, 1) := by decide +kernel
theorem dX10_join_5 : decode cX10_join 5 = .ok (.getfield 35, 3) := by decide +kernel
theorem dX10_join_8 : decode cX10_join 8 = .ok (.invokevirtual 158, 3) := by decide +kernel
theorem dX10_join_11 : decode cX10_join 11 = .ok (.invokevirtual 180, 3) := by decide +kernel
theorem dX10_join_14 : decode cX10_join 14 = .ok (.istore_n 1, 1) := by decide +kernel
theorem dX10_join_15 : decode cX10_join 15 = .ok (.aload_n 0, 1) := by decide +kernel
theorem dX10_join_16 : decode cX10_join 16 = .ok (.getfield 42, 3) := by decide +kernel
theorem dX10_join_19 : decode cX10_join 19 = .ok (.invokevirtual 183, 3) := by decide +kernel
theorem dX10_join_22 : decode cX10_join 22 = .ok (.iload_n 1, 1) := by decide +kernel
theorem dX10_join_23 : decode cX10_join 23 = .ok (.ifCond .le 19, 3) := by decide +kernel
theorem dX10_join_26 : decode cX10_join 26 = .ok (.iload_n 1, 1) := by decide +kernel
theorem dX10_join_27 : decode cX10_join 27 = .ok (.bipush 10, 2) := by decide +kernel
theorem dX10_join_29 : decode cX10_join 29 = .ok (.if_icmp .gt 13, 3) := by decide +kernel
theorem dX10_join_32 : decode cX10_join 32 = .ok (.aload_n 0, 1) := by decide +kernel
theorem dX10_join_33 : decode cX10_join 33 = .ok (.iload_n 1, 1) := by decide +kernel
theorem dX10_join_34 : decode cX10_join 34 = .ok (.sipush 2520, 3) := by decide +kernel
theorem dX10_join_37 : decode cX10_join 37 = .ok (.iload_n 1, 1) := by decide +kernel
theorem dX10_join_38 : decode cX10_join 38 = .ok (.idiv, 1) := by decide +kernel
theorem dX10_join_39 : decode cX10_join 39 = .ok (.invokevirtual 186, 3) := by decide +kernel
theorem dX10_join_42 : decode cX10_join 42 = .ok (.iload_n 1, 1) := by decide +kernel
theorem dX10_join_43 : decode cX10_join 43 = .ok (.ireturn, 1) := by decide +kernel
set_option maxRecDepth 20000 in
theorem ggX10_share_X10_needNet : GoodIn wsX10_share wsX10_needNet := goodIn_ca (goodIn_r _ [6, 7, 8, 9, 10, 11, 12, 13, 14, 15, 22, 23, 24, 25, 26, 27, 28, 29, 30, 31, 32, 33, 34, 35, 36, 37, 38] (by eq_refl) (by decide +kernel)) (goodIn_sub (fun _ h => List.mem_cons_of_mem _ (List.mem_append_right _ h)) (by decide +kernel))
set_option maxRecDepth 20000 in
theorem gX10_share_X10_needNet : GoodIn wsX10_share (wsV RX10 81 RX10 yX10_needNet wsX10_needNet) := goodIn_app (goodIn_r _ [2, 3, 4, 5] (by eq_refl) (by decide +kernel)) ggX10_share_X10_needNet
set_option maxRecDepth 20000 in
theorem ggX10_share_X7_of : GoodIn wsX10_share wsX7_of := goodIn_r _ [20, 21, 39, 40] (by eq_refl) (by decide +kernel)
set_option maxRecDepth 20000 in
theorem gX10_share_X7_of : GoodIn wsX10_share (wsV RX10 190 RX7 yX7_of wsX7_of) := goodIn_app (goodIn_r _ [16, 17, 18, 19] (by eq_refl) (by decide +kernel)) ggX10_share_X7_of
theorem dX10_share_0 : decode cX10_share 0 = .ok (.aload_n 0, 1) := by decide +kernel
theorem dX10_share_1 : decode cX10_share 1 = .ok (.iload_n 1, 1) := by decide +kernel
theorem dX10_share_2 : decode cX10_share 2 = .ok (.invokevirtual 81, 3) := by decide +kernel
theorem dX10_share_5 : decode cX10_share 5 = .ok (.aload_n 0, 1) := by decide +kernel
theorem dX10_share_6 : decode cX10_share 6 = .ok (.getfield 42, 3) := by decide +kernel
theorem dX10_share_9 : decode cX10_share 9 = .ok (.iload_n 1, 1) := by decide +kernel
theorem dX10_share_10 : decode cX10_share 10 = .ok (.invokevirtual 190, 3) := by decide +kernel
theorem dX10_share_13 : decode cX10_share 13 = .ok (.ireturn, 1) := by decide +kernel
set_option maxRecDepth 20000 in
theorem ggX10_chain_X1_begin : GoodIn wsX10_chain wsX1_begin := goodIn_r _ [8, 9, 10, 19, 20, 21, 22] (by eq_refl) (by decide +kernel)
set_option maxRecDepth 20000 in
theorem gX10_chain_X1_begin : GoodIn wsX10_chain (wsV RX10 195 RX1 yX1_begin wsX1_begin) := goodIn_app (goodIn_r _ [4, 5, 6, 7] (by eq_refl) (by decide +kernel)) ggX10_chain_X1_begin
theorem dX10_chain_0 : decode cX10_chain 0 = .ok (.iload_n 1, 1) := by decide +kernel
theorem dX10_chain_1 : decode cX10_chain 1 = .ok (.iconst 1, 1) := by decide +kernel
theorem dX10_chain_2 : decode cX10_chain 2 = .ok (.if_icmp .lt 9, 3) := by decide +kernel
theorem dX10_chain_5 : decode cX10_chain 5 = .ok (.iload_n 1, 1) := by decide +kernel
theorem dX10_chain_6 : decode cX10_chain 6 = .ok (.bipush 64, 2) := by decide +kernel
theorem dX10_chain_8 : decode cX10_chain 8 = .ok (.if_icmp .le 13, 3) := by decide +kernel
theorem dX10_chain_11 : decode cX10_chain 11 = .ok (.new 87, 3) := by decide +kernel
theorem dX10_chain_14 : decode cX10_chain 14 = .ok (.dup, 1) := by decide +kernel
theorem dX10_chain_15 : decode cX10_chain 15 = .ok (.ldc 193, 2) := by decide +kernel
theorem dX10_chain_17 : decode cX10_chain 17 = .ok (.invokespecial 91, 3) := by decide +kernel
theorem dX10_chain_20 : decode cX10_chain 20 = .ok (.athrow, 1) := by decide +kernel
theorem dX10_chain_21 : decode cX10_chain 21 = .ok (.aload_n 0, 1) := by decide +kernel
