theorem dX2_init_0 : decode cX2_init 0 = .ok (.aload_n 0, 1) := by decide +kernel
theorem dX2_init_1 : decode cX2_init 1 = .ok (.invokespecial 3, 3) := by decide +kernel
theorem dX2_init_4 : decode cX2_init 4 = .ok (.aload_n 0, 1) := by decide +kernel
theorem dX2_init_5 : decode cX2_init 5 = .ok (.sipush 200, 3) := by decide +kernel
theorem dX2_init_8 : decode cX2_init 8 = .ok (.newarray .int, 2) := by decide +kernel
theorem dX2_init_10 : decode cX2_init 10 = .ok (.putfield 9, 3) := by decide +kernel
theorem dX2_init_13 : decode cX2_init 13 = .ok (.aload_n 0, 1) := by decide +kernel
theorem dX2_init_14 : decode cX2_init 14 = .ok (.sipush 200, 3) := by decide +kernel
theorem dX2_init_17 : decode cX2_init 17 = .ok (.newarray .int, 2) := by decide +kernel
theorem dX2_init_19 : decode cX2_init 19 = .ok (.putfield 15, 3) := by decide +kernel
theorem dX2_init_22 : decode cX2_init 22 = .ok (.aload_n 0, 1) := by decide +kernel
theorem dX2_init_23 : decode cX2_init 23 = .ok (.sipush 200, 3) := by decide +kernel
theorem dX2_init_26 : decode cX2_init 26 = .ok (.newarray .int, 2) := by decide +kernel
theorem dX2_init_28 : decode cX2_init 28 = .ok (.putfield 18, 3) := by decide +kernel
theorem dX2_init_31 : decode cX2_init 31 = .ok (.aload_n 0, 1) := by decide +kernel
theorem dX2_init_32 : decode cX2_init 32 = .ok (.sipush 200, 3) := by decide +kernel
theorem dX2_init_35 : decode cX2_init 35 = .ok (.newarray .long, 2) := by decide +kernel
theorem dX2_init_37 : decode cX2_init 37 = .ok (.putfield 21, 3) := by decide +kernel
theorem dX2_init_40 : decode cX2_init 40 = .ok (.aload_n 0, 1) := by decide +kernel
theorem dX2_init_41 : decode cX2_init 41 = .ok (.sipush 200, 3) := by decide +kernel
theorem dX2_init_44 : decode cX2_init 44 = .ok (.newarray .long, 2) := by decide +kernel
theorem dX2_init_46 : decode cX2_init 46 = .ok (.putfield 25, 3) := by decide +kernel
theorem dX2_init_49 : decode cX2_init 49 = .ok (.aload_n 0, 1) := by decide +kernel
theorem dX2_init_50 : decode cX2_init 50 = .ok (.sipush 200, 3) := by decide +kernel
theorem dX2_init_53 : decode cX2_init 53 = .ok (.newarray .boolean, 2) := by decide +kernel
theorem dX2_init_55 : decode cX2_init 55 = .ok (.putfield 28, 3) := by decide +kernel
theorem dX2_init_58 : decode cX2_init 58 = .ok (.return_, 1) := by decide +kernel
theorem dX2_nets_0 : decode cX2_nets 0 = .ok (.aload_n 0, 1) := by decide +kernel
theorem dX2_nets_1 : decode cX2_nets 1 = .ok (.getfield 32, 3) := by decide +kernel
theorem dX2_nets_4 : decode cX2_nets 4 = .ok (.ireturn, 1) := by decide +kernel
theorem dX2_inputs_0 : decode cX2_inputs 0 = .ok (.aload_n 0, 1) := by decide +kernel
theorem dX2_inputs_1 : decode cX2_inputs 1 = .ok (.getfield 36, 3) := by decide +kernel
theorem dX2_inputs_4 : decode cX2_inputs 4 = .ok (.ireturn, 1) := by decide +kernel
theorem dX2_patternCount_0 : decode cX2_patternCount 0 = .ok (.aload_n 0, 1) := by decide +kernel
theorem dX2_patternCount_1 : decode cX2_patternCount 1 = .ok (.getfield 39, 3) := by decide +kernel
theorem dX2_patternCount_4 : decode cX2_patternCount 4 = .ok (.ireturn, 1) := by decide +kernel
theorem dX2_has_0 : decode cX2_has 0 = .ok (.iload_n 1, 1) := by decide +kernel
theorem dX2_has_1 : decode cX2_has 1 = .ok (.ifCond .lt 15, 3) := by decide +kernel
theorem dX2_has_4 : decode cX2_has 4 = .ok (.iload_n 1, 1) := by decide +kernel
theorem dX2_has_5 : decode cX2_has 5 = .ok (.aload_n 0, 1) := by decide +kernel
theorem dX2_has_6 : decode cX2_has 6 = .ok (.getfield 32, 3) := by decide +kernel
theorem dX2_has_9 : decode cX2_has 9 = .ok (.if_icmp .ge 7, 3) := by decide +kernel
theorem dX2_has_12 : decode cX2_has 12 = .ok (.iconst 1, 1) := by decide +kernel
theorem dX2_has_13 : decode cX2_has 13 = .ok (.goto 4, 3) := by decide +kernel
theorem dX2_has_16 : decode cX2_has 16 = .ok (.iconst 0, 1) := by decide +kernel
theorem dX2_has_17 : decode cX2_has 17 = .ok (.ireturn, 1) := by decide +kernel
set_option maxRecDepth 20000 in
theorem ggX2_hasInput_X2_has : GoodIn wsX2_hasInput wsX2_has := goodIn_r _ [6, 7, 8, 9, 10, 11, 12, 13, 14, 15, 16] (by eq_refl) (by decide +kernel)
set_option maxRecDepth 20000 in
theorem gX2_hasInput_X2_has : GoodIn wsX2_hasInput (wsV RX2 42 RX2 yX2_has wsX2_has) := goodIn_app (goodIn_r _ [2, 3, 4, 5] (by eq_refl) (by decide +kernel)) ggX2_hasInput_X2_has
theorem dX2_hasInput_0 : decode cX2_hasInput 0 = .ok (.aload_n 0, 1) := by decide +kernel
theorem dX2_hasInput_1 : decode cX2_hasInput 1 = .ok (.iload_n 1, 1) := by decide +kernel
theorem dX2_hasInput_2 : decode cX2_hasInput 2 = .ok (.invokevirtual 42, 3) := by decide +kernel
theorem dX2_hasInput_5 : decode cX2_hasInput 5 = .ok (.ifCond .eq 17, 3) := by decide +kernel
theorem dX2_hasInput_8 : decode cX2_hasInput 8 = .ok (.aload_n 0, 1) := by decide +kernel
theorem dX2_hasInput_9 : decode cX2_hasInput 9 = .ok (.getfield 9, 3) := by decide +kernel
theorem dX2_hasInput_12 : decode cX2_hasInput 12 = .ok (.iload_n 1, 1) := by decide +kernel
theorem dX2_hasInput_13 : decode cX2_hasInput 13 = .ok (.iaload, 1) := by decide +kernel
theorem dX2_hasInput_14 : decode cX2_hasInput 14 = .ok (.iconst (-1), 1) := by decide +kernel
theorem dX2_hasInput_15 : decode cX2_hasInput 15 = .ok (.if_icmp .ne 7, 3) := by decide +kernel
theorem dX2_hasInput_18 : decode cX2_hasInput 18 = .ok (.iconst 1, 1) := by decide +kernel
theorem dX2_hasInput_19 : decode cX2_hasInput 19 = .ok (.goto 4, 3) := by decide +kernel
theorem dX2_hasInput_22 : decode cX2_hasInput 22 = .ok (.iconst 0, 1) := by decide +kernel
theorem dX2_hasInput_23 : decode cX2_hasInput 23 = .ok (.ireturn, 1) := by decide +kernel
theorem dX2_addInput_0 : decode cX2_addInput 0 = .ok (.aload_n 0, 1) := by decide +kernel
theorem dX2_addInput_1 : decode cX2_addInput 1 = .ok (.getfield 9, 3) := by decide +kernel
theorem dX2_addInput_4 : decode cX2_addInput 4 = .ok (.aload_n 0, 1) := by decide +kernel
theorem dX2_addInput_5 : decode cX2_addInput 5 = .ok (.getfield 32, 3) := by decide +kernel
theorem dX2_addInput_8 : decode cX2_addInput 8 = .ok (.iconst (-1), 1) := by decide +kernel
theorem dX2_addInput_9 : decode cX2_addInput 9 = .ok (.iastore, 1) := by decide +kernel
theorem dX2_addInput_10 : decode cX2_addInput 10 = .ok (.aload_n 0, 1) := by decide +kernel
theorem dX2_addInput_11 : decode cX2_addInput 11 = .ok (.getfield 21, 3) := by decide +kernel
theorem dX2_addInput_14 : decode cX2_addInput 14 = .ok (.aload_n 0, 1) := by decide +kernel
theorem dX2_addInput_15 : decode cX2_addInput 15 = .ok (.getfield 32, 3) := by decide +kernel
theorem dX2_addInput_18 : decode cX2_addInput 18 = .ok (.lconst 0, 1) := by decide +kernel
theorem dX2_addInput_19 : decode cX2_addInput 19 = .ok (.lastore, 1) := by decide +kernel
theorem dX2_addInput_20 : decode cX2_addInput 20 = .ok (.aload_n 0, 1) := by decide +kernel
theorem dX2_addInput_21 : decode cX2_addInput 21 = .ok (.dup, 1) := by decide +kernel
theorem dX2_addInput_22 : decode cX2_addInput 22 = .ok (.getfield 36, 3) := by decide +kernel
theorem dX2_addInput_25 : decode cX2_addInput 25 = .ok (.iconst 1, 1) := by decide +kernel
theorem dX2_addInput_26 : decode cX2_addInput 26 = .ok (.iadd, 1) := by decide +kernel
theorem dX2_addInput_27 : decode cX2_addInput 27 = .ok (.putfield 36, 3) := by decide +kernel
theorem dX2_addInput_30 : decode cX2_addInput 30 = .ok (.aload_n 0, 1) := by decide +kernel
theorem dX2_addInput_31 : decode cX2_addInput 31 = .ok (.dup, 1) := by decide +kernel
theorem dX2_addInput_32 : decode cX2_addInput 32 = .ok (.getfield 32, 3) := by decide +kernel
theorem dX2_addInput_35 : decode cX2_addInput 35 = .ok (.iconst 1, 1) := by decide +kernel
theorem dX2_addInput_36 : decode cX2_addInput 36 = .ok (.iadd, 1) := by decide +kernel
theorem dX2_addInput_37 : decode cX2_addInput 37 = .ok (.putfield 32, 3) := by decide +kernel
theorem dX2_addInput_40 : decode cX2_addInput 40 = .ok (.aload_n 0, 1) := by decide +kernel
theorem dX2_addInput_41 : decode cX2_addInput 41 = .ok (.getfield 32, 3) := by decide +kernel
theorem dX2_addInput_44 : decode cX2_addInput 44 = .ok (.iconst 1, 1) := by decide +kernel
theorem dX2_addInput_45 : decode cX2_addInput 45 = .ok (.isub, 1) := by decide +kernel
theorem dX2_addInput_46 : decode cX2_addInput 46 = .ok (.ireturn, 1) := by decide +kernel
set_option maxRecDepth 20000 in
theorem ggX2_addGate_X2_gateRow : GoodIn wsX2_addGate wsX2_gateRow := goodIn_r _ [10, 3, 4, 1, 11, 12, 13, 14, 15, 16, 17, 18, 19, 20] (by eq_refl) (by decide +kernel)
set_option maxRecDepth 20000 in
theorem gX2_addGate_X2_gateRow : GoodIn wsX2_addGate (wsV RX2 46 RX2 yX2_gateRow wsX2_gateRow) := goodIn_app (goodIn_r _ [6, 7, 8, 9] (by eq_refl) (by decide +kernel)) ggX2_addGate_X2_gateRow
theorem dX2_addGate_0 : decode cX2_addGate 0 = .ok (.aload_n 0, 1) := by decide +kernel
theorem dX2_addGate_1 : decode cX2_addGate 1 = .ok (.getfield 9, 3) := by decide +kernel
theorem dX2_addGate_4 : decode cX2_addGate 4 = .ok (.aload_n 0, 1) := by decide +kernel
theorem dX2_addGate_5 : decode cX2_addGate 5 = .ok (.getfield 32, 3) := by decide +kernel
theorem dX2_addGate_8 : decode cX2_addGate 8 = .ok (.iload_n 1, 1) := by decide +kernel
theorem dX2_addGate_9 : decode cX2_addGate 9 = .ok (.iastore, 1) := by decide +kernel
theorem dX2_addGate_10 : decode cX2_addGate 10 = .ok (.aload_n 0, 1) := by decide +kernel
theorem dX2_addGate_11 : decode cX2_addGate 11 = .ok (.getfield 15, 3) := by decide +kernel
theorem dX2_addGate_14 : decode cX2_addGate 14 = .ok (.aload_n 0, 1) := by decide +kernel
theorem dX2_addGate_15 : decode cX2_addGate 15 = .ok (.getfield 32, 3) := by decide +kernel
theorem dX2_addGate_18 : decode cX2_addGate 18 = .ok (.iload_n 2, 1) := by decide +kernel
theorem dX2_addGate_19 : decode cX2_addGate 19 = .ok (.iastore, 1) := by decide +kernel
theorem dX2_addGate_20 : decode cX2_addGate 20 = .ok (.aload_n 0, 1) := by decide +kernel
theorem dX2_addGate_21 : decode cX2_addGate 21 = .ok (.getfield 18, 3) := by decide +kernel
theorem dX2_addGate_24 : decode cX2_addGate 24 = .ok (.aload_n 0, 1) := by decide +kernel
theorem dX2_addGate_25 : decode cX2_addGate 25 = .ok (.getfield 32, 3) := by decide +kernel
theorem dX2_addGate_28 : decode cX2_addGate 28 = .ok (.iload_n 3, 1) := by decide +kernel
theorem dX2_addGate_29 : decode cX2_addGate 29 = .ok (.iastore, 1) := by decide +kernel
theorem dX2_addGate_30 : decode cX2_addGate 30 = .ok (.aload_n 0, 1) := by decide +kernel
theorem dX2_addGate_31 : decode cX2_addGate 31 = .ok (.getfield 21, 3) := by decide +kernel
theorem dX2_addGate_34 : decode cX2_addGate 34 = .ok (.aload_n 0, 1) := by decide +kernel
theorem dX2_addGate_35 : decode cX2_addGate 35 = .ok (.getfield 32, 3) := by decide +kernel
theorem dX2_addGate_38 : decode cX2_addGate 38 = .ok (.aload_n 0, 1) := by decide +kernel
theorem dX2_addGate_39 : decode cX2_addGate 39 = .ok (.aload_n 0, 1) := by decide +kernel
theorem dX2_addGate_40 : decode cX2_addGate 40 = .ok (.getfield 32, 3) := by decide +kernel
theorem dX2_addGate_43 : decode cX2_addGate 43 = .ok (.aload_n 0, 1) := by decide +kernel
theorem dX2_addGate_44 : decode cX2_addGate 44 = .ok (.getfield 21, 3) := by decide +kernel
theorem dX2_addGate_47 : decode cX2_addGate 47 = .ok (.invokevirtual 46, 3) := by decide +kernel
theorem dX2_addGate_50 : decode cX2_addGate 50 = .ok (.lastore, 1) := by decide +kernel
theorem dX2_addGate_51 : decode cX2_addGate 51 = .ok (.aload_n 0, 1) := by decide +kernel
theorem dX2_addGate_52 : decode cX2_addGate 52 = .ok (.dup, 1) := by decide +kernel
theorem dX2_addGate_53 : decode cX2_addGate 53 = .ok (.getfield 32, 3) := by decide +kernel
theorem dX2_addGate_56 : decode cX2_addGate 56 = .ok (.iconst 1, 1) := by decide +kernel
theorem dX2_addGate_57 : decode cX2_addGate 57 = .ok (.iadd, 1) := by decide +kernel
theorem dX2_addGate_58 : decode cX2_addGate 58 = .ok (.putfield 32, 3) := by decide +kernel
theorem dX2_addGate_61 : decode cX2_addGate 61 = .ok (.aload_n 0, 1) := by decide +kernel
theorem dX2_addGate_62 : decode cX2_addGate 62 = .ok (.getfield 32, 3) := by decide +kernel
theorem dX2_addGate_65 : decode cX2_addGate 65 = .ok (.iconst 1, 1) := by decide +kernel
theorem dX2_addGate_66 : decode cX2_addGate 66 = .ok (.isub, 1) := by decide +kernel
theorem dX2_addGate_67 : decode cX2_addGate 67 = .ok (.ireturn, 1) := by decide +kernel
theorem dX2_putPatterns_0 : decode cX2_putPatterns 0 = .ok (.aload_n 0, 1) := by decide +kernel
theorem dX2_putPatterns_1 : decode cX2_putPatterns 1 = .ok (.getfield 39, 3) := by decide +kernel
theorem dX2_putPatterns_4 : decode cX2_putPatterns 4 = .ok (.istore_n 2, 1) := by decide +kernel
theorem dX2_putPatterns_5 : decode cX2_putPatterns 5 = .ok (.aload_n 0, 1) := by decide +kernel
theorem dX2_putPatterns_6 : decode cX2_putPatterns 6 = .ok (.iload_n 1, 1) := by decide +kernel
theorem dX2_putPatterns_7 : decode cX2_putPatterns 7 = .ok (.putfield 39, 3) := by decide +kernel
theorem dX2_putPatterns_10 : decode cX2_putPatterns 10 = .ok (.iload_n 2, 1) := by decide +kernel
theorem dX2_putPatterns_11 : decode cX2_putPatterns 11 = .ok (.ireturn, 1) := by decide +kernel
set_option maxRecDepth 20000 in
theorem ggX2_putRow_X2_gateRow : GoodIn wsX2_putRow wsX2_gateRow := goodIn_r _ [8, 9, 10, 3, 11, 12, 13, 14, 15, 16, 17, 18, 19, 20] (by eq_refl) (by decide +kernel)
set_option maxRecDepth 20000 in
theorem gX2_putRow_X2_gateRow : GoodIn wsX2_putRow (wsV RX2 46 RX2 yX2_gateRow wsX2_gateRow) := goodIn_app (goodIn_r _ [4, 5, 6, 7] (by eq_refl) (by decide +kernel)) ggX2_putRow_X2_gateRow
theorem dX2_putRow_0 : decode cX2_putRow 0 = .ok (.aload_n 0, 1) := by decide +kernel
theorem dX2_putRow_1 : decode cX2_putRow 1 = .ok (.getfield 21, 3) := by decide +kernel
theorem dX2_putRow_4 : decode cX2_putRow 4 = .ok (.iload_n 1, 1) := by decide +kernel
theorem dX2_putRow_5 : decode cX2_putRow 5 = .ok (.laload, 1) := by decide +kernel
theorem dX2_putRow_6 : decode cX2_putRow 6 = .ok (.lstore 4, 2) := by decide +kernel
theorem dX2_putRow_8 : decode cX2_putRow 8 = .ok (.aload_n 0, 1) := by decide +kernel
theorem dX2_putRow_9 : decode cX2_putRow 9 = .ok (.getfield 21, 3) := by decide +kernel
theorem dX2_putRow_12 : decode cX2_putRow 12 = .ok (.iload_n 1, 1) := by decide +kernel
theorem dX2_putRow_13 : decode cX2_putRow 13 = .ok (.lload_n 2, 1) := by decide +kernel
theorem dX2_putRow_14 : decode cX2_putRow 14 = .ok (.lastore, 1) := by decide +kernel
theorem dX2_putRow_15 : decode cX2_putRow 15 = .ok (.iload_n 1, 1) := by decide +kernel
theorem dX2_putRow_16 : decode cX2_putRow 16 = .ok (.iconst 1, 1) := by decide +kernel
theorem dX2_putRow_17 : decode cX2_putRow 17 = .ok (.iadd, 1) := by decide +kernel
theorem dX2_putRow_18 : decode cX2_putRow 18 = .ok (.istore 6, 2) := by decide +kernel
theorem dX2_putRow_20 : decode cX2_putRow 20 = .ok (.iload 6, 2) := by decide +kernel
theorem dX2_putRow_22 : decode cX2_putRow 22 = .ok (.aload_n 0, 1) := by decide +kernel
theorem dX2_putRow_23 : decode cX2_putRow 23 = .ok (.getfield 32, 3) := by decide +kernel
theorem dX2_putRow_26 : decode cX2_putRow 26 = .ok (.if_icmp .ge 37, 3) := by decide +kernel
theorem dX2_putRow_29 : decode cX2_putRow 29 = .ok (.aload_n 0, 1) := by decide +kernel
theorem dX2_putRow_30 : decode cX2_putRow 30 = .ok (.getfield 9, 3) := by decide +kernel
theorem dX2_putRow_33 : decode cX2_putRow 33 = .ok (.iload 6, 2) := by decide +kernel
theorem dX2_putRow_35 : decode cX2_putRow 35 = .ok (.iaload, 1) := by decide +kernel
theorem dX2_putRow_36 : decode cX2_putRow 36 = .ok (.iconst (-1), 1) := by decide +kernel
theorem dX2_putRow_37 : decode cX2_putRow 37 = .ok (.if_icmp .eq 20, 3) := by decide +kernel
theorem dX2_putRow_40 : decode cX2_putRow 40 = .ok (.aload_n 0, 1) := by decide +kernel
theorem dX2_putRow_41 : decode cX2_putRow 41 = .ok (.getfield 21, 3) := by decide +kernel
theorem dX2_putRow_44 : decode cX2_putRow 44 = .ok (.iload 6, 2) := by decide +kernel
theorem dX2_putRow_46 : decode cX2_putRow 46 = .ok (.aload_n 0, 1) := by decide +kernel
theorem dX2_putRow_47 : decode cX2_putRow 47 = .ok (.iload 6, 2) := by decide +kernel
theorem dX2_putRow_49 : decode cX2_putRow 49 = .ok (.aload_n 0, 1) := by decide +kernel
theorem dX2_putRow_50 : decode cX2_putRow 50 = .ok (.getfield 21, 3) := by decide +kernel
theorem dX2_putRow_53 : decode cX2_putRow 53 = .ok (.invokevirtual 46, 3) := by decide +kernel
theorem dX2_putRow_56 : decode cX2_putRow 56 = .ok (.lastore, 1) := by decide +kernel
theorem dX2_putRow_57 : decode cX2_putRow 57 = .ok (.iinc 6 1, 3) := by decide +kernel
theorem dX2_putRow_60 : decode cX2_putRow 60 = .ok (.goto (-40), 3) := by decide +kernel
theorem dX2_putRow_63 : decode cX2_putRow 63 = .ok (.lload 4, 2) := by decide +kernel
theorem dX2_putRow_65 : decode cX2_putRow 65 = .ok (.lreturn, 1) := by decide +kernel
set_option maxRecDepth 20000 in
theorem ggX2_goodRow_X2_counted : GoodIn wsX2_goodRow wsX2_counted := goodIn_r _ [6, 7, 8, 9, 10, 11, 12, 13, 14, 15, 16, 17] (by eq_refl) (by decide +kernel)
set_option maxRecDepth 20000 in
theorem gX2_goodRow_X2_counted : GoodIn wsX2_goodRow (wsV RX2 50 RX2 yX2_counted wsX2_counted) := goodIn_app (goodIn_r _ [2, 3, 4, 5] (by eq_refl) (by decide +kernel)) ggX2_goodRow_X2_counted
theorem dX2_goodRow_0 : decode cX2_goodRow 0 = .ok (.aload_n 0, 1) := by decide +kernel
theorem dX2_goodRow_1 : decode cX2_goodRow 1 = .ok (.getfield 21, 3) := by decide +kernel
theorem dX2_goodRow_4 : decode cX2_goodRow 4 = .ok (.iload_n 1, 1) := by decide +kernel
theorem dX2_goodRow_5 : decode cX2_goodRow 5 = .ok (.laload, 1) := by decide +kernel
theorem dX2_goodRow_6 : decode cX2_goodRow 6 = .ok (.aload_n 0, 1) := by decide +kernel
theorem dX2_goodRow_7 : decode cX2_goodRow 7 = .ok (.invokevirtual 50, 3) := by decide +kernel
theorem dX2_goodRow_10 : decode cX2_goodRow 10 = .ok (.land, 1) := by decide +kernel
theorem dX2_goodRow_11 : decode cX2_goodRow 11 = .ok (.lreturn, 1) := by decide +kernel
theorem dX2_counted_0 : decode cX2_counted 0 = .ok (.aload_n 0, 1) := by decide +kernel
theorem dX2_counted_1 : decode cX2_counted 1 = .ok (.getfield 39, 3) := by decide +kernel
theorem dX2_counted_4 : decode cX2_counted 4 = .ok (.ifCond .ne 7, 3) := by decide +kernel
theorem dX2_counted_7 : decode cX2_counted 7 = .ok (.lconst 0, 1) := by decide +kernel
theorem dX2_counted_8 : decode cX2_counted 8 = .ok (.goto 14, 3) := by decide +kernel
theorem dX2_counted_11 : decode cX2_counted 11 = .ok (.ldc2_w 54, 3) := by decide +kernel
theorem dX2_counted_14 : decode cX2_counted 14 = .ok (.bipush 64, 2) := by decide +kernel
theorem dX2_counted_16 : decode cX2_counted 16 = .ok (.aload_n 0, 1) := by decide +kernel
theorem dX2_counted_17 : decode cX2_counted 17 = .ok (.getfield 39, 3) := by decide +kernel
theorem dX2_counted_20 : decode cX2_counted 20 = .ok (.isub, 1) := by decide +kernel
theorem dX2_counted_21 : decode cX2_counted 21 = .ok (.lushr, 1) := by decide +kernel
theorem dX2_counted_22 : decode cX2_counted 22 = .ok (.lreturn, 1) := by decide +kernel
set_option maxRecDepth 20000 in
theorem ggX2_oneReachesTheOther_X2_isReached : GoodIn wsX2_oneReachesTheOther wsX2_isReached := goodIn_r _ [16, 8, 17, 18, 19, 20, 21, 22, 23, 24, 25] (by eq_refl) (by decide +kernel)
set_option maxRecDepth 20000 in
theorem gX2_oneReachesTheOther_X2_isReached : GoodIn wsX2_oneReachesTheOther (wsV RX2 65 RX2 yX2_isReached wsX2_isReached) := goodIn_app (goodIn_r _ [12, 13, 14, 15] (by eq_refl) (by decide +kernel)) ggX2_oneReachesTheOther_X2_isReached
theorem dX2_oneReachesTheOther_0 : decode cX2_oneReachesTheOther 0 = .ok (.iload_n 1, 1) := by decide +kernel
theorem dX2_oneReachesTheOther_1 : decode cX2_oneReachesTheOther 1 = .ok (.iload_n 2, 1) := by decide +kernel
theorem dX2_oneReachesTheOther_2 : decode cX2_oneReachesTheOther 2 = .ok (.invokestatic 56, 3) := by decide +kernel
theorem dX2_oneReachesTheOther_5 : decode cX2_oneReachesTheOther 5 = .ok (.istore_n 3, 1) := by decide +kernel
theorem dX2_oneReachesTheOther_6 : decode cX2_oneReachesTheOther 6 = .ok (.iload_n 1, 1) := by decide +kernel
theorem dX2_oneReachesTheOther_7 : decode cX2_oneReachesTheOther 7 = .ok (.iload_n 2, 1) := by decide +kernel
theorem dX2_oneReachesTheOther_8 : decode cX2_oneReachesTheOther 8 = .ok (.invokestatic 62, 3) := by decide +kernel
theorem dX2_oneReachesTheOther_11 : decode cX2_oneReachesTheOther 11 = .ok (.istore 4, 2) := by decide +kernel
theorem dX2_oneReachesTheOther_13 : decode cX2_oneReachesTheOther 13 = .ok (.aload_n 0, 1) := by decide +kernel
theorem dX2_oneReachesTheOther_14 : decode cX2_oneReachesTheOther 14 = .ok (.getfield 28, 3) := by decide +kernel
theorem dX2_oneReachesTheOther_17 : decode cX2_oneReachesTheOther 17 = .ok (.iload_n 3, 1) := by decide +kernel
theorem dX2_oneReachesTheOther_18 : decode cX2_oneReachesTheOther 18 = .ok (.iconst 1, 1) := by decide +kernel
theorem dX2_oneReachesTheOther_19 : decode cX2_oneReachesTheOther 19 = .ok (.bastore, 1) := by decide +kernel
theorem dX2_oneReachesTheOther_20 : decode cX2_oneReachesTheOther 20 = .ok (.iload_n 3, 1) := by decide +kernel
theorem dX2_oneReachesTheOther_21 : decode cX2_oneReachesTheOther 21 = .ok (.iconst 1, 1) := by decide +kernel
theorem dX2_oneReachesTheOther_22 : decode cX2_oneReachesTheOther 22 = .ok (.iadd, 1) := by decide +kernel
theorem dX2_oneReachesTheOther_23 : decode cX2_oneReachesTheOther 23 = .ok (.istore 5, 2) := by decide +kernel
theorem dX2_oneReachesTheOther_25 : decode cX2_oneReachesTheOther 25 = .ok (.iload 5, 2) := by decide +kernel
theorem dX2_oneReachesTheOther_27 : decode cX2_oneReachesTheOther 27 = .ok (.iload 4, 2) := by decide +kernel
theorem dX2_oneReachesTheOther_29 : decode cX2_oneReachesTheOther 29 = .ok (.if_icmp .gt 62, 3) := by decide +kernel
theorem dX2_oneReachesTheOther_32 : decode cX2_oneReachesTheOther 32 = .ok (.aload_n 0, 1) := by decide +kernel
theorem dX2_oneReachesTheOther_33 : decode cX2_oneReachesTheOther 33 = .ok (.getfield 28, 3) := by decide +kernel
theorem dX2_oneReachesTheOther_36 : decode cX2_oneReachesTheOther 36 = .ok (.iload 5, 2) := by decide +kernel
theorem dX2_oneReachesTheOther_38 : decode cX2_oneReachesTheOther 38 = .ok (.aload_n 0, 1) := by decide +kernel
theorem dX2_oneReachesTheOther_39 : decode cX2_oneReachesTheOther 39 = .ok (.getfield 9, 3) := by decide +kernel
theorem dX2_oneReachesTheOther_42 : decode cX2_oneReachesTheOther 42 = .ok (.iload 5, 2) := by decide +kernel
theorem dX2_oneReachesTheOther_44 : decode cX2_oneReachesTheOther 44 = .ok (.iaload, 1) := by decide +kernel
theorem dX2_oneReachesTheOther_45 : decode cX2_oneReachesTheOther 45 = .ok (.iconst (-1), 1) := by decide +kernel
theorem dX2_oneReachesTheOther_46 : decode cX2_oneReachesTheOther 46 = .ok (.if_icmp .eq 37, 3) := by decide +kernel
theorem dX2_oneReachesTheOther_49 : decode cX2_oneReachesTheOther 49 = .ok (.aload_n 0, 1) := by decide +kernel
theorem dX2_oneReachesTheOther_50 : decode cX2_oneReachesTheOther 50 = .ok (.aload_n 0, 1) := by decide +kernel
theorem dX2_oneReachesTheOther_51 : decode cX2_oneReachesTheOther 51 = .ok (.getfield 15, 3) := by decide +kernel
theorem dX2_oneReachesTheOther_54 : decode cX2_oneReachesTheOther 54 = .ok (.iload 5, 2) := by decide +kernel
theorem dX2_oneReachesTheOther_56 : decode cX2_oneReachesTheOther 56 = .ok (.iaload, 1) := by decide +kernel
theorem dX2_oneReachesTheOther_57 : decode cX2_oneReachesTheOther 57 = .ok (.iload_n 3, 1) := by decide +kernel
theorem dX2_oneReachesTheOther_58 : decode cX2_oneReachesTheOther 58 = .ok (.invokevirtual 65, 3) := by decide +kernel
theorem dX2_oneReachesTheOther_61 : decode cX2_oneReachesTheOther 61 = .ok (.ifCond .ne 18, 3) := by decide +kernel
theorem dX2_oneReachesTheOther_64 : decode cX2_oneReachesTheOther 64 = .ok (.aload_n 0, 1) := by decide +kernel
theorem dX2_oneReachesTheOther_65 : decode cX2_oneReachesTheOther 65 = .ok (.aload_n 0, 1) := by decide +kernel
theorem dX2_oneReachesTheOther_66 : decode cX2_oneReachesTheOther 66 = .ok (.getfield 18, 3) := by decide +kernel
theorem dX2_oneReachesTheOther_69 : decode cX2_oneReachesTheOther 69 = .ok (.iload 5, 2) := by decide +kernel
theorem dX2_oneReachesTheOther_71 : decode cX2_oneReachesTheOther 71 = .ok (.iaload, 1) := by decide +kernel
theorem dX2_oneReachesTheOther_72 : decode cX2_oneReachesTheOther 72 = .ok (.iload_n 3, 1) := by decide +kernel
theorem dX2_oneReachesTheOther_73 : decode cX2_oneReachesTheOther 73 = .ok (.invokevirtual 65, 3) := by decide +kernel
theorem dX2_oneReachesTheOther_76 : decode cX2_oneReachesTheOther 76 = .ok (.ifCond .eq 7, 3) := by decide +kernel
theorem dX2_oneReachesTheOther_79 : decode cX2_oneReachesTheOther 79 = .ok (.iconst 1, 1) := by decide +kernel
theorem dX2_oneReachesTheOther_80 : decode cX2_oneReachesTheOther 80 = .ok (.goto 4, 3) := by decide +kernel
theorem dX2_oneReachesTheOther_83 : decode cX2_oneReachesTheOther 83 = .ok (.iconst 0, 1) := by decide +kernel
theorem dX2_oneReachesTheOther_84 : decode cX2_oneReachesTheOther 84 = .ok (.bastore, 1) := by decide +kernel
theorem dX2_oneReachesTheOther_85 : decode cX2_oneReachesTheOther 85 = .ok (.iinc 5 1, 3) := by decide +kernel
theorem dX2_oneReachesTheOther_88 : decode cX2_oneReachesTheOther 88 = .ok (.goto (-63), 3) := by decide +kernel
theorem dX2_oneReachesTheOther_91 : decode cX2_oneReachesTheOther 91 = .ok (.aload_n 0, 1) := by decide +kernel
theorem dX2_oneReachesTheOther_92 : decode cX2_oneReachesTheOther 92 = .ok (.getfield 28, 3) := by decide +kernel
theorem dX2_oneReachesTheOther_95 : decode cX2_oneReachesTheOther 95 = .ok (.iload 4, 2) := by decide +kernel
theorem dX2_oneReachesTheOther_97 : decode cX2_oneReachesTheOther 97 = .ok (.baload, 1) := by decide +kernel
theorem dX2_oneReachesTheOther_98 : decode cX2_oneReachesTheOther 98 = .ok (.ireturn, 1) := by decide +kernel
theorem dX2_isReached_0 : decode cX2_isReached 0 = .ok (.iload_n 1, 1) := by decide +kernel
theorem dX2_isReached_1 : decode cX2_isReached 1 = .ok (.iload_n 2, 1) := by decide +kernel
theorem dX2_isReached_2 : decode cX2_isReached 2 = .ok (.if_icmp .lt 16, 3) := by decide +kernel
theorem dX2_isReached_5 : decode cX2_isReached 5 = .ok (.aload_n 0, 1) := by decide +kernel
theorem dX2_isReached_6 : decode cX2_isReached 6 = .ok (.getfield 28, 3) := by decide +kernel
theorem dX2_isReached_9 : decode cX2_isReached 9 = .ok (.iload_n 1, 1) := by decide +kernel
theorem dX2_isReached_10 : decode cX2_isReached 10 = .ok (.baload, 1) := by decide +kernel
theorem dX2_isReached_11 : decode cX2_isReached 11 = .ok (.ifCond .eq 7, 3) := by decide +kernel
theorem dX2_isReached_14 : decode cX2_isReached 14 = .ok (.iconst 1, 1) := by decide +kernel
theorem dX2_isReached_15 : decode cX2_isReached 15 = .ok (.goto 4, 3) := by decide +kernel
theorem dX2_isReached_18 : decode cX2_isReached 18 = .ok (.iconst 0, 1) := by decide +kernel
theorem dX2_isReached_19 : decode cX2_isReached 19 = .ok (.ireturn, 1) := by decide +kernel
set_option maxRecDepth 20000 in
theorem ggX2_hold_X2_gateRow : GoodIn wsX2_hold wsX2_gateRow := goodIn_r _ [17, 18, 19, 12, 20, 21, 22, 23, 24, 25, 26, 27, 28, 29] (by eq_refl) (by decide +kernel)
set_option maxRecDepth 20000 in
theorem gX2_hold_X2_gateRow : GoodIn wsX2_hold (wsV RX2 46 RX2 yX2_gateRow wsX2_gateRow) := goodIn_app (goodIn_r _ [13, 14, 15, 16] (by eq_refl) (by decide +kernel)) ggX2_hold_X2_gateRow
theorem dX2_hold_0 : decode cX2_hold 0 = .ok (.aload_n 0, 1) := by decide +kernel
theorem dX2_hold_1 : decode cX2_hold 1 = .ok (.getfield 21, 3) := by decide +kernel
theorem dX2_hold_4 : decode cX2_hold 4 = .ok (.iconst 0, 1) := by decide +kernel
theorem dX2_hold_5 : decode cX2_hold 5 = .ok (.aload_n 0, 1) := by decide +kernel
theorem dX2_hold_6 : decode cX2_hold 6 = .ok (.getfield 25, 3) := by decide +kernel
theorem dX2_hold_9 : decode cX2_hold 9 = .ok (.iconst 0, 1) := by decide +kernel
theorem dX2_hold_10 : decode cX2_hold 10 = .ok (.aload_n 0, 1) := by decide +kernel
theorem dX2_hold_11 : decode cX2_hold 11 = .ok (.getfield 32, 3) := by decide +kernel
theorem dX2_hold_14 : decode cX2_hold 14 = .ok (.invokestatic 69, 3) := by decide +kernel
theorem dX2_hold_17 : decode cX2_hold 17 = .ok (.iload_n 1, 1) := by decide +kernel
theorem dX2_hold_18 : decode cX2_hold 18 = .ok (.iload 4, 2) := by decide +kernel
theorem dX2_hold_20 : decode cX2_hold 20 = .ok (.invokestatic 56, 3) := by decide +kernel
theorem dX2_hold_23 : decode cX2_hold 23 = .ok (.istore 7, 2) := by decide +kernel
theorem dX2_hold_25 : decode cX2_hold 25 = .ok (.iload 7, 2) := by decide +kernel
theorem dX2_hold_27 : decode cX2_hold 27 = .ok (.aload_n 0, 1) := by decide +kernel
theorem dX2_hold_28 : decode cX2_hold 28 = .ok (.getfield 32, 3) := by decide +kernel
theorem dX2_hold_31 : decode cX2_hold 31 = .ok (.if_icmp .ge 73, 3) := by decide +kernel
theorem dX2_hold_34 : decode cX2_hold 34 = .ok (.iload 7, 2) := by decide +kernel
theorem dX2_hold_36 : decode cX2_hold 36 = .ok (.iload_n 1, 1) := by decide +kernel
theorem dX2_hold_37 : decode cX2_hold 37 = .ok (.if_icmp .ne 14, 3) := by decide +kernel
theorem dX2_hold_40 : decode cX2_hold 40 = .ok (.aload_n 0, 1) := by decide +kernel
theorem dX2_hold_41 : decode cX2_hold 41 = .ok (.getfield 25, 3) := by decide +kernel
theorem dX2_hold_44 : decode cX2_hold 44 = .ok (.iload 7, 2) := by decide +kernel
theorem dX2_hold_46 : decode cX2_hold 46 = .ok (.lload_n 2, 1) := by decide +kernel
theorem dX2_hold_47 : decode cX2_hold 47 = .ok (.lastore, 1) := by decide +kernel
theorem dX2_hold_48 : decode cX2_hold 48 = .ok (.goto 50, 3) := by decide +kernel
theorem dX2_hold_51 : decode cX2_hold 51 = .ok (.iload 7, 2) := by decide +kernel
theorem dX2_hold_53 : decode cX2_hold 53 = .ok (.iload 4, 2) := by decide +kernel
theorem dX2_hold_55 : decode cX2_hold 55 = .ok (.if_icmp .ne 15, 3) := by decide +kernel
theorem dX2_hold_58 : decode cX2_hold 58 = .ok (.aload_n 0, 1) := by decide +kernel
theorem dX2_hold_59 : decode cX2_hold 59 = .ok (.getfield 25, 3) := by decide +kernel
theorem dX2_hold_62 : decode cX2_hold 62 = .ok (.iload 7, 2) := by decide +kernel
theorem dX2_hold_64 : decode cX2_hold 64 = .ok (.lload 5, 2) := by decide +kernel
theorem dX2_hold_66 : decode cX2_hold 66 = .ok (.lastore, 1) := by decide +kernel
theorem dX2_hold_67 : decode cX2_hold 67 = .ok (.goto 31, 3) := by decide +kernel
theorem dX2_hold_70 : decode cX2_hold 70 = .ok (.aload_n 0, 1) := by decide +kernel
theorem dX2_hold_71 : decode cX2_hold 71 = .ok (.getfield 9, 3) := by decide +kernel
theorem dX2_hold_74 : decode cX2_hold 74 = .ok (.iload 7, 2) := by decide +kernel
theorem dX2_hold_76 : decode cX2_hold 76 = .ok (.iaload, 1) := by decide +kernel
theorem dX2_hold_77 : decode cX2_hold 77 = .ok (.iconst (-1), 1) := by decide +kernel
theorem dX2_hold_78 : decode cX2_hold 78 = .ok (.if_icmp .eq 20, 3) := by decide +kernel
theorem dX2_hold_81 : decode cX2_hold 81 = .ok (.aload_n 0, 1) := by decide +kernel
theorem dX2_hold_82 : decode cX2_hold 82 = .ok (.getfield 25, 3) := by decide +kernel
theorem dX2_hold_85 : decode cX2_hold 85 = .ok (.iload 7, 2) := by decide +kernel
theorem dX2_hold_87 : decode cX2_hold 87 = .ok (.aload_n 0, 1) := by decide +kernel
theorem dX2_hold_88 : decode cX2_hold 88 = .ok (.iload 7, 2) := by decide +kernel
theorem dX2_hold_90 : decode cX2_hold 90 = .ok (.aload_n 0, 1) := by decide +kernel
theorem dX2_hold_91 : decode cX2_hold 91 = .ok (.getfield 25, 3) := by decide +kernel
theorem dX2_hold_94 : decode cX2_hold 94 = .ok (.invokevirtual 46, 3) := by decide +kernel
theorem dX2_hold_97 : decode cX2_hold 97 = .ok (.lastore, 1) := by decide +kernel
theorem dX2_hold_98 : decode cX2_hold 98 = .ok (.iinc 7 1, 3) := by decide +kernel
theorem dX2_hold_101 : decode cX2_hold 101 = .ok (.goto (-76), 3) := by decide +kernel
theorem dX2_hold_104 : decode cX2_hold 104 = .ok (.return_, 1) := by decide +kernel
set_option maxRecDepth 20000 in
theorem ggX2_holdStuck_X2_stuckRow : GoodIn wsX2_holdStuck wsX2_stuckRow := goodIn_r _ [4, 5] (by eq_refl) (by decide +kernel)
set_option maxRecDepth 20000 in
theorem gX2_holdStuck_X2_stuckRow : GoodIn wsX2_holdStuck (va_wsS RX2 75 yX2_stuckRow wsX2_stuckRow) := goodIn_app (goodIn_r _ [1, 2, 3] (by eq_refl) (by decide +kernel)) ggX2_holdStuck_X2_stuckRow
set_option maxRecDepth 20000 in
theorem ggX2_holdStuck_X2_hold : GoodIn wsX2_holdStuck wsX2_hold := goodIn_r _ [9, 10, 11, 12, 13, 14, 15, 16, 17, 18, 19, 20, 21, 22, 23, 24, 3, 25, 26, 27, 5, 28, 29, 30, 31, 32, 33, 34, 35, 36] (by eq_refl) (by decide +kernel)
set_option maxRecDepth 20000 in
theorem gX2_holdStuck_X2_hold : GoodIn wsX2_holdStuck (wsV RX2 79 RX2 yX2_hold wsX2_hold) := goodIn_app (goodIn_r _ [6, 7, 8, 3] (by eq_refl) (by decide +kernel)) ggX2_holdStuck_X2_hold
theorem dX2_holdStuck_0 : decode cX2_holdStuck 0 = .ok (.aload_n 0, 1) := by decide +kernel
theorem dX2_holdStuck_1 : decode cX2_holdStuck 1 = .ok (.iload_n 1, 1) := by decide +kernel
theorem dX2_holdStuck_2 : decode cX2_holdStuck 2 = .ok (.iload_n 2, 1) := by decide +kernel
theorem dX2_holdStuck_3 : decode cX2_holdStuck 3 = .ok (.invokestatic 75, 3) := by decide +kernel
theorem dX2_holdStuck_6 : decode cX2_holdStuck 6 = .ok (.iload_n 3, 1) := by decide +kernel
theorem dX2_holdStuck_7 : decode cX2_holdStuck 7 = .ok (.iload 4, 2) := by decide +kernel
theorem dX2_holdStuck_9 : decode cX2_holdStuck 9 = .ok (.invokestatic 75, 3) := by decide +kernel
theorem dX2_holdStuck_12 : decode cX2_holdStuck 12 = .ok (.invokevirtual 79, 3) := by decide +kernel
theorem dX2_holdStuck_15 : decode cX2_holdStuck 15 = .ok (.return_, 1) := by decide +kernel
set_option maxRecDepth 20000 in
theorem ggX2_holdJoined_X2_hold : GoodIn wsX2_holdJoined wsX2_hold := goodIn_r _ [6, 1, 7, 8, 9, 10, 11, 12, 13, 14, 15, 16, 17, 18, 19, 20, 5, 21, 22, 23, 24, 25, 26, 27, 28, 29, 30, 31, 32, 33] (by eq_refl) (by decide +kernel)
set_option maxRecDepth 20000 in
theorem gX2_holdJoined_X2_hold : GoodIn wsX2_holdJoined (wsV RX2 79 RX2 yX2_hold wsX2_hold) := goodIn_app (goodIn_r _ [2, 3, 4, 5] (by eq_refl) (by decide +kernel)) ggX2_holdJoined_X2_hold
theorem dX2_holdJoined_0 : decode cX2_holdJoined 0 = .ok (.iload_n 3, 1) := by decide +kernel
theorem dX2_holdJoined_1 : decode cX2_holdJoined 1 = .ok (.iconst 2, 1) := by decide +kernel
theorem dX2_holdJoined_2 : decode cX2_holdJoined 2 = .ok (.if_icmp .ne 19, 3) := by decide +kernel
theorem dX2_holdJoined_5 : decode cX2_holdJoined 5 = .ok (.aload_n 0, 1) := by decide +kernel
theorem dX2_holdJoined_6 : decode cX2_holdJoined 6 = .ok (.getfield 21, 3) := by decide +kernel
theorem dX2_holdJoined_9 : decode cX2_holdJoined 9 = .ok (.iload_n 1, 1) := by decide +kernel
theorem dX2_holdJoined_10 : decode cX2_holdJoined 10 = .ok (.laload, 1) := by decide +kernel
theorem dX2_holdJoined_11 : decode cX2_holdJoined 11 = .ok (.aload_n 0, 1) := by decide +kernel
theorem dX2_holdJoined_12 : decode cX2_holdJoined 12 = .ok (.getfield 21, 3) := by decide +kernel
theorem dX2_holdJoined_15 : decode cX2_holdJoined 15 = .ok (.iload_n 2, 1) := by decide +kernel
theorem dX2_holdJoined_16 : decode cX2_holdJoined 16 = .ok (.laload, 1) := by decide +kernel
theorem dX2_holdJoined_17 : decode cX2_holdJoined 17 = .ok (.land, 1) := by decide +kernel
theorem dX2_holdJoined_18 : decode cX2_holdJoined 18 = .ok (.goto 16, 3) := by decide +kernel
theorem dX2_holdJoined_21 : decode cX2_holdJoined 21 = .ok (.aload_n 0, 1) := by decide +kernel
theorem dX2_holdJoined_22 : decode cX2_holdJoined 22 = .ok (.getfield 21, 3) := by decide +kernel
theorem dX2_holdJoined_25 : decode cX2_holdJoined 25 = .ok (.iload_n 1, 1) := by decide +kernel
theorem dX2_holdJoined_26 : decode cX2_holdJoined 26 = .ok (.laload, 1) := by decide +kernel
theorem dX2_holdJoined_27 : decode cX2_holdJoined 27 = .ok (.aload_n 0, 1) := by decide +kernel
theorem dX2_holdJoined_28 : decode cX2_holdJoined 28 = .ok (.getfield 21, 3) := by decide +kernel
theorem dX2_holdJoined_31 : decode cX2_holdJoined 31 = .ok (.iload_n 2, 1) := by decide +kernel
theorem dX2_holdJoined_32 : decode cX2_holdJoined 32 = .ok (.laload, 1) := by decide +kernel
theorem dX2_holdJoined_33 : decode cX2_holdJoined 33 = .ok (.lor, 1) := by decide +kernel
theorem dX2_holdJoined_34 : decode cX2_holdJoined 34 = .ok (.lstore 4, 2) := by decide +kernel
theorem dX2_holdJoined_36 : decode cX2_holdJoined 36 = .ok (.aload_n 0, 1) := by decide +kernel
theorem dX2_holdJoined_37 : decode cX2_holdJoined 37 = .ok (.iload_n 1, 1) := by decide +kernel
theorem dX2_holdJoined_38 : decode cX2_holdJoined 38 = .ok (.lload 4, 2) := by decide +kernel
theorem dX2_holdJoined_40 : decode cX2_holdJoined 40 = .ok (.iload_n 2, 1) := by decide +kernel
theorem dX2_holdJoined_41 : decode cX2_holdJoined 41 = .ok (.lload 4, 2) := by decide +kernel
theorem dX2_holdJoined_43 : decode cX2_holdJoined 43 = .ok (.invokevirtual 79, 3) := by decide +kernel
theorem dX2_holdJoined_46 : decode cX2_holdJoined 46 = .ok (.return_, 1) := by decide +kernel
set_option maxRecDepth 20000 in
theorem ggX2_changed_X2_counted : GoodIn wsX2_changed wsX2_counted := goodIn_r _ [7, 8, 9, 10, 11, 12, 13, 14, 15, 16, 17, 18] (by eq_refl) (by decide +kernel)
set_option maxRecDepth 20000 in
theorem gX2_changed_X2_counted : GoodIn wsX2_changed (wsV RX2 50 RX2 yX2_counted wsX2_counted) := goodIn_app (goodIn_r _ [3, 4, 5, 6] (by eq_refl) (by decide +kernel)) ggX2_changed_X2_counted
theorem dX2_changed_0 : decode cX2_changed 0 = .ok (.aload_n 0, 1) := by decide +kernel
theorem dX2_changed_1 : decode cX2_changed 1 = .ok (.getfield 21, 3) := by decide +kernel
theorem dX2_changed_4 : decode cX2_changed 4 = .ok (.iload_n 1, 1) := by decide +kernel
theorem dX2_changed_5 : decode cX2_changed 5 = .ok (.laload, 1) := by decide +kernel
theorem dX2_changed_6 : decode cX2_changed 6 = .ok (.aload_n 0, 1) := by decide +kernel
theorem dX2_changed_7 : decode cX2_changed 7 = .ok (.getfield 25, 3) := by decide +kernel
theorem dX2_changed_10 : decode cX2_changed 10 = .ok (.iload_n 1, 1) := by decide +kernel
theorem dX2_changed_11 : decode cX2_changed 11 = .ok (.laload, 1) := by decide +kernel
theorem dX2_changed_12 : decode cX2_changed 12 = .ok (.lxor, 1) := by decide +kernel
theorem dX2_changed_13 : decode cX2_changed 13 = .ok (.aload_n 0, 1) := by decide +kernel
theorem dX2_changed_14 : decode cX2_changed 14 = .ok (.invokevirtual 50, 3) := by decide +kernel
theorem dX2_changed_17 : decode cX2_changed 17 = .ok (.land, 1) := by decide +kernel
theorem dX2_changed_18 : decode cX2_changed 18 = .ok (.lreturn, 1) := by decide +kernel
theorem dX2_stuckRow_0 : decode cX2_stuckRow 0 = .ok (.iload_n 0, 1) := by decide +kernel
theorem dX2_stuckRow_1 : decode cX2_stuckRow 1 = .ok (.ifCond .ne 7, 3) := by decide +kernel
theorem dX2_stuckRow_4 : decode cX2_stuckRow 4 = .ok (.lconst 0, 1) := by decide +kernel
theorem dX2_stuckRow_5 : decode cX2_stuckRow 5 = .ok (.goto 6, 3) := by decide +kernel
theorem dX2_stuckRow_8 : decode cX2_stuckRow 8 = .ok (.ldc2_w 54, 3) := by decide +kernel
theorem dX2_stuckRow_11 : decode cX2_stuckRow 11 = .ok (.lreturn, 1) := by decide +kernel
theorem dX2_gateRow_0 : decode cX2_gateRow 0 = .ok (.aload_n 2, 1) := by decide +kernel
theorem dX2_gateRow_1 : decode cX2_gateRow 1 = .ok (.aload_n 0, 1) := by decide +kernel
theorem dX2_gateRow_2 : decode cX2_gateRow 2 = .ok (.getfield 15, 3) := by decide +kernel
theorem dX2_gateRow_5 : decode cX2_gateRow 5 = .ok (.iload_n 1, 1) := by decide +kernel
theorem dX2_gateRow_6 : decode cX2_gateRow 6 = .ok (.iaload, 1) := by decide +kernel
theorem dX2_gateRow_7 : decode cX2_gateRow 7 = .ok (.laload, 1) := by decide +kernel
theorem dX2_gateRow_8 : decode cX2_gateRow 8 = .ok (.lstore_n 3, 1) := by decide +kernel
theorem dX2_gateRow_9 : decode cX2_gateRow 9 = .ok (.aload_n 2, 1) := by decide +kernel
theorem dX2_gateRow_10 : decode cX2_gateRow 10 = .ok (.aload_n 0, 1) := by decide +kernel
theorem dX2_gateRow_11 : decode cX2_gateRow 11 = .ok (.getfield 18, 3) := by decide +kernel
theorem dX2_gateRow_14 : decode cX2_gateRow 14 = .ok (.iload_n 1, 1) := by decide +kernel
theorem dX2_gateRow_15 : decode cX2_gateRow 15 = .ok (.iaload, 1) := by decide +kernel
theorem dX2_gateRow_16 : decode cX2_gateRow 16 = .ok (.laload, 1) := by decide +kernel
theorem dX2_gateRow_17 : decode cX2_gateRow 17 = .ok (.lstore 5, 2) := by decide +kernel
theorem dX2_gateRow_19 : decode cX2_gateRow 19 = .ok (.aload_n 0, 1) := by decide +kernel
theorem dX2_gateRow_20 : decode cX2_gateRow 20 = .ok (.getfield 9, 3) := by decide +kernel
theorem dX2_gateRow_23 : decode cX2_gateRow 23 = .ok (.iload_n 1, 1) := by decide +kernel
theorem dX2_gateRow_24 : decode cX2_gateRow 24 = .ok (.iaload, 1) := by decide +kernel
theorem dX2_gateRow_25 : decode cX2_gateRow 25 = .ok (.tableswitch 78 0 5 #[39, 44, 49, 54, 63, 72], 39) := by decide +kernel
theorem dX2_gateRow_64 : decode cX2_gateRow 64 = .ok (.lload_n 3, 1) := by decide +kernel
theorem dX2_gateRow_65 : decode cX2_gateRow 65 = .ok (.lload 5, 2) := by decide +kernel
theorem dX2_gateRow_67 : decode cX2_gateRow 67 = .ok (.land, 1) := by decide +kernel
theorem dX2_gateRow_68 : decode cX2_gateRow 68 = .ok (.lreturn, 1) := by decide +kernel
theorem dX2_gateRow_69 : decode cX2_gateRow 69 = .ok (.lload_n 3, 1) := by decide +kernel
theorem dX2_gateRow_70 : decode cX2_gateRow 70 = .ok (.lload 5, 2) := by decide +kernel
theorem dX2_gateRow_72 : decode cX2_gateRow 72 = .ok (.lor, 1) := by decide +kernel
theorem dX2_gateRow_73 : decode cX2_gateRow 73 = .ok (.lreturn, 1) := by decide +kernel
theorem dX2_gateRow_74 : decode cX2_gateRow 74 = .ok (.lload_n 3, 1) := by decide +kernel
theorem dX2_gateRow_75 : decode cX2_gateRow 75 = .ok (.lload 5, 2) := by decide +kernel
theorem dX2_gateRow_77 : decode cX2_gateRow 77 = .ok (.lxor, 1) := by decide +kernel
theorem dX2_gateRow_78 : decode cX2_gateRow 78 = .ok (.lreturn, 1) := by decide +kernel
theorem dX2_gateRow_79 : decode cX2_gateRow 79 = .ok (.lload_n 3, 1) := by decide +kernel
theorem dX2_gateRow_80 : decode cX2_gateRow 80 = .ok (.lload 5, 2) := by decide +kernel
theorem dX2_gateRow_82 : decode cX2_gateRow 82 = .ok (.land, 1) := by decide +kernel
theorem dX2_gateRow_83 : decode cX2_gateRow 83 = .ok (.ldc2_w 54, 3) := by decide +kernel
theorem dX2_gateRow_86 : decode cX2_gateRow 86 = .ok (.lxor, 1) := by decide +kernel
theorem dX2_gateRow_87 : decode cX2_gateRow 87 = .ok (.lreturn, 1) := by decide +kernel
theorem dX2_gateRow_88 : decode cX2_gateRow 88 = .ok (.lload_n 3, 1) := by decide +kernel
theorem dX2_gateRow_89 : decode cX2_gateRow 89 = .ok (.lload 5, 2) := by decide +kernel
theorem dX2_gateRow_91 : decode cX2_gateRow 91 = .ok (.lor, 1) := by decide +kernel
theorem dX2_gateRow_92 : decode cX2_gateRow 92 = .ok (.ldc2_w 54, 3) := by decide +kernel
theorem dX2_gateRow_95 : decode cX2_gateRow 95 = .ok (.lxor, 1) := by decide +kernel
theorem dX2_gateRow_96 : decode cX2_gateRow 96 = .ok (.lreturn, 1) := by decide +kernel
theorem dX2_gateRow_97 : decode cX2_gateRow 97 = .ok (.lload_n 3, 1) := by decide +kernel
theorem dX2_gateRow_98 : decode cX2_gateRow 98 = .ok (.ldc2_w 54, 3) := by decide +kernel
theorem dX2_gateRow_101 : decode cX2_gateRow 101 = .ok (.lxor, 1) := by decide +kernel
theorem dX2_gateRow_102 : decode cX2_gateRow 102 = .ok (.lreturn, 1) := by decide +kernel
theorem dX2_gateRow_103 : decode cX2_gateRow 103 = .ok (.lload_n 3, 1) := by decide +kernel
theorem dX2_gateRow_104 : decode cX2_gateRow 104 = .ok (.lreturn, 1) := by decide +kernel
theorem dX2_forget_0 : decode cX2_forget 0 = .ok (.aload_n 0, 1) := by decide +kernel
theorem dX2_forget_1 : decode cX2_forget 1 = .ok (.iconst 0, 1) := by decide +kernel
theorem dX2_forget_2 : decode cX2_forget 2 = .ok (.putfield 32, 3) := by decide +kernel
theorem dX2_forget_5 : decode cX2_forget 5 = .ok (.aload_n 0, 1) := by decide +kernel
theorem dX2_forget_6 : decode cX2_forget 6 = .ok (.iconst 0, 1) := by decide +kernel
theorem dX2_forget_7 : decode cX2_forget 7 = .ok (.putfield 36, 3) := by decide +kernel
theorem dX2_forget_10 : decode cX2_forget 10 = .ok (.aload_n 0, 1) := by decide +kernel
theorem dX2_forget_11 : decode cX2_forget 11 = .ok (.iconst 0, 1) := by decide +kernel
