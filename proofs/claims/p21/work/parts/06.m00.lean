noncomputable def f_X2_inputs_1 (N : Nat) (σ : fd_St) : Option (Int32 × fd_St) := some (σ.1 2, σ)
set_option maxHeartbeats 4000000 in
set_option maxRecDepth 100000 in
theorem m_X2_inputs_1 (l : Launch) (D : va_G) (a : Nat → Nat) (k : Nat → ClassId) (sz : Nat) (hI : fd_I 39 a) (N : Nat) (σ : fd_St) (r : Int32 × fd_St) (hf : f_X2_inputs_1 N σ = some r) : Met l yX2_inputs wsX2_inputs ({ frames := 0, cells := 0, slots := 0, locals := 0 }) (va_Pc [.ref (a 1)] (fd_PC D a k sz σ)) (va_Qi (fun v u => (v, u) = r) (fd_BC D a k) (fd_A 39 a sz)) 0 0 (fd_A 39 a sz) := by
  refine Met.ofW (cc := cX2_inputs) (maxL := 1) (ret := (some .int)) (by decide) rfl ?_
  intro p e s m args below meth c s₁ B hml hv
  obtain ⟨rfl, hsz, hP, hK⟩ := hv
  have hx := B.exec
  have hb := B.bytes
  have hr := B.returns
  have hts := atoms_spec (ws := wsX2_inputs) B.pre
  have hown : s.vm.findClass RX2 = some m.cls := findClass_of_methodNamed B.named
  have hlocks := B.notSynchronized
  subst hsz
  have hJ : ∀ i, i < 39 → fd_A 39 a s.heap.size (a i) := fun i hi => Or.inl ⟨i, hi, rfl⟩
  have hS : va_S (fd_A 39 a s.heap.size) s.heap s.heap [] := va_S.rf
  have hl := lv_entry ([.ref (a 1)]) (n := 1) (Nat.le_of_ble_eq_true rfl)
  rw [lg_entry_eq]
  generalize (lg_sl ([.ref (a 1)]) ++ List.replicate (1 - (lg_sl ([.ref (a 1)])).length) Slot.unset).toArray = ls at hl ⊢
  have hl : lv_has ls 1 [(0, .ref (a 1))] := hl
  have h9X2 : ∀ w ∈ u_ws RX2 TX2 9, w ∈ wsX2_inputs := fd_su [2, 3, 4, 5, 6, 7, 8, 9, 10] (by eq_refl)
  unfold f_X2_inputs_1 at hf
  refine lv_aload_n hx hb dX2_inputs_0 rfl (lv_at hl 0 rfl) ?_
  refine va_get (ci := 2) (v := .int (σ.1 2)) (C := RX2) (T := TX2) (N := 9) hx hb hts h9X2 hown hK hP 1 fd_WC_1 rfl 7 (by decide) (hts (.fieldLink RX2 36 "FailDiagnose$Circuit" "inputs" "I") (List.mem_of_getElem? (i := 1) (by eq_refl))) (fun _ h9 => h9) rfl dX2_inputs_1 ?_
  exact W.iret (v := (σ.1 2)) hx hb hr (fun t ht hW => ⟨⟨σ.1 2, σ, rfl, Option.some.inj hf, by rw [ht]; exact hP, va_K.moved hW.alike hK⟩, hS.F ht⟩) hS.2.2 dX2_inputs_4
noncomputable def f_X2_nets_1 (N : Nat) (σ : fd_St) : Option (Int32 × fd_St) := some (σ.1 1, σ)
set_option maxHeartbeats 4000000 in
set_option maxRecDepth 100000 in
theorem m_X2_nets_1 (l : Launch) (D : va_G) (a : Nat → Nat) (k : Nat → ClassId) (sz : Nat) (hI : fd_I 39 a) (N : Nat) (σ : fd_St) (r : Int32 × fd_St) (hf : f_X2_nets_1 N σ = some r) : Met l yX2_nets wsX2_nets ({ frames := 0, cells := 0, slots := 0, locals := 0 }) (va_Pc [.ref (a 1)] (fd_PC D a k sz σ)) (va_Qi (fun v u => (v, u) = r) (fd_BC D a k) (fd_A 39 a sz)) 0 0 (fd_A 39 a sz) := by
  refine Met.ofW (cc := cX2_nets) (maxL := 1) (ret := (some .int)) (by decide) rfl ?_
  intro p e s m args below meth c s₁ B hml hv
  obtain ⟨rfl, hsz, hP, hK⟩ := hv
  have hx := B.exec
  have hb := B.bytes
  have hr := B.returns
  have hts := atoms_spec (ws := wsX2_nets) B.pre
  have hown : s.vm.findClass RX2 = some m.cls := findClass_of_methodNamed B.named
  have hlocks := B.notSynchronized
  subst hsz
  have hJ : ∀ i, i < 39 → fd_A 39 a s.heap.size (a i) := fun i hi => Or.inl ⟨i, hi, rfl⟩
  have hS : va_S (fd_A 39 a s.heap.size) s.heap s.heap [] := va_S.rf
  have hl := lv_entry ([.ref (a 1)]) (n := 1) (Nat.le_of_ble_eq_true rfl)
  rw [lg_entry_eq]
  generalize (lg_sl ([.ref (a 1)]) ++ List.replicate (1 - (lg_sl ([.ref (a 1)])).length) Slot.unset).toArray = ls at hl ⊢
  have hl : lv_has ls 1 [(0, .ref (a 1))] := hl
  have h9X2 : ∀ w ∈ u_ws RX2 TX2 9, w ∈ wsX2_nets := fd_su [2, 3, 4, 5, 6, 7, 8, 9, 10] (by eq_refl)
  unfold f_X2_nets_1 at hf
  refine lv_aload_n hx hb dX2_nets_0 rfl (lv_at hl 0 rfl) ?_
  refine va_get (ci := 2) (v := .int (σ.1 1)) (C := RX2) (T := TX2) (N := 9) hx hb hts h9X2 hown hK hP 1 fd_WC_1 rfl 6 (by decide) (hts (.fieldLink RX2 32 "FailDiagnose$Circuit" "nets" "I") (List.mem_of_getElem? (i := 1) (by eq_refl))) (fun _ h9 => h9) rfl dX2_nets_1 ?_
  exact W.iret (v := (σ.1 1)) hx hb hr (fun t ht hW => ⟨⟨σ.1 1, σ, rfl, Option.some.inj hf, by rw [ht]; exact hP, va_K.moved hW.alike hK⟩, hS.F ht⟩) hS.2.2 dX2_nets_4
noncomputable def f_X2_addInput_1 (N : Nat) (σ : fd_St) : Option (Int32 × fd_St) := fd_gd (vp_in (σ.1 1) 200) (fd_lt (fd_sA 12 (σ.1 1) (-1 : Int32) σ) (fun σ2 => fd_gd (vp_in (σ2.1 1) 200) (fd_lt (fd_sL 15 (σ2.1 1) (0 : Int64) σ2) (fun σ4 => fd_lt (fd_sI 2 ((σ4.1 2) + (1 : Int32)) σ4) (fun σ5 => fd_lt (fd_sI 1 ((σ5.1 1) + (1 : Int32)) σ5) (fun σ6 => some ((σ6.1 1) - (1 : Int32), σ6)))))))
set_option maxHeartbeats 4000000 in
set_option maxRecDepth 100000 in
theorem m_X2_addInput_1 (l : Launch) (D : va_G) (a : Nat → Nat) (k : Nat → ClassId) (sz : Nat) (hI : fd_I 39 a) (N : Nat) (σ : fd_St) (r : Int32 × fd_St) (hf : f_X2_addInput_1 N σ = some r) : Met l yX2_addInput wsX2_addInput ({ frames := 0, cells := 0, slots := 0, locals := 0 }) (va_Pc [.ref (a 1)] (fd_PC D a k sz σ)) (va_Qi (fun v u => (v, u) = r) (fd_BC D a k) (fd_A 39 a sz)) 0 0 (fd_A 39 a sz) := by
  refine Met.ofW (cc := cX2_addInput) (maxL := 1) (ret := (some .int)) (by decide) rfl ?_
  intro p e s m args below meth c s₁ B hml hv
  obtain ⟨rfl, hsz, hP, hK⟩ := hv
  have hx := B.exec
  have hb := B.bytes
  have hr := B.returns
  have hts := atoms_spec (ws := wsX2_addInput) B.pre
  have hown : s.vm.findClass RX2 = some m.cls := findClass_of_methodNamed B.named
  have hlocks := B.notSynchronized
  subst hsz
  have hJ : ∀ i, i < 39 → fd_A 39 a s.heap.size (a i) := fun i hi => Or.inl ⟨i, hi, rfl⟩
  have hS : va_S (fd_A 39 a s.heap.size) s.heap s.heap [] := va_S.rf
  have hl := lv_entry ([.ref (a 1)]) (n := 1) (Nat.le_of_ble_eq_true rfl)
  rw [lg_entry_eq]
  generalize (lg_sl ([.ref (a 1)]) ++ List.replicate (1 - (lg_sl ([.ref (a 1)])).length) Slot.unset).toArray = ls at hl ⊢
  have hl : lv_has ls 1 [(0, .ref (a 1))] := hl
  have h9X2 : ∀ w ∈ u_ws RX2 TX2 9, w ∈ wsX2_addInput := fd_su [5, 6, 7, 8, 9, 10, 11, 12, 13] (by eq_refl)
  unfold f_X2_addInput_1 at hf
  refine lv_aload_n hx hb dX2_addInput_0 rfl (lv_at hl 0 rfl) ?_
  refine va_get (ci := 2) (v := .ref (a 12)) (C := RX2) (T := TX2) (N := 9) hx hb hts h9X2 hown hK hP 1 fd_WC_1 rfl 0 (by decide) (hts (.fieldLink RX2 9 "FailDiagnose$Circuit" "kinds" "[I") (List.mem_of_getElem? (i := 1) (by eq_refl))) (fun _ h9 => h9) rfl dX2_addInput_1 ?_
  refine lv_aload_n hx hb dX2_addInput_4 rfl (lv_at hl 0 rfl) ?_
  refine va_get (ci := 2) (v := .int (σ.1 1)) (C := RX2) (T := TX2) (N := 9) hx hb hts h9X2 hown hK hP 1 fd_WC_1 rfl 6 (by decide) (hts (.fieldLink RX2 32 "FailDiagnose$Circuit" "nets" "I") (List.mem_of_getElem? (i := 2) (by eq_refl))) (fun _ h9 => h9) rfl dX2_addInput_5 ?_
  refine lv_iconst (v := (-1 : Int32)) hx hb dX2_addInput_8 (by decide) ?_
  obtain ⟨g1, hf⟩ := fd_gds hf
  obtain ⟨σ2, eσ2, hf⟩ := fd_lts hf
  refine va_iast hx hb hK hP (fd_DC hI hJ) hS 12 0 fd_WC_12 fd_tyC_12 g1 dX2_addInput_9 (fun H locs hP _ hS => ?_)
  have hP : va_P D vwCl (fd_WC a k σ2) H := by rw [eσ2]; exact fd_sP fd_WCa_12 hP
  refine lv_aload_n hx hb dX2_addInput_10 rfl (lv_at hl 0 rfl) ?_
  refine va_get (ci := 2) (v := .ref (a 15)) (C := RX2) (T := TX2) (N := 9) hx hb hts h9X2 hown hK hP 1 fd_WC_1 rfl 3 (by decide) (hts (.fieldLink RX2 21 "FailDiagnose$Circuit" "goodRows" "[J") (List.mem_of_getElem? (i := 3) (by eq_refl))) (fun _ h9 => h9) rfl dX2_addInput_11 ?_
  refine lv_aload_n hx hb dX2_addInput_14 rfl (lv_at hl 0 rfl) ?_
  refine va_get (ci := 2) (v := .int (σ2.1 1)) (C := RX2) (T := TX2) (N := 9) hx hb hts h9X2 hown hK hP 1 fd_WC_1 rfl 6 (by decide) (hts (.fieldLink RX2 32 "FailDiagnose$Circuit" "nets" "I") (List.mem_of_getElem? (i := 2) (by eq_refl))) (fun _ h9 => h9) rfl dX2_addInput_15 ?_
  refine lv_lconst (v := (0 : Int64)) hx hb dX2_addInput_18 (by decide) ?_
  obtain ⟨g3, hf⟩ := fd_gds hf
  obtain ⟨σ4, eσ4, hf⟩ := fd_lts hf
  refine va_last hx hb hK hP (fd_DC hI hJ) hS 15 3 fd_WC_15 fd_tyC_15 g3 dX2_addInput_19 (fun H locs hP _ hS => ?_)
  have hP : va_P D vwCl (fd_WC a k σ4) H := by rw [eσ4]; exact fd_sP fd_WCa_15 hP
  refine lv_aload_n hx hb dX2_addInput_20 rfl (lv_at hl 0 rfl) ?_
  refine lv_dup hx hb dX2_addInput_21 rfl ?_
  refine va_get (ci := 2) (v := .int (σ4.1 2)) (C := RX2) (T := TX2) (N := 9) hx hb hts h9X2 hown hK hP 1 fd_WC_1 rfl 7 (by decide) (hts (.fieldLink RX2 36 "FailDiagnose$Circuit" "inputs" "I") (List.mem_of_getElem? (i := 4) (by eq_refl))) (fun _ h9 => h9) rfl dX2_addInput_22 ?_
  refine lv_iconst (v := (1 : Int32)) hx hb dX2_addInput_25 (by decide) ?_
  refine lv_iadd hx hb dX2_addInput_26 ?_
  obtain ⟨σ5, eσ5, hf⟩ := fd_lts hf
  refine va_put (ci := 2) (v := .int ((σ4.1 2) + (1 : Int32))) (ty := .int) (C := RX2) (T := TX2) (N := 9) hx hb hts h9X2 tyX2 tyX2_ok nmX2 hown hK hP (fd_DC hI hJ) hS 1 fd_WC_1 rfl 7 (by decide) (hts (.fieldLink RX2 36 "FailDiagnose$Circuit" "inputs" "I") (List.mem_of_getElem? (i := 4) (by eq_refl))) (fun _ h9 => h9) rfl (by decide +kernel) rfl rfl (Nat.le_of_ble_eq_true rfl) dX2_addInput_27 (fun H locs hP _ hS => ?_)
  have hP : va_P D vwCl (fd_WC a k σ5) H := by rw [eσ5]; exact fd_sP fd_WCi_2 hP
  refine lv_aload_n hx hb dX2_addInput_30 rfl (lv_at hl 0 rfl) ?_
  refine lv_dup hx hb dX2_addInput_31 rfl ?_
  refine va_get (ci := 2) (v := .int (σ5.1 1)) (C := RX2) (T := TX2) (N := 9) hx hb hts h9X2 hown hK hP 1 fd_WC_1 rfl 6 (by decide) (hts (.fieldLink RX2 32 "FailDiagnose$Circuit" "nets" "I") (List.mem_of_getElem? (i := 2) (by eq_refl))) (fun _ h9 => h9) rfl dX2_addInput_32 ?_
  refine lv_iconst (v := (1 : Int32)) hx hb dX2_addInput_35 (by decide) ?_
  refine lv_iadd hx hb dX2_addInput_36 ?_
  obtain ⟨σ6, eσ6, hf⟩ := fd_lts hf
  refine va_put (ci := 2) (v := .int ((σ5.1 1) + (1 : Int32))) (ty := .int) (C := RX2) (T := TX2) (N := 9) hx hb hts h9X2 tyX2 tyX2_ok nmX2 hown hK hP (fd_DC hI hJ) hS 1 fd_WC_1 rfl 6 (by decide) (hts (.fieldLink RX2 32 "FailDiagnose$Circuit" "nets" "I") (List.mem_of_getElem? (i := 2) (by eq_refl))) (fun _ h9 => h9) rfl (by decide +kernel) rfl rfl (Nat.le_of_ble_eq_true rfl) dX2_addInput_37 (fun H locs hP _ hS => ?_)
  have hP : va_P D vwCl (fd_WC a k σ6) H := by rw [eσ6]; exact fd_sP fd_WCi_1 hP
  refine lv_aload_n hx hb dX2_addInput_40 rfl (lv_at hl 0 rfl) ?_
  refine va_get (ci := 2) (v := .int (σ6.1 1)) (C := RX2) (T := TX2) (N := 9) hx hb hts h9X2 hown hK hP 1 fd_WC_1 rfl 6 (by decide) (hts (.fieldLink RX2 32 "FailDiagnose$Circuit" "nets" "I") (List.mem_of_getElem? (i := 2) (by eq_refl))) (fun _ h9 => h9) rfl dX2_addInput_41 ?_
  refine lv_iconst (v := (1 : Int32)) hx hb dX2_addInput_44 (by decide) ?_
  refine lv_isub hx hb dX2_addInput_45 ?_
  exact W.iret (v := ((σ6.1 1) - (1 : Int32))) hx hb hr (fun t ht hW => ⟨⟨(σ6.1 1) - (1 : Int32), σ6, rfl, Option.some.inj hf, by rw [ht]; exact hP, va_K.moved hW.alike hK⟩, hS.F ht⟩) hS.2.2 dX2_addInput_46
noncomputable def f_X10_input_0_J25 (N : Nat) (σ : fd_St) : Option ((Int32 ⊕ String) × fd_St) := some (.inr "java/lang/IllegalStateException", σ)
noncomputable def f_X10_input_0 (N : Nat) (σ : fd_St) : Option ((Int32 ⊕ String) × fd_St) := fd_bd (f_X2_inputs_1 N σ) (fun v2 σ3 => if v2 = (32 : Int32) then (f_X10_input_0_J25 N σ3) else (fd_bd (f_X2_nets_1 N σ3) (fun v9 σ10 => if v9 = (200 : Int32) then (f_X10_input_0_J25 N σ10) else (fd_lt (fd_sI 0 (0 : Int32) σ10) (fun σ14 => fd_bd (f_X2_addInput_1 N σ14) (fun v16 σ17 => some (.inl v16, σ17)))))))
set_option maxHeartbeats 4000000 in
set_option maxRecDepth 100000 in
theorem m_X10_input_0 (l : Launch) (hl9 : l.stackTraces = false) (D : va_G) (a : Nat → Nat) (k : Nat → ClassId) (sz : Nat) (hI : fd_I 39 a) (N : Nat) (σ : fd_St) (r : (Int32 ⊕ String) × fd_St) (hf : f_X10_input_0 N σ = some r) : vx_Met l yX10_input wsX10_input ({ frames := 6, cells := fd_mc r, slots := fd_ms r, locals := 90 }) (va_Pc [.ref (a 0)] (fd_PZ D a k sz σ)) (va_Qi (fun v u => (Sum.inl v, u) = r) (fd_BC D a k) (fd_A 39 a sz)) (fd_X D a k (fd_A 39 a sz) r) (fd_mc r) (fd_ms r) (fd_A 39 a sz) := by
  refine vx_ofW (cc := cX10_input) (maxL := 1) (ret := (some .int)) (by decide) rfl ?_
  intro p e s m args below meth c s₁ B hml hex hv
  obtain ⟨rfl, ⟨hsz, hP, hK⟩, hZ⟩ := hv
  have hx := B.exec
  have hb := B.bytes
  have hr := B.returns
  have hts := atoms_spec (ws := wsX10_input) B.pre
  have hown : s.vm.findClass RX10 = some m.cls := findClass_of_methodNamed B.named
  have hlocks := B.notSynchronized
  subst hsz
  have hJ : ∀ i, i < 39 → fd_A 39 a s.heap.size (a i) := fun i hi => Or.inl ⟨i, hi, rfl⟩
  have hS : va_S (fd_A 39 a s.heap.size) s.heap s.heap [] := va_S.rf
  have hl := lv_entry ([.ref (a 0)]) (n := 1) (Nat.le_of_ble_eq_true rfl)
  rw [lg_entry_eq]
  generalize (lg_sl ([.ref (a 0)]) ++ List.replicate (1 - (lg_sl ([.ref (a 0)])).length) Slot.unset).toArray = ls at hl ⊢
  have hl : lv_has ls 1 [(0, .ref (a 0))] := hl
  have h9X10 : ∀ w ∈ u_ws RX10 TX10 8, w ∈ wsX10_input := fd_su [22, 23, 24, 25, 26, 27, 28, 29] (by eq_refl)
  have hL25 : ∀ (σ : fd_St) (H : Heap) (locs : List Loc) (ls : Array Slot), va_P D vwCl (fd_WC a k σ) H → va_S (fd_A 39 a s.heap.size) s.heap H locs → lv_has ls 1 [] → f_X10_input_0_J25 N σ = some r → W p l e ((headSpec wsX10_input ({ frames := 6, cells := fd_mc r, slots := fd_ms r, locals := 90 })).room) s m ([.ref (a 0)].toArray) below meth c H locs 0 0 (vx_MQ below (va_Qi (fun v u => (Sum.inl v, u) = r) (fd_BC D a k) (fd_A 39 a s.heap.size)) (fd_X D a k (fd_A 39 a s.heap.size) r) ([.ref (a 0)].toArray) s (fd_mc r) (fd_ms r) (fd_A 39 a s.heap.size)) (F0 m 25 ls []) := by
    intro σ H locs ls hP hS hl hf
    unfold f_X10_input_0_J25 at hf
    have e7 := Option.some.inj hf
    subst e7
    obtain ⟨sa, hsa⟩ := hZ.str 73 "no room for an input" (by decide +kernel)
    exact vx_throwS (own := RX10) (cls := "java/lang/IllegalStateException") (names := ["java/lang/RuntimeException", "java/lang/Exception"]) hx hb hl9 hown fd_ex_71_75_f fd_ex_n (hts (.classLink RX10 71 "java/lang/IllegalStateException") (List.mem_of_getElem? (i := 1) (by eq_refl))) (hts (.initialized "java/lang/IllegalStateException") (List.mem_of_getElem? (i := 2) (by eq_refl))) hsa (vx_hat (L := vx_atS RX10 75 "java/lang/IllegalStateException" ["java/lang/RuntimeException", "java/lang/Exception"]) (B := fd_bad "java/lang/IllegalStateException") (fun w hw => hts w ((fun w h => List.mem_cons_of_mem _ (List.mem_append_right _ h) : ∀ w ∈ (vx_atS RX10 75 "java/lang/IllegalStateException" ["java/lang/RuntimeException", "java/lang/Exception"]).filter goodWord, w ∈ wsX10_input) w hw)) fd_ex_71_75_b (hZ.bad "java/lang/IllegalStateException" fd_ex_71_75_e)) fd_ex_71_75_g hZ.un hZ.su hS (hl.1.trans hml.symm) dX10_input_25 dX10_input_28 dX10_input_29 dX10_input_31 dX10_input_34 (fun x hx => (hex x hx).elim) (Nat.le_of_ble_eq_true rfl) (Nat.le_of_ble_eq_true rfl) (Nat.le_of_ble_eq_true rfl) (Nat.le_of_ble_eq_true rfl) hlocks (fun t ha hsz hk => ⟨σ, trivial, ⟨rfl, hP.kept (fun k q hq => hk q.1 (hP k q hq).lt), va_K.moved ha hK⟩, Nat.le_trans hS.1 hsz, fun q h1 h2 => (hk q (Nat.lt_of_lt_of_le h1 hS.1)).trans (hS.2.1 q h1 h2)⟩) hS.2.2 (Nat.le_of_ble_eq_true rfl) (Nat.le_of_ble_eq_true rfl)
  unfold f_X10_input_0 at hf
  refine lv_aload_n hx hb dX10_input_0 rfl (lv_at hl 0 rfl) ?_
  refine va_get (ci := 10) (v := .ref (a 1)) (C := RX10) (T := TX10) (N := 8) hx hb hts h9X10 hown hK hP 0 fd_WC_0 rfl 0 (by decide) (hts (.fieldLink RX10 12 "FailDiagnose" "circuit" "LFailDiagnose$Circuit;") (List.mem_of_getElem? (i := 3) (by eq_refl))) (fun _ h9 => h9) rfl dX10_input_1 ?_
  obtain ⟨w4, τ5, hc1, hf⟩ := fd_bds hf
  refine va_calli (va_runV (As := []) (rest := []) ⟨hx, hb, hml, hown, hts⟩ (m_X2_inputs_1 l D a k s.heap.size hI N σ _ hc1) (cwV 0 hts gX10_input_X2_inputs rfl rfl rfl (by decide +kernel) ⟨Nat.le_of_ble_eq_true rfl, Nat.le_of_ble_eq_true rfl⟩) ⟨fd_blC, va_recv hK hP (ci := 2) (q0 := 1) rfl fd_WC_1, fd_prC hP hK⟩ rfl rfl hl.1 rfl (lv_room (Nat.le_of_ble_eq_true rfl)) dX10_input_4 ⟨Nat.zero_le _, Nat.zero_le _⟩) hS (fun q _ h => fd_A_mono hS.1 h) (fun q h => fd_A_mono hS.1 h) (fun v2 u t H1 locs ht hvm hw hB hz hk hS => ?_)
  obtain ⟨hP1, hK1⟩ := hB
  rw [ht] at hP1
  obtain ⟨e1, e2⟩ := Prod.mk.inj hw
  subst e1
  subst e2
  obtain ⟨σ3, rfl⟩ : ∃ z, z = u := ⟨_, rfl⟩
  have hP := hP1
  generalize H1 = H at hP hS ⊢
  refine lv_bipush (v := (32 : Int32)) hx hb dX10_input_7 (by decide) ?_
  refine lv_icmp_eq (tgt := 25) hx hb dX10_input_9 (by decide) (fun c6 => ?_) (fun c6 => ?_)
  · have hf := fd_itp c6 hf
    exact hL25 σ3 _ _ _ hP hS (lv_sub hl [] rfl) hf
  · have hf := fd_itn c6 hf
    refine lv_aload_n hx hb dX10_input_12 rfl (lv_at hl 0 rfl) ?_
    refine va_get (ci := 10) (v := .ref (a 1)) (C := RX10) (T := TX10) (N := 8) hx hb hts h9X10 hown hK hP 0 fd_WC_0 rfl 0 (by decide) (hts (.fieldLink RX10 12 "FailDiagnose" "circuit" "LFailDiagnose$Circuit;") (List.mem_of_getElem? (i := 3) (by eq_refl))) (fun _ h9 => h9) rfl dX10_input_13 ?_
    obtain ⟨w11, τ12, hc8, hf⟩ := fd_bds hf
    refine va_calli (va_runV (As := []) (rest := []) ⟨hx, hb, hml, hown, hts⟩ (m_X2_nets_1 l D a k H.size hI N σ3 _ hc8) (cwV 0 hts gX10_input_X2_nets rfl rfl rfl (by decide +kernel) ⟨Nat.le_of_ble_eq_true rfl, Nat.le_of_ble_eq_true rfl⟩) ⟨fd_blC, va_recv hK hP (ci := 2) (q0 := 1) rfl fd_WC_1, fd_prC hP hK⟩ rfl rfl hl.1 rfl (lv_room (Nat.le_of_ble_eq_true rfl)) dX10_input_16 ⟨Nat.zero_le _, Nat.zero_le _⟩) hS (fun q _ h => fd_A_mono hS.1 h) (fun q h => fd_A_mono hS.1 h) (fun v9 u t H1 locs ht hvm hw hB hz hk hS => ?_)
    obtain ⟨hP1, hK1⟩ := hB
    rw [ht] at hP1
    obtain ⟨e1, e2⟩ := Prod.mk.inj hw
    subst e1
    subst e2
    obtain ⟨σ10, rfl⟩ : ∃ z, z = u := ⟨_, rfl⟩
    have hP := hP1
    generalize H1 = H at hP hS ⊢
    refine lv_sipush (v := (200 : Int32)) hx hb dX10_input_19 (by decide) ?_
    refine lv_icmp_ne (tgt := 35) hx hb dX10_input_22 (by decide) (fun c13 => ?_) (fun c13 => ?_)
    · have hf := fd_itn c13 hf
      refine lv_aload_n hx hb dX10_input_35 rfl (lv_at hl 0 rfl) ?_
      refine lv_iconst (v := (0 : Int32)) hx hb dX10_input_36 (by decide) ?_
      obtain ⟨σ14, eσ14, hf⟩ := fd_lts hf
      refine va_put (ci := 10) (v := .int (0 : Int32)) (ty := .boolean) (C := RX10) (T := TX10) (N := 8) hx hb hts h9X10 tyX10 tyX10_ok nmX10 hown hK hP (fd_DC hI hJ) hS 0 fd_WC_0 rfl 7 (by decide) (hts (.fieldLink RX10 60 "FailDiagnose" "told" "Z") (List.mem_of_getElem? (i := 4) (by eq_refl))) (fun _ h9 => h9) rfl (by decide +kernel) rfl rfl (Nat.le_of_ble_eq_true rfl) dX10_input_37 (fun H locs hP _ hS => ?_)
      have hP : va_P D vwCl (fd_WC a k σ14) H := by rw [eσ14]; exact fd_sP fd_WCi_0 hP
      refine lv_aload_n hx hb dX10_input_40 rfl (lv_at hl 0 rfl) ?_
      refine va_get (ci := 10) (v := .ref (a 1)) (C := RX10) (T := TX10) (N := 8) hx hb hts h9X10 hown hK hP 0 fd_WC_0 rfl 0 (by decide) (hts (.fieldLink RX10 12 "FailDiagnose" "circuit" "LFailDiagnose$Circuit;") (List.mem_of_getElem? (i := 3) (by eq_refl))) (fun _ h9 => h9) rfl dX10_input_41 ?_
      obtain ⟨w18, τ19, hc15, hf⟩ := fd_bds hf
      refine va_calli (va_runV (As := []) (rest := []) ⟨hx, hb, hml, hown, hts⟩ (m_X2_addInput_1 l D a k H.size hI N σ14 _ hc15) (cwV 0 hts gX10_input_X2_addInput rfl rfl rfl (by decide +kernel) ⟨Nat.le_of_ble_eq_true rfl, Nat.le_of_ble_eq_true rfl⟩) ⟨fd_blC, va_recv hK hP (ci := 2) (q0 := 1) rfl fd_WC_1, fd_prC hP hK⟩ rfl rfl hl.1 rfl (lv_room (Nat.le_of_ble_eq_true rfl)) dX10_input_44 ⟨Nat.zero_le _, Nat.zero_le _⟩) hS (fun q _ h => fd_A_mono hS.1 h) (fun q h => fd_A_mono hS.1 h) (fun v16 u t H1 locs ht hvm hw hB hz hk hS => ?_)
      obtain ⟨hP1, hK1⟩ := hB
      rw [ht] at hP1
      obtain ⟨e1, e2⟩ := Prod.mk.inj hw
      subst e1
      subst e2
      obtain ⟨σ17, rfl⟩ : ∃ z, z = u := ⟨_, rfl⟩
      have hP := hP1
      generalize H1 = H at hP hS ⊢
      refine vx_ret (W.widen (k := fd_mc r) (n := fd_ms r) (Nat.zero_le _) (Nat.zero_le _) ?_)
      exact W.iret (v := v16) hx hb hr (fun t ht hW => ⟨⟨v16, σ17, rfl, Option.some.inj hf, by rw [ht]; exact hP, va_K.moved hW.alike hK⟩, hS.F ht⟩) hS.2.2 dX10_input_47
    · have hf := fd_itp c13 hf
      exact hL25 σ10 _ _ _ hP hS (lv_sub hl [] rfl) hf
noncomputable def f_L_input_0_39 (N : Nat) (σ : fd_St) : Option (Int32 × fd_St) := fd_bx (f_X10_input_0 N σ) (fun v2 τ => fd_lt (fd_mix τ σ) (fun σ6 => fd_gd (vp_in (0 : Int32) 1) (fd_lt (fd_sL 39 (0 : Int32) v2.toInt64 σ6) (fun σ9 => some ((0 : Int32), σ9))))) (fun E τ => if E = "java/lang/IllegalStateException" then (fd_lt (fd_mix τ σ) (fun σ11 => some ((1 : Int32), σ11))) else (none))
set_option maxHeartbeats 4000000 in
set_option maxRecDepth 100000 in
theorem m_L_input_0_39 (l : Launch) (hl9 : l.stackTraces = false) (D : va_G) (a : Nat → Nat) (k : Nat → ClassId) (sz : Nat) (hI : fd_I 40 a) (N : Nat) (σ : fd_St) (r : Int32 × fd_St) (hf : f_L_input_0_39 N σ = some r) : Met l yL_input wsL_input ({ frames := 7, cells := 1, slots := 6, locals := 110 }) (va_Pc [.ref (a 0), .ref (a 39)] (fd_PH D a k sz σ)) (va_Qi (fun v u => (v, u) = r) (fd_BH D a k) (fd_A 40 a sz)) 1 6 (fd_A 40 a sz) := by
  refine fd_ofWT (cc := cL_input) (maxL := 3) (ret := (some .int)) (by decide) rfl ?_
  intro p e s m args below meth c s₁ B hml hTab hv
  obtain ⟨rfl, hsz, hP, hK, hZ⟩ := hv
  have hx := B.exec
  have hb := B.bytes
  have hr := B.returns
  have hts := atoms_spec (ws := wsL_input) B.pre
  have hown : s.vm.findClass RL = some m.cls := findClass_of_methodNamed B.named
  have hlocks := B.notSynchronized
  subst hsz
  have hJ : ∀ i, i < 40 → fd_A 40 a s.heap.size (a i) := fun i hi => Or.inl ⟨i, hi, rfl⟩
  have hS : va_S (fd_A 40 a s.heap.size) s.heap s.heap [] := va_S.rf
  have hl := lv_entry ([.ref (a 0), .ref (a 39)]) (n := 3) (Nat.le_of_ble_eq_true rfl)
  rw [lg_entry_eq]
  generalize (lg_sl ([.ref (a 0), .ref (a 39)]) ++ List.replicate (3 - (lg_sl ([.ref (a 0), .ref (a 39)])).length) Slot.unset).toArray = ls at hl ⊢
  have hl : lv_has ls 3 [(0, .ref (a 0)), (1, .ref (a 39))] := hl
  unfold f_L_input_0_39 at hf
  refine lv_aload_n hx hb dL_input_0 rfl (lv_at hl 1 rfl) ?_
  refine lv_iconst (v := (0 : Int32)) hx hb dL_input_1 (by decide) ?_
  refine lv_aload_n hx hb dL_input_2 rfl (lv_at hl 0 rfl) ?_
  rcases fd_bxs hf with ⟨w3, τ4, hc1, hf⟩ | ⟨E5, τ4, hc1, hf⟩
  · refine vx_calli (vx_runV (As := []) (rest := [.int (0 : Int32), .ref (a 39)]) ⟨hx, hb, hml, hown, hts⟩ (m_X10_input_0 l hl9 D a k s.heap.size (fd_I40 hI) N σ _ hc1) (cwV 0 hts gL_input_X10_input rfl rfl rfl (by decide +kernel) ⟨Nat.le_of_ble_eq_true rfl, Nat.le_of_ble_eq_true rfl⟩) ⟨fd_blZ, va_recv (fd_HK hK) (fd_HC hP) (ci := 10) (q0 := 0) rfl fd_WC_0, fd_prHZ hP hK hZ hS⟩ rfl rfl hl.1 rfl (lv_room (Nat.le_of_ble_eq_true rfl)) dL_input_3 ⟨(Nat.zero_le _), (Nat.zero_le _)⟩) hS (fun q _ h => fd_A_sub hS.1 h) (fun q h => fd_A_sub hS.1 h) (fun q _ h => fd_A_sub hS.1 h) (fun E ce q9 u t H1 locs1 ht hvm hp hB => ?_) (fun v2 u t H1 locs ht hvm hw hB hz hk hS => ?_)
    · exact absurd hB.1 (by simp)
    obtain ⟨hP1, hK1⟩ := hB
    rw [ht] at hP1
    obtain ⟨e1, e2⟩ := Prod.mk.inj hw
    obtain e1 := Sum.inl.inj e1
    subst e1
    subst e2
    obtain ⟨σ6, eσ6, hf⟩ := fd_lts hf
    have hP : va_P D vwCl (fd_WH a k σ6) H1 := by rw [eσ6]; exact fd_HJ hI hP hP1 hk
    generalize H1 = H at hP hS ⊢
    refine W.cs (cells' := 0) (slots' := 0) rfl rfl ?_
    refine lv_i2l hx hb dL_input_6 rfl ?_
    obtain ⟨g8, hf⟩ := fd_gds hf
    obtain ⟨σ9, eσ9, hf⟩ := fd_lts hf
    refine va_last hx hb hK hP (fd_DH hI hJ) hS 39 27 fd_WH_39 fd_tyH_39 g8 dL_input_7 (fun H locs hP _ hS => ?_)
    have hP : va_P D vwCl (fd_WH a k σ9) H := by rw [eσ9]; exact fd_sP fd_WHa_39 hP
    refine lv_goto (tgt := 14) hx hb dL_input_8 (by decide) ?_
    refine lv_iconst (v := (0 : Int32)) hx hb dL_input_14 (by decide) ?_
    refine W.widen (k := 1) (n := 6) (Nat.le_of_ble_eq_true rfl) (Nat.le_of_ble_eq_true rfl) ?_
    exact W.iret (v := (0 : Int32)) hx hb hr (fun t ht hW => ⟨⟨(0 : Int32), σ9, rfl, Option.some.inj hf, by rw [ht]; exact hP, va_K.moved hW.alike hK⟩, hS.F ht⟩) hS.2.2 dL_input_15
  · have hE := hf
    by_cases c10 : E5 = "java/lang/IllegalStateException"
    · subst c10
      have hf := fd_itp rfl hf
      refine vx_calli (vx_runV (As := []) (rest := [.int (0 : Int32), .ref (a 39)]) ⟨hx, hb, hml, hown, hts⟩ (m_X10_input_0 l hl9 D a k s.heap.size (fd_I40 hI) N σ _ hc1) (cwV 0 hts gL_input_X10_input rfl rfl rfl (by decide +kernel) ⟨Nat.le_of_ble_eq_true rfl, Nat.le_of_ble_eq_true rfl⟩) ⟨fd_blZ, va_recv (fd_HK hK) (fd_HC hP) (ci := 10) (q0 := 0) rfl fd_WC_0, fd_prHZ hP hK hZ hS⟩ rfl rfl hl.1 rfl (lv_room (Nat.le_of_ble_eq_true rfl)) dL_input_3 ⟨Nat.le_of_ble_eq_true rfl, Nat.le_of_ble_eq_true rfl⟩) hS (fun q _ h => fd_A_sub hS.1 h) (fun q h => fd_A_sub hS.1 h) (fun q _ h => fd_A_sub hS.1 h) (fun E ce q9 u t H1 locs1 ht hvm hp hB hz hk hS hce hcv hcl => ?_) (fun v2 u t H1 locs ht hvm hw hB hz hk hS => ?_)
      · obtain ⟨hB0, hP1, hK1⟩ := hB
        rw [ht] at hP1
        obtain ⟨e1, e2⟩ := Prod.mk.inj hB0
        obtain e1 := Sum.inr.inj e1
        subst e1
        subst e2
        obtain ⟨σ11, eσ11, hf⟩ := fd_lts hf
        have hP : va_P D vwCl (fd_WH a k σ11) H1 := by rw [eσ11]; exact fd_HJ hI hP hP1 hk
        refine fd_catch (own := RL) (name := "java/lang/IllegalStateException") (E := "java/lang/IllegalStateException") hown [] ⟨0, 8, 11, 13⟩ [] (by rw [hTab]; rfl) (fun z hz => nomatch hz) (by decide) (by decide) (hts (.classLink RL 13 "java/lang/IllegalStateException") (List.mem_of_getElem? (i := 1) (by eq_refl))) (hZ.cast "java/lang/IllegalStateException" (by decide +kernel)) hce hcv hcl ?_
        refine W.cs (cells' := 1) (slots' := 6) rfl rfl ?_
        refine lv_astore_n (lv' := [(2, .ref q9), (0, .ref (a 0)), (1, .ref (a 39))]) hx hb dL_input_11 rfl hl (by decide) rfl (fun ls hl => ?_)
        refine lv_iconst (v := (1 : Int32)) hx hb dL_input_12 (by decide) ?_
        refine W.widen (k := 1) (n := 6) (Nat.le_of_ble_eq_true rfl) (Nat.le_of_ble_eq_true rfl) ?_
        exact W.iret (v := (1 : Int32)) hx hb hr (fun t ht hW => ⟨⟨(1 : Int32), σ11, rfl, Option.some.inj hf, by rw [ht]; exact hP, va_K.moved hW.alike hK⟩, hS.F ht⟩) hS.2.2 dL_input_13
      · exact absurd hw (by simp)
    have hf := fd_itn c10 hf
    cases hf
noncomputable def f_X11_changed_0 (N : Nat) (σ : fd_St) : Option (Unit × fd_St) := fd_lt (fd_sI 6 (0 : Int32) σ) (fun σ1 => fd_lt (fd_sI 7 (0 : Int32) σ1) (fun σ2 => some ((), σ2)))
set_option maxHeartbeats 4000000 in
set_option maxRecDepth 100000 in
theorem m_X11_changed_0 (l : Launch) (D : va_G) (a : Nat → Nat) (k : Nat → ClassId) (sz : Nat) (hI : fd_I 29 a) (N : Nat) (σ : fd_St) (r : Unit × fd_St) (hf : f_X11_changed_0 N σ = some r) : Met l yX11_changed wsX11_changed ({ frames := 0, cells := 0, slots := 0, locals := 0 }) (va_Pc [.ref (a 0)] (fd_PM D a k sz σ)) (va_Qv (fun u => ((), u) = r) (fd_BM D a k) (fd_A 29 a sz)) 0 0 (fd_A 29 a sz) := by
  refine Met.ofW (cc := cX11_changed) (maxL := 1) (ret := none) (by decide) rfl ?_
  intro p e s m args below meth c s₁ B hml hv
  obtain ⟨rfl, hsz, hP, hK⟩ := hv
  have hx := B.exec
  have hb := B.bytes
  have hr := B.returns
  have hts := atoms_spec (ws := wsX11_changed) B.pre
  have hown : s.vm.findClass RX11 = some m.cls := findClass_of_methodNamed B.named
  have hlocks := B.notSynchronized
  subst hsz
  have hJ : ∀ i, i < 29 → fd_A 29 a s.heap.size (a i) := fun i hi => Or.inl ⟨i, hi, rfl⟩
  have hS : va_S (fd_A 29 a s.heap.size) s.heap s.heap [] := va_S.rf
  have hl := lv_entry ([.ref (a 0)]) (n := 1) (Nat.le_of_ble_eq_true rfl)
  rw [lg_entry_eq]
  generalize (lg_sl ([.ref (a 0)]) ++ List.replicate (1 - (lg_sl ([.ref (a 0)])).length) Slot.unset).toArray = ls at hl ⊢
  have hl : lv_has ls 1 [(0, .ref (a 0))] := hl
  have h9X11 : ∀ w ∈ u_ws RX11 TX11 43, w ∈ wsX11_changed := fd_su [3, 4, 5, 6, 7, 8, 9, 10, 11, 12, 13, 14, 15, 16, 17, 18, 19, 20, 21, 22, 23, 24, 25, 26, 27, 28, 29, 30, 31, 32, 33, 34, 35, 36, 37, 38, 39, 40, 41, 42, 43, 44, 45] (by eq_refl)
  unfold f_X11_changed_0 at hf
  refine lv_aload_n hx hb dX11_changed_0 rfl (lv_at hl 0 rfl) ?_
  refine lv_iconst (v := (0 : Int32)) hx hb dX11_changed_1 (by decide) ?_
  obtain ⟨σ1, eσ1, hf⟩ := fd_lts hf
  refine va_put (ci := 11) (v := .int (0 : Int32)) (ty := .boolean) (C := RX11) (T := TX11) (N := 43) hx hb hts h9X11 tyX11 tyX11_ok nmX11 hown hK hP (fd_DM hI hJ) hS 0 fd_WM_0 rfl 17 (by decide) (hts (.fieldLink RX11 103 "FailDiagnoseModel" "told" "Z") (List.mem_of_getElem? (i := 1) (by eq_refl))) (fun _ h9 => h9) rfl (by decide +kernel) rfl rfl (Nat.le_of_ble_eq_true rfl) dX11_changed_2 (fun H locs hP _ hS => ?_)
  have hP : va_P D vwCl (fd_WM a k σ1) H := by rw [eσ1]; exact fd_sP fd_WMi_6 hP
  refine lv_aload_n hx hb dX11_changed_5 rfl (lv_at hl 0 rfl) ?_
  refine lv_iconst (v := (0 : Int32)) hx hb dX11_changed_6 (by decide) ?_
  obtain ⟨σ2, eσ2, hf⟩ := fd_lts hf
  refine va_put (ci := 11) (v := .int (0 : Int32)) (ty := .int) (C := RX11) (T := TX11) (N := 43) hx hb hts h9X11 tyX11 tyX11_ok nmX11 hown hK hP (fd_DM hI hJ) hS 0 fd_WM_0 rfl 18 (by decide) (hts (.fieldLink RX11 107 "FailDiagnoseModel" "suspects" "I") (List.mem_of_getElem? (i := 2) (by eq_refl))) (fun _ h9 => h9) rfl (by decide +kernel) rfl rfl (Nat.le_of_ble_eq_true rfl) dX11_changed_7 (fun H locs hP _ hS => ?_)
  have hP : va_P D vwCl (fd_WM a k σ2) H := by rw [eσ2]; exact fd_sP fd_WMi_7 hP
  exact W.vret hx hb hr (fun t ht hW => ⟨⟨σ2, rfl, Option.some.inj hf, by rw [ht]; exact hP, va_K.moved hW.alike hK⟩, hS.F ht⟩) hS.2.2 dX11_changed_10
noncomputable def f_X11_input_0_J25 (N : Nat) (z1 : Int32) (σ : fd_St) : Option (Int32 × fd_St) := fd_lt (fd_sI 0 z1 σ) (fun σ2 => if (σ2.1 0) ≤ 0 then (fd_gd (vp_in (σ2.1 1) 200) (fd_lt (fd_sA 1 (σ2.1 1) (-1 : Int32) σ2) (fun σ5 => fd_gd (vp_in (σ5.1 1) 200) (fd_lt (fd_sL 4 (σ5.1 1) (0 : Int64) σ5) (fun σ7 => fd_lt (fd_sI 2 ((σ7.1 2) + (1 : Int32)) σ7) (fun σ8 => fd_lt (fd_sI 1 ((σ8.1 1) + (1 : Int32)) σ8) (fun σ9 => fd_bd (f_X11_changed_0 N σ9) (fun _ σ12 => some ((σ12.1 1) - (1 : Int32), σ12))))))))) else (some ((0 : Int32), σ2)))
noncomputable def f_X11_input_0_J24 (N : Nat) (σ : fd_St) : Option (Int32 × fd_St) := f_X11_input_0_J25 N (1 : Int32) σ
noncomputable def f_X11_input_0 (N : Nat) (σ : fd_St) : Option (Int32 × fd_St) := if (32 : Int32) ≤ (σ.1 2) then (f_X11_input_0_J24 N σ) else (if (200 : Int32) ≤ (σ.1 1) then (f_X11_input_0_J24 N σ) else (f_X11_input_0_J25 N (0 : Int32) σ))
set_option maxHeartbeats 4000000 in
set_option maxRecDepth 100000 in
theorem m_X11_input_0 (l : Launch) (D : va_G) (a : Nat → Nat) (k : Nat → ClassId) (sz : Nat) (hI : fd_I 29 a) (N : Nat) (σ : fd_St) (r : Int32 × fd_St) (hf : f_X11_input_0 N σ = some r) : Met l yX11_input wsX11_input ({ frames := 1, cells := 0, slots := 0, locals := 20 }) (va_Pc [.ref (a 0)] (fd_PM D a k sz σ)) (va_Qi (fun v u => (v, u) = r) (fd_BM D a k) (fd_A 29 a sz)) 0 0 (fd_A 29 a sz) := by
  refine Met.ofW (cc := cX11_input) (maxL := 1) (ret := (some .int)) (by decide) rfl ?_
  intro p e s m args below meth c s₁ B hml hv
  obtain ⟨rfl, hsz, hP, hK⟩ := hv
  have hx := B.exec
  have hb := B.bytes
  have hr := B.returns
  have hts := atoms_spec (ws := wsX11_input) B.pre
  have hown : s.vm.findClass RX11 = some m.cls := findClass_of_methodNamed B.named
  have hlocks := B.notSynchronized
  subst hsz
  have hJ : ∀ i, i < 29 → fd_A 29 a s.heap.size (a i) := fun i hi => Or.inl ⟨i, hi, rfl⟩
  have hS : va_S (fd_A 29 a s.heap.size) s.heap s.heap [] := va_S.rf
  have hl := lv_entry ([.ref (a 0)]) (n := 1) (Nat.le_of_ble_eq_true rfl)
  rw [lg_entry_eq]
  generalize (lg_sl ([.ref (a 0)]) ++ List.replicate (1 - (lg_sl ([.ref (a 0)])).length) Slot.unset).toArray = ls at hl ⊢
  have hl : lv_has ls 1 [(0, .ref (a 0))] := hl
  have h9X11 : ∀ w ∈ u_ws RX11 TX11 43, w ∈ wsX11_input := fd_su [13, 14, 15, 16, 17, 18, 19, 20, 21, 22, 23, 24, 25, 26, 27, 28, 29, 30, 31, 32, 33, 34, 35, 36, 37, 38, 39, 40, 41, 42, 43, 44, 45, 46, 47, 48, 49, 50, 51, 52, 53, 54, 55] (by eq_refl)
  have hL25 : ∀ (z1 : Int32) (σ : fd_St) (H : Heap) (locs : List Loc) (ls : Array Slot), va_P D vwCl (fd_WM a k σ) H → va_S (fd_A 29 a s.heap.size) s.heap H locs → lv_has ls 1 [(0, .ref (a 0))] → f_X11_input_0_J25 N z1 σ = some r → W p l e ((headSpec wsX11_input ({ frames := 1, cells := 0, slots := 0, locals := 20 })).room) s m ([.ref (a 0)].toArray) below meth c H locs 0 0 (MQ below (va_Qi (fun v u => (v, u) = r) (fd_BM D a k) (fd_A 29 a s.heap.size)) ([.ref (a 0)].toArray) s 0 0 (fd_A 29 a s.heap.size)) (F0 m 25 ls [.int z1, .ref (a 0)]) := by
    intro z1 σ H locs ls hP hS hl hf
    unfold f_X11_input_0_J25 at hf
    obtain ⟨σ2, eσ2, hf⟩ := fd_lts hf
    refine va_put (ci := 11) (v := .int z1) (ty := .int) (C := RX11) (T := TX11) (N := 43) hx hb hts h9X11 tyX11 tyX11_ok nmX11 hown hK hP (fd_DM hI hJ) hS 0 fd_WM_0 rfl 0 (by decide) (hts (.fieldLink RX11 99 "FailDiagnoseModel" "thrown" "I") (List.mem_of_getElem? (i := 3) (by eq_refl))) (fun _ h9 => h9) rfl (by decide +kernel) rfl rfl (Nat.le_of_ble_eq_true rfl) dX11_input_25 (fun H locs hP _ hS => ?_)
    have hP : va_P D vwCl (fd_WM a k σ2) H := by rw [eσ2]; exact fd_sP fd_WMi_0 hP
    refine lv_aload_n hx hb dX11_input_28 rfl (lv_at hl 0 rfl) ?_
    refine va_get (ci := 11) (v := .int (σ2.1 0)) (C := RX11) (T := TX11) (N := 43) hx hb hts h9X11 hown hK hP 0 fd_WM_0 rfl 0 (by decide) (hts (.fieldLink RX11 99 "FailDiagnoseModel" "thrown" "I") (List.mem_of_getElem? (i := 3) (by eq_refl))) (fun _ h9 => h9) rfl dX11_input_29 ?_
    refine lv_if_le (tgt := 37) hx hb dX11_input_32 (by decide) (fun c3 => ?_) (fun c3 => ?_)
    · have hf := fd_itp c3 hf
      refine lv_aload_n hx hb dX11_input_37 rfl (lv_at hl 0 rfl) ?_
      refine va_get (ci := 11) (v := .ref (a 1)) (C := RX11) (T := TX11) (N := 43) hx hb hts h9X11 hown hK hP 0 fd_WM_0 rfl 2 (by decide) (hts (.fieldLink RX11 7 "FailDiagnoseModel" "kinds" "[I") (List.mem_of_getElem? (i := 4) (by eq_refl))) (fun _ h9 => h9) rfl dX11_input_38 ?_
      refine lv_aload_n hx hb dX11_input_41 rfl (lv_at hl 0 rfl) ?_
      refine va_get (ci := 11) (v := .int (σ2.1 1)) (C := RX11) (T := TX11) (N := 43) hx hb hts h9X11 hown hK hP 0 fd_WM_0 rfl 1 (by decide) (hts (.fieldLink RX11 113 "FailDiagnoseModel" "nets" "I") (List.mem_of_getElem? (i := 2) (by eq_refl))) (fun _ h9 => h9) rfl dX11_input_42 ?_
      refine lv_iconst (v := (-1 : Int32)) hx hb dX11_input_45 (by decide) ?_
      obtain ⟨g4, hf⟩ := fd_gds hf
      obtain ⟨σ5, eσ5, hf⟩ := fd_lts hf
      refine va_iast hx hb hK hP (fd_DM hI hJ) hS 1 0 fd_WM_1 fd_tyM_1 g4 dX11_input_46 (fun H locs hP _ hS => ?_)
      have hP : va_P D vwCl (fd_WM a k σ5) H := by rw [eσ5]; exact fd_sP fd_WMa_1 hP
      refine lv_aload_n hx hb dX11_input_47 rfl (lv_at hl 0 rfl) ?_
      refine va_get (ci := 11) (v := .ref (a 4)) (C := RX11) (T := TX11) (N := 43) hx hb hts h9X11 hown hK hP 0 fd_WM_0 rfl 5 (by decide) (hts (.fieldLink RX11 19 "FailDiagnoseModel" "puts" "[J") (List.mem_of_getElem? (i := 5) (by eq_refl))) (fun _ h9 => h9) rfl dX11_input_48 ?_
      refine lv_aload_n hx hb dX11_input_51 rfl (lv_at hl 0 rfl) ?_
      refine va_get (ci := 11) (v := .int (σ5.1 1)) (C := RX11) (T := TX11) (N := 43) hx hb hts h9X11 hown hK hP 0 fd_WM_0 rfl 1 (by decide) (hts (.fieldLink RX11 113 "FailDiagnoseModel" "nets" "I") (List.mem_of_getElem? (i := 2) (by eq_refl))) (fun _ h9 => h9) rfl dX11_input_52 ?_
      refine lv_lconst (v := (0 : Int64)) hx hb dX11_input_55 (by decide) ?_
      obtain ⟨g6, hf⟩ := fd_gds hf
      obtain ⟨σ7, eσ7, hf⟩ := fd_lts hf
      refine va_last hx hb hK hP (fd_DM hI hJ) hS 4 3 fd_WM_4 fd_tyM_4 g6 dX11_input_56 (fun H locs hP _ hS => ?_)
      have hP : va_P D vwCl (fd_WM a k σ7) H := by rw [eσ7]; exact fd_sP fd_WMa_4 hP
      refine lv_aload_n hx hb dX11_input_57 rfl (lv_at hl 0 rfl) ?_
      refine lv_dup hx hb dX11_input_58 rfl ?_
      refine va_get (ci := 11) (v := .int (σ7.1 2)) (C := RX11) (T := TX11) (N := 43) hx hb hts h9X11 hown hK hP 0 fd_WM_0 rfl 6 (by decide) (hts (.fieldLink RX11 110 "FailDiagnoseModel" "inputs" "I") (List.mem_of_getElem? (i := 1) (by eq_refl))) (fun _ h9 => h9) rfl dX11_input_59 ?_
      refine lv_iconst (v := (1 : Int32)) hx hb dX11_input_62 (by decide) ?_
      refine lv_iadd hx hb dX11_input_63 ?_
      obtain ⟨σ8, eσ8, hf⟩ := fd_lts hf
      refine va_put (ci := 11) (v := .int ((σ7.1 2) + (1 : Int32))) (ty := .int) (C := RX11) (T := TX11) (N := 43) hx hb hts h9X11 tyX11 tyX11_ok nmX11 hown hK hP (fd_DM hI hJ) hS 0 fd_WM_0 rfl 6 (by decide) (hts (.fieldLink RX11 110 "FailDiagnoseModel" "inputs" "I") (List.mem_of_getElem? (i := 1) (by eq_refl))) (fun _ h9 => h9) rfl (by decide +kernel) rfl rfl (Nat.le_of_ble_eq_true rfl) dX11_input_64 (fun H locs hP _ hS => ?_)
      have hP : va_P D vwCl (fd_WM a k σ8) H := by rw [eσ8]; exact fd_sP fd_WMi_2 hP
      refine lv_aload_n hx hb dX11_input_67 rfl (lv_at hl 0 rfl) ?_
      refine lv_dup hx hb dX11_input_68 rfl ?_
      refine va_get (ci := 11) (v := .int (σ8.1 1)) (C := RX11) (T := TX11) (N := 43) hx hb hts h9X11 hown hK hP 0 fd_WM_0 rfl 1 (by decide) (hts (.fieldLink RX11 113 "FailDiagnoseModel" "nets" "I") (List.mem_of_getElem? (i := 2) (by eq_refl))) (fun _ h9 => h9) rfl dX11_input_69 ?_
      refine lv_iconst (v := (1 : Int32)) hx hb dX11_input_72 (by decide) ?_
      refine lv_iadd hx hb dX11_input_73 ?_
      obtain ⟨σ9, eσ9, hf⟩ := fd_lts hf
      refine va_put (ci := 11) (v := .int ((σ8.1 1) + (1 : Int32))) (ty := .int) (C := RX11) (T := TX11) (N := 43) hx hb hts h9X11 tyX11 tyX11_ok nmX11 hown hK hP (fd_DM hI hJ) hS 0 fd_WM_0 rfl 1 (by decide) (hts (.fieldLink RX11 113 "FailDiagnoseModel" "nets" "I") (List.mem_of_getElem? (i := 2) (by eq_refl))) (fun _ h9 => h9) rfl (by decide +kernel) rfl rfl (Nat.le_of_ble_eq_true rfl) dX11_input_74 (fun H locs hP _ hS => ?_)
      have hP : va_P D vwCl (fd_WM a k σ9) H := by rw [eσ9]; exact fd_sP fd_WMi_1 hP
      refine lv_aload_n hx hb dX11_input_77 rfl (lv_at hl 0 rfl) ?_
      obtain ⟨w13, τ14, hc10, hf⟩ := fd_bds hf
      refine va_callv (va_runV (As := []) (rest := []) ⟨hx, hb, hml, hown, hts⟩ (m_X11_changed_0 l D a k H.size hI N σ9 _ hc10) (cwV 0 hts gX11_input_X11_changed rfl rfl rfl (by decide +kernel) ⟨Nat.le_of_ble_eq_true rfl, Nat.le_of_ble_eq_true rfl⟩) ⟨fd_blM, va_recv hK hP (ci := 11) (q0 := 0) rfl fd_WM_0, fd_prM hP hK⟩ rfl rfl hl.1 rfl (lv_room (Nat.le_of_ble_eq_true rfl)) dX11_input_78 ⟨Nat.zero_le _, Nat.zero_le _⟩) hS (fun q _ h => fd_A_mono hS.1 h) (fun q h => fd_A_mono hS.1 h) (fun u t H1 locs ht hvm hw hB hz hk hS => ?_)
      obtain ⟨hP1, hK1⟩ := hB
      rw [ht] at hP1
      have e2 := (Prod.mk.inj hw).2
      subst e2
      obtain ⟨σ12, rfl⟩ : ∃ z, z = u := ⟨_, rfl⟩
      have hP := hP1
      generalize H1 = H at hP hS ⊢
      refine lv_aload_n hx hb dX11_input_81 rfl (lv_at hl 0 rfl) ?_
      refine va_get (ci := 11) (v := .int (σ12.1 1)) (C := RX11) (T := TX11) (N := 43) hx hb hts h9X11 hown hK hP 0 fd_WM_0 rfl 1 (by decide) (hts (.fieldLink RX11 113 "FailDiagnoseModel" "nets" "I") (List.mem_of_getElem? (i := 2) (by eq_refl))) (fun _ h9 => h9) rfl dX11_input_82 ?_
      refine lv_iconst (v := (1 : Int32)) hx hb dX11_input_85 (by decide) ?_
      refine lv_isub hx hb dX11_input_86 ?_
      exact W.iret (v := ((σ12.1 1) - (1 : Int32))) hx hb hr (fun t ht hW => ⟨⟨(σ12.1 1) - (1 : Int32), σ12, rfl, Option.some.inj hf, by rw [ht]; exact hP, va_K.moved hW.alike hK⟩, hS.F ht⟩) hS.2.2 dX11_input_87
    · have hf := fd_itn c3 hf
      refine lv_iconst (v := (0 : Int32)) hx hb dX11_input_35 (by decide) ?_
      exact W.iret (v := (0 : Int32)) hx hb hr (fun t ht hW => ⟨⟨(0 : Int32), σ2, rfl, Option.some.inj hf, by rw [ht]; exact hP, va_K.moved hW.alike hK⟩, hS.F ht⟩) hS.2.2 dX11_input_36
  have hL24 : ∀ (σ : fd_St) (H : Heap) (locs : List Loc) (ls : Array Slot), va_P D vwCl (fd_WM a k σ) H → va_S (fd_A 29 a s.heap.size) s.heap H locs → lv_has ls 1 [(0, .ref (a 0))] → f_X11_input_0_J24 N σ = some r → W p l e ((headSpec wsX11_input ({ frames := 1, cells := 0, slots := 0, locals := 20 })).room) s m ([.ref (a 0)].toArray) below meth c H locs 0 0 (MQ below (va_Qi (fun v u => (v, u) = r) (fd_BM D a k) (fd_A 29 a s.heap.size)) ([.ref (a 0)].toArray) s 0 0 (fd_A 29 a s.heap.size)) (F0 m 24 ls [.ref (a 0)]) := by
    intro σ H locs ls hP hS hl hf
    unfold f_X11_input_0_J24 at hf
    refine lv_iconst (v := (1 : Int32)) hx hb dX11_input_24 (by decide) ?_
    exact hL25 (1 : Int32) σ _ _ _ hP hS (lv_sub hl [0] rfl) hf
  unfold f_X11_input_0 at hf
  refine lv_aload_n hx hb dX11_input_0 rfl (lv_at hl 0 rfl) ?_
  refine lv_aload_n hx hb dX11_input_1 rfl (lv_at hl 0 rfl) ?_
  refine va_get (ci := 11) (v := .int (σ.1 2)) (C := RX11) (T := TX11) (N := 43) hx hb hts h9X11 hown hK hP 0 fd_WM_0 rfl 6 (by decide) (hts (.fieldLink RX11 110 "FailDiagnoseModel" "inputs" "I") (List.mem_of_getElem? (i := 1) (by eq_refl))) (fun _ h9 => h9) rfl dX11_input_2 ?_
  refine lv_bipush (v := (32 : Int32)) hx hb dX11_input_5 (by decide) ?_
  refine lv_icmp_ge (tgt := 24) hx hb dX11_input_7 (by decide) (fun c1 => ?_) (fun c1 => ?_)
  · have hf := fd_itp c1 hf
    exact hL24 σ _ _ _ hP hS (lv_sub hl [0] rfl) hf
  · have hf := fd_itn c1 hf
    refine lv_aload_n hx hb dX11_input_10 rfl (lv_at hl 0 rfl) ?_
    refine va_get (ci := 11) (v := .int (σ.1 1)) (C := RX11) (T := TX11) (N := 43) hx hb hts h9X11 hown hK hP 0 fd_WM_0 rfl 1 (by decide) (hts (.fieldLink RX11 113 "FailDiagnoseModel" "nets" "I") (List.mem_of_getElem? (i := 2) (by eq_refl))) (fun _ h9 => h9) rfl dX11_input_11 ?_
    refine lv_sipush (v := (200 : Int32)) hx hb dX11_input_14 (by decide) ?_
    refine lv_icmp_ge (tgt := 24) hx hb dX11_input_17 (by decide) (fun c15 => ?_) (fun c15 => ?_)
    · have hf := fd_itp c15 hf
      exact hL24 σ _ _ _ hP hS (lv_sub hl [0] rfl) hf
    · have hf := fd_itn c15 hf
      refine lv_iconst (v := (0 : Int32)) hx hb dX11_input_20 (by decide) ?_
      refine lv_goto (tgt := 25) hx hb dX11_input_21 (by decide) ?_
      exact hL25 (0 : Int32) σ _ _ _ hP hS (lv_sub hl [0] rfl) hf
noncomputable def f_X2_has_1 (N : Nat) (p1 : Int32) (σ : fd_St) : Option (Int32 × fd_St) := if p1 < 0 then (some ((0 : Int32), σ)) else (if (σ.1 1) ≤ p1 then (some ((0 : Int32), σ)) else (some ((1 : Int32), σ)))
set_option maxHeartbeats 4000000 in
set_option maxRecDepth 100000 in
theorem m_X2_has_1 (l : Launch) (D : va_G) (a : Nat → Nat) (k : Nat → ClassId) (sz : Nat) (hI : fd_I 39 a) (N : Nat) (p1 : Int32) (σ : fd_St) (r : Int32 × fd_St) (hf : f_X2_has_1 N p1 σ = some r) : Met l yX2_has wsX2_has ({ frames := 0, cells := 0, slots := 0, locals := 0 }) (va_Pc [.ref (a 1), .int p1] (fd_PC D a k sz σ)) (va_Qi (fun v u => (v, u) = r) (fd_BC D a k) (fd_A 39 a sz)) 0 0 (fd_A 39 a sz) := by
  refine Met.ofW (cc := cX2_has) (maxL := 2) (ret := (some .boolean)) (by decide) rfl ?_
  intro p e s m args below meth c s₁ B hml hv
  obtain ⟨rfl, hsz, hP, hK⟩ := hv
  have hx := B.exec
  have hb := B.bytes
  have hr := B.returns
  have hts := atoms_spec (ws := wsX2_has) B.pre
  have hown : s.vm.findClass RX2 = some m.cls := findClass_of_methodNamed B.named
  have hlocks := B.notSynchronized
  subst hsz
  have hJ : ∀ i, i < 39 → fd_A 39 a s.heap.size (a i) := fun i hi => Or.inl ⟨i, hi, rfl⟩
  have hS : va_S (fd_A 39 a s.heap.size) s.heap s.heap [] := va_S.rf
  have hl := lv_entry ([.ref (a 1), .int p1]) (n := 2) (Nat.le_of_ble_eq_true rfl)
  rw [lg_entry_eq]
  generalize (lg_sl ([.ref (a 1), .int p1]) ++ List.replicate (2 - (lg_sl ([.ref (a 1), .int p1])).length) Slot.unset).toArray = ls at hl ⊢
  have hl : lv_has ls 2 [(0, .ref (a 1)), (1, .int p1)] := hl
  have h9X2 : ∀ w ∈ u_ws RX2 TX2 9, w ∈ wsX2_has := fd_su [2, 3, 4, 5, 6, 7, 8, 9, 10] (by eq_refl)
  unfold f_X2_has_1 at hf
  refine lv_iload_n hx hb dX2_has_0 rfl (lv_at hl 1 rfl) ?_
  refine lv_if_lt (tgt := 16) hx hb dX2_has_1 (by decide) (fun c1 => ?_) (fun c1 => ?_)
  · have hf := fd_itp c1 hf
    refine lv_iconst (v := (0 : Int32)) hx hb dX2_has_16 (by decide) ?_
    exact W.zret (v := (0 : Int32)) (ty := .boolean) hx hb hr rfl (fun t ht hW => ⟨⟨(0 : Int32), σ, rfl, Option.some.inj hf, by rw [ht]; exact hP, va_K.moved hW.alike hK⟩, hS.F ht⟩) hS.2.2 dX2_has_17
  · have hf := fd_itn c1 hf
    refine lv_iload_n hx hb dX2_has_4 rfl (lv_at hl 1 rfl) ?_
    refine lv_aload_n hx hb dX2_has_5 rfl (lv_at hl 0 rfl) ?_
    refine va_get (ci := 2) (v := .int (σ.1 1)) (C := RX2) (T := TX2) (N := 9) hx hb hts h9X2 hown hK hP 1 fd_WC_1 rfl 6 (by decide) (hts (.fieldLink RX2 32 "FailDiagnose$Circuit" "nets" "I") (List.mem_of_getElem? (i := 1) (by eq_refl))) (fun _ h9 => h9) rfl dX2_has_6 ?_
    refine lv_icmp_ge (tgt := 16) hx hb dX2_has_9 (by decide) (fun c2 => ?_) (fun c2 => ?_)
    · have hf := fd_itp c2 hf
      refine lv_iconst (v := (0 : Int32)) hx hb dX2_has_16 (by decide) ?_
      exact W.zret (v := (0 : Int32)) (ty := .boolean) hx hb hr rfl (fun t ht hW => ⟨⟨(0 : Int32), σ, rfl, Option.some.inj hf, by rw [ht]; exact hP, va_K.moved hW.alike hK⟩, hS.F ht⟩) hS.2.2 dX2_has_17
    · have hf := fd_itn c2 hf
      refine lv_iconst (v := (1 : Int32)) hx hb dX2_has_12 (by decide) ?_
      refine lv_goto (tgt := 17) hx hb dX2_has_13 (by decide) ?_
      exact W.zret (v := (1 : Int32)) (ty := .boolean) hx hb hr rfl (fun t ht hW => ⟨⟨(1 : Int32), σ, rfl, Option.some.inj hf, by rw [ht]; exact hP, va_K.moved hW.alike hK⟩, hS.F ht⟩) hS.2.2 dX2_has_17
noncomputable def f_X10_needNet_0 (N : Nat) (p1 : Int32) (σ : fd_St) : Option ((Unit ⊕ String) × fd_St) := fd_bd (f_X2_has_1 N p1 σ) (fun v2 σ3 => if v2 = 0 then (some (.inr "java/lang/IndexOutOfBoundsException", σ3)) else (some (.inl (), σ3)))
set_option maxHeartbeats 4000000 in
set_option maxRecDepth 100000 in
theorem m_X10_needNet_0 (l : Launch) (hl9 : l.stackTraces = false) (D : va_G) (a : Nat → Nat) (k : Nat → ClassId) (sz : Nat) (hI : fd_I 39 a) (N : Nat) (p1 : Int32) (σ : fd_St) (r : (Unit ⊕ String) × fd_St) (hf : f_X10_needNet_0 N p1 σ = some r) : vx_Met l yX10_needNet wsX10_needNet ({ frames := 6, cells := fd_mc r, slots := fd_ms r, locals := 90 }) (va_Pc [.ref (a 0), .int p1] (fd_PZ D a k sz σ)) (va_Qv (fun u => (Sum.inl (), u) = r) (fd_BC D a k) (fd_A 39 a sz)) (fd_X D a k (fd_A 39 a sz) r) (fd_mc r) (fd_ms r) (fd_A 39 a sz) := by
  refine vx_ofW (cc := cX10_needNet) (maxL := 2) (ret := none) (by decide) rfl ?_
  intro p e s m args below meth c s₁ B hml hex hv
  obtain ⟨rfl, ⟨hsz, hP, hK⟩, hZ⟩ := hv
  have hx := B.exec
  have hb := B.bytes
  have hr := B.returns
  have hts := atoms_spec (ws := wsX10_needNet) B.pre
  have hown : s.vm.findClass RX10 = some m.cls := findClass_of_methodNamed B.named
  have hlocks := B.notSynchronized
  subst hsz
  have hJ : ∀ i, i < 39 → fd_A 39 a s.heap.size (a i) := fun i hi => Or.inl ⟨i, hi, rfl⟩
  have hS : va_S (fd_A 39 a s.heap.size) s.heap s.heap [] := va_S.rf
  have hl := lv_entry ([.ref (a 0), .int p1]) (n := 2) (Nat.le_of_ble_eq_true rfl)
  rw [lg_entry_eq]
  generalize (lg_sl ([.ref (a 0), .int p1]) ++ List.replicate (2 - (lg_sl ([.ref (a 0), .int p1])).length) Slot.unset).toArray = ls at hl ⊢
  have hl : lv_has ls 2 [(0, .ref (a 0)), (1, .int p1)] := hl
  have h9X10 : ∀ w ∈ u_ws RX10 TX10 8, w ∈ wsX10_needNet := fd_su [10, 11, 12, 13, 14, 15, 16, 17] (by eq_refl)
  unfold f_X10_needNet_0 at hf
  refine lv_aload_n hx hb dX10_needNet_0 rfl (lv_at hl 0 rfl) ?_
  refine va_get (ci := 10) (v := .ref (a 1)) (C := RX10) (T := TX10) (N := 8) hx hb hts h9X10 hown hK hP 0 fd_WC_0 rfl 0 (by decide) (hts (.fieldLink RX10 12 "FailDiagnose" "circuit" "LFailDiagnose$Circuit;") (List.mem_of_getElem? (i := 3) (by eq_refl))) (fun _ h9 => h9) rfl dX10_needNet_1 ?_
  refine lv_iload_n hx hb dX10_needNet_4 rfl (lv_at hl 1 rfl) ?_
  obtain ⟨w4, τ5, hc1, hf⟩ := fd_bds hf
  refine va_calli (va_runV (As := [.int p1]) (rest := []) ⟨hx, hb, hml, hown, hts⟩ (m_X2_has_1 l D a k s.heap.size hI N p1 σ _ hc1) (cwV 1 hts gX10_needNet_X2_has rfl rfl rfl (by decide +kernel) ⟨Nat.le_of_ble_eq_true rfl, Nat.le_of_ble_eq_true rfl⟩) ⟨fd_blC, va_recv hK hP (ci := 2) (q0 := 1) rfl fd_WC_1, fd_prC hP hK⟩ rfl rfl hl.1 rfl (lv_room (Nat.le_of_ble_eq_true rfl)) dX10_needNet_5 ⟨Nat.zero_le _, Nat.zero_le _⟩) hS (fun q _ h => fd_A_mono hS.1 h) (fun q h => fd_A_mono hS.1 h) (fun v2 u t H1 locs ht hvm hw hB hz hk hS => ?_)
  obtain ⟨hP1, hK1⟩ := hB
  rw [ht] at hP1
  obtain ⟨e1, e2⟩ := Prod.mk.inj hw
  subst e1
  subst e2
  obtain ⟨σ3, rfl⟩ : ∃ z, z = u := ⟨_, rfl⟩
  have hP := hP1
  generalize H1 = H at hP hS ⊢
  refine lv_if_ne (tgt := 22) hx hb dX10_needNet_8 (by decide) (fun c6 => ?_) (fun c6 => ?_)
  · have hf := fd_itn c6 hf
    refine vx_ret (W.widen (k := fd_mc r) (n := fd_ms r) (Nat.zero_le _) (Nat.zero_le _) ?_)
    exact W.vret hx hb hr (fun t ht hW => ⟨⟨σ3, rfl, Option.some.inj hf, by rw [ht]; exact hP, va_K.moved hW.alike hK⟩, hS.F ht⟩) hS.2.2 dX10_needNet_22
  · have hf := fd_itp c6 hf
    have e7 := Option.some.inj hf
    subst e7
    obtain ⟨sa, hsa⟩ := hZ.str 257 "no such net" (by decide +kernel)
    exact vx_throwSW (own := RX10) (cls := "java/lang/IndexOutOfBoundsException") (names := ["java/lang/RuntimeException", "java/lang/Exception"]) hx hb hl9 hown fd_ex_114_118_f fd_ex_n (hts (.classLink RX10 114 "java/lang/IndexOutOfBoundsException") (List.mem_of_getElem? (i := 1) (by eq_refl))) (hts (.initialized "java/lang/IndexOutOfBoundsException") (List.mem_of_getElem? (i := 2) (by eq_refl))) hsa (vx_hat (L := vx_atS RX10 118 "java/lang/IndexOutOfBoundsException" ["java/lang/RuntimeException", "java/lang/Exception"]) (B := fd_bad "java/lang/IndexOutOfBoundsException") (fun w hw => hts w ((fun w h => List.mem_cons_of_mem _ (List.mem_append_right _ h) : ∀ w ∈ (vx_atS RX10 118 "java/lang/IndexOutOfBoundsException" ["java/lang/RuntimeException", "java/lang/Exception"]).filter goodWord, w ∈ wsX10_needNet) w hw)) fd_ex_114_118_b (hZ.bad "java/lang/IndexOutOfBoundsException" fd_ex_114_118_e)) fd_ex_114_118_g hZ.un hZ.su hS (hl.1.trans hml.symm) dX10_needNet_11 dX10_needNet_14 dX10_needNet_15 dX10_needNet_18 dX10_needNet_21 (fun x hx => (hex x hx).elim) (Nat.le_of_ble_eq_true rfl) (Nat.le_of_ble_eq_true rfl) (Nat.le_of_ble_eq_true rfl) (Nat.le_of_ble_eq_true rfl) hlocks (fun t ha hsz hk => ⟨σ3, trivial, ⟨rfl, hP.kept (fun k q hq => hk q.1 (hP k q hq).lt), va_K.moved ha hK⟩, Nat.le_trans hS.1 hsz, fun q h1 h2 => (hk q (Nat.lt_of_lt_of_le h1 hS.1)).trans (hS.2.1 q h1 h2)⟩) hS.2.2 (Nat.le_of_ble_eq_true rfl) (Nat.le_of_ble_eq_true rfl)
noncomputable def f_X2_gateRow_1_15 (N : Nat) (p1 : Int32) (σ : fd_St) : Option (Int64 × fd_St) := fd_gd (vp_in p1 200) (fd_gd (vp_in (σ.2.1 13 p1.toNatClampNeg) 200) (fd_lt (σ.2.2 15 (σ.2.1 13 p1.toNatClampNeg).toNatClampNeg) (fun x3 => fd_gd (vp_in p1 200) (fd_gd (vp_in (σ.2.1 14 p1.toNatClampNeg) 200) (fd_lt (σ.2.2 15 (σ.2.1 14 p1.toNatClampNeg).toNatClampNeg) (fun x6 => fd_gd (vp_in p1 200) (fd_lt (σ.2.1 12 p1.toNatClampNeg) (fun x8 => if x8 = (0 : Int32) then (some (x3 &&& x6, σ)) else (if x8 = (1 : Int32) then (some (x3 ||| x6, σ)) else (if x8 = (2 : Int32) then (some (x3 ^^^ x6, σ)) else (if x8 = (3 : Int32) then (some ((x3 &&& x6) ^^^ (-1 : Int64), σ)) else (if x8 = (4 : Int32) then (some ((x3 ||| x6) ^^^ (-1 : Int64), σ)) else (if x8 = (5 : Int32) then (some (x3 ^^^ (-1 : Int64), σ)) else (some (x3, σ)))))))))))))))
set_option maxHeartbeats 4000000 in
set_option maxRecDepth 100000 in
theorem m_X2_gateRow_1_15 (l : Launch) (D : va_G) (a : Nat → Nat) (k : Nat → ClassId) (sz : Nat) (hI : fd_I 39 a) (N : Nat) (p1 : Int32) (σ : fd_St) (r : Int64 × fd_St) (hf : f_X2_gateRow_1_15 N p1 σ = some r) : Met l yX2_gateRow wsX2_gateRow ({ frames := 0, cells := 0, slots := 0, locals := 0 }) (va_Pc [.ref (a 1), .int p1, .ref (a 15)] (fd_PC D a k sz σ)) (va_Ql (fun v u => (v, u) = r) (fd_BC D a k) (fd_A 39 a sz)) 0 0 (fd_A 39 a sz) := by
  refine Met.ofW (cc := cX2_gateRow) (maxL := 7) (ret := (some .long)) (by decide) rfl ?_
  intro p e s m args below meth c s₁ B hml hv
  obtain ⟨rfl, hsz, hP, hK⟩ := hv
  have hx := B.exec
  have hb := B.bytes
  have hr := B.returns
  have hts := atoms_spec (ws := wsX2_gateRow) B.pre
  have hown : s.vm.findClass RX2 = some m.cls := findClass_of_methodNamed B.named
  have hlocks := B.notSynchronized
  subst hsz
  have hJ : ∀ i, i < 39 → fd_A 39 a s.heap.size (a i) := fun i hi => Or.inl ⟨i, hi, rfl⟩
  have hS : va_S (fd_A 39 a s.heap.size) s.heap s.heap [] := va_S.rf
  have hl := lv_entry ([.ref (a 1), .int p1, .ref (a 15)]) (n := 7) (Nat.le_of_ble_eq_true rfl)
  rw [lg_entry_eq]
  generalize (lg_sl ([.ref (a 1), .int p1, .ref (a 15)]) ++ List.replicate (7 - (lg_sl ([.ref (a 1), .int p1, .ref (a 15)])).length) Slot.unset).toArray = ls at hl ⊢
  have hl : lv_has ls 7 [(0, .ref (a 1)), (1, .int p1), (2, .ref (a 15))] := hl
  have h9X2 : ∀ w ∈ u_ws RX2 TX2 9, w ∈ wsX2_gateRow := fd_su [5, 6, 7, 8, 9, 10, 11, 12, 13] (by eq_refl)
  unfold f_X2_gateRow_1_15 at hf
  refine lv_aload_n hx hb dX2_gateRow_0 rfl (lv_at hl 2 rfl) ?_
  refine lv_aload_n hx hb dX2_gateRow_1 rfl (lv_at hl 0 rfl) ?_
  refine va_get (ci := 2) (v := .ref (a 13)) (C := RX2) (T := TX2) (N := 9) hx hb hts h9X2 hown hK hP 1 fd_WC_1 rfl 1 (by decide) (hts (.fieldLink RX2 15 "FailDiagnose$Circuit" "firsts" "[I") (List.mem_of_getElem? (i := 1) (by eq_refl))) (fun _ h9 => h9) rfl dX2_gateRow_2 ?_
  refine lv_iload_n hx hb dX2_gateRow_5 rfl (lv_at hl 1 rfl) ?_
  obtain ⟨g1, hf⟩ := fd_gds hf
  refine va_iald hx hb hK hP 13 1 fd_WC_13 fd_tyC_13 g1 dX2_gateRow_6 ?_
  obtain ⟨g2, hf⟩ := fd_gds hf
  refine va_lald hx hb hK hP 15 3 fd_WC_15 fd_tyC_15 g2 dX2_gateRow_7 ?_
  obtain ⟨x3, ex3, hf⟩ := fd_lts hf
  refine fd_nl ex3 ?_
  refine lv_lstore_n (lv' := [(3, .long x3), (0, .ref (a 1)), (1, .int p1), (2, .ref (a 15))]) hx hb dX2_gateRow_8 rfl hl (by decide) rfl (fun ls hl => ?_)
  refine lv_aload_n hx hb dX2_gateRow_9 rfl (lv_at hl 3 rfl) ?_
  refine lv_aload_n hx hb dX2_gateRow_10 rfl (lv_at hl 1 rfl) ?_
  refine va_get (ci := 2) (v := .ref (a 14)) (C := RX2) (T := TX2) (N := 9) hx hb hts h9X2 hown hK hP 1 fd_WC_1 rfl 2 (by decide) (hts (.fieldLink RX2 18 "FailDiagnose$Circuit" "seconds" "[I") (List.mem_of_getElem? (i := 2) (by eq_refl))) (fun _ h9 => h9) rfl dX2_gateRow_11 ?_
  refine lv_iload_n hx hb dX2_gateRow_14 rfl (lv_at hl 2 rfl) ?_
  obtain ⟨g4, hf⟩ := fd_gds hf
  refine va_iald hx hb hK hP 14 2 fd_WC_14 fd_tyC_14 g4 dX2_gateRow_15 ?_
  obtain ⟨g5, hf⟩ := fd_gds hf
  refine va_lald hx hb hK hP 15 3 fd_WC_15 fd_tyC_15 g5 dX2_gateRow_16 ?_
  obtain ⟨x6, ex6, hf⟩ := fd_lts hf
  refine fd_nl ex6 ?_
  refine lv_lstore (lv' := [(5, .long x6), (3, .long x3), (0, .ref (a 1)), (1, .int p1), (2, .ref (a 15))]) hx hb dX2_gateRow_17 hl (by decide) rfl (fun ls hl => ?_)
  refine lv_aload_n hx hb dX2_gateRow_19 rfl (lv_at hl 2 rfl) ?_
  refine va_get (ci := 2) (v := .ref (a 12)) (C := RX2) (T := TX2) (N := 9) hx hb hts h9X2 hown hK hP 1 fd_WC_1 rfl 0 (by decide) (hts (.fieldLink RX2 9 "FailDiagnose$Circuit" "kinds" "[I") (List.mem_of_getElem? (i := 3) (by eq_refl))) (fun _ h9 => h9) rfl dX2_gateRow_20 ?_
  refine lv_iload_n hx hb dX2_gateRow_23 rfl (lv_at hl 3 rfl) ?_
  obtain ⟨g7, hf⟩ := fd_gds hf
  refine va_iald hx hb hK hP 12 0 fd_WC_12 fd_tyC_12 g7 dX2_gateRow_24 ?_
  obtain ⟨x8, ex8, hf⟩ := fd_lts hf
  refine fd_ni ex8 ?_
  by_cases c9 : x8 = (0 : Int32)
  · have hf := fd_itp c9 hf
    refine lv_tableIn (off := 39) (tgt := 64) hx hb dX2_gateRow_25 (by rw [c9]; decide) (by rw [c9]; decide) (by rw [c9]; decide) (by decide) ?_
    refine lv_lload_n hx hb dX2_gateRow_64 rfl (lv_at hl 1 rfl) ?_
    refine lv_lload hx hb dX2_gateRow_65 (lv_at hl 0 rfl) ?_
    refine lv_land hx hb dX2_gateRow_67 ?_
    exact W.lret (v := (x3 &&& x6)) hx hb hr (fun t ht hW => ⟨⟨x3 &&& x6, σ, rfl, Option.some.inj hf, by rw [ht]; exact hP, va_K.moved hW.alike hK⟩, hS.F ht⟩) hS.2.2 dX2_gateRow_68
  have hf := fd_itn c9 hf
  by_cases c10 : x8 = (1 : Int32)
  · have hf := fd_itp c10 hf
    refine lv_tableIn (off := 44) (tgt := 69) hx hb dX2_gateRow_25 (by rw [c10]; decide) (by rw [c10]; decide) (by rw [c10]; decide) (by decide) ?_
    refine lv_lload_n hx hb dX2_gateRow_69 rfl (lv_at hl 1 rfl) ?_
    refine lv_lload hx hb dX2_gateRow_70 (lv_at hl 0 rfl) ?_
    refine lv_lor hx hb dX2_gateRow_72 ?_
    exact W.lret (v := (x3 ||| x6)) hx hb hr (fun t ht hW => ⟨⟨x3 ||| x6, σ, rfl, Option.some.inj hf, by rw [ht]; exact hP, va_K.moved hW.alike hK⟩, hS.F ht⟩) hS.2.2 dX2_gateRow_73
  have hf := fd_itn c10 hf
  by_cases c11 : x8 = (2 : Int32)
  · have hf := fd_itp c11 hf
    refine lv_tableIn (off := 49) (tgt := 74) hx hb dX2_gateRow_25 (by rw [c11]; decide) (by rw [c11]; decide) (by rw [c11]; decide) (by decide) ?_
    refine lv_lload_n hx hb dX2_gateRow_74 rfl (lv_at hl 1 rfl) ?_
    refine lv_lload hx hb dX2_gateRow_75 (lv_at hl 0 rfl) ?_
    refine lv_lxor hx hb dX2_gateRow_77 ?_
    exact W.lret (v := (x3 ^^^ x6)) hx hb hr (fun t ht hW => ⟨⟨x3 ^^^ x6, σ, rfl, Option.some.inj hf, by rw [ht]; exact hP, va_K.moved hW.alike hK⟩, hS.F ht⟩) hS.2.2 dX2_gateRow_78
  have hf := fd_itn c11 hf
  by_cases c12 : x8 = (3 : Int32)
  · have hf := fd_itp c12 hf
    refine lv_tableIn (off := 54) (tgt := 79) hx hb dX2_gateRow_25 (by rw [c12]; decide) (by rw [c12]; decide) (by rw [c12]; decide) (by decide) ?_
    refine lv_lload_n hx hb dX2_gateRow_79 rfl (lv_at hl 1 rfl) ?_
    refine lv_lload hx hb dX2_gateRow_80 (lv_at hl 0 rfl) ?_
    refine lv_land hx hb dX2_gateRow_82 ?_
    refine lv_ldc2 hx hb hown (hts (.constantLong RX2 54 (-1)) (List.mem_of_getElem? (i := 4) (by eq_refl))) dX2_gateRow_83 ?_
    refine lv_lxor hx hb dX2_gateRow_86 ?_
    exact W.lret (v := ((x3 &&& x6) ^^^ (-1 : Int64))) hx hb hr (fun t ht hW => ⟨⟨(x3 &&& x6) ^^^ (-1 : Int64), σ, rfl, Option.some.inj hf, by rw [ht]; exact hP, va_K.moved hW.alike hK⟩, hS.F ht⟩) hS.2.2 dX2_gateRow_87
  have hf := fd_itn c12 hf
  by_cases c13 : x8 = (4 : Int32)
  · have hf := fd_itp c13 hf
    refine lv_tableIn (off := 63) (tgt := 88) hx hb dX2_gateRow_25 (by rw [c13]; decide) (by rw [c13]; decide) (by rw [c13]; decide) (by decide) ?_
    refine lv_lload_n hx hb dX2_gateRow_88 rfl (lv_at hl 1 rfl) ?_
    refine lv_lload hx hb dX2_gateRow_89 (lv_at hl 0 rfl) ?_
    refine lv_lor hx hb dX2_gateRow_91 ?_
    refine lv_ldc2 hx hb hown (hts (.constantLong RX2 54 (-1)) (List.mem_of_getElem? (i := 4) (by eq_refl))) dX2_gateRow_92 ?_
    refine lv_lxor hx hb dX2_gateRow_95 ?_
    exact W.lret (v := ((x3 ||| x6) ^^^ (-1 : Int64))) hx hb hr (fun t ht hW => ⟨⟨(x3 ||| x6) ^^^ (-1 : Int64), σ, rfl, Option.some.inj hf, by rw [ht]; exact hP, va_K.moved hW.alike hK⟩, hS.F ht⟩) hS.2.2 dX2_gateRow_96
  have hf := fd_itn c13 hf
  by_cases c14 : x8 = (5 : Int32)
  · have hf := fd_itp c14 hf
    refine lv_tableIn (off := 72) (tgt := 97) hx hb dX2_gateRow_25 (by rw [c14]; decide) (by rw [c14]; decide) (by rw [c14]; decide) (by decide) ?_
    refine lv_lload_n hx hb dX2_gateRow_97 rfl (lv_at hl 1 rfl) ?_
    refine lv_ldc2 hx hb hown (hts (.constantLong RX2 54 (-1)) (List.mem_of_getElem? (i := 4) (by eq_refl))) dX2_gateRow_98 ?_
    refine lv_lxor hx hb dX2_gateRow_101 ?_
    exact W.lret (v := (x3 ^^^ (-1 : Int64))) hx hb hr (fun t ht hW => ⟨⟨x3 ^^^ (-1 : Int64), σ, rfl, Option.some.inj hf, by rw [ht]; exact hP, va_K.moved hW.alike hK⟩, hS.F ht⟩) hS.2.2 dX2_gateRow_102
  have hf := fd_itn c14 hf
  have nc9 := lv_neT c9 (a := 0) (by decide)
  have nc10 := lv_neT c10 (a := 1) (by decide)
  have nc11 := lv_neT c11 (a := 2) (by decide)
  have nc12 := lv_neT c12 (a := 3) (by decide)
  have nc13 := lv_neT c13 (a := 4) (by decide)
  have nc14 := lv_neT c14 (a := 5) (by decide)
  refine lv_tableOut (tgt := 103) hx hb dX2_gateRow_25 (by omega) (by decide) ?_
  refine lv_lload_n hx hb dX2_gateRow_103 rfl (lv_at hl 1 rfl) ?_
  exact W.lret (v := x3) hx hb hr (fun t ht hW => ⟨⟨x3, σ, rfl, Option.some.inj hf, by rw [ht]; exact hP, va_K.moved hW.alike hK⟩, hS.F ht⟩) hS.2.2 dX2_gateRow_104
noncomputable def f_X2_addGate_1 (N : Nat) (p1 : Int32) (p2 : Int32) (p3 : Int32) (σ : fd_St) : Option (Int32 × fd_St) := fd_gd (vp_in (σ.1 1) 200) (fd_lt (fd_sA 12 (σ.1 1) p1 σ) (fun σ2 => fd_gd (vp_in (σ2.1 1) 200) (fd_lt (fd_sA 13 (σ2.1 1) p2 σ2) (fun σ4 => fd_gd (vp_in (σ4.1 1) 200) (fd_lt (fd_sA 14 (σ4.1 1) p3 σ4) (fun σ6 => fd_bd (f_X2_gateRow_1_15 N (σ6.1 1) σ6) (fun v8 σ9 => fd_gd (vp_in (σ6.1 1) 200) (fd_lt (fd_sL 15 (σ6.1 1) v8 σ9) (fun σ13 => fd_lt (fd_sI 1 ((σ13.1 1) + (1 : Int32)) σ13) (fun σ14 => some ((σ14.1 1) - (1 : Int32), σ14)))))))))))
set_option maxHeartbeats 4000000 in
set_option maxRecDepth 100000 in
theorem m_X2_addGate_1 (l : Launch) (D : va_G) (a : Nat → Nat) (k : Nat → ClassId) (sz : Nat) (hI : fd_I 39 a) (N : Nat) (p1 : Int32) (p2 : Int32) (p3 : Int32) (σ : fd_St) (r : Int32 × fd_St) (hf : f_X2_addGate_1 N p1 p2 p3 σ = some r) : Met l yX2_addGate wsX2_addGate ({ frames := 1, cells := 0, slots := 0, locals := 26 }) (va_Pc [.ref (a 1), .int p1, .int p2, .int p3] (fd_PC D a k sz σ)) (va_Qi (fun v u => (v, u) = r) (fd_BC D a k) (fd_A 39 a sz)) 0 0 (fd_A 39 a sz) := by
  refine Met.ofW (cc := cX2_addGate) (maxL := 4) (ret := (some .int)) (by decide) rfl ?_
  intro p e s m args below meth c s₁ B hml hv
  obtain ⟨rfl, hsz, hP, hK⟩ := hv
  have hx := B.exec
  have hb := B.bytes
  have hr := B.returns
  have hts := atoms_spec (ws := wsX2_addGate) B.pre
  have hown : s.vm.findClass RX2 = some m.cls := findClass_of_methodNamed B.named
  have hlocks := B.notSynchronized
  subst hsz
  have hJ : ∀ i, i < 39 → fd_A 39 a s.heap.size (a i) := fun i hi => Or.inl ⟨i, hi, rfl⟩
  have hS : va_S (fd_A 39 a s.heap.size) s.heap s.heap [] := va_S.rf
  have hl := lv_entry ([.ref (a 1), .int p1, .int p2, .int p3]) (n := 4) (Nat.le_of_ble_eq_true rfl)
  rw [lg_entry_eq]
  generalize (lg_sl ([.ref (a 1), .int p1, .int p2, .int p3]) ++ List.replicate (4 - (lg_sl ([.ref (a 1), .int p1, .int p2, .int p3])).length) Slot.unset).toArray = ls at hl ⊢
  have hl : lv_has ls 4 [(0, .ref (a 1)), (1, .int p1), (2, .int p2), (3, .int p3)] := hl
  have h9X2 : ∀ w ∈ u_ws RX2 TX2 9, w ∈ wsX2_addGate := fd_su [12, 13, 14, 15, 16, 17, 18, 19, 20] (by eq_refl)
  unfold f_X2_addGate_1 at hf
  refine lv_aload_n hx hb dX2_addGate_0 rfl (lv_at hl 0 rfl) ?_
  refine va_get (ci := 2) (v := .ref (a 12)) (C := RX2) (T := TX2) (N := 9) hx hb hts h9X2 hown hK hP 1 fd_WC_1 rfl 0 (by decide) (hts (.fieldLink RX2 9 "FailDiagnose$Circuit" "kinds" "[I") (List.mem_of_getElem? (i := 1) (by eq_refl))) (fun _ h9 => h9) rfl dX2_addGate_1 ?_
  refine lv_aload_n hx hb dX2_addGate_4 rfl (lv_at hl 0 rfl) ?_
  refine va_get (ci := 2) (v := .int (σ.1 1)) (C := RX2) (T := TX2) (N := 9) hx hb hts h9X2 hown hK hP 1 fd_WC_1 rfl 6 (by decide) (hts (.fieldLink RX2 32 "FailDiagnose$Circuit" "nets" "I") (List.mem_of_getElem? (i := 2) (by eq_refl))) (fun _ h9 => h9) rfl dX2_addGate_5 ?_
  refine lv_iload_n hx hb dX2_addGate_8 rfl (lv_at hl 1 rfl) ?_
  obtain ⟨g1, hf⟩ := fd_gds hf
  obtain ⟨σ2, eσ2, hf⟩ := fd_lts hf
  refine va_iast hx hb hK hP (fd_DC hI hJ) hS 12 0 fd_WC_12 fd_tyC_12 g1 dX2_addGate_9 (fun H locs hP _ hS => ?_)
  have hP : va_P D vwCl (fd_WC a k σ2) H := by rw [eσ2]; exact fd_sP fd_WCa_12 hP
  refine lv_aload_n hx hb dX2_addGate_10 rfl (lv_at hl 0 rfl) ?_
  refine va_get (ci := 2) (v := .ref (a 13)) (C := RX2) (T := TX2) (N := 9) hx hb hts h9X2 hown hK hP 1 fd_WC_1 rfl 1 (by decide) (hts (.fieldLink RX2 15 "FailDiagnose$Circuit" "firsts" "[I") (List.mem_of_getElem? (i := 3) (by eq_refl))) (fun _ h9 => h9) rfl dX2_addGate_11 ?_
  refine lv_aload_n hx hb dX2_addGate_14 rfl (lv_at hl 0 rfl) ?_
  refine va_get (ci := 2) (v := .int (σ2.1 1)) (C := RX2) (T := TX2) (N := 9) hx hb hts h9X2 hown hK hP 1 fd_WC_1 rfl 6 (by decide) (hts (.fieldLink RX2 32 "FailDiagnose$Circuit" "nets" "I") (List.mem_of_getElem? (i := 2) (by eq_refl))) (fun _ h9 => h9) rfl dX2_addGate_15 ?_
  refine lv_iload_n hx hb dX2_addGate_18 rfl (lv_at hl 2 rfl) ?_
  obtain ⟨g3, hf⟩ := fd_gds hf
  obtain ⟨σ4, eσ4, hf⟩ := fd_lts hf
  refine va_iast hx hb hK hP (fd_DC hI hJ) hS 13 1 fd_WC_13 fd_tyC_13 g3 dX2_addGate_19 (fun H locs hP _ hS => ?_)
  have hP : va_P D vwCl (fd_WC a k σ4) H := by rw [eσ4]; exact fd_sP fd_WCa_13 hP
  refine lv_aload_n hx hb dX2_addGate_20 rfl (lv_at hl 0 rfl) ?_
  refine va_get (ci := 2) (v := .ref (a 14)) (C := RX2) (T := TX2) (N := 9) hx hb hts h9X2 hown hK hP 1 fd_WC_1 rfl 2 (by decide) (hts (.fieldLink RX2 18 "FailDiagnose$Circuit" "seconds" "[I") (List.mem_of_getElem? (i := 4) (by eq_refl))) (fun _ h9 => h9) rfl dX2_addGate_21 ?_
  refine lv_aload_n hx hb dX2_addGate_24 rfl (lv_at hl 0 rfl) ?_
  refine va_get (ci := 2) (v := .int (σ4.1 1)) (C := RX2) (T := TX2) (N := 9) hx hb hts h9X2 hown hK hP 1 fd_WC_1 rfl 6 (by decide) (hts (.fieldLink RX2 32 "FailDiagnose$Circuit" "nets" "I") (List.mem_of_getElem? (i := 2) (by eq_refl))) (fun _ h9 => h9) rfl dX2_addGate_25 ?_
  refine lv_iload_n hx hb dX2_addGate_28 rfl (lv_at hl 3 rfl) ?_
  obtain ⟨g5, hf⟩ := fd_gds hf
  obtain ⟨σ6, eσ6, hf⟩ := fd_lts hf
  refine va_iast hx hb hK hP (fd_DC hI hJ) hS 14 2 fd_WC_14 fd_tyC_14 g5 dX2_addGate_29 (fun H locs hP _ hS => ?_)
  have hP : va_P D vwCl (fd_WC a k σ6) H := by rw [eσ6]; exact fd_sP fd_WCa_14 hP
  refine lv_aload_n hx hb dX2_addGate_30 rfl (lv_at hl 0 rfl) ?_
  refine va_get (ci := 2) (v := .ref (a 15)) (C := RX2) (T := TX2) (N := 9) hx hb hts h9X2 hown hK hP 1 fd_WC_1 rfl 3 (by decide) (hts (.fieldLink RX2 21 "FailDiagnose$Circuit" "goodRows" "[J") (List.mem_of_getElem? (i := 5) (by eq_refl))) (fun _ h9 => h9) rfl dX2_addGate_31 ?_
  refine lv_aload_n hx hb dX2_addGate_34 rfl (lv_at hl 0 rfl) ?_
  refine va_get (ci := 2) (v := .int (σ6.1 1)) (C := RX2) (T := TX2) (N := 9) hx hb hts h9X2 hown hK hP 1 fd_WC_1 rfl 6 (by decide) (hts (.fieldLink RX2 32 "FailDiagnose$Circuit" "nets" "I") (List.mem_of_getElem? (i := 2) (by eq_refl))) (fun _ h9 => h9) rfl dX2_addGate_35 ?_
  refine lv_aload_n hx hb dX2_addGate_38 rfl (lv_at hl 0 rfl) ?_
  refine lv_aload_n hx hb dX2_addGate_39 rfl (lv_at hl 0 rfl) ?_
  refine va_get (ci := 2) (v := .int (σ6.1 1)) (C := RX2) (T := TX2) (N := 9) hx hb hts h9X2 hown hK hP 1 fd_WC_1 rfl 6 (by decide) (hts (.fieldLink RX2 32 "FailDiagnose$Circuit" "nets" "I") (List.mem_of_getElem? (i := 2) (by eq_refl))) (fun _ h9 => h9) rfl dX2_addGate_40 ?_
  refine lv_aload_n hx hb dX2_addGate_43 rfl (lv_at hl 0 rfl) ?_
  refine va_get (ci := 2) (v := .ref (a 15)) (C := RX2) (T := TX2) (N := 9) hx hb hts h9X2 hown hK hP 1 fd_WC_1 rfl 3 (by decide) (hts (.fieldLink RX2 21 "FailDiagnose$Circuit" "goodRows" "[J") (List.mem_of_getElem? (i := 5) (by eq_refl))) (fun _ h9 => h9) rfl dX2_addGate_44 ?_
  obtain ⟨w10, τ11, hc7, hf⟩ := fd_bds hf
  refine va_calll (va_runV (As := [.int (σ6.1 1), .ref (a 15)]) (rest := [.int (σ6.1 1), .ref (a 15)]) ⟨hx, hb, hml, hown, hts⟩ (m_X2_gateRow_1_15 l D a k H.size hI N (σ6.1 1) σ6 _ hc7) (cwV 2 hts gX2_addGate_X2_gateRow rfl rfl rfl (by decide +kernel) ⟨Nat.le_of_ble_eq_true rfl, Nat.le_of_ble_eq_true rfl⟩) ⟨fd_blC, va_recv hK hP (ci := 2) (q0 := 1) rfl fd_WC_1, fd_prC hP hK⟩ rfl rfl hl.1 rfl (lv_room (Nat.le_of_ble_eq_true rfl)) dX2_addGate_47 ⟨Nat.zero_le _, Nat.zero_le _⟩) hS (fun q _ h => fd_A_mono hS.1 h) (fun q h => fd_A_mono hS.1 h) (fun v8 u t H1 locs ht hvm hw hB hz hk hS => ?_)
  obtain ⟨hP1, hK1⟩ := hB
  rw [ht] at hP1
  obtain ⟨e1, e2⟩ := Prod.mk.inj hw
  subst e1
  subst e2
  obtain ⟨σ9, rfl⟩ : ∃ z, z = u := ⟨_, rfl⟩
  have hP := hP1
  generalize H1 = H at hP hS ⊢
  obtain ⟨g12, hf⟩ := fd_gds hf
  obtain ⟨σ13, eσ13, hf⟩ := fd_lts hf
  refine va_last hx hb hK hP (fd_DC hI hJ) hS 15 3 fd_WC_15 fd_tyC_15 g12 dX2_addGate_50 (fun H locs hP _ hS => ?_)
  have hP : va_P D vwCl (fd_WC a k σ13) H := by rw [eσ13]; exact fd_sP fd_WCa_15 hP
  refine lv_aload_n hx hb dX2_addGate_51 rfl (lv_at hl 0 rfl) ?_
  refine lv_dup hx hb dX2_addGate_52 rfl ?_
  refine va_get (ci := 2) (v := .int (σ13.1 1)) (C := RX2) (T := TX2) (N := 9) hx hb hts h9X2 hown hK hP 1 fd_WC_1 rfl 6 (by decide) (hts (.fieldLink RX2 32 "FailDiagnose$Circuit" "nets" "I") (List.mem_of_getElem? (i := 2) (by eq_refl))) (fun _ h9 => h9) rfl dX2_addGate_53 ?_
  refine lv_iconst (v := (1 : Int32)) hx hb dX2_addGate_56 (by decide) ?_
  refine lv_iadd hx hb dX2_addGate_57 ?_
  obtain ⟨σ14, eσ14, hf⟩ := fd_lts hf
  refine va_put (ci := 2) (v := .int ((σ13.1 1) + (1 : Int32))) (ty := .int) (C := RX2) (T := TX2) (N := 9) hx hb hts h9X2 tyX2 tyX2_ok nmX2 hown hK hP (fd_DC hI hJ) hS 1 fd_WC_1 rfl 6 (by decide) (hts (.fieldLink RX2 32 "FailDiagnose$Circuit" "nets" "I") (List.mem_of_getElem? (i := 2) (by eq_refl))) (fun _ h9 => h9) rfl (by decide +kernel) rfl rfl (Nat.le_of_ble_eq_true rfl) dX2_addGate_58 (fun H locs hP _ hS => ?_)
  have hP : va_P D vwCl (fd_WC a k σ14) H := by rw [eσ14]; exact fd_sP fd_WCi_1 hP
  refine lv_aload_n hx hb dX2_addGate_61 rfl (lv_at hl 0 rfl) ?_
  refine va_get (ci := 2) (v := .int (σ14.1 1)) (C := RX2) (T := TX2) (N := 9) hx hb hts h9X2 hown hK hP 1 fd_WC_1 rfl 6 (by decide) (hts (.fieldLink RX2 32 "FailDiagnose$Circuit" "nets" "I") (List.mem_of_getElem? (i := 2) (by eq_refl))) (fun _ h9 => h9) rfl dX2_addGate_62 ?_
  refine lv_iconst (v := (1 : Int32)) hx hb dX2_addGate_65 (by decide) ?_
  refine lv_isub hx hb dX2_addGate_66 ?_
  exact W.iret (v := ((σ14.1 1) - (1 : Int32))) hx hb hr (fun t ht hW => ⟨⟨(σ14.1 1) - (1 : Int32), σ14, rfl, Option.some.inj hf, by rw [ht]; exact hP, va_K.moved hW.alike hK⟩, hS.F ht⟩) hS.2.2 dX2_addGate_67
noncomputable def f_X10_gate_0_J66 (N : Nat) (σ : fd_St) : Option ((Int32 ⊕ String) × fd_St) := some (.inr "java/lang/IllegalArgumentException", σ)
noncomputable def f_X10_gate_0_J97 (N : Nat) (z1 : Int32) (z2 : Int32) (z3 : Int32) (σ : fd_St) : Option ((Int32 ⊕ String) × fd_St) := fd_bd (f_X2_addGate_1 N z1 z2 z3 σ) (fun v21 σ22 => some (.inl v21, σ22))
noncomputable def f_X10_gate_0_J33 (N : Nat) (y1 : Int32) (y2 : Int32) (y3 : Int32) (y4 : Int32) (σ : fd_St) : Option ((Int32 ⊕ String) × fd_St) := fd_bd (f_X2_nets_1 N σ) (fun v10 σ11 => if v10 = (200 : Int32) then (some (.inr "java/lang/IllegalStateException", σ11)) else (if y1 < 0 then (f_X10_gate_0_J66 N σ11) else (if y1 ≤ (6 : Int32) then (fd_lt (fd_sI 0 (0 : Int32) σ11) (fun σ18 => if y4 = 0 then (f_X10_gate_0_J97 N y1 y2 y2 σ18) else (f_X10_gate_0_J97 N y1 y2 y3 σ18))) else (f_X10_gate_0_J66 N σ11))))
noncomputable def f_X10_gate_0_J16 (N : Nat) (y1 : Int32) (y2 : Int32) (y3 : Int32) (z0 : Int32) (σ : fd_St) : Option ((Int32 ⊕ String) × fd_St) := fd_bx (f_X10_needNet_0 N y2 σ) (fun _ σ4 => if z0 = 0 then (f_X10_gate_0_J33 N y1 y2 y3 z0 σ4) else (fd_bx (f_X10_needNet_0 N y3 σ4) (fun _ σ28 => f_X10_gate_0_J33 N y1 y2 y3 z0 σ28) (fun E τ => some (.inr E, τ)))) (fun E τ => some (.inr E, τ))
noncomputable def f_X10_gate_0_J15 (N : Nat) (y1 : Int32) (y2 : Int32) (y3 : Int32) (σ : fd_St) : Option ((Int32 ⊕ String) × fd_St) := f_X10_gate_0_J16 N y1 y2 y3 (0 : Int32) σ
noncomputable def f_X10_gate_0 (N : Nat) (p1 : Int32) (p2 : Int32) (p3 : Int32) (σ : fd_St) : Option ((Int32 ⊕ String) × fd_St) := if p1 = (5 : Int32) then (f_X10_gate_0_J15 N p1 p2 p3 σ) else (if p1 = (6 : Int32) then (f_X10_gate_0_J15 N p1 p2 p3 σ) else (f_X10_gate_0_J16 N p1 p2 p3 (1 : Int32) σ))
set_option maxHeartbeats 4000000 in
set_option maxRecDepth 100000 in
theorem m_X10_gate_0 (l : Launch) (hl9 : l.stackTraces = false) (D : va_G) (a : Nat → Nat) (k : Nat → ClassId) (sz : Nat) (hI : fd_I 39 a) (N : Nat) (p1 : Int32) (p2 : Int32) (p3 : Int32) (σ : fd_St) (r : (Int32 ⊕ String) × fd_St) (hf : f_X10_gate_0 N p1 p2 p3 σ = some r) : vx_Met l yX10_gate wsX10_gate ({ frames := 7, cells := fd_mc r, slots := fd_ms r, locals := 111 }) (va_Pc [.ref (a 0), .int p1, .int p2, .int p3] (fd_PZ D a k sz σ)) (va_Qi (fun v u => (Sum.inl v, u) = r) (fd_BC D a k) (fd_A 39 a sz)) (fd_X D a k (fd_A 39 a sz) r) (fd_mc r) (fd_ms r) (fd_A 39 a sz) := by
  refine vx_ofW (cc := cX10_gate) (maxL := 5) (ret := (some .int)) (by decide) rfl ?_
  intro p e s m args below meth c s₁ B hml hex hv
  obtain ⟨rfl, ⟨hsz, hP, hK⟩, hZ⟩ := hv
  have hx := B.exec
  have hb := B.bytes
  have hr := B.returns
  have hts := atoms_spec (ws := wsX10_gate) B.pre
  have hown : s.vm.findClass RX10 = some m.cls := findClass_of_methodNamed B.named
  have hlocks := B.notSynchronized
  subst hsz
  have hJ : ∀ i, i < 39 → fd_A 39 a s.heap.size (a i) := fun i hi => Or.inl ⟨i, hi, rfl⟩
  have hS : va_S (fd_A 39 a s.heap.size) s.heap s.heap [] := va_S.rf
  have hl := lv_entry ([.ref (a 0), .int p1, .int p2, .int p3]) (n := 5) (Nat.le_of_ble_eq_true rfl)
  rw [lg_entry_eq]
  generalize (lg_sl ([.ref (a 0), .int p1, .int p2, .int p3]) ++ List.replicate (5 - (lg_sl ([.ref (a 0), .int p1, .int p2, .int p3])).length) Slot.unset).toArray = ls at hl ⊢
  have hl : lv_has ls 5 [(0, .ref (a 0)), (1, .int p1), (2, .int p2), (3, .int p3)] := hl
  have h9X10 : ∀ w ∈ u_ws RX10 TX10 8, w ∈ wsX10_gate := fd_su [37, 38, 39, 40, 41, 42, 43, 44] (by eq_refl)
  have hL66 : ∀ (σ : fd_St) (H : Heap) (locs : List Loc) (ls : Array Slot), va_P D vwCl (fd_WC a k σ) H → va_S (fd_A 39 a s.heap.size) s.heap H locs → lv_has ls 5 [] → f_X10_gate_0_J66 N σ = some r → W p l e ((headSpec wsX10_gate ({ frames := 7, cells := fd_mc r, slots := fd_ms r, locals := 111 })).room) s m ([.ref (a 0), .int p1, .int p2, .int p3].toArray) below meth c H locs 0 0 (vx_MQ below (va_Qi (fun v u => (Sum.inl v, u) = r) (fd_BC D a k) (fd_A 39 a s.heap.size)) (fd_X D a k (fd_A 39 a s.heap.size) r) ([.ref (a 0), .int p1, .int p2, .int p3].toArray) s (fd_mc r) (fd_ms r) (fd_A 39 a s.heap.size)) (F0 m 66 ls []) := by
    intro σ H locs ls hP hS hl hf
    unfold f_X10_gate_0_J66 at hf
    have e16 := Option.some.inj hf
    subst e16
    obtain ⟨sa, hsa⟩ := hZ.str 89 "no such kind of gate" (by decide +kernel)
    exact vx_throwS (own := RX10) (cls := "java/lang/IllegalArgumentException") (names := ["java/lang/RuntimeException", "java/lang/Exception"]) hx hb hl9 hown fd_ex_87_91_f fd_ex_n (hts (.classLink RX10 87 "java/lang/IllegalArgumentException") (List.mem_of_getElem? (i := 3) (by eq_refl))) (hts (.initialized "java/lang/IllegalArgumentException") (List.mem_of_getElem? (i := 4) (by eq_refl))) hsa (vx_hat (L := vx_atS RX10 91 "java/lang/IllegalArgumentException" ["java/lang/RuntimeException", "java/lang/Exception"]) (B := fd_bad "java/lang/IllegalArgumentException") (fun w hw => hts w ((fun w h => List.mem_cons_of_mem _ (List.mem_append_left _ (List.mem_append_right _ h)) : ∀ w ∈ (vx_atS RX10 91 "java/lang/IllegalArgumentException" ["java/lang/RuntimeException", "java/lang/Exception"]).filter goodWord, w ∈ wsX10_gate) w hw)) fd_ex_87_91_b (hZ.bad "java/lang/IllegalArgumentException" fd_ex_87_91_e)) fd_ex_87_91_g hZ.un hZ.su hS (hl.1.trans hml.symm) dX10_gate_66 dX10_gate_69 dX10_gate_70 dX10_gate_72 dX10_gate_75 (fun x hx => (hex x hx).elim) (Nat.le_of_ble_eq_true rfl) (Nat.le_of_ble_eq_true rfl) (Nat.le_of_ble_eq_true rfl) (Nat.le_of_ble_eq_true rfl) hlocks (fun t ha hsz hk => ⟨σ, trivial, ⟨rfl, hP.kept (fun k q hq => hk q.1 (hP k q hq).lt), va_K.moved ha hK⟩, Nat.le_trans hS.1 hsz, fun q h1 h2 => (hk q (Nat.lt_of_lt_of_le h1 hS.1)).trans (hS.2.1 q h1 h2)⟩) hS.2.2 (Nat.le_of_ble_eq_true rfl) (Nat.le_of_ble_eq_true rfl)
  have hL97 : ∀ (z1 : Int32) (z2 : Int32) (z3 : Int32) (σ : fd_St) (H : Heap) (locs : List Loc) (ls : Array Slot), va_P D vwCl (fd_WC a k σ) H → va_S (fd_A 39 a s.heap.size) s.heap H locs → lv_has ls 5 [] → f_X10_gate_0_J97 N z1 z2 z3 σ = some r → W p l e ((headSpec wsX10_gate ({ frames := 7, cells := fd_mc r, slots := fd_ms r, locals := 111 })).room) s m ([.ref (a 0), .int p1, .int p2, .int p3].toArray) below meth c H locs 0 0 (vx_MQ below (va_Qi (fun v u => (Sum.inl v, u) = r) (fd_BC D a k) (fd_A 39 a s.heap.size)) (fd_X D a k (fd_A 39 a s.heap.size) r) ([.ref (a 0), .int p1, .int p2, .int p3].toArray) s (fd_mc r) (fd_ms r) (fd_A 39 a s.heap.size)) (F0 m 97 ls [.int z3, .int z2, .int z1, .ref (a 1)]) := by
    intro z1 z2 z3 σ H locs ls hP hS hl hf
    unfold f_X10_gate_0_J97 at hf
    obtain ⟨w23, τ24, hc20, hf⟩ := fd_bds hf
    refine va_calli (va_runV (As := [.int z1, .int z2, .int z3]) (rest := []) ⟨hx, hb, hml, hown, hts⟩ (m_X2_addGate_1 l D a k H.size hI N z1 z2 z3 σ _ hc20) (cwV 3 hts gX10_gate_X2_addGate rfl rfl rfl (by decide +kernel) ⟨Nat.le_of_ble_eq_true rfl, Nat.le_of_ble_eq_true rfl⟩) ⟨fd_blC, va_recv hK hP (ci := 2) (q0 := 1) rfl fd_WC_1, fd_prC hP hK⟩ rfl rfl hl.1 rfl (lv_room (Nat.le_of_ble_eq_true rfl)) dX10_gate_97 ⟨Nat.zero_le _, Nat.zero_le _⟩) hS (fun q _ h => fd_A_mono hS.1 h) (fun q h => fd_A_mono hS.1 h) (fun v21 u t H1 locs ht hvm hw hB hz hk hS => ?_)
    obtain ⟨hP1, hK1⟩ := hB
    rw [ht] at hP1
    obtain ⟨e1, e2⟩ := Prod.mk.inj hw
    subst e1
    subst e2
    obtain ⟨σ22, rfl⟩ : ∃ z, z = u := ⟨_, rfl⟩
    have hP := hP1
    generalize H1 = H at hP hS ⊢
    refine vx_ret (W.widen (k := fd_mc r) (n := fd_ms r) (Nat.zero_le _) (Nat.zero_le _) ?_)
    exact W.iret (v := v21) hx hb hr (fun t ht hW => ⟨⟨v21, σ22, rfl, Option.some.inj hf, by rw [ht]; exact hP, va_K.moved hW.alike hK⟩, hS.F ht⟩) hS.2.2 dX10_gate_100
  have hL33 : ∀ (y1 : Int32) (y2 : Int32) (y3 : Int32) (y4 : Int32) (σ : fd_St) (H : Heap) (locs : List Loc) (ls : Array Slot), va_P D vwCl (fd_WC a k σ) H → va_S (fd_A 39 a s.heap.size) s.heap H locs → lv_has ls 5 [(0, .ref (a 0)), (1, .int y1), (2, .int y2), (3, .int y3), (4, .int y4)] → f_X10_gate_0_J33 N y1 y2 y3 y4 σ = some r → W p l e ((headSpec wsX10_gate ({ frames := 7, cells := fd_mc r, slots := fd_ms r, locals := 111 })).room) s m ([.ref (a 0), .int p1, .int p2, .int p3].toArray) below meth c H locs 0 0 (vx_MQ below (va_Qi (fun v u => (Sum.inl v, u) = r) (fd_BC D a k) (fd_A 39 a s.heap.size)) (fd_X D a k (fd_A 39 a s.heap.size) r) ([.ref (a 0), .int p1, .int p2, .int p3].toArray) s (fd_mc r) (fd_ms r) (fd_A 39 a s.heap.size)) (F0 m 33 ls []) := by
    intro y1 y2 y3 y4 σ H locs ls hP hS hl hf
    unfold f_X10_gate_0_J33 at hf
    refine lv_aload_n hx hb dX10_gate_33 rfl (lv_at hl 0 rfl) ?_
    refine va_get (ci := 10) (v := .ref (a 1)) (C := RX10) (T := TX10) (N := 8) hx hb hts h9X10 hown hK hP 0 fd_WC_0 rfl 0 (by decide) (hts (.fieldLink RX10 12 "FailDiagnose" "circuit" "LFailDiagnose$Circuit;") (List.mem_of_getElem? (i := 5) (by eq_refl))) (fun _ h9 => h9) rfl dX10_gate_34 ?_
    obtain ⟨w12, τ13, hc9, hf⟩ := fd_bds hf
    refine va_calli (va_runV (As := []) (rest := []) ⟨hx, hb, hml, hown, hts⟩ (m_X2_nets_1 l D a k H.size hI N σ _ hc9) (cwV 0 hts gX10_gate_X2_nets rfl rfl rfl (by decide +kernel) ⟨Nat.le_of_ble_eq_true rfl, Nat.le_of_ble_eq_true rfl⟩) ⟨fd_blC, va_recv hK hP (ci := 2) (q0 := 1) rfl fd_WC_1, fd_prC hP hK⟩ rfl rfl hl.1 rfl (lv_room (Nat.le_of_ble_eq_true rfl)) dX10_gate_37 ⟨Nat.zero_le _, Nat.zero_le _⟩) hS (fun q _ h => fd_A_mono hS.1 h) (fun q h => fd_A_mono hS.1 h) (fun v10 u t H1 locs ht hvm hw hB hz hk hS => ?_)
    obtain ⟨hP1, hK1⟩ := hB
    rw [ht] at hP1
    obtain ⟨e1, e2⟩ := Prod.mk.inj hw
    subst e1
    subst e2
    obtain ⟨σ11, rfl⟩ : ∃ z, z = u := ⟨_, rfl⟩
    have hP := hP1
    generalize H1 = H at hP hS ⊢
    refine lv_sipush (v := (200 : Int32)) hx hb dX10_gate_40 (by decide) ?_
    refine lv_icmp_ne (tgt := 56) hx hb dX10_gate_43 (by decide) (fun c14 => ?_) (fun c14 => ?_)
    · have hf := fd_itn c14 hf
      refine lv_iload_n hx hb dX10_gate_56 rfl (lv_at hl 1 rfl) ?_
      refine lv_if_lt (tgt := 66) hx hb dX10_gate_57 (by decide) (fun c15 => ?_) (fun c15 => ?_)
      · have hf := fd_itp c15 hf
        exact hL66 σ11 _ _ _ hP hS (lv_sub hl [] rfl) hf
      · have hf := fd_itn c15 hf
        refine lv_iload_n hx hb dX10_gate_60 rfl (lv_at hl 1 rfl) ?_
        refine lv_bipush (v := (6 : Int32)) hx hb dX10_gate_61 (by decide) ?_
        refine lv_icmp_le (tgt := 76) hx hb dX10_gate_63 (by decide) (fun c17 => ?_) (fun c17 => ?_)
        · have hf := fd_itp c17 hf
          refine lv_aload_n hx hb dX10_gate_76 rfl (lv_at hl 0 rfl) ?_
          refine lv_iconst (v := (0 : Int32)) hx hb dX10_gate_77 (by decide) ?_
          obtain ⟨σ18, eσ18, hf⟩ := fd_lts hf
          refine va_put (ci := 10) (v := .int (0 : Int32)) (ty := .boolean) (C := RX10) (T := TX10) (N := 8) hx hb hts h9X10 tyX10 tyX10_ok nmX10 hown hK hP (fd_DC hI hJ) hS 0 fd_WC_0 rfl 7 (by decide) (hts (.fieldLink RX10 60 "FailDiagnose" "told" "Z") (List.mem_of_getElem? (i := 6) (by eq_refl))) (fun _ h9 => h9) rfl (by decide +kernel) rfl rfl (Nat.le_of_ble_eq_true rfl) dX10_gate_78 (fun H locs hP _ hS => ?_)
          have hP : va_P D vwCl (fd_WC a k σ18) H := by rw [eσ18]; exact fd_sP fd_WCi_0 hP
          refine lv_aload_n hx hb dX10_gate_81 rfl (lv_at hl 0 rfl) ?_
          refine va_get (ci := 10) (v := .ref (a 1)) (C := RX10) (T := TX10) (N := 8) hx hb hts h9X10 hown hK hP 0 fd_WC_0 rfl 0 (by decide) (hts (.fieldLink RX10 12 "FailDiagnose" "circuit" "LFailDiagnose$Circuit;") (List.mem_of_getElem? (i := 5) (by eq_refl))) (fun _ h9 => h9) rfl dX10_gate_82 ?_
          refine lv_iload_n hx hb dX10_gate_85 rfl (lv_at hl 1 rfl) ?_
          refine lv_iload_n hx hb dX10_gate_86 rfl (lv_at hl 2 rfl) ?_
          refine lv_iload hx hb dX10_gate_87 (lv_at hl 4 rfl) ?_
          refine lv_if_eq (tgt := 96) hx hb dX10_gate_89 (by decide) (fun c19 => ?_) (fun c19 => ?_)
          · have hf := fd_itp c19 hf
            refine lv_iload_n hx hb dX10_gate_96 rfl (lv_at hl 2 rfl) ?_
            exact hL97 y1 y2 y2 σ18 _ _ _ hP hS (lv_sub hl [] rfl) hf
          · have hf := fd_itn c19 hf
            refine lv_iload_n hx hb dX10_gate_92 rfl (lv_at hl 3 rfl) ?_
            refine lv_goto (tgt := 97) hx hb dX10_gate_93 (by decide) ?_
            exact hL97 y1 y2 y3 σ18 _ _ _ hP hS (lv_sub hl [] rfl) hf
        · have hf := fd_itn c17 hf
          exact hL66 σ11 _ _ _ hP hS (lv_sub hl [] rfl) hf
    · have hf := fd_itp c14 hf
      have e25 := Option.some.inj hf
      subst e25
      obtain ⟨sa, hsa⟩ := hZ.str 85 "no room for a net" (by decide +kernel)
      exact vx_throwS (own := RX10) (cls := "java/lang/IllegalStateException") (names := ["java/lang/RuntimeException", "java/lang/Exception"]) hx hb hl9 hown fd_ex_71_75_f fd_ex_n (hts (.classLink RX10 71 "java/lang/IllegalStateException") (List.mem_of_getElem? (i := 1) (by eq_refl))) (hts (.initialized "java/lang/IllegalStateException") (List.mem_of_getElem? (i := 2) (by eq_refl))) hsa (vx_hat (L := vx_atS RX10 75 "java/lang/IllegalStateException" ["java/lang/RuntimeException", "java/lang/Exception"]) (B := fd_bad "java/lang/IllegalStateException") (fun w hw => hts w ((fun w h => List.mem_cons_of_mem _ (List.mem_append_left _ (List.mem_append_left _ (List.mem_append_right _ h))) : ∀ w ∈ (vx_atS RX10 75 "java/lang/IllegalStateException" ["java/lang/RuntimeException", "java/lang/Exception"]).filter goodWord, w ∈ wsX10_gate) w hw)) fd_ex_71_75_b (hZ.bad "java/lang/IllegalStateException" fd_ex_71_75_e)) fd_ex_71_75_g hZ.un hZ.su hS (hl.1.trans hml.symm) dX10_gate_46 dX10_gate_49 dX10_gate_50 dX10_gate_52 dX10_gate_55 (fun x hx => (hex x hx).elim) (Nat.le_of_ble_eq_true rfl) (Nat.le_of_ble_eq_true rfl) (Nat.le_of_ble_eq_true rfl) (Nat.le_of_ble_eq_true rfl) hlocks (fun t ha hsz hk => ⟨σ11, trivial, ⟨rfl, hP.kept (fun k q hq => hk q.1 (hP k q hq).lt), va_K.moved ha hK⟩, Nat.le_trans hS.1 hsz, fun q h1 h2 => (hk q (Nat.lt_of_lt_of_le h1 hS.1)).trans (hS.2.1 q h1 h2)⟩) hS.2.2 (Nat.le_of_ble_eq_true rfl) (Nat.le_of_ble_eq_true rfl)
  have hL16 : ∀ (y1 : Int32) (y2 : Int32) (y3 : Int32) (z0 : Int32) (σ : fd_St) (H : Heap) (locs : List Loc) (ls : Array Slot), va_P D vwCl (fd_WC a k σ) H → va_S (fd_A 39 a s.heap.size) s.heap H locs → lv_has ls 5 [(0, .ref (a 0)), (1, .int y1), (2, .int y2), (3, .int y3)] → f_X10_gate_0_J16 N y1 y2 y3 z0 σ = some r → W p l e ((headSpec wsX10_gate ({ frames := 7, cells := fd_mc r, slots := fd_ms r, locals := 111 })).room) s m ([.ref (a 0), .int p1, .int p2, .int p3].toArray) below meth c H locs 0 0 (vx_MQ below (va_Qi (fun v u => (Sum.inl v, u) = r) (fd_BC D a k) (fd_A 39 a s.heap.size)) (fd_X D a k (fd_A 39 a s.heap.size) r) ([.ref (a 0), .int p1, .int p2, .int p3].toArray) s (fd_mc r) (fd_ms r) (fd_A 39 a s.heap.size)) (F0 m 16 ls [.int z0]) := by
    intro y1 y2 y3 z0 σ H locs ls hP hS hl hf
    unfold f_X10_gate_0_J16 at hf
    refine lv_istore (lv' := [(4, .int z0), (0, .ref (a 0)), (1, .int y1), (2, .int y2), (3, .int y3)]) hx hb dX10_gate_16 hl (by decide) rfl (fun ls hl => ?_)
    refine lv_aload_n hx hb dX10_gate_18 rfl (lv_at hl 1 rfl) ?_
    refine lv_iload_n hx hb dX10_gate_19 rfl (lv_at hl 3 rfl) ?_
    rcases fd_bxs hf with ⟨w5, τ6, hc2, hf⟩ | ⟨E7, τ6, hc2, hf⟩
    · refine vx_callv (vx_runV (As := [.int y2]) (rest := []) ⟨hx, hb, hml, hown, hts⟩ (m_X10_needNet_0 l hl9 D a k H.size hI N y2 σ _ hc2) (cwV 1 hts gX10_gate_X10_needNet rfl rfl rfl (by decide +kernel) ⟨Nat.le_of_ble_eq_true rfl, Nat.le_of_ble_eq_true rfl⟩) ⟨fd_blZ, va_recv hK hP (ci := 10) (q0 := 0) rfl fd_WC_0, fd_prZ hP hK hZ hS⟩ rfl rfl hl.1 rfl (lv_room (Nat.le_of_ble_eq_true rfl)) dX10_gate_20 ⟨Nat.zero_le _, Nat.zero_le _⟩) hS (fun q _ h => fd_A_mono hS.1 h) (fun q h => fd_A_mono hS.1 h) (fun q _ h => fd_A_mono hS.1 h) (fun E ce q9 u t H1 locs1 ht hvm hp hB => ?_) (fun u t H1 locs ht hvm hw hB hz hk hS => ?_)
      · exact absurd hB.1 (by simp)
      obtain ⟨hP1, hK1⟩ := hB
      rw [ht] at hP1
      have e2 := (Prod.mk.inj hw).2
      subst e2
      obtain ⟨σ4, rfl⟩ : ∃ z, z = u := ⟨_, rfl⟩
      have hP := hP1
      generalize H1 = H at hP hS ⊢
      refine W.cs (cells' := 0) (slots' := 0) rfl rfl ?_
      refine lv_iload hx hb dX10_gate_23 (lv_at hl 0 rfl) ?_
      refine lv_if_eq (tgt := 33) hx hb dX10_gate_25 (by decide) (fun c8 => ?_) (fun c8 => ?_)
      · have hf := fd_itp c8 hf
        exact hL33 y1 y2 y3 z0 σ4 _ _ _ hP hS (lv_sub hl [1, 2, 3, 4, 0] rfl) hf
      · have hf := fd_itn c8 hf
        refine lv_aload_n hx hb dX10_gate_28 rfl (lv_at hl 1 rfl) ?_
        refine lv_iload_n hx hb dX10_gate_29 rfl (lv_at hl 4 rfl) ?_
        rcases fd_bxs hf with ⟨w29, τ30, hc26, hf⟩ | ⟨E31, τ30, hc26, hf⟩
        · refine vx_callv (vx_runV (As := [.int y3]) (rest := []) ⟨hx, hb, hml, hown, hts⟩ (m_X10_needNet_0 l hl9 D a k H.size hI N y3 σ4 _ hc26) (cwV 1 hts gX10_gate_X10_needNet rfl rfl rfl (by decide +kernel) ⟨Nat.le_of_ble_eq_true rfl, Nat.le_of_ble_eq_true rfl⟩) ⟨fd_blZ, va_recv hK hP (ci := 10) (q0 := 0) rfl fd_WC_0, fd_prZ hP hK hZ hS⟩ rfl rfl hl.1 rfl (lv_room (Nat.le_of_ble_eq_true rfl)) dX10_gate_30 ⟨Nat.zero_le _, Nat.zero_le _⟩) hS (fun q _ h => fd_A_mono hS.1 h) (fun q h => fd_A_mono hS.1 h) (fun q _ h => fd_A_mono hS.1 h) (fun E ce q9 u t H1 locs1 ht hvm hp hB => ?_) (fun u t H1 locs ht hvm hw hB hz hk hS => ?_)
          · exact absurd hB.1 (by simp)
          obtain ⟨hP1, hK1⟩ := hB
          rw [ht] at hP1
          have e2 := (Prod.mk.inj hw).2
          subst e2
          obtain ⟨σ28, rfl⟩ : ∃ z, z = u := ⟨_, rfl⟩
          have hP := hP1
          generalize H1 = H at hP hS ⊢
          refine W.cs (cells' := 0) (slots' := 0) rfl rfl ?_
          exact hL33 y1 y2 y3 z0 σ28 _ _ _ hP hS (lv_sub hl [1, 2, 3, 4, 0] rfl) hf
        · have er := Option.some.inj hf
          subst er
          refine vx_callv (vx_runV (As := [.int y3]) (rest := []) ⟨hx, hb, hml, hown, hts⟩ (m_X10_needNet_0 l hl9 D a k H.size hI N y3 σ4 _ hc26) (cwV 1 hts gX10_gate_X10_needNet rfl rfl rfl (by decide +kernel) ⟨Nat.le_of_ble_eq_true rfl, Nat.le_of_ble_eq_true rfl⟩) ⟨fd_blZ, va_recv hK hP (ci := 10) (q0 := 0) rfl fd_WC_0, fd_prZ hP hK hZ hS⟩ rfl rfl hl.1 rfl (lv_room (Nat.le_of_ble_eq_true rfl)) dX10_gate_30 ⟨Nat.le_of_ble_eq_true rfl, Nat.le_of_ble_eq_true rfl⟩) hS (fun q _ h => fd_A_mono hS.1 h) (fun q h => fd_A_mono hS.1 h) (fun q _ h => fd_A_mono hS.1 h) (fun E ce q9 u t H1 locs1 ht hvm hp hB hz hk hS hce hcv hcl => ?_) (fun u t H1 locs ht hvm hw hB hz hk hS => ?_)
          · obtain ⟨hB0, hP1, hK1⟩ := hB
            rw [ht] at hP1
            exact vx_out (E := E) (fun x hx => (hex x hx).elim) hlocks hce hcv hcl (fun t ht ha => ⟨u, trivial, ⟨fd_inr hB0, by rw [ht]; exact hP1, va_K.moved ha hK⟩, hS.F ht⟩) hS.2.2 (Nat.le_of_ble_eq_true rfl) (Nat.le_of_ble_eq_true rfl)
          · exact absurd hw (by simp)
    · have er := Option.some.inj hf
      subst er
      refine vx_callv (vx_runV (As := [.int y2]) (rest := []) ⟨hx, hb, hml, hown, hts⟩ (m_X10_needNet_0 l hl9 D a k H.size hI N y2 σ _ hc2) (cwV 1 hts gX10_gate_X10_needNet rfl rfl rfl (by decide +kernel) ⟨Nat.le_of_ble_eq_true rfl, Nat.le_of_ble_eq_true rfl⟩) ⟨fd_blZ, va_recv hK hP (ci := 10) (q0 := 0) rfl fd_WC_0, fd_prZ hP hK hZ hS⟩ rfl rfl hl.1 rfl (lv_room (Nat.le_of_ble_eq_true rfl)) dX10_gate_20 ⟨Nat.le_of_ble_eq_true rfl, Nat.le_of_ble_eq_true rfl⟩) hS (fun q _ h => fd_A_mono hS.1 h) (fun q h => fd_A_mono hS.1 h) (fun q _ h => fd_A_mono hS.1 h) (fun E ce q9 u t H1 locs1 ht hvm hp hB hz hk hS hce hcv hcl => ?_) (fun u t H1 locs ht hvm hw hB hz hk hS => ?_)
      · obtain ⟨hB0, hP1, hK1⟩ := hB
        rw [ht] at hP1
        exact vx_out (E := E) (fun x hx => (hex x hx).elim) hlocks hce hcv hcl (fun t ht ha => ⟨u, trivial, ⟨fd_inr hB0, by rw [ht]; exact hP1, va_K.moved ha hK⟩, hS.F ht⟩) hS.2.2 (Nat.le_of_ble_eq_true rfl) (Nat.le_of_ble_eq_true rfl)
      · exact absurd hw (by simp)
  have hL15 : ∀ (y1 : Int32) (y2 : Int32) (y3 : Int32) (σ : fd_St) (H : Heap) (locs : List Loc) (ls : Array Slot), va_P D vwCl (fd_WC a k σ) H → va_S (fd_A 39 a s.heap.size) s.heap H locs → lv_has ls 5 [(0, .ref (a 0)), (1, .int y1), (2, .int y2), (3, .int y3)] → f_X10_gate_0_J15 N y1 y2 y3 σ = some r → W p l e ((headSpec wsX10_gate ({ frames := 7, cells := fd_mc r, slots := fd_ms r, locals := 111 })).room) s m ([.ref (a 0), .int p1, .int p2, .int p3].toArray) below meth c H locs 0 0 (vx_MQ below (va_Qi (fun v u => (Sum.inl v, u) = r) (fd_BC D a k) (fd_A 39 a s.heap.size)) (fd_X D a k (fd_A 39 a s.heap.size) r) ([.ref (a 0), .int p1, .int p2, .int p3].toArray) s (fd_mc r) (fd_ms r) (fd_A 39 a s.heap.size)) (F0 m 15 ls []) := by
    intro y1 y2 y3 σ H locs ls hP hS hl hf
    unfold f_X10_gate_0_J15 at hf
    refine lv_iconst (v := (0 : Int32)) hx hb dX10_gate_15 (by decide) ?_
    exact hL16 y1 y2 y3 (0 : Int32) σ _ _ _ hP hS (lv_sub hl [0, 1, 2, 3] rfl) hf
  unfold f_X10_gate_0 at hf
  refine lv_iload_n hx hb dX10_gate_0 rfl (lv_at hl 1 rfl) ?_
  refine lv_iconst (v := (5 : Int32)) hx hb dX10_gate_1 (by decide) ?_
  refine lv_icmp_eq (tgt := 15) hx hb dX10_gate_2 (by decide) (fun c1 => ?_) (fun c1 => ?_)
  · have hf := fd_itp c1 hf
    exact hL15 p1 p2 p3 σ _ _ _ hP hS (lv_sub hl [0, 1, 2, 3] rfl) hf
  · have hf := fd_itn c1 hf
    refine lv_iload_n hx hb dX10_gate_5 rfl (lv_at hl 1 rfl) ?_
    refine lv_bipush (v := (6 : Int32)) hx hb dX10_gate_6 (by decide) ?_
    refine lv_icmp_eq (tgt := 15) hx hb dX10_gate_8 (by decide) (fun c32 => ?_) (fun c32 => ?_)
    · have hf := fd_itp c32 hf
      exact hL15 p1 p2 p3 σ _ _ _ hP hS (lv_sub hl [0, 1, 2, 3] rfl) hf
    · have hf := fd_itn c32 hf
      refine lv_iconst (v := (1 : Int32)) hx hb dX10_gate_11 (by decide) ?_
      refine lv_goto (tgt := 16) hx hb dX10_gate_12 (by decide) ?_
      exact hL16 p1 p2 p3 (1 : Int32) σ _ _ _ hP hS (lv_sub hl [0, 1, 2, 3] rfl) hf
noncomputable def f_L_gate_0_39 (N : Nat) (p1 : Int32) (p2 : Int32) (p3 : Int32) (σ : fd_St) : Option (Int32 × fd_St) := fd_bx (f_X10_gate_0 N p1 p2 p3 σ) (fun v2 τ => fd_lt (fd_mix τ σ) (fun σ6 => fd_gd (vp_in (0 : Int32) 1) (fd_lt (fd_sL 39 (0 : Int32) v2.toInt64 σ6) (fun σ9 => some ((0 : Int32), σ9))))) (fun E τ => if E = "java/lang/IndexOutOfBoundsException" then (fd_lt (fd_mix τ σ) (fun σ11 => some ((1 : Int32), σ11))) else (if E = "java/lang/IllegalStateException" then (fd_lt (fd_mix τ σ) (fun σ13 => some ((2 : Int32), σ13))) else (if E = "java/lang/IllegalArgumentException" then (fd_lt (fd_mix τ σ) (fun σ15 => some ((3 : Int32), σ15))) else (none))))
set_option maxHeartbeats 4000000 in
set_option maxRecDepth 100000 in
theorem m_L_gate_0_39 (l : Launch) (hl9 : l.stackTraces = false) (D : va_G) (a : Nat → Nat) (k : Nat → ClassId) (sz : Nat) (hI : fd_I 40 a) (N : Nat) (p1 : Int32) (p2 : Int32) (p3 : Int32) (σ : fd_St) (r : Int32 × fd_St) (hf : f_L_gate_0_39 N p1 p2 p3 σ = some r) : Met l yL_gate wsL_gate ({ frames := 8, cells := 1, slots := 6, locals := 135 }) (va_Pc [.ref (a 0), .int p1, .int p2, .int p3, .ref (a 39)] (fd_PH D a k sz σ)) (va_Qi (fun v u => (v, u) = r) (fd_BH D a k) (fd_A 40 a sz)) 1 6 (fd_A 40 a sz) := by
  refine fd_ofWT (cc := cL_gate) (maxL := 6) (ret := (some .int)) (by decide) rfl ?_
  intro p e s m args below meth c s₁ B hml hTab hv
  obtain ⟨rfl, hsz, hP, hK, hZ⟩ := hv
  have hx := B.exec
  have hb := B.bytes
  have hr := B.returns
  have hts := atoms_spec (ws := wsL_gate) B.pre
  have hown : s.vm.findClass RL = some m.cls := findClass_of_methodNamed B.named
  have hlocks := B.notSynchronized
  subst hsz
  have hJ : ∀ i, i < 40 → fd_A 40 a s.heap.size (a i) := fun i hi => Or.inl ⟨i, hi, rfl⟩
  have hS : va_S (fd_A 40 a s.heap.size) s.heap s.heap [] := va_S.rf
  have hl := lv_entry ([.ref (a 0), .int p1, .int p2, .int p3, .ref (a 39)]) (n := 6) (Nat.le_of_ble_eq_true rfl)
  rw [lg_entry_eq]
  generalize (lg_sl ([.ref (a 0), .int p1, .int p2, .int p3, .ref (a 39)]) ++ List.replicate (6 - (lg_sl ([.ref (a 0), .int p1, .int p2, .int p3, .ref (a 39)])).length) Slot.unset).toArray = ls at hl ⊢
  have hl : lv_has ls 6 [(0, .ref (a 0)), (1, .int p1), (2, .int p2), (3, .int p3), (4, .ref (a 39))] := hl
  unfold f_L_gate_0_39 at hf
  refine lv_aload hx hb dL_gate_0 (lv_at hl 4 rfl) ?_
  refine lv_iconst (v := (0 : Int32)) hx hb dL_gate_2 (by decide) ?_
  refine lv_aload_n hx hb dL_gate_3 rfl (lv_at hl 0 rfl) ?_
  refine lv_iload_n hx hb dL_gate_4 rfl (lv_at hl 1 rfl) ?_
  refine lv_iload_n hx hb dL_gate_5 rfl (lv_at hl 2 rfl) ?_
  refine lv_iload_n hx hb dL_gate_6 rfl (lv_at hl 3 rfl) ?_
  rcases fd_bxs hf with ⟨w3, τ4, hc1, hf⟩ | ⟨E5, τ4, hc1, hf⟩
  · refine vx_calli (vx_runV (As := [.int p1, .int p2, .int p3]) (rest := [.int (0 : Int32), .ref (a 39)]) ⟨hx, hb, hml, hown, hts⟩ (m_X10_gate_0 l hl9 D a k s.heap.size (fd_I40 hI) N p1 p2 p3 σ _ hc1) (cwV 3 hts gL_gate_X10_gate rfl rfl rfl (by decide +kernel) ⟨Nat.le_of_ble_eq_true rfl, Nat.le_of_ble_eq_true rfl⟩) ⟨fd_blZ, va_recv (fd_HK hK) (fd_HC hP) (ci := 10) (q0 := 0) rfl fd_WC_0, fd_prHZ hP hK hZ hS⟩ rfl rfl hl.1 rfl (lv_room (Nat.le_of_ble_eq_true rfl)) dL_gate_7 ⟨(Nat.zero_le _), (Nat.zero_le _)⟩) hS (fun q _ h => fd_A_sub hS.1 h) (fun q h => fd_A_sub hS.1 h) (fun q _ h => fd_A_sub hS.1 h) (fun E ce q9 u t H1 locs1 ht hvm hp hB => ?_) (fun v2 u t H1 locs ht hvm hw hB hz hk hS => ?_)
    · exact absurd hB.1 (by simp)
    obtain ⟨hP1, hK1⟩ := hB
    rw [ht] at hP1
    obtain ⟨e1, e2⟩ := Prod.mk.inj hw
    obtain e1 := Sum.inl.inj e1
    subst e1
    subst e2
    obtain ⟨σ6, eσ6, hf⟩ := fd_lts hf
    have hP : va_P D vwCl (fd_WH a k σ6) H1 := by rw [eσ6]; exact fd_HJ hI hP hP1 hk
    generalize H1 = H at hP hS ⊢
    refine W.cs (cells' := 0) (slots' := 0) rfl rfl ?_
    refine lv_i2l hx hb dL_gate_10 rfl ?_
    obtain ⟨g8, hf⟩ := fd_gds hf
    obtain ⟨σ9, eσ9, hf⟩ := fd_lts hf
    refine va_last hx hb hK hP (fd_DH hI hJ) hS 39 27 fd_WH_39 fd_tyH_39 g8 dL_gate_11 (fun H locs hP _ hS => ?_)
    have hP : va_P D vwCl (fd_WH a k σ9) H := by rw [eσ9]; exact fd_sP fd_WHa_39 hP
    refine lv_goto (tgt := 27) hx hb dL_gate_12 (by decide) ?_
    refine lv_iconst (v := (0 : Int32)) hx hb dL_gate_27 (by decide) ?_
    refine W.widen (k := 1) (n := 6) (Nat.le_of_ble_eq_true rfl) (Nat.le_of_ble_eq_true rfl) ?_
    exact W.iret (v := (0 : Int32)) hx hb hr (fun t ht hW => ⟨⟨(0 : Int32), σ9, rfl, Option.some.inj hf, by rw [ht]; exact hP, va_K.moved hW.alike hK⟩, hS.F ht⟩) hS.2.2 dL_gate_28
  · have hE := hf
    by_cases c10 : E5 = "java/lang/IndexOutOfBoundsException"
    · subst c10
      have hf := fd_itp rfl hf
      refine vx_calli (vx_runV (As := [.int p1, .int p2, .int p3]) (rest := [.int (0 : Int32), .ref (a 39)]) ⟨hx, hb, hml, hown, hts⟩ (m_X10_gate_0 l hl9 D a k s.heap.size (fd_I40 hI) N p1 p2 p3 σ _ hc1) (cwV 3 hts gL_gate_X10_gate rfl rfl rfl (by decide +kernel) ⟨Nat.le_of_ble_eq_true rfl, Nat.le_of_ble_eq_true rfl⟩) ⟨fd_blZ, va_recv (fd_HK hK) (fd_HC hP) (ci := 10) (q0 := 0) rfl fd_WC_0, fd_prHZ hP hK hZ hS⟩ rfl rfl hl.1 rfl (lv_room (Nat.le_of_ble_eq_true rfl)) dL_gate_7 ⟨Nat.le_of_ble_eq_true rfl, Nat.le_of_ble_eq_true rfl⟩) hS (fun q _ h => fd_A_sub hS.1 h) (fun q h => fd_A_sub hS.1 h) (fun q _ h => fd_A_sub hS.1 h) (fun E ce q9 u t H1 locs1 ht hvm hp hB hz hk hS hce hcv hcl => ?_) (fun v2 u t H1 locs ht hvm hw hB hz hk hS => ?_)
      · obtain ⟨hB0, hP1, hK1⟩ := hB
        rw [ht] at hP1
        obtain ⟨e1, e2⟩ := Prod.mk.inj hB0
        obtain e1 := Sum.inr.inj e1
        subst e1
        subst e2
        obtain ⟨σ11, eσ11, hf⟩ := fd_lts hf
        have hP : va_P D vwCl (fd_WH a k σ11) H1 := by rw [eσ11]; exact fd_HJ hI hP hP1 hk
        refine fd_catch (own := RL) (name := "java/lang/IndexOutOfBoundsException") (E := "java/lang/IndexOutOfBoundsException") hown [] ⟨0, 12, 15, 19⟩ [⟨0, 12, 19, 13⟩, ⟨0, 12, 23, 21⟩] (by rw [hTab]; rfl) (fun z hz => nomatch hz) (by decide) (by decide) (hts (.classLink RL 19 "java/lang/IndexOutOfBoundsException") (List.mem_of_getElem? (i := 1) (by eq_refl))) (hZ.cast "java/lang/IndexOutOfBoundsException" (by decide +kernel)) hce hcv hcl ?_
        refine W.cs (cells' := 1) (slots' := 6) rfl rfl ?_
        refine lv_astore (lv' := [(5, .ref q9), (0, .ref (a 0)), (1, .int p1), (2, .int p2), (3, .int p3), (4, .ref (a 39))]) hx hb dL_gate_15 hl (by decide) rfl (fun ls hl => ?_)
        refine lv_iconst (v := (1 : Int32)) hx hb dL_gate_17 (by decide) ?_
        refine W.widen (k := 1) (n := 6) (Nat.le_of_ble_eq_true rfl) (Nat.le_of_ble_eq_true rfl) ?_
        exact W.iret (v := (1 : Int32)) hx hb hr (fun t ht hW => ⟨⟨(1 : Int32), σ11, rfl, Option.some.inj hf, by rw [ht]; exact hP, va_K.moved hW.alike hK⟩, hS.F ht⟩) hS.2.2 dL_gate_18
      · exact absurd hw (by simp)
    have hf := fd_itn c10 hf
    by_cases c12 : E5 = "java/lang/IllegalStateException"
    · subst c12
      have hf := fd_itp rfl hf
      refine vx_calli (vx_runV (As := [.int p1, .int p2, .int p3]) (rest := [.int (0 : Int32), .ref (a 39)]) ⟨hx, hb, hml, hown, hts⟩ (m_X10_gate_0 l hl9 D a k s.heap.size (fd_I40 hI) N p1 p2 p3 σ _ hc1) (cwV 3 hts gL_gate_X10_gate rfl rfl rfl (by decide +kernel) ⟨Nat.le_of_ble_eq_true rfl, Nat.le_of_ble_eq_true rfl⟩) ⟨fd_blZ, va_recv (fd_HK hK) (fd_HC hP) (ci := 10) (q0 := 0) rfl fd_WC_0, fd_prHZ hP hK hZ hS⟩ rfl rfl hl.1 rfl (lv_room (Nat.le_of_ble_eq_true rfl)) dL_gate_7 ⟨Nat.le_of_ble_eq_true rfl, Nat.le_of_ble_eq_true rfl⟩) hS (fun q _ h => fd_A_sub hS.1 h) (fun q h => fd_A_sub hS.1 h) (fun q _ h => fd_A_sub hS.1 h) (fun E ce q9 u t H1 locs1 ht hvm hp hB hz hk hS hce hcv hcl => ?_) (fun v2 u t H1 locs ht hvm hw hB hz hk hS => ?_)
      · obtain ⟨hB0, hP1, hK1⟩ := hB
        rw [ht] at hP1
        obtain ⟨e1, e2⟩ := Prod.mk.inj hB0
        obtain e1 := Sum.inr.inj e1
        subst e1
        subst e2
        obtain ⟨σ13, eσ13, hf⟩ := fd_lts hf
        have hP : va_P D vwCl (fd_WH a k σ13) H1 := by rw [eσ13]; exact fd_HJ hI hP hP1 hk
        refine fd_catch (own := RL) (name := "java/lang/IllegalStateException") (E := "java/lang/IllegalStateException") hown [⟨0, 12, 15, 19⟩] ⟨0, 12, 19, 13⟩ [⟨0, 12, 23, 21⟩] (by rw [hTab]; rfl) (fun z hz => by
            rcases List.mem_cons.mp hz with rfl | hz
            · exact ⟨by decide, by decide, "java/lang/IndexOutOfBoundsException", hts (.classLink RL 19 "java/lang/IndexOutOfBoundsException") (by decide +kernel), hZ.nc "java/lang/IllegalStateException" "java/lang/IndexOutOfBoundsException" (by decide +kernel)⟩
            cases hz) (by decide) (by decide) (hts (.classLink RL 13 "java/lang/IllegalStateException") (List.mem_of_getElem? (i := 2) (by eq_refl))) (hZ.cast "java/lang/IllegalStateException" (by decide +kernel)) hce hcv hcl ?_
        refine W.cs (cells' := 1) (slots' := 6) rfl rfl ?_
        refine lv_astore (lv' := [(5, .ref q9), (0, .ref (a 0)), (1, .int p1), (2, .int p2), (3, .int p3), (4, .ref (a 39))]) hx hb dL_gate_19 hl (by decide) rfl (fun ls hl => ?_)
        refine lv_iconst (v := (2 : Int32)) hx hb dL_gate_21 (by decide) ?_
        refine W.widen (k := 1) (n := 6) (Nat.le_of_ble_eq_true rfl) (Nat.le_of_ble_eq_true rfl) ?_
        exact W.iret (v := (2 : Int32)) hx hb hr (fun t ht hW => ⟨⟨(2 : Int32), σ13, rfl, Option.some.inj hf, by rw [ht]; exact hP, va_K.moved hW.alike hK⟩, hS.F ht⟩) hS.2.2 dL_gate_22
      · exact absurd hw (by simp)
    have hf := fd_itn c12 hf
    by_cases c14 : E5 = "java/lang/IllegalArgumentException"
    · subst c14
      have hf := fd_itp rfl hf
      refine vx_calli (vx_runV (As := [.int p1, .int p2, .int p3]) (rest := [.int (0 : Int32), .ref (a 39)]) ⟨hx, hb, hml, hown, hts⟩ (m_X10_gate_0 l hl9 D a k s.heap.size (fd_I40 hI) N p1 p2 p3 σ _ hc1) (cwV 3 hts gL_gate_X10_gate rfl rfl rfl (by decide +kernel) ⟨Nat.le_of_ble_eq_true rfl, Nat.le_of_ble_eq_true rfl⟩) ⟨fd_blZ, va_recv (fd_HK hK) (fd_HC hP) (ci := 10) (q0 := 0) rfl fd_WC_0, fd_prHZ hP hK hZ hS⟩ rfl rfl hl.1 rfl (lv_room (Nat.le_of_ble_eq_true rfl)) dL_gate_7 ⟨Nat.le_of_ble_eq_true rfl, Nat.le_of_ble_eq_true rfl⟩) hS (fun q _ h => fd_A_sub hS.1 h) (fun q h => fd_A_sub hS.1 h) (fun q _ h => fd_A_sub hS.1 h) (fun E ce q9 u t H1 locs1 ht hvm hp hB hz hk hS hce hcv hcl => ?_) (fun v2 u t H1 locs ht hvm hw hB hz hk hS => ?_)
      · obtain ⟨hB0, hP1, hK1⟩ := hB
        rw [ht] at hP1
        obtain ⟨e1, e2⟩ := Prod.mk.inj hB0
        obtain e1 := Sum.inr.inj e1
        subst e1
        subst e2
        obtain ⟨σ15, eσ15, hf⟩ := fd_lts hf
        have hP : va_P D vwCl (fd_WH a k σ15) H1 := by rw [eσ15]; exact fd_HJ hI hP hP1 hk
        refine fd_catch (own := RL) (name := "java/lang/IllegalArgumentException") (E := "java/lang/IllegalArgumentException") hown [⟨0, 12, 15, 19⟩, ⟨0, 12, 19, 13⟩] ⟨0, 12, 23, 21⟩ [] (by rw [hTab]; rfl) (fun z hz => by
            rcases List.mem_cons.mp hz with rfl | hz
            · exact ⟨by decide, by decide, "java/lang/IndexOutOfBoundsException", hts (.classLink RL 19 "java/lang/IndexOutOfBoundsException") (by decide +kernel), hZ.nc "java/lang/IllegalArgumentException" "java/lang/IndexOutOfBoundsException" (by decide +kernel)⟩
            rcases List.mem_cons.mp hz with rfl | hz
            · exact ⟨by decide, by decide, "java/lang/IllegalStateException", hts (.classLink RL 13 "java/lang/IllegalStateException") (by decide +kernel), hZ.nc "java/lang/IllegalArgumentException" "java/lang/IllegalStateException" (by decide +kernel)⟩
            cases hz) (by decide) (by decide) (hts (.classLink RL 21 "java/lang/IllegalArgumentException") (List.mem_of_getElem? (i := 3) (by eq_refl))) (hZ.cast "java/lang/IllegalArgumentException" (by decide +kernel)) hce hcv hcl ?_
        refine W.cs (cells' := 1) (slots' := 6) rfl rfl ?_
        refine lv_astore (lv' := [(5, .ref q9), (0, .ref (a 0)), (1, .int p1), (2, .int p2), (3, .int p3), (4, .ref (a 39))]) hx hb dL_gate_23 hl (by decide) rfl (fun ls hl => ?_)
        refine lv_iconst (v := (3 : Int32)) hx hb dL_gate_25 (by decide) ?_
        refine W.widen (k := 1) (n := 6) (Nat.le_of_ble_eq_true rfl) (Nat.le_of_ble_eq_true rfl) ?_
        exact W.iret (v := (3 : Int32)) hx hb hr (fun t ht hW => ⟨⟨(3 : Int32), σ15, rfl, Option.some.inj hf, by rw [ht]; exact hP, va_K.moved hW.alike hK⟩, hS.F ht⟩) hS.2.2 dL_gate_26
      · exact absurd hw (by simp)
    have hf := fd_itn c14 hf
    cases hf
noncomputable def f_X11_isIn (N : Nat) (p0 : Int32) (p1 : Int32) (σ : fd_St) : Option (Int32 × fd_St) := if p0 < 0 then (some ((0 : Int32), σ)) else (if p1 ≤ p0 then (some ((0 : Int32), σ)) else (some ((1 : Int32), σ)))
set_option maxHeartbeats 4000000 in
set_option maxRecDepth 100000 in
theorem m_X11_isIn (l : Launch) (D : va_G) (a : Nat → Nat) (k : Nat → ClassId) (sz : Nat) (hI : fd_I 29 a) (N : Nat) (p0 : Int32) (p1 : Int32) (σ : fd_St) (r : Int32 × fd_St) (hf : f_X11_isIn N p0 p1 σ = some r) : Met l yX11_isIn wsX11_isIn ({ frames := 0, cells := 0, slots := 0, locals := 0 }) (va_Pc [.int p0, .int p1] (fd_PM D a k sz σ)) (va_Qi (fun v u => (v, u) = r) (fd_BM D a k) (fd_A 29 a sz)) 0 0 (fd_A 29 a sz) := by
  refine Met.ofW (cc := cX11_isIn) (maxL := 2) (ret := (some .boolean)) (by decide) rfl ?_
  intro p e s m args below meth c s₁ B hml hv
  obtain ⟨rfl, hsz, hP, hK⟩ := hv
  have hx := B.exec
  have hb := B.bytes
  have hr := B.returns
  have hts := atoms_spec (ws := wsX11_isIn) B.pre
  have hown : s.vm.findClass RX11 = some m.cls := findClass_of_methodNamed B.named
  have hlocks := B.notSynchronized
  subst hsz
  have hJ : ∀ i, i < 29 → fd_A 29 a s.heap.size (a i) := fun i hi => Or.inl ⟨i, hi, rfl⟩
  have hS : va_S (fd_A 29 a s.heap.size) s.heap s.heap [] := va_S.rf
  have hl := lv_entry ([.int p0, .int p1]) (n := 2) (Nat.le_of_ble_eq_true rfl)
  rw [lg_entry_eq]
  generalize (lg_sl ([.int p0, .int p1]) ++ List.replicate (2 - (lg_sl ([.int p0, .int p1])).length) Slot.unset).toArray = ls at hl ⊢
  have hl : lv_has ls 2 [(0, .int p0), (1, .int p1)] := hl
  unfold f_X11_isIn at hf
  refine lv_iload_n hx hb dX11_isIn_0 rfl (lv_at hl 0 rfl) ?_
  refine lv_if_lt (tgt := 13) hx hb dX11_isIn_1 (by decide) (fun c1 => ?_) (fun c1 => ?_)
  · have hf := fd_itp c1 hf
    refine lv_iconst (v := (0 : Int32)) hx hb dX11_isIn_13 (by decide) ?_
    exact W.zret (v := (0 : Int32)) (ty := .boolean) hx hb hr rfl (fun t ht hW => ⟨⟨(0 : Int32), σ, rfl, Option.some.inj hf, by rw [ht]; exact hP, va_K.moved hW.alike hK⟩, hS.F ht⟩) hS.2.2 dX11_isIn_14
  · have hf := fd_itn c1 hf
    refine lv_iload_n hx hb dX11_isIn_4 rfl (lv_at hl 0 rfl) ?_
    refine lv_iload_n hx hb dX11_isIn_5 rfl (lv_at hl 1 rfl) ?_
    refine lv_icmp_ge (tgt := 13) hx hb dX11_isIn_6 (by decide) (fun c2 => ?_) (fun c2 => ?_)
    · have hf := fd_itp c2 hf
      refine lv_iconst (v := (0 : Int32)) hx hb dX11_isIn_13 (by decide) ?_
      exact W.zret (v := (0 : Int32)) (ty := .boolean) hx hb hr rfl (fun t ht hW => ⟨⟨(0 : Int32), σ, rfl, Option.some.inj hf, by rw [ht]; exact hP, va_K.moved hW.alike hK⟩, hS.F ht⟩) hS.2.2 dX11_isIn_14
    · have hf := fd_itn c2 hf
      refine lv_iconst (v := (1 : Int32)) hx hb dX11_isIn_9 (by decide) ?_
      refine lv_goto (tgt := 14) hx hb dX11_isIn_10 (by decide) ?_
      exact W.zret (v := (1 : Int32)) (ty := .boolean) hx hb hr rfl (fun t ht hW => ⟨⟨(1 : Int32), σ, rfl, Option.some.inj hf, by rw [ht]; exact hP, va_K.moved hW.alike hK⟩, hS.F ht⟩) hS.2.2 dX11_isIn_14
noncomputable def f_X11_gate_0_J141 (N : Nat) (z1 : Int32) (z2 : Int32) (σ : fd_St) : Option (Int32 × fd_St) := fd_gd (vp_in z1 200) (fd_lt (fd_sA 3 z1 z2 σ) (fun σ19 => fd_lt (fd_sI 1 ((σ19.1 1) + (1 : Int32)) σ19) (fun σ20 => fd_bd (f_X11_changed_0 N σ20) (fun _ σ23 => some ((σ23.1 1) - (1 : Int32), σ23)))))
noncomputable def f_X11_gate_0_J91 (N : Nat) (y1 : Int32) (y2 : Int32) (y3 : Int32) (y4 : Int32) (z1 : Int32) (σ : fd_St) : Option (Int32 × fd_St) := fd_lt (fd_sI 0 z1 σ) (fun σ11 => if (σ11.1 0) ≤ 0 then (fd_gd (vp_in (σ11.1 1) 200) (fd_lt (fd_sA 1 (σ11.1 1) y1 σ11) (fun σ14 => fd_gd (vp_in (σ14.1 1) 200) (fd_lt (fd_sA 2 (σ14.1 1) y2 σ14) (fun σ16 => if y4 = 0 then (f_X11_gate_0_J141 N (σ16.1 1) y3 σ16) else (f_X11_gate_0_J141 N (σ16.1 1) y2 σ16)))))) else (some ((0 : Int32), σ11)))
noncomputable def f_X11_gate_0_J86 (N : Nat) (y1 : Int32) (y2 : Int32) (y3 : Int32) (y4 : Int32) (σ : fd_St) : Option (Int32 × fd_St) := f_X11_gate_0_J91 N y1 y2 y3 y4 (3 : Int32) σ
noncomputable def f_X11_gate_0_J50 (N : Nat) (y1 : Int32) (y2 : Int32) (y3 : Int32) (y4 : Int32) (z0 : Int32) (σ : fd_St) : Option (Int32 × fd_St) := if z0 = 0 then (f_X11_gate_0_J91 N y1 y2 y3 y4 (1 : Int32) σ) else (if (σ.1 1) = (200 : Int32) then (f_X11_gate_0_J91 N y1 y2 y3 y4 (2 : Int32) σ) else (if y1 < 0 then (f_X11_gate_0_J86 N y1 y2 y3 y4 σ) else (if y1 ≤ (6 : Int32) then (f_X11_gate_0_J91 N y1 y2 y3 y4 (0 : Int32) σ) else (f_X11_gate_0_J86 N y1 y2 y3 y4 σ))))
noncomputable def f_X11_gate_0_J49 (N : Nat) (y1 : Int32) (y2 : Int32) (y3 : Int32) (y4 : Int32) (σ : fd_St) : Option (Int32 × fd_St) := f_X11_gate_0_J50 N y1 y2 y3 y4 (0 : Int32) σ
noncomputable def f_X11_gate_0_J45 (N : Nat) (y1 : Int32) (y2 : Int32) (y3 : Int32) (y4 : Int32) (σ : fd_St) : Option (Int32 × fd_St) := f_X11_gate_0_J50 N y1 y2 y3 y4 (1 : Int32) σ
noncomputable def f_X11_gate_0_J16 (N : Nat) (y1 : Int32) (y2 : Int32) (y3 : Int32) (z0 : Int32) (σ : fd_St) : Option (Int32 × fd_St) := fd_bd (f_X11_isIn N y2 (σ.1 1) σ) (fun v3 σ4 => if v3 = 0 then (f_X11_gate_0_J49 N y1 y2 y3 z0 σ4) else (if z0 = 0 then (fd_bd (f_X11_isIn N y3 (σ4.1 1) σ4) (fun v29 σ30 => if v29 = 0 then (f_X11_gate_0_J49 N y1 y2 y3 z0 σ30) else (f_X11_gate_0_J45 N y1 y2 y3 z0 σ30))) else (f_X11_gate_0_J45 N y1 y2 y3 z0 σ4)))
noncomputable def f_X11_gate_0_J11 (N : Nat) (y1 : Int32) (y2 : Int32) (y3 : Int32) (σ : fd_St) : Option (Int32 × fd_St) := f_X11_gate_0_J16 N y1 y2 y3 (1 : Int32) σ
noncomputable def f_X11_gate_0 (N : Nat) (p1 : Int32) (p2 : Int32) (p3 : Int32) (σ : fd_St) : Option (Int32 × fd_St) := if p1 = (5 : Int32) then (f_X11_gate_0_J11 N p1 p2 p3 σ) else (if p1 = (6 : Int32) then (f_X11_gate_0_J11 N p1 p2 p3 σ) else (f_X11_gate_0_J16 N p1 p2 p3 (0 : Int32) σ))
set_option maxHeartbeats 4000000 in
set_option maxRecDepth 100000 in
theorem m_X11_gate_0 (l : Launch) (D : va_G) (a : Nat → Nat) (k : Nat → ClassId) (sz : Nat) (hI : fd_I 29 a) (N : Nat) (p1 : Int32) (p2 : Int32) (p3 : Int32) (σ : fd_St) (r : Int32 × fd_St) (hf : f_X11_gate_0 N p1 p2 p3 σ = some r) : Met l yX11_gate wsX11_gate ({ frames := 1, cells := 0, slots := 0, locals := 21 }) (va_Pc [.ref (a 0), .int p1, .int p2, .int p3] (fd_PM D a k sz σ)) (va_Qi (fun v u => (v, u) = r) (fd_BM D a k) (fd_A 29 a sz)) 0 0 (fd_A 29 a sz) := by
  refine Met.ofW (cc := cX11_gate) (maxL := 6) (ret := (some .int)) (by decide) rfl ?_
  intro p e s m args below meth c s₁ B hml hv
  obtain ⟨rfl, hsz, hP, hK⟩ := hv
  have hx := B.exec
  have hb := B.bytes
  have hr := B.returns
  have hts := atoms_spec (ws := wsX11_gate) B.pre
  have hown : s.vm.findClass RX11 = some m.cls := findClass_of_methodNamed B.named
  have hlocks := B.notSynchronized
  subst hsz
  have hJ : ∀ i, i < 29 → fd_A 29 a s.heap.size (a i) := fun i hi => Or.inl ⟨i, hi, rfl⟩
  have hS : va_S (fd_A 29 a s.heap.size) s.heap s.heap [] := va_S.rf
  have hl := lv_entry ([.ref (a 0), .int p1, .int p2, .int p3]) (n := 6) (Nat.le_of_ble_eq_true rfl)
  rw [lg_entry_eq]
  generalize (lg_sl ([.ref (a 0), .int p1, .int p2, .int p3]) ++ List.replicate (6 - (lg_sl ([.ref (a 0), .int p1, .int p2, .int p3])).length) Slot.unset).toArray = ls at hl ⊢
  have hl : lv_has ls 6 [(0, .ref (a 0)), (1, .int p1), (2, .int p2), (3, .int p3)] := hl
  have h9X11 : ∀ w ∈ u_ws RX11 TX11 43, w ∈ wsX11_gate := fd_su [16, 17, 18, 19, 20, 21, 22, 23, 24, 25, 26, 27, 28, 29, 30, 31, 32, 33, 34, 35, 36, 37, 38, 39, 40, 41, 42, 43, 44, 45, 46, 47, 48, 49, 50, 51, 52, 53, 54, 55, 56, 57, 58] (by eq_refl)
  have hL141 : ∀ (z1 : Int32) (z2 : Int32) (σ : fd_St) (H : Heap) (locs : List Loc) (ls : Array Slot), va_P D vwCl (fd_WM a k σ) H → va_S (fd_A 29 a s.heap.size) s.heap H locs → lv_has ls 6 [(0, .ref (a 0))] → f_X11_gate_0_J141 N z1 z2 σ = some r → W p l e ((headSpec wsX11_gate ({ frames := 1, cells := 0, slots := 0, locals := 21 })).room) s m ([.ref (a 0), .int p1, .int p2, .int p3].toArray) below meth c H locs 0 0 (MQ below (va_Qi (fun v u => (v, u) = r) (fd_BM D a k) (fd_A 29 a s.heap.size)) ([.ref (a 0), .int p1, .int p2, .int p3].toArray) s 0 0 (fd_A 29 a s.heap.size)) (F0 m 141 ls [.int z2, .int z1, .ref (a 3)]) := by
    intro z1 z2 σ H locs ls hP hS hl hf
    unfold f_X11_gate_0_J141 at hf
    obtain ⟨g18, hf⟩ := fd_gds hf
    obtain ⟨σ19, eσ19, hf⟩ := fd_lts hf
    refine va_iast hx hb hK hP (fd_DM hI hJ) hS 3 2 fd_WM_3 fd_tyM_3 g18 dX11_gate_141 (fun H locs hP _ hS => ?_)
    have hP : va_P D vwCl (fd_WM a k σ19) H := by rw [eσ19]; exact fd_sP fd_WMa_3 hP
    refine lv_aload_n hx hb dX11_gate_142 rfl (lv_at hl 0 rfl) ?_
    refine lv_dup hx hb dX11_gate_143 rfl ?_
    refine va_get (ci := 11) (v := .int (σ19.1 1)) (C := RX11) (T := TX11) (N := 43) hx hb hts h9X11 hown hK hP 0 fd_WM_0 rfl 1 (by decide) (hts (.fieldLink RX11 113 "FailDiagnoseModel" "nets" "I") (List.mem_of_getElem? (i := 1) (by eq_refl))) (fun _ h9 => h9) rfl dX11_gate_144 ?_
    refine lv_iconst (v := (1 : Int32)) hx hb dX11_gate_147 (by decide) ?_
    refine lv_iadd hx hb dX11_gate_148 ?_
    obtain ⟨σ20, eσ20, hf⟩ := fd_lts hf
    refine va_put (ci := 11) (v := .int ((σ19.1 1) + (1 : Int32))) (ty := .int) (C := RX11) (T := TX11) (N := 43) hx hb hts h9X11 tyX11 tyX11_ok nmX11 hown hK hP (fd_DM hI hJ) hS 0 fd_WM_0 rfl 1 (by decide) (hts (.fieldLink RX11 113 "FailDiagnoseModel" "nets" "I") (List.mem_of_getElem? (i := 1) (by eq_refl))) (fun _ h9 => h9) rfl (by decide +kernel) rfl rfl (Nat.le_of_ble_eq_true rfl) dX11_gate_149 (fun H locs hP _ hS => ?_)
    have hP : va_P D vwCl (fd_WM a k σ20) H := by rw [eσ20]; exact fd_sP fd_WMi_1 hP
    refine lv_aload_n hx hb dX11_gate_152 rfl (lv_at hl 0 rfl) ?_
    obtain ⟨w24, τ25, hc21, hf⟩ := fd_bds hf
    refine va_callv (va_runV (As := []) (rest := []) ⟨hx, hb, hml, hown, hts⟩ (m_X11_changed_0 l D a k H.size hI N σ20 _ hc21) (cwV 0 hts gX11_gate_X11_changed rfl rfl rfl (by decide +kernel) ⟨Nat.le_of_ble_eq_true rfl, Nat.le_of_ble_eq_true rfl⟩) ⟨fd_blM, va_recv hK hP (ci := 11) (q0 := 0) rfl fd_WM_0, fd_prM hP hK⟩ rfl rfl hl.1 rfl (lv_room (Nat.le_of_ble_eq_true rfl)) dX11_gate_153 ⟨Nat.zero_le _, Nat.zero_le _⟩) hS (fun q _ h => fd_A_mono hS.1 h) (fun q h => fd_A_mono hS.1 h) (fun u t H1 locs ht hvm hw hB hz hk hS => ?_)
    obtain ⟨hP1, hK1⟩ := hB
    rw [ht] at hP1
    have e2 := (Prod.mk.inj hw).2
    subst e2
    obtain ⟨σ23, rfl⟩ : ∃ z, z = u := ⟨_, rfl⟩
    have hP := hP1
    generalize H1 = H at hP hS ⊢
    refine lv_aload_n hx hb dX11_gate_156 rfl (lv_at hl 0 rfl) ?_
    refine va_get (ci := 11) (v := .int (σ23.1 1)) (C := RX11) (T := TX11) (N := 43) hx hb hts h9X11 hown hK hP 0 fd_WM_0 rfl 1 (by decide) (hts (.fieldLink RX11 113 "FailDiagnoseModel" "nets" "I") (List.mem_of_getElem? (i := 1) (by eq_refl))) (fun _ h9 => h9) rfl dX11_gate_157 ?_
    refine lv_iconst (v := (1 : Int32)) hx hb dX11_gate_160 (by decide) ?_
    refine lv_isub hx hb dX11_gate_161 ?_
    exact W.iret (v := ((σ23.1 1) - (1 : Int32))) hx hb hr (fun t ht hW => ⟨⟨(σ23.1 1) - (1 : Int32), σ23, rfl, Option.some.inj hf, by rw [ht]; exact hP, va_K.moved hW.alike hK⟩, hS.F ht⟩) hS.2.2 dX11_gate_162
  have hL91 : ∀ (y1 : Int32) (y2 : Int32) (y3 : Int32) (y4 : Int32) (z1 : Int32) (σ : fd_St) (H : Heap) (locs : List Loc) (ls : Array Slot), va_P D vwCl (fd_WM a k σ) H → va_S (fd_A 29 a s.heap.size) s.heap H locs → lv_has ls 6 [(0, .ref (a 0)), (1, .int y1), (2, .int y2), (3, .int y3), (4, .int y4)] → f_X11_gate_0_J91 N y1 y2 y3 y4 z1 σ = some r → W p l e ((headSpec wsX11_gate ({ frames := 1, cells := 0, slots := 0, locals := 21 })).room) s m ([.ref (a 0), .int p1, .int p2, .int p3].toArray) below meth c H locs 0 0 (MQ below (va_Qi (fun v u => (v, u) = r) (fd_BM D a k) (fd_A 29 a s.heap.size)) ([.ref (a 0), .int p1, .int p2, .int p3].toArray) s 0 0 (fd_A 29 a s.heap.size)) (F0 m 91 ls [.int z1, .ref (a 0)]) := by
    intro y1 y2 y3 y4 z1 σ H locs ls hP hS hl hf
    unfold f_X11_gate_0_J91 at hf
    obtain ⟨σ11, eσ11, hf⟩ := fd_lts hf
    refine va_put (ci := 11) (v := .int z1) (ty := .int) (C := RX11) (T := TX11) (N := 43) hx hb hts h9X11 tyX11 tyX11_ok nmX11 hown hK hP (fd_DM hI hJ) hS 0 fd_WM_0 rfl 0 (by decide) (hts (.fieldLink RX11 99 "FailDiagnoseModel" "thrown" "I") (List.mem_of_getElem? (i := 2) (by eq_refl))) (fun _ h9 => h9) rfl (by decide +kernel) rfl rfl (Nat.le_of_ble_eq_true rfl) dX11_gate_91 (fun H locs hP _ hS => ?_)
    have hP : va_P D vwCl (fd_WM a k σ11) H := by rw [eσ11]; exact fd_sP fd_WMi_0 hP
    refine lv_aload_n hx hb dX11_gate_94 rfl (lv_at hl 0 rfl) ?_
    refine va_get (ci := 11) (v := .int (σ11.1 0)) (C := RX11) (T := TX11) (N := 43) hx hb hts h9X11 hown hK hP 0 fd_WM_0 rfl 0 (by decide) (hts (.fieldLink RX11 99 "FailDiagnoseModel" "thrown" "I") (List.mem_of_getElem? (i := 2) (by eq_refl))) (fun _ h9 => h9) rfl dX11_gate_95 ?_
    refine lv_if_le (tgt := 103) hx hb dX11_gate_98 (by decide) (fun c12 => ?_) (fun c12 => ?_)
    · have hf := fd_itp c12 hf
      refine lv_aload_n hx hb dX11_gate_103 rfl (lv_at hl 0 rfl) ?_
      refine va_get (ci := 11) (v := .ref (a 1)) (C := RX11) (T := TX11) (N := 43) hx hb hts h9X11 hown hK hP 0 fd_WM_0 rfl 2 (by decide) (hts (.fieldLink RX11 7 "FailDiagnoseModel" "kinds" "[I") (List.mem_of_getElem? (i := 3) (by eq_refl))) (fun _ h9 => h9) rfl dX11_gate_104 ?_
      refine lv_aload_n hx hb dX11_gate_107 rfl (lv_at hl 0 rfl) ?_
      refine va_get (ci := 11) (v := .int (σ11.1 1)) (C := RX11) (T := TX11) (N := 43) hx hb hts h9X11 hown hK hP 0 fd_WM_0 rfl 1 (by decide) (hts (.fieldLink RX11 113 "FailDiagnoseModel" "nets" "I") (List.mem_of_getElem? (i := 1) (by eq_refl))) (fun _ h9 => h9) rfl dX11_gate_108 ?_
      refine lv_iload_n hx hb dX11_gate_111 rfl (lv_at hl 1 rfl) ?_
      obtain ⟨g13, hf⟩ := fd_gds hf
      obtain ⟨σ14, eσ14, hf⟩ := fd_lts hf
      refine va_iast hx hb hK hP (fd_DM hI hJ) hS 1 0 fd_WM_1 fd_tyM_1 g13 dX11_gate_112 (fun H locs hP _ hS => ?_)
      have hP : va_P D vwCl (fd_WM a k σ14) H := by rw [eσ14]; exact fd_sP fd_WMa_1 hP
      refine lv_aload_n hx hb dX11_gate_113 rfl (lv_at hl 0 rfl) ?_
      refine va_get (ci := 11) (v := .ref (a 2)) (C := RX11) (T := TX11) (N := 43) hx hb hts h9X11 hown hK hP 0 fd_WM_0 rfl 3 (by decide) (hts (.fieldLink RX11 13 "FailDiagnoseModel" "firsts" "[I") (List.mem_of_getElem? (i := 4) (by eq_refl))) (fun _ h9 => h9) rfl dX11_gate_114 ?_
      refine lv_aload_n hx hb dX11_gate_117 rfl (lv_at hl 0 rfl) ?_
      refine va_get (ci := 11) (v := .int (σ14.1 1)) (C := RX11) (T := TX11) (N := 43) hx hb hts h9X11 hown hK hP 0 fd_WM_0 rfl 1 (by decide) (hts (.fieldLink RX11 113 "FailDiagnoseModel" "nets" "I") (List.mem_of_getElem? (i := 1) (by eq_refl))) (fun _ h9 => h9) rfl dX11_gate_118 ?_
      refine lv_iload_n hx hb dX11_gate_121 rfl (lv_at hl 2 rfl) ?_
      obtain ⟨g15, hf⟩ := fd_gds hf
      obtain ⟨σ16, eσ16, hf⟩ := fd_lts hf
      refine va_iast hx hb hK hP (fd_DM hI hJ) hS 2 1 fd_WM_2 fd_tyM_2 g15 dX11_gate_122 (fun H locs hP _ hS => ?_)
      have hP : va_P D vwCl (fd_WM a k σ16) H := by rw [eσ16]; exact fd_sP fd_WMa_2 hP
      refine lv_aload_n hx hb dX11_gate_123 rfl (lv_at hl 0 rfl) ?_
      refine va_get (ci := 11) (v := .ref (a 3)) (C := RX11) (T := TX11) (N := 43) hx hb hts h9X11 hown hK hP 0 fd_WM_0 rfl 4 (by decide) (hts (.fieldLink RX11 16 "FailDiagnoseModel" "seconds" "[I") (List.mem_of_getElem? (i := 5) (by eq_refl))) (fun _ h9 => h9) rfl dX11_gate_124 ?_
      refine lv_aload_n hx hb dX11_gate_127 rfl (lv_at hl 0 rfl) ?_
      refine va_get (ci := 11) (v := .int (σ16.1 1)) (C := RX11) (T := TX11) (N := 43) hx hb hts h9X11 hown hK hP 0 fd_WM_0 rfl 1 (by decide) (hts (.fieldLink RX11 113 "FailDiagnoseModel" "nets" "I") (List.mem_of_getElem? (i := 1) (by eq_refl))) (fun _ h9 => h9) rfl dX11_gate_128 ?_
      refine lv_iload hx hb dX11_gate_131 (lv_at hl 4 rfl) ?_
      refine lv_if_eq (tgt := 140) hx hb dX11_gate_133 (by decide) (fun c17 => ?_) (fun c17 => ?_)
      · have hf := fd_itp c17 hf
        refine lv_iload_n hx hb dX11_gate_140 rfl (lv_at hl 3 rfl) ?_
        exact hL141 (σ16.1 1) y3 σ16 _ _ _ hP hS (lv_sub hl [0] rfl) hf
      · have hf := fd_itn c17 hf
        refine lv_iload_n hx hb dX11_gate_136 rfl (lv_at hl 2 rfl) ?_
        refine lv_goto (tgt := 141) hx hb dX11_gate_137 (by decide) ?_
        exact hL141 (σ16.1 1) y2 σ16 _ _ _ hP hS (lv_sub hl [0] rfl) hf
    · have hf := fd_itn c12 hf
      refine lv_iconst (v := (0 : Int32)) hx hb dX11_gate_101 (by decide) ?_
      exact W.iret (v := (0 : Int32)) hx hb hr (fun t ht hW => ⟨⟨(0 : Int32), σ11, rfl, Option.some.inj hf, by rw [ht]; exact hP, va_K.moved hW.alike hK⟩, hS.F ht⟩) hS.2.2 dX11_gate_102
  have hL86 : ∀ (y1 : Int32) (y2 : Int32) (y3 : Int32) (y4 : Int32) (σ : fd_St) (H : Heap) (locs : List Loc) (ls : Array Slot), va_P D vwCl (fd_WM a k σ) H → va_S (fd_A 29 a s.heap.size) s.heap H locs → lv_has ls 6 [(0, .ref (a 0)), (1, .int y1), (2, .int y2), (3, .int y3), (4, .int y4)] → f_X11_gate_0_J86 N y1 y2 y3 y4 σ = some r → W p l e ((headSpec wsX11_gate ({ frames := 1, cells := 0, slots := 0, locals := 21 })).room) s m ([.ref (a 0), .int p1, .int p2, .int p3].toArray) below meth c H locs 0 0 (MQ below (va_Qi (fun v u => (v, u) = r) (fd_BM D a k) (fd_A 29 a s.heap.size)) ([.ref (a 0), .int p1, .int p2, .int p3].toArray) s 0 0 (fd_A 29 a s.heap.size)) (F0 m 86 ls [.ref (a 0)]) := by
    intro y1 y2 y3 y4 σ H locs ls hP hS hl hf
    unfold f_X11_gate_0_J86 at hf
    refine lv_iconst (v := (3 : Int32)) hx hb dX11_gate_86 (by decide) ?_
    refine lv_goto (tgt := 91) hx hb dX11_gate_87 (by decide) ?_
    exact hL91 y1 y2 y3 y4 (3 : Int32) σ _ _ _ hP hS (lv_sub hl [0, 1, 2, 3, 4] rfl) hf
  have hL50 : ∀ (y1 : Int32) (y2 : Int32) (y3 : Int32) (y4 : Int32) (z0 : Int32) (σ : fd_St) (H : Heap) (locs : List Loc) (ls : Array Slot), va_P D vwCl (fd_WM a k σ) H → va_S (fd_A 29 a s.heap.size) s.heap H locs → lv_has ls 6 [(0, .ref (a 0)), (1, .int y1), (2, .int y2), (3, .int y3), (4, .int y4)] → f_X11_gate_0_J50 N y1 y2 y3 y4 z0 σ = some r → W p l e ((headSpec wsX11_gate ({ frames := 1, cells := 0, slots := 0, locals := 21 })).room) s m ([.ref (a 0), .int p1, .int p2, .int p3].toArray) below meth c H locs 0 0 (MQ below (va_Qi (fun v u => (v, u) = r) (fd_BM D a k) (fd_A 29 a s.heap.size)) ([.ref (a 0), .int p1, .int p2, .int p3].toArray) s 0 0 (fd_A 29 a s.heap.size)) (F0 m 50 ls [.int z0]) := by
    intro y1 y2 y3 y4 z0 σ H locs ls hP hS hl hf
    unfold f_X11_gate_0_J50 at hf
    refine lv_istore (lv' := [(5, .int z0), (0, .ref (a 0)), (1, .int y1), (2, .int y2), (3, .int y3), (4, .int y4)]) hx hb dX11_gate_50 hl (by decide) rfl (fun ls hl => ?_)
    refine lv_aload_n hx hb dX11_gate_52 rfl (lv_at hl 1 rfl) ?_
    refine lv_iload hx hb dX11_gate_53 (lv_at hl 0 rfl) ?_
    refine lv_if_ne (tgt := 62) hx hb dX11_gate_55 (by decide) (fun c8 => ?_) (fun c8 => ?_)
    · have hf := fd_itn c8 hf
      refine lv_aload_n hx hb dX11_gate_62 rfl (lv_at hl 1 rfl) ?_
      refine va_get (ci := 11) (v := .int (σ.1 1)) (C := RX11) (T := TX11) (N := 43) hx hb hts h9X11 hown hK hP 0 fd_WM_0 rfl 1 (by decide) (hts (.fieldLink RX11 113 "FailDiagnoseModel" "nets" "I") (List.mem_of_getElem? (i := 1) (by eq_refl))) (fun _ h9 => h9) rfl dX11_gate_63 ?_
      refine lv_sipush (v := (200 : Int32)) hx hb dX11_gate_66 (by decide) ?_
      refine lv_icmp_ne (tgt := 76) hx hb dX11_gate_69 (by decide) (fun c9 => ?_) (fun c9 => ?_)
      · have hf := fd_itn c9 hf
        refine lv_iload_n hx hb dX11_gate_76 rfl (lv_at hl 2 rfl) ?_
        refine lv_if_lt (tgt := 86) hx hb dX11_gate_77 (by decide) (fun c10 => ?_) (fun c10 => ?_)
        · have hf := fd_itp c10 hf
          exact hL86 y1 y2 y3 y4 σ _ _ _ hP hS (lv_sub hl [1, 2, 3, 4, 5] rfl) hf
        · have hf := fd_itn c10 hf
          refine lv_iload_n hx hb dX11_gate_80 rfl (lv_at hl 2 rfl) ?_
          refine lv_bipush (v := (6 : Int32)) hx hb dX11_gate_81 (by decide) ?_
          refine lv_icmp_le (tgt := 90) hx hb dX11_gate_83 (by decide) (fun c26 => ?_) (fun c26 => ?_)
          · have hf := fd_itp c26 hf
            refine lv_iconst (v := (0 : Int32)) hx hb dX11_gate_90 (by decide) ?_
            exact hL91 y1 y2 y3 y4 (0 : Int32) σ _ _ _ hP hS (lv_sub hl [1, 2, 3, 4, 5] rfl) hf
          · have hf := fd_itn c26 hf
            exact hL86 y1 y2 y3 y4 σ _ _ _ hP hS (lv_sub hl [1, 2, 3, 4, 5] rfl) hf
      · have hf := fd_itp c9 hf
        refine lv_iconst (v := (2 : Int32)) hx hb dX11_gate_72 (by decide) ?_
        refine lv_goto (tgt := 91) hx hb dX11_gate_73 (by decide) ?_
        exact hL91 y1 y2 y3 y4 (2 : Int32) σ _ _ _ hP hS (lv_sub hl [1, 2, 3, 4, 5] rfl) hf
    · have hf := fd_itp c8 hf
      refine lv_iconst (v := (1 : Int32)) hx hb dX11_gate_58 (by decide) ?_
      refine lv_goto (tgt := 91) hx hb dX11_gate_59 (by decide) ?_
      exact hL91 y1 y2 y3 y4 (1 : Int32) σ _ _ _ hP hS (lv_sub hl [1, 2, 3, 4, 5] rfl) hf
  have hL49 : ∀ (y1 : Int32) (y2 : Int32) (y3 : Int32) (y4 : Int32) (σ : fd_St) (H : Heap) (locs : List Loc) (ls : Array Slot), va_P D vwCl (fd_WM a k σ) H → va_S (fd_A 29 a s.heap.size) s.heap H locs → lv_has ls 6 [(0, .ref (a 0)), (1, .int y1), (2, .int y2), (3, .int y3), (4, .int y4)] → f_X11_gate_0_J49 N y1 y2 y3 y4 σ = some r → W p l e ((headSpec wsX11_gate ({ frames := 1, cells := 0, slots := 0, locals := 21 })).room) s m ([.ref (a 0), .int p1, .int p2, .int p3].toArray) below meth c H locs 0 0 (MQ below (va_Qi (fun v u => (v, u) = r) (fd_BM D a k) (fd_A 29 a s.heap.size)) ([.ref (a 0), .int p1, .int p2, .int p3].toArray) s 0 0 (fd_A 29 a s.heap.size)) (F0 m 49 ls []) := by
    intro y1 y2 y3 y4 σ H locs ls hP hS hl hf
    unfold f_X11_gate_0_J49 at hf
    refine lv_iconst (v := (0 : Int32)) hx hb dX11_gate_49 (by decide) ?_
    exact hL50 y1 y2 y3 y4 (0 : Int32) σ _ _ _ hP hS (lv_sub hl [0, 1, 2, 3, 4] rfl) hf
  have hL45 : ∀ (y1 : Int32) (y2 : Int32) (y3 : Int32) (y4 : Int32) (σ : fd_St) (H : Heap) (locs : List Loc) (ls : Array Slot), va_P D vwCl (fd_WM a k σ) H → va_S (fd_A 29 a s.heap.size) s.heap H locs → lv_has ls 6 [(0, .ref (a 0)), (1, .int y1), (2, .int y2), (3, .int y3), (4, .int y4)] → f_X11_gate_0_J45 N y1 y2 y3 y4 σ = some r → W p l e ((headSpec wsX11_gate ({ frames := 1, cells := 0, slots := 0, locals := 21 })).room) s m ([.ref (a 0), .int p1, .int p2, .int p3].toArray) below meth c H locs 0 0 (MQ below (va_Qi (fun v u => (v, u) = r) (fd_BM D a k) (fd_A 29 a s.heap.size)) ([.ref (a 0), .int p1, .int p2, .int p3].toArray) s 0 0 (fd_A 29 a s.heap.size)) (F0 m 45 ls []) := by
    intro y1 y2 y3 y4 σ H locs ls hP hS hl hf
    unfold f_X11_gate_0_J45 at hf
    refine lv_iconst (v := (1 : Int32)) hx hb dX11_gate_45 (by decide) ?_
    refine lv_goto (tgt := 50) hx hb dX11_gate_46 (by decide) ?_
    exact hL50 y1 y2 y3 y4 (1 : Int32) σ _ _ _ hP hS (lv_sub hl [0, 1, 2, 3, 4] rfl) hf
  have hL16 : ∀ (y1 : Int32) (y2 : Int32) (y3 : Int32) (z0 : Int32) (σ : fd_St) (H : Heap) (locs : List Loc) (ls : Array Slot), va_P D vwCl (fd_WM a k σ) H → va_S (fd_A 29 a s.heap.size) s.heap H locs → lv_has ls 6 [(0, .ref (a 0)), (1, .int y1), (2, .int y2), (3, .int y3)] → f_X11_gate_0_J16 N y1 y2 y3 z0 σ = some r → W p l e ((headSpec wsX11_gate ({ frames := 1, cells := 0, slots := 0, locals := 21 })).room) s m ([.ref (a 0), .int p1, .int p2, .int p3].toArray) below meth c H locs 0 0 (MQ below (va_Qi (fun v u => (v, u) = r) (fd_BM D a k) (fd_A 29 a s.heap.size)) ([.ref (a 0), .int p1, .int p2, .int p3].toArray) s 0 0 (fd_A 29 a s.heap.size)) (F0 m 16 ls [.int z0]) := by
    intro y1 y2 y3 z0 σ H locs ls hP hS hl hf
    unfold f_X11_gate_0_J16 at hf
    refine lv_istore (lv' := [(4, .int z0), (0, .ref (a 0)), (1, .int y1), (2, .int y2), (3, .int y3)]) hx hb dX11_gate_16 hl (by decide) rfl (fun ls hl => ?_)
    refine lv_iload_n hx hb dX11_gate_18 rfl (lv_at hl 3 rfl) ?_
    refine lv_aload_n hx hb dX11_gate_19 rfl (lv_at hl 1 rfl) ?_
    refine va_get (ci := 11) (v := .int (σ.1 1)) (C := RX11) (T := TX11) (N := 43) hx hb hts h9X11 hown hK hP 0 fd_WM_0 rfl 1 (by decide) (hts (.fieldLink RX11 113 "FailDiagnoseModel" "nets" "I") (List.mem_of_getElem? (i := 1) (by eq_refl))) (fun _ h9 => h9) rfl dX11_gate_20 ?_
    obtain ⟨w5, τ6, hc2, hf⟩ := fd_bds hf
    refine va_calli (va_runS (As := [.int y2, .int (σ.1 1)]) (rest := []) ⟨hx, hb, hml, hown, hts⟩ (m_X11_isIn l D a k H.size hI N y2 (σ.1 1) σ _ hc2) (va_cwS 2 hts gX11_gate_X11_isIn rfl rfl rfl (by decide +kernel) ⟨Nat.le_of_ble_eq_true rfl, Nat.le_of_ble_eq_true rfl⟩) ⟨fd_blM, fd_prM hP hK⟩ rfl rfl hl.1 rfl (lv_room (Nat.le_of_ble_eq_true rfl)) dX11_gate_23 ⟨Nat.zero_le _, Nat.zero_le _⟩) hS (fun q _ h => fd_A_mono hS.1 h) (fun q h => fd_A_mono hS.1 h) (fun v3 u t H1 locs ht hvm hw hB hz hk hS => ?_)
    obtain ⟨hP1, hK1⟩ := hB
    rw [ht] at hP1
    obtain ⟨e1, e2⟩ := Prod.mk.inj hw
    subst e1
    subst e2
    obtain ⟨σ4, rfl⟩ : ∃ z, z = u := ⟨_, rfl⟩
    have hP := hP1
    generalize H1 = H at hP hS ⊢
    refine lv_if_eq (tgt := 49) hx hb dX11_gate_26 (by decide) (fun c7 => ?_) (fun c7 => ?_)
    · have hf := fd_itp c7 hf
      exact hL49 y1 y2 y3 z0 σ4 _ _ _ hP hS (lv_sub hl [1, 2, 3, 4, 0] rfl) hf
    · have hf := fd_itn c7 hf
      refine lv_iload hx hb dX11_gate_29 (lv_at hl 0 rfl) ?_
      refine lv_if_ne (tgt := 45) hx hb dX11_gate_31 (by decide) (fun c27 => ?_) (fun c27 => ?_)
      · have hf := fd_itn c27 hf
        exact hL45 y1 y2 y3 z0 σ4 _ _ _ hP hS (lv_sub hl [1, 2, 3, 4, 0] rfl) hf
      · have hf := fd_itp c27 hf
        refine lv_iload_n hx hb dX11_gate_34 rfl (lv_at hl 4 rfl) ?_
        refine lv_aload_n hx hb dX11_gate_35 rfl (lv_at hl 1 rfl) ?_
        refine va_get (ci := 11) (v := .int (σ4.1 1)) (C := RX11) (T := TX11) (N := 43) hx hb hts h9X11 hown hK hP 0 fd_WM_0 rfl 1 (by decide) (hts (.fieldLink RX11 113 "FailDiagnoseModel" "nets" "I") (List.mem_of_getElem? (i := 1) (by eq_refl))) (fun _ h9 => h9) rfl dX11_gate_36 ?_
        obtain ⟨w31, τ32, hc28, hf⟩ := fd_bds hf
        refine va_calli (va_runS (As := [.int y3, .int (σ4.1 1)]) (rest := []) ⟨hx, hb, hml, hown, hts⟩ (m_X11_isIn l D a k H.size hI N y3 (σ4.1 1) σ4 _ hc28) (va_cwS 2 hts gX11_gate_X11_isIn rfl rfl rfl (by decide +kernel) ⟨Nat.le_of_ble_eq_true rfl, Nat.le_of_ble_eq_true rfl⟩) ⟨fd_blM, fd_prM hP hK⟩ rfl rfl hl.1 rfl (lv_room (Nat.le_of_ble_eq_true rfl)) dX11_gate_39 ⟨Nat.zero_le _, Nat.zero_le _⟩) hS (fun q _ h => fd_A_mono hS.1 h) (fun q h => fd_A_mono hS.1 h) (fun v29 u t H1 locs ht hvm hw hB hz hk hS => ?_)
        obtain ⟨hP1, hK1⟩ := hB
        rw [ht] at hP1
        obtain ⟨e1, e2⟩ := Prod.mk.inj hw
        subst e1
        subst e2
        obtain ⟨σ30, rfl⟩ : ∃ z, z = u := ⟨_, rfl⟩
        have hP := hP1
        generalize H1 = H at hP hS ⊢
        refine lv_if_eq (tgt := 49) hx hb dX11_gate_42 (by decide) (fun c33 => ?_) (fun c33 => ?_)
        · have hf := fd_itp c33 hf
          exact hL49 y1 y2 y3 z0 σ30 _ _ _ hP hS (lv_sub hl [1, 2, 3, 4, 0] rfl) hf
        · have hf := fd_itn c33 hf
          exact hL45 y1 y2 y3 z0 σ30 _ _ _ hP hS (lv_sub hl [1, 2, 3, 4, 0] rfl) hf
  have hL11 : ∀ (y1 : Int32) (y2 : Int32) (y3 : Int32) (σ : fd_St) (H : Heap) (locs : List Loc) (ls : Array Slot), va_P D vwCl (fd_WM a k σ) H → va_S (fd_A 29 a s.heap.size) s.heap H locs → lv_has ls 6 [(0, .ref (a 0)), (1, .int y1), (2, .int y2), (3, .int y3)] → f_X11_gate_0_J11 N y1 y2 y3 σ = some r → W p l e ((headSpec wsX11_gate ({ frames := 1, cells := 0, slots := 0, locals := 21 })).room) s m ([.ref (a 0), .int p1, .int p2, .int p3].toArray) below meth c H locs 0 0 (MQ below (va_Qi (fun v u => (v, u) = r) (fd_BM D a k) (fd_A 29 a s.heap.size)) ([.ref (a 0), .int p1, .int p2, .int p3].toArray) s 0 0 (fd_A 29 a s.heap.size)) (F0 m 11 ls []) := by
    intro y1 y2 y3 σ H locs ls hP hS hl hf
    unfold f_X11_gate_0_J11 at hf
    refine lv_iconst (v := (1 : Int32)) hx hb dX11_gate_11 (by decide) ?_
    refine lv_goto (tgt := 16) hx hb dX11_gate_12 (by decide) ?_
    exact hL16 y1 y2 y3 (1 : Int32) σ _ _ _ hP hS (lv_sub hl [0, 1, 2, 3] rfl) hf
  unfold f_X11_gate_0 at hf
  refine lv_iload_n hx hb dX11_gate_0 rfl (lv_at hl 1 rfl) ?_
  refine lv_iconst (v := (5 : Int32)) hx hb dX11_gate_1 (by decide) ?_
  refine lv_icmp_eq (tgt := 11) hx hb dX11_gate_2 (by decide) (fun c1 => ?_) (fun c1 => ?_)
  · have hf := fd_itp c1 hf
    exact hL11 p1 p2 p3 σ _ _ _ hP hS (lv_sub hl [0, 1, 2, 3] rfl) hf
  · have hf := fd_itn c1 hf
    refine lv_iload_n hx hb dX11_gate_5 rfl (lv_at hl 1 rfl) ?_
    refine lv_bipush (v := (6 : Int32)) hx hb dX11_gate_6 (by decide) ?_
    refine lv_icmp_ne (tgt := 15) hx hb dX11_gate_8 (by decide) (fun c34 => ?_) (fun c34 => ?_)
    · have hf := fd_itn c34 hf
      refine lv_iconst (v := (0 : Int32)) hx hb dX11_gate_15 (by decide) ?_
      exact hL16 p1 p2 p3 (0 : Int32) σ _ _ _ hP hS (lv_sub hl [0, 1, 2, 3] rfl) hf
    · have hf := fd_itp c34 hf
      exact hL11 p1 p2 p3 σ _ _ _ hP hS (lv_sub hl [0, 1, 2, 3] rfl) hf
noncomputable def f_X5_size_2 (N : Nat) (σ : fd_St) : Option (Int32 × fd_St) := some (σ.1 4, σ)
set_option maxHeartbeats 4000000 in
set_option maxRecDepth 100000 in
theorem m_X5_size_2 (l : Launch) (D : va_G) (a : Nat → Nat) (k : Nat → ClassId) (sz : Nat) (hI : fd_I 39 a) (N : Nat) (σ : fd_St) (r : Int32 × fd_St) (hf : f_X5_size_2 N σ = some r) : Met l yX5_size wsX5_size ({ frames := 0, cells := 0, slots := 0, locals := 0 }) (va_Pc [.ref (a 2)] (fd_PC D a k sz σ)) (va_Qi (fun v u => (v, u) = r) (fd_BC D a k) (fd_A 39 a sz)) 0 0 (fd_A 39 a sz) := by
  refine Met.ofW (cc := cX5_size) (maxL := 1) (ret := (some .int)) (by decide) rfl ?_
  intro p e s m args below meth c s₁ B hml hv
  obtain ⟨rfl, hsz, hP, hK⟩ := hv
  have hx := B.exec
  have hb := B.bytes
  have hr := B.returns
  have hts := atoms_spec (ws := wsX5_size) B.pre
  have hown : s.vm.findClass RX5 = some m.cls := findClass_of_methodNamed B.named
  have hlocks := B.notSynchronized
  subst hsz
  have hJ : ∀ i, i < 39 → fd_A 39 a s.heap.size (a i) := fun i hi => Or.inl ⟨i, hi, rfl⟩
  have hS : va_S (fd_A 39 a s.heap.size) s.heap s.heap [] := va_S.rf
  have hl := lv_entry ([.ref (a 2)]) (n := 1) (Nat.le_of_ble_eq_true rfl)
  rw [lg_entry_eq]
  generalize (lg_sl ([.ref (a 2)]) ++ List.replicate (1 - (lg_sl ([.ref (a 2)])).length) Slot.unset).toArray = ls at hl ⊢
  have hl : lv_has ls 1 [(0, .ref (a 2))] := hl
  have h9X5 : ∀ w ∈ u_ws RX5 TX5 3, w ∈ wsX5_size := fd_su [2, 3, 4] (by eq_refl)
  unfold f_X5_size_2 at hf
  refine lv_aload_n hx hb dX5_size_0 rfl (lv_at hl 0 rfl) ?_
  refine va_get (ci := 5) (v := .int (σ.1 4)) (C := RX5) (T := TX5) (N := 3) hx hb hts h9X5 hown hK hP 2 fd_WC_2 rfl 2 (by decide) (hts (.fieldLink RX5 19 "FailDiagnose$Outputs" "size" "I") (List.mem_of_getElem? (i := 1) (by eq_refl))) (fun _ h9 => h9) rfl dX5_size_1 ?_
  exact W.iret (v := (σ.1 4)) hx hb hr (fun t ht hW => ⟨⟨σ.1 4, σ, rfl, Option.some.inj hf, by rw [ht]; exact hP, va_K.moved hW.alike hK⟩, hS.F ht⟩) hS.2.2 dX5_size_4
noncomputable def f_X5_add_2 (N : Nat) (p1 : Int32) (σ : fd_St) : Option (Int32 × fd_St) := fd_gd (vp_in (σ.1 4) 32) (fd_lt (fd_sA 18 (σ.1 4) p1 σ) (fun σ2 => fd_gd (vp_in (σ2.1 4) 32) (fd_lt (fd_sL 19 (σ2.1 4) (0 : Int64) σ2) (fun σ4 => fd_lt (fd_sI 4 ((σ4.1 4) + (1 : Int32)) σ4) (fun σ5 => some ((σ5.1 4) - (1 : Int32), σ5))))))
set_option maxHeartbeats 4000000 in
set_option maxRecDepth 100000 in
theorem m_X5_add_2 (l : Launch) (D : va_G) (a : Nat → Nat) (k : Nat → ClassId) (sz : Nat) (hI : fd_I 39 a) (N : Nat) (p1 : Int32) (σ : fd_St) (r : Int32 × fd_St) (hf : f_X5_add_2 N p1 σ = some r) : Met l yX5_add wsX5_add ({ frames := 0, cells := 0, slots := 0, locals := 0 }) (va_Pc [.ref (a 2), .int p1] (fd_PC D a k sz σ)) (va_Qi (fun v u => (v, u) = r) (fd_BC D a k) (fd_A 39 a sz)) 0 0 (fd_A 39 a sz) := by
  refine Met.ofW (cc := cX5_add) (maxL := 2) (ret := (some .int)) (by decide) rfl ?_
  intro p e s m args below meth c s₁ B hml hv
  obtain ⟨rfl, hsz, hP, hK⟩ := hv
  have hx := B.exec
  have hb := B.bytes
  have hr := B.returns
  have hts := atoms_spec (ws := wsX5_add) B.pre
  have hown : s.vm.findClass RX5 = some m.cls := findClass_of_methodNamed B.named
  have hlocks := B.notSynchronized
  subst hsz
  have hJ : ∀ i, i < 39 → fd_A 39 a s.heap.size (a i) := fun i hi => Or.inl ⟨i, hi, rfl⟩
  have hS : va_S (fd_A 39 a s.heap.size) s.heap s.heap [] := va_S.rf
  have hl := lv_entry ([.ref (a 2), .int p1]) (n := 2) (Nat.le_of_ble_eq_true rfl)
  rw [lg_entry_eq]
  generalize (lg_sl ([.ref (a 2), .int p1]) ++ List.replicate (2 - (lg_sl ([.ref (a 2), .int p1])).length) Slot.unset).toArray = ls at hl ⊢
  have hl : lv_has ls 2 [(0, .ref (a 2)), (1, .int p1)] := hl
  have h9X5 : ∀ w ∈ u_ws RX5 TX5 3, w ∈ wsX5_add := fd_su [4, 5, 6] (by eq_refl)
  unfold f_X5_add_2 at hf
  refine lv_aload_n hx hb dX5_add_0 rfl (lv_at hl 0 rfl) ?_
  refine va_get (ci := 5) (v := .ref (a 18)) (C := RX5) (T := TX5) (N := 3) hx hb hts h9X5 hown hK hP 2 fd_WC_2 rfl 0 (by decide) (hts (.fieldLink RX5 9 "FailDiagnose$Outputs" "nets" "[I") (List.mem_of_getElem? (i := 1) (by eq_refl))) (fun _ h9 => h9) rfl dX5_add_1 ?_
  refine lv_aload_n hx hb dX5_add_4 rfl (lv_at hl 0 rfl) ?_
  refine va_get (ci := 5) (v := .int (σ.1 4)) (C := RX5) (T := TX5) (N := 3) hx hb hts h9X5 hown hK hP 2 fd_WC_2 rfl 2 (by decide) (hts (.fieldLink RX5 19 "FailDiagnose$Outputs" "size" "I") (List.mem_of_getElem? (i := 2) (by eq_refl))) (fun _ h9 => h9) rfl dX5_add_5 ?_
  refine lv_iload_n hx hb dX5_add_8 rfl (lv_at hl 1 rfl) ?_
  obtain ⟨g1, hf⟩ := fd_gds hf
  obtain ⟨σ2, eσ2, hf⟩ := fd_lts hf
  refine va_iast hx hb hK hP (fd_DC hI hJ) hS 18 6 fd_WC_18 fd_tyC_18 g1 dX5_add_9 (fun H locs hP _ hS => ?_)
  have hP : va_P D vwCl (fd_WC a k σ2) H := by rw [eσ2]; exact fd_sP fd_WCa_18 hP
  refine lv_aload_n hx hb dX5_add_10 rfl (lv_at hl 0 rfl) ?_
  refine va_get (ci := 5) (v := .ref (a 19)) (C := RX5) (T := TX5) (N := 3) hx hb hts h9X5 hown hK hP 2 fd_WC_2 rfl 1 (by decide) (hts (.fieldLink RX5 15 "FailDiagnose$Outputs" "fails" "[J") (List.mem_of_getElem? (i := 3) (by eq_refl))) (fun _ h9 => h9) rfl dX5_add_11 ?_
  refine lv_aload_n hx hb dX5_add_14 rfl (lv_at hl 0 rfl) ?_
  refine va_get (ci := 5) (v := .int (σ2.1 4)) (C := RX5) (T := TX5) (N := 3) hx hb hts h9X5 hown hK hP 2 fd_WC_2 rfl 2 (by decide) (hts (.fieldLink RX5 19 "FailDiagnose$Outputs" "size" "I") (List.mem_of_getElem? (i := 2) (by eq_refl))) (fun _ h9 => h9) rfl dX5_add_15 ?_
  refine lv_lconst (v := (0 : Int64)) hx hb dX5_add_18 (by decide) ?_
  obtain ⟨g3, hf⟩ := fd_gds hf
  obtain ⟨σ4, eσ4, hf⟩ := fd_lts hf
  refine va_last hx hb hK hP (fd_DC hI hJ) hS 19 7 fd_WC_19 fd_tyC_19 g3 dX5_add_19 (fun H locs hP _ hS => ?_)
  have hP : va_P D vwCl (fd_WC a k σ4) H := by rw [eσ4]; exact fd_sP fd_WCa_19 hP
  refine lv_aload_n hx hb dX5_add_20 rfl (lv_at hl 0 rfl) ?_
  refine lv_dup hx hb dX5_add_21 rfl ?_
  refine va_get (ci := 5) (v := .int (σ4.1 4)) (C := RX5) (T := TX5) (N := 3) hx hb hts h9X5 hown hK hP 2 fd_WC_2 rfl 2 (by decide) (hts (.fieldLink RX5 19 "FailDiagnose$Outputs" "size" "I") (List.mem_of_getElem? (i := 2) (by eq_refl))) (fun _ h9 => h9) rfl dX5_add_22 ?_
  refine lv_iconst (v := (1 : Int32)) hx hb dX5_add_25 (by decide) ?_
  refine lv_iadd hx hb dX5_add_26 ?_
  obtain ⟨σ5, eσ5, hf⟩ := fd_lts hf
  refine va_put (ci := 5) (v := .int ((σ4.1 4) + (1 : Int32))) (ty := .int) (C := RX5) (T := TX5) (N := 3) hx hb hts h9X5 tyX5 tyX5_ok nmX5 hown hK hP (fd_DC hI hJ) hS 2 fd_WC_2 rfl 2 (by decide) (hts (.fieldLink RX5 19 "FailDiagnose$Outputs" "size" "I") (List.mem_of_getElem? (i := 2) (by eq_refl))) (fun _ h9 => h9) rfl (by decide +kernel) rfl rfl (Nat.le_of_ble_eq_true rfl) dX5_add_27 (fun H locs hP _ hS => ?_)
  have hP : va_P D vwCl (fd_WC a k σ5) H := by rw [eσ5]; exact fd_sP fd_WCi_4 hP
  refine lv_aload_n hx hb dX5_add_30 rfl (lv_at hl 0 rfl) ?_
  refine va_get (ci := 5) (v := .int (σ5.1 4)) (C := RX5) (T := TX5) (N := 3) hx hb hts h9X5 hown hK hP 2 fd_WC_2 rfl 2 (by decide) (hts (.fieldLink RX5 19 "FailDiagnose$Outputs" "size" "I") (List.mem_of_getElem? (i := 2) (by eq_refl))) (fun _ h9 => h9) rfl dX5_add_31 ?_
  refine lv_iconst (v := (1 : Int32)) hx hb dX5_add_34 (by decide) ?_
  refine lv_isub hx hb dX5_add_35 ?_
  exact W.iret (v := ((σ5.1 4) - (1 : Int32))) hx hb hr (fun t ht hW => ⟨⟨(σ5.1 4) - (1 : Int32), σ5, rfl, Option.some.inj hf, by rw [ht]; exact hP, va_K.moved hW.alike hK⟩, hS.F ht⟩) hS.2.2 dX5_add_36
noncomputable def f_X10_output_0 (N : Nat) (p1 : Int32) (σ : fd_St) : Option ((Int32 ⊕ String) × fd_St) := fd_bx (f_X10_needNet_0 N p1 σ) (fun _ σ3 => fd_bd (f_X5_size_2 N σ3) (fun v8 σ9 => if v8 = (32 : Int32) then (some (.inr "java/lang/IllegalStateException", σ9)) else (fd_lt (fd_sI 0 (0 : Int32) σ9) (fun σ13 => fd_bd (f_X5_add_2 N p1 σ13) (fun v15 σ16 => some (.inl v15, σ16)))))) (fun E τ => some (.inr E, τ))
set_option maxHeartbeats 4000000 in
set_option maxRecDepth 100000 in
theorem m_X10_output_0 (l : Launch) (hl9 : l.stackTraces = false) (D : va_G) (a : Nat → Nat) (k : Nat → ClassId) (sz : Nat) (hI : fd_I 39 a) (N : Nat) (p1 : Int32) (σ : fd_St) (r : (Int32 ⊕ String) × fd_St) (hf : f_X10_output_0 N p1 σ = some r) : vx_Met l yX10_output wsX10_output ({ frames := 7, cells := fd_mc r, slots := fd_ms r, locals := 111 }) (va_Pc [.ref (a 0), .int p1] (fd_PZ D a k sz σ)) (va_Qi (fun v u => (Sum.inl v, u) = r) (fd_BC D a k) (fd_A 39 a sz)) (fd_X D a k (fd_A 39 a sz) r) (fd_mc r) (fd_ms r) (fd_A 39 a sz) := by
  refine vx_ofW (cc := cX10_output) (maxL := 2) (ret := (some .int)) (by decide) rfl ?_
  intro p e s m args below meth c s₁ B hml hex hv
  obtain ⟨rfl, ⟨hsz, hP, hK⟩, hZ⟩ := hv
  have hx := B.exec
  have hb := B.bytes
  have hr := B.returns
  have hts := atoms_spec (ws := wsX10_output) B.pre
  have hown : s.vm.findClass RX10 = some m.cls := findClass_of_methodNamed B.named
  have hlocks := B.notSynchronized
  subst hsz
  have hJ : ∀ i, i < 39 → fd_A 39 a s.heap.size (a i) := fun i hi => Or.inl ⟨i, hi, rfl⟩
  have hS : va_S (fd_A 39 a s.heap.size) s.heap s.heap [] := va_S.rf
  have hl := lv_entry ([.ref (a 0), .int p1]) (n := 2) (Nat.le_of_ble_eq_true rfl)
  rw [lg_entry_eq]
  generalize (lg_sl ([.ref (a 0), .int p1]) ++ List.replicate (2 - (lg_sl ([.ref (a 0), .int p1])).length) Slot.unset).toArray = ls at hl ⊢
  have hl : lv_has ls 2 [(0, .ref (a 0)), (1, .int p1)] := hl
  have h9X10 : ∀ w ∈ u_ws RX10 TX10 8, w ∈ wsX10_output := fd_su [31, 32, 33, 34, 35, 36, 37, 38] (by eq_refl)
  unfold f_X10_output_0 at hf
  refine lv_aload_n hx hb dX10_output_0 rfl (lv_at hl 0 rfl) ?_
  refine lv_iload_n hx hb dX10_output_1 rfl (lv_at hl 1 rfl) ?_
  rcases fd_bxs hf with ⟨w4, τ5, hc1, hf⟩ | ⟨E6, τ5, hc1, hf⟩
  · refine vx_callv (vx_runV (As := [.int p1]) (rest := []) ⟨hx, hb, hml, hown, hts⟩ (m_X10_needNet_0 l hl9 D a k s.heap.size hI N p1 σ _ hc1) (cwV 1 hts gX10_output_X10_needNet rfl rfl rfl (by decide +kernel) ⟨Nat.le_of_ble_eq_true rfl, Nat.le_of_ble_eq_true rfl⟩) ⟨fd_blZ, va_recv hK hP (ci := 10) (q0 := 0) rfl fd_WC_0, fd_prZ hP hK hZ hS⟩ rfl rfl hl.1 rfl (lv_room (Nat.le_of_ble_eq_true rfl)) dX10_output_2 ⟨Nat.zero_le _, Nat.zero_le _⟩) hS (fun q _ h => fd_A_mono hS.1 h) (fun q h => fd_A_mono hS.1 h) (fun q _ h => fd_A_mono hS.1 h) (fun E ce q9 u t H1 locs1 ht hvm hp hB => ?_) (fun u t H1 locs ht hvm hw hB hz hk hS => ?_)
    · exact absurd hB.1 (by simp)
    obtain ⟨hP1, hK1⟩ := hB
    rw [ht] at hP1
    have e2 := (Prod.mk.inj hw).2
    subst e2
    obtain ⟨σ3, rfl⟩ : ∃ z, z = u := ⟨_, rfl⟩
    have hP := hP1
    generalize H1 = H at hP hS ⊢
    refine W.cs (cells' := 0) (slots' := 0) rfl rfl ?_
    refine lv_aload_n hx hb dX10_output_5 rfl (lv_at hl 0 rfl) ?_
    refine va_get (ci := 10) (v := .ref (a 2)) (C := RX10) (T := TX10) (N := 8) hx hb hts h9X10 hown hK hP 0 fd_WC_0 rfl 1 (by decide) (hts (.fieldLink RX10 19 "FailDiagnose" "outputs" "LFailDiagnose$Outputs;") (List.mem_of_getElem? (i := 3) (by eq_refl))) (fun _ h9 => h9) rfl dX10_output_6 ?_
    obtain ⟨w10, τ11, hc7, hf⟩ := fd_bds hf
    refine va_calli (va_runV (As := []) (rest := []) ⟨hx, hb, hml, hown, hts⟩ (m_X5_size_2 l D a k H.size hI N σ3 _ hc7) (cwV 0 hts gX10_output_X5_size rfl rfl rfl (by decide +kernel) ⟨Nat.le_of_ble_eq_true rfl, Nat.le_of_ble_eq_true rfl⟩) ⟨fd_blC, va_recv hK hP (ci := 5) (q0 := 2) rfl fd_WC_2, fd_prC hP hK⟩ rfl rfl hl.1 rfl (lv_room (Nat.le_of_ble_eq_true rfl)) dX10_output_9 ⟨Nat.zero_le _, Nat.zero_le _⟩) hS (fun q _ h => fd_A_mono hS.1 h) (fun q h => fd_A_mono hS.1 h) (fun v8 u t H1 locs ht hvm hw hB hz hk hS => ?_)
    obtain ⟨hP1, hK1⟩ := hB
    rw [ht] at hP1
    obtain ⟨e1, e2⟩ := Prod.mk.inj hw
    subst e1
    subst e2
    obtain ⟨σ9, rfl⟩ : ∃ z, z = u := ⟨_, rfl⟩
    have hP := hP1
    generalize H1 = H at hP hS ⊢
    refine lv_bipush (v := (32 : Int32)) hx hb dX10_output_12 (by decide) ?_
    refine lv_icmp_ne (tgt := 27) hx hb dX10_output_14 (by decide) (fun c12 => ?_) (fun c12 => ?_)
    · have hf := fd_itn c12 hf
      refine lv_aload_n hx hb dX10_output_27 rfl (lv_at hl 0 rfl) ?_
      refine lv_iconst (v := (0 : Int32)) hx hb dX10_output_28 (by decide) ?_
      obtain ⟨σ13, eσ13, hf⟩ := fd_lts hf
      refine va_put (ci := 10) (v := .int (0 : Int32)) (ty := .boolean) (C := RX10) (T := TX10) (N := 8) hx hb hts h9X10 tyX10 tyX10_ok nmX10 hown hK hP (fd_DC hI hJ) hS 0 fd_WC_0 rfl 7 (by decide) (hts (.fieldLink RX10 60 "FailDiagnose" "told" "Z") (List.mem_of_getElem? (i := 4) (by eq_refl))) (fun _ h9 => h9) rfl (by decide +kernel) rfl rfl (Nat.le_of_ble_eq_true rfl) dX10_output_29 (fun H locs hP _ hS => ?_)
      have hP : va_P D vwCl (fd_WC a k σ13) H := by rw [eσ13]; exact fd_sP fd_WCi_0 hP
      refine lv_aload_n hx hb dX10_output_32 rfl (lv_at hl 0 rfl) ?_
      refine va_get (ci := 10) (v := .ref (a 2)) (C := RX10) (T := TX10) (N := 8) hx hb hts h9X10 hown hK hP 0 fd_WC_0 rfl 1 (by decide) (hts (.fieldLink RX10 19 "FailDiagnose" "outputs" "LFailDiagnose$Outputs;") (List.mem_of_getElem? (i := 3) (by eq_refl))) (fun _ h9 => h9) rfl dX10_output_33 ?_
      refine lv_iload_n hx hb dX10_output_36 rfl (lv_at hl 1 rfl) ?_
      obtain ⟨w17, τ18, hc14, hf⟩ := fd_bds hf
      refine va_calli (va_runV (As := [.int p1]) (rest := []) ⟨hx, hb, hml, hown, hts⟩ (m_X5_add_2 l D a k H.size hI N p1 σ13 _ hc14) (cwV 1 hts gX10_output_X5_add rfl rfl rfl (by decide +kernel) ⟨Nat.le_of_ble_eq_true rfl, Nat.le_of_ble_eq_true rfl⟩) ⟨fd_blC, va_recv hK hP (ci := 5) (q0 := 2) rfl fd_WC_2, fd_prC hP hK⟩ rfl rfl hl.1 rfl (lv_room (Nat.le_of_ble_eq_true rfl)) dX10_output_37 ⟨Nat.zero_le _, Nat.zero_le _⟩) hS (fun q _ h => fd_A_mono hS.1 h) (fun q h => fd_A_mono hS.1 h) (fun v15 u t H1 locs ht hvm hw hB hz hk hS => ?_)
      obtain ⟨hP1, hK1⟩ := hB
      rw [ht] at hP1
      obtain ⟨e1, e2⟩ := Prod.mk.inj hw
      subst e1
      subst e2
      obtain ⟨σ16, rfl⟩ : ∃ z, z = u := ⟨_, rfl⟩
      have hP := hP1
      generalize H1 = H at hP hS ⊢
      refine vx_ret (W.widen (k := fd_mc r) (n := fd_ms r) (Nat.zero_le _) (Nat.zero_le _) ?_)
      exact W.iret (v := v15) hx hb hr (fun t ht hW => ⟨⟨v15, σ16, rfl, Option.some.inj hf, by rw [ht]; exact hP, va_K.moved hW.alike hK⟩, hS.F ht⟩) hS.2.2 dX10_output_40
    · have hf := fd_itp c12 hf
      have e19 := Option.some.inj hf
      subst e19
      obtain ⟨sa, hsa⟩ := hZ.str 99 "no room for an output" (by decide +kernel)
      exact vx_throwS (own := RX10) (cls := "java/lang/IllegalStateException") (names := ["java/lang/RuntimeException", "java/lang/Exception"]) hx hb hl9 hown fd_ex_71_75_f fd_ex_n (hts (.classLink RX10 71 "java/lang/IllegalStateException") (List.mem_of_getElem? (i := 1) (by eq_refl))) (hts (.initialized "java/lang/IllegalStateException") (List.mem_of_getElem? (i := 2) (by eq_refl))) hsa (vx_hat (L := vx_atS RX10 75 "java/lang/IllegalStateException" ["java/lang/RuntimeException", "java/lang/Exception"]) (B := fd_bad "java/lang/IllegalStateException") (fun w hw => hts w ((fun w h => List.mem_cons_of_mem _ (List.mem_append_left _ (List.mem_append_right _ h)) : ∀ w ∈ (vx_atS RX10 75 "java/lang/IllegalStateException" ["java/lang/RuntimeException", "java/lang/Exception"]).filter goodWord, w ∈ wsX10_output) w hw)) fd_ex_71_75_b (hZ.bad "java/lang/IllegalStateException" fd_ex_71_75_e)) fd_ex_71_75_g hZ.un hZ.su hS (hl.1.trans hml.symm) dX10_output_17 dX10_output_20 dX10_output_21 dX10_output_23 dX10_output_26 (fun x hx => (hex x hx).elim) (Nat.le_of_ble_eq_true rfl) (Nat.le_of_ble_eq_true rfl) (Nat.le_of_ble_eq_true rfl) (Nat.le_of_ble_eq_true rfl) hlocks (fun t ha hsz hk => ⟨σ9, trivial, ⟨rfl, hP.kept (fun k q hq => hk q.1 (hP k q hq).lt), va_K.moved ha hK⟩, Nat.le_trans hS.1 hsz, fun q h1 h2 => (hk q (Nat.lt_of_lt_of_le h1 hS.1)).trans (hS.2.1 q h1 h2)⟩) hS.2.2 (Nat.le_of_ble_eq_true rfl) (Nat.le_of_ble_eq_true rfl)
  · have er := Option.some.inj hf
    subst er
    refine vx_callv (vx_runV (As := [.int p1]) (rest := []) ⟨hx, hb, hml, hown, hts⟩ (m_X10_needNet_0 l hl9 D a k s.heap.size hI N p1 σ _ hc1) (cwV 1 hts gX10_output_X10_needNet rfl rfl rfl (by decide +kernel) ⟨Nat.le_of_ble_eq_true rfl, Nat.le_of_ble_eq_true rfl⟩) ⟨fd_blZ, va_recv hK hP (ci := 10) (q0 := 0) rfl fd_WC_0, fd_prZ hP hK hZ hS⟩ rfl rfl hl.1 rfl (lv_room (Nat.le_of_ble_eq_true rfl)) dX10_output_2 ⟨Nat.le_of_ble_eq_true rfl, Nat.le_of_ble_eq_true rfl⟩) hS (fun q _ h => fd_A_mono hS.1 h) (fun q h => fd_A_mono hS.1 h) (fun q _ h => fd_A_mono hS.1 h) (fun E ce q9 u t H1 locs1 ht hvm hp hB hz hk hS hce hcv hcl => ?_) (fun u t H1 locs ht hvm hw hB hz hk hS => ?_)
    · obtain ⟨hB0, hP1, hK1⟩ := hB
      rw [ht] at hP1
      exact vx_out (E := E) (fun x hx => (hex x hx).elim) hlocks hce hcv hcl (fun t ht ha => ⟨u, trivial, ⟨fd_inr hB0, by rw [ht]; exact hP1, va_K.moved ha hK⟩, hS.F ht⟩) hS.2.2 (Nat.le_of_ble_eq_true rfl) (Nat.le_of_ble_eq_true rfl)
    · exact absurd hw (by simp)
noncomputable def f_L_output_0_39 (N : Nat) (p1 : Int32) (σ : fd_St) : Option (Int32 × fd_St) := fd_bx (f_X10_output_0 N p1 σ) (fun v2 τ => fd_lt (fd_mix τ σ) (fun σ6 => fd_gd (vp_in (0 : Int32) 1) (fd_lt (fd_sL 39 (0 : Int32) v2.toInt64 σ6) (fun σ9 => some ((0 : Int32), σ9))))) (fun E τ => if E = "java/lang/IndexOutOfBoundsException" then (fd_lt (fd_mix τ σ) (fun σ11 => some ((1 : Int32), σ11))) else (if E = "java/lang/IllegalStateException" then (fd_lt (fd_mix τ σ) (fun σ13 => some ((2 : Int32), σ13))) else (none)))
set_option maxHeartbeats 4000000 in
set_option maxRecDepth 100000 in
theorem m_L_output_0_39 (l : Launch) (hl9 : l.stackTraces = false) (D : va_G) (a : Nat → Nat) (k : Nat → ClassId) (sz : Nat) (hI : fd_I 40 a) (N : Nat) (p1 : Int32) (σ : fd_St) (r : Int32 × fd_St) (hf : f_L_output_0_39 N p1 σ = some r) : Met l yL_output wsL_output ({ frames := 8, cells := 1, slots := 6, locals := 132 }) (va_Pc [.ref (a 0), .int p1, .ref (a 39)] (fd_PH D a k sz σ)) (va_Qi (fun v u => (v, u) = r) (fd_BH D a k) (fd_A 40 a sz)) 1 6 (fd_A 40 a sz) := by
  refine fd_ofWT (cc := cL_output) (maxL := 4) (ret := (some .int)) (by decide) rfl ?_
  intro p e s m args below meth c s₁ B hml hTab hv
  obtain ⟨rfl, hsz, hP, hK, hZ⟩ := hv
  have hx := B.exec
  have hb := B.bytes
  have hr := B.returns
  have hts := atoms_spec (ws := wsL_output) B.pre
  have hown : s.vm.findClass RL = some m.cls := findClass_of_methodNamed B.named
  have hlocks := B.notSynchronized
  subst hsz
  have hJ : ∀ i, i < 40 → fd_A 40 a s.heap.size (a i) := fun i hi => Or.inl ⟨i, hi, rfl⟩
  have hS : va_S (fd_A 40 a s.heap.size) s.heap s.heap [] := va_S.rf
  have hl := lv_entry ([.ref (a 0), .int p1, .ref (a 39)]) (n := 4) (Nat.le_of_ble_eq_true rfl)
  rw [lg_entry_eq]
  generalize (lg_sl ([.ref (a 0), .int p1, .ref (a 39)]) ++ List.replicate (4 - (lg_sl ([.ref (a 0), .int p1, .ref (a 39)])).length) Slot.unset).toArray = ls at hl ⊢
  have hl : lv_has ls 4 [(0, .ref (a 0)), (1, .int p1), (2, .ref (a 39))] := hl
  unfold f_L_output_0_39 at hf
  refine lv_aload_n hx hb dL_output_0 rfl (lv_at hl 2 rfl) ?_
  refine lv_iconst (v := (0 : Int32)) hx hb dL_output_1 (by decide) ?_
  refine lv_aload_n hx hb dL_output_2 rfl (lv_at hl 0 rfl) ?_
  refine lv_iload_n hx hb dL_output_3 rfl (lv_at hl 1 rfl) ?_
  rcases fd_bxs hf with ⟨w3, τ4, hc1, hf⟩ | ⟨E5, τ4, hc1, hf⟩
  · refine vx_calli (vx_runV (As := [.int p1]) (rest := [.int (0 : Int32), .ref (a 39)]) ⟨hx, hb, hml, hown, hts⟩ (m_X10_output_0 l hl9 D a k s.heap.size (fd_I40 hI) N p1 σ _ hc1) (cwV 1 hts gL_output_X10_output rfl rfl rfl (by decide +kernel) ⟨Nat.le_of_ble_eq_true rfl, Nat.le_of_ble_eq_true rfl⟩) ⟨fd_blZ, va_recv (fd_HK hK) (fd_HC hP) (ci := 10) (q0 := 0) rfl fd_WC_0, fd_prHZ hP hK hZ hS⟩ rfl rfl hl.1 rfl (lv_room (Nat.le_of_ble_eq_true rfl)) dL_output_4 ⟨(Nat.zero_le _), (Nat.zero_le _)⟩) hS (fun q _ h => fd_A_sub hS.1 h) (fun q h => fd_A_sub hS.1 h) (fun q _ h => fd_A_sub hS.1 h) (fun E ce q9 u t H1 locs1 ht hvm hp hB => ?_) (fun v2 u t H1 locs ht hvm hw hB hz hk hS => ?_)
    · exact absurd hB.1 (by simp)
    obtain ⟨hP1, hK1⟩ := hB
    rw [ht] at hP1
    obtain ⟨e1, e2⟩ := Prod.mk.inj hw
    obtain e1 := Sum.inl.inj e1
    subst e1
    subst e2
    obtain ⟨σ6, eσ6, hf⟩ := fd_lts hf
    have hP : va_P D vwCl (fd_WH a k σ6) H1 := by rw [eσ6]; exact fd_HJ hI hP hP1 hk
    generalize H1 = H at hP hS ⊢
    refine W.cs (cells' := 0) (slots' := 0) rfl rfl ?_
    refine lv_i2l hx hb dL_output_7 rfl ?_
    obtain ⟨g8, hf⟩ := fd_gds hf
    obtain ⟨σ9, eσ9, hf⟩ := fd_lts hf
    refine va_last hx hb hK hP (fd_DH hI hJ) hS 39 27 fd_WH_39 fd_tyH_39 g8 dL_output_8 (fun H locs hP _ hS => ?_)
    have hP : va_P D vwCl (fd_WH a k σ9) H := by rw [eσ9]; exact fd_sP fd_WHa_39 hP
    refine lv_goto (tgt := 18) hx hb dL_output_9 (by decide) ?_
    refine lv_iconst (v := (0 : Int32)) hx hb dL_output_18 (by decide) ?_
    refine W.widen (k := 1) (n := 6) (Nat.le_of_ble_eq_true rfl) (Nat.le_of_ble_eq_true rfl) ?_
    exact W.iret (v := (0 : Int32)) hx hb hr (fun t ht hW => ⟨⟨(0 : Int32), σ9, rfl, Option.some.inj hf, by rw [ht]; exact hP, va_K.moved hW.alike hK⟩, hS.F ht⟩) hS.2.2 dL_output_19
  · have hE := hf
    by_cases c10 : E5 = "java/lang/IndexOutOfBoundsException"
    · subst c10
      have hf := fd_itp rfl hf
      refine vx_calli (vx_runV (As := [.int p1]) (rest := [.int (0 : Int32), .ref (a 39)]) ⟨hx, hb, hml, hown, hts⟩ (m_X10_output_0 l hl9 D a k s.heap.size (fd_I40 hI) N p1 σ _ hc1) (cwV 1 hts gL_output_X10_output rfl rfl rfl (by decide +kernel) ⟨Nat.le_of_ble_eq_true rfl, Nat.le_of_ble_eq_true rfl⟩) ⟨fd_blZ, va_recv (fd_HK hK) (fd_HC hP) (ci := 10) (q0 := 0) rfl fd_WC_0, fd_prHZ hP hK hZ hS⟩ rfl rfl hl.1 rfl (lv_room (Nat.le_of_ble_eq_true rfl)) dL_output_4 ⟨Nat.le_of_ble_eq_true rfl, Nat.le_of_ble_eq_true rfl⟩) hS (fun q _ h => fd_A_sub hS.1 h) (fun q h => fd_A_sub hS.1 h) (fun q _ h => fd_A_sub hS.1 h) (fun E ce q9 u t H1 locs1 ht hvm hp hB hz hk hS hce hcv hcl => ?_) (fun v2 u t H1 locs ht hvm hw hB hz hk hS => ?_)
      · obtain ⟨hB0, hP1, hK1⟩ := hB
        rw [ht] at hP1
        obtain ⟨e1, e2⟩ := Prod.mk.inj hB0
        obtain e1 := Sum.inr.inj e1
        subst e1
        subst e2
        obtain ⟨σ11, eσ11, hf⟩ := fd_lts hf
        have hP : va_P D vwCl (fd_WH a k σ11) H1 := by rw [eσ11]; exact fd_HJ hI hP hP1 hk
        refine fd_catch (own := RL) (name := "java/lang/IndexOutOfBoundsException") (E := "java/lang/IndexOutOfBoundsException") hown [] ⟨0, 9, 12, 19⟩ [⟨0, 9, 15, 13⟩] (by rw [hTab]; rfl) (fun z hz => nomatch hz) (by decide) (by decide) (hts (.classLink RL 19 "java/lang/IndexOutOfBoundsException") (List.mem_of_getElem? (i := 1) (by eq_refl))) (hZ.cast "java/lang/IndexOutOfBoundsException" (by decide +kernel)) hce hcv hcl ?_
        refine W.cs (cells' := 1) (slots' := 6) rfl rfl ?_
        refine lv_astore_n (lv' := [(3, .ref q9), (0, .ref (a 0)), (1, .int p1), (2, .ref (a 39))]) hx hb dL_output_12 rfl hl (by decide) rfl (fun ls hl => ?_)
        refine lv_iconst (v := (1 : Int32)) hx hb dL_output_13 (by decide) ?_
        refine W.widen (k := 1) (n := 6) (Nat.le_of_ble_eq_true rfl) (Nat.le_of_ble_eq_true rfl) ?_
        exact W.iret (v := (1 : Int32)) hx hb hr (fun t ht hW => ⟨⟨(1 : Int32), σ11, rfl, Option.some.inj hf, by rw [ht]; exact hP, va_K.moved hW.alike hK⟩, hS.F ht⟩) hS.2.2 dL_output_14
      · exact absurd hw (by simp)
    have hf := fd_itn c10 hf
    by_cases c12 : E5 = "java/lang/IllegalStateException"
    · subst c12
      have hf := fd_itp rfl hf
      refine vx_calli (vx_runV (As := [.int p1]) (rest := [.int (0 : Int32), .ref (a 39)]) ⟨hx, hb, hml, hown, hts⟩ (m_X10_output_0 l hl9 D a k s.heap.size (fd_I40 hI) N p1 σ _ hc1) (cwV 1 hts gL_output_X10_output rfl rfl rfl (by decide +kernel) ⟨Nat.le_of_ble_eq_true rfl, Nat.le_of_ble_eq_true rfl⟩) ⟨fd_blZ, va_recv (fd_HK hK) (fd_HC hP) (ci := 10) (q0 := 0) rfl fd_WC_0, fd_prHZ hP hK hZ hS⟩ rfl rfl hl.1 rfl (lv_room (Nat.le_of_ble_eq_true rfl)) dL_output_4 ⟨Nat.le_of_ble_eq_true rfl, Nat.le_of_ble_eq_true rfl⟩) hS (fun q _ h => fd_A_sub hS.1 h) (fun q h => fd_A_sub hS.1 h) (fun q _ h => fd_A_sub hS.1 h) (fun E ce q9 u t H1 locs1 ht hvm hp hB hz hk hS hce hcv hcl => ?_) (fun v2 u t H1 locs ht hvm hw hB hz hk hS => ?_)
      · obtain ⟨hB0, hP1, hK1⟩ := hB
        rw [ht] at hP1
        obtain ⟨e1, e2⟩ := Prod.mk.inj hB0
        obtain e1 := Sum.inr.inj e1
        subst e1
        subst e2
        obtain ⟨σ13, eσ13, hf⟩ := fd_lts hf
        have hP : va_P D vwCl (fd_WH a k σ13) H1 := by rw [eσ13]; exact fd_HJ hI hP hP1 hk
        refine fd_catch (own := RL) (name := "java/lang/IllegalStateException") (E := "java/lang/IllegalStateException") hown [⟨0, 9, 12, 19⟩] ⟨0, 9, 15, 13⟩ [] (by rw [hTab]; rfl) (fun z hz => by
            rcases List.mem_cons.mp hz with rfl | hz
            · exact ⟨by decide, by decide, "java/lang/IndexOutOfBoundsException", hts (.classLink RL 19 "java/lang/IndexOutOfBoundsException") (by decide +kernel), hZ.nc "java/lang/IllegalStateException" "java/lang/IndexOutOfBoundsException" (by decide +kernel)⟩
            cases hz) (by decide) (by decide) (hts (.classLink RL 13 "java/lang/IllegalStateException") (List.mem_of_getElem? (i := 2) (by eq_refl))) (hZ.cast "java/lang/IllegalStateException" (by decide +kernel)) hce hcv hcl ?_
        refine W.cs (cells' := 1) (slots' := 6) rfl rfl ?_
        refine lv_astore_n (lv' := [(3, .ref q9), (0, .ref (a 0)), (1, .int p1), (2, .ref (a 39))]) hx hb dL_output_15 rfl hl (by decide) rfl (fun ls hl => ?_)
        refine lv_iconst (v := (2 : Int32)) hx hb dL_output_16 (by decide) ?_
        refine W.widen (k := 1) (n := 6) (Nat.le_of_ble_eq_true rfl) (Nat.le_of_ble_eq_true rfl) ?_
        exact W.iret (v := (2 : Int32)) hx hb hr (fun t ht hW => ⟨⟨(2 : Int32), σ13, rfl, Option.some.inj hf, by rw [ht]; exact hP, va_K.moved hW.alike hK⟩, hS.F ht⟩) hS.2.2 dL_output_17
      · exact absurd hw (by simp)
    have hf := fd_itn c12 hf
    cases hf
noncomputable def f_X11_output_0_J30 (N : Nat) (y1 : Int32) (z1 : Int32) (σ : fd_St) : Option (Int32 × fd_St) := fd_lt (fd_sI 0 z1 σ) (fun σ8 => if (σ8.1 0) ≤ 0 then (fd_gd (vp_in (σ8.1 3) 32) (fd_lt (fd_sA 5 (σ8.1 3) y1 σ8) (fun σ11 => fd_gd (vp_in (σ11.1 3) 32) (fd_lt (fd_sL 6 (σ11.1 3) (0 : Int64) σ11) (fun σ13 => fd_lt (fd_sI 3 ((σ13.1 3) + (1 : Int32)) σ13) (fun σ14 => fd_bd (f_X11_changed_0 N σ14) (fun _ σ17 => some ((σ17.1 3) - (1 : Int32), σ17)))))))) else (some ((0 : Int32), σ8)))
noncomputable def f_X11_output_0 (N : Nat) (p1 : Int32) (σ : fd_St) : Option (Int32 × fd_St) := fd_bd (f_X11_isIn N p1 (σ.1 1) σ) (fun v2 σ3 => if v2 = 0 then (f_X11_output_0_J30 N p1 (1 : Int32) σ3) else (if (σ3.1 3) = (32 : Int32) then (f_X11_output_0_J30 N p1 (2 : Int32) σ3) else (f_X11_output_0_J30 N p1 (0 : Int32) σ3)))
set_option maxHeartbeats 4000000 in
set_option maxRecDepth 100000 in
theorem m_X11_output_0 (l : Launch) (D : va_G) (a : Nat → Nat) (k : Nat → ClassId) (sz : Nat) (hI : fd_I 29 a) (N : Nat) (p1 : Int32) (σ : fd_St) (r : Int32 × fd_St) (hf : f_X11_output_0 N p1 σ = some r) : Met l yX11_output wsX11_output ({ frames := 1, cells := 0, slots := 0, locals := 21 }) (va_Pc [.ref (a 0), .int p1] (fd_PM D a k sz σ)) (va_Qi (fun v u => (v, u) = r) (fd_BM D a k) (fd_A 29 a sz)) 0 0 (fd_A 29 a sz) := by
  refine Met.ofW (cc := cX11_output) (maxL := 2) (ret := (some .int)) (by decide) rfl ?_
  intro p e s m args below meth c s₁ B hml hv
  obtain ⟨rfl, hsz, hP, hK⟩ := hv
  have hx := B.exec
  have hb := B.bytes
  have hr := B.returns
  have hts := atoms_spec (ws := wsX11_output) B.pre
  have hown : s.vm.findClass RX11 = some m.cls := findClass_of_methodNamed B.named
  have hlocks := B.notSynchronized
  subst hsz
  have hJ : ∀ i, i < 29 → fd_A 29 a s.heap.size (a i) := fun i hi => Or.inl ⟨i, hi, rfl⟩
  have hS : va_S (fd_A 29 a s.heap.size) s.heap s.heap [] := va_S.rf
  have hl := lv_entry ([.ref (a 0), .int p1]) (n := 2) (Nat.le_of_ble_eq_true rfl)
  rw [lg_entry_eq]
  generalize (lg_sl ([.ref (a 0), .int p1]) ++ List.replicate (2 - (lg_sl ([.ref (a 0), .int p1])).length) Slot.unset).toArray = ls at hl ⊢
  have hl : lv_has ls 2 [(0, .ref (a 0)), (1, .int p1)] := hl
  have h9X11 : ∀ w ∈ u_ws RX11 TX11 43, w ∈ wsX11_output := fd_su [16, 17, 18, 19, 20, 21, 22, 23, 24, 25, 26, 27, 28, 29, 30, 31, 32, 33, 34, 35, 36, 37, 38, 39, 40, 41, 42, 43, 44, 45, 46, 47, 48, 49, 50, 51, 52, 53, 54, 55, 56, 57, 58] (by eq_refl)
  have hL30 : ∀ (y1 : Int32) (z1 : Int32) (σ : fd_St) (H : Heap) (locs : List Loc) (ls : Array Slot), va_P D vwCl (fd_WM a k σ) H → va_S (fd_A 29 a s.heap.size) s.heap H locs → lv_has ls 2 [(0, .ref (a 0)), (1, .int y1)] → f_X11_output_0_J30 N y1 z1 σ = some r → W p l e ((headSpec wsX11_output ({ frames := 1, cells := 0, slots := 0, locals := 21 })).room) s m ([.ref (a 0), .int p1].toArray) below meth c H locs 0 0 (MQ below (va_Qi (fun v u => (v, u) = r) (fd_BM D a k) (fd_A 29 a s.heap.size)) ([.ref (a 0), .int p1].toArray) s 0 0 (fd_A 29 a s.heap.size)) (F0 m 30 ls [.int z1, .ref (a 0)]) := by
    intro y1 z1 σ H locs ls hP hS hl hf
    unfold f_X11_output_0_J30 at hf
    obtain ⟨σ8, eσ8, hf⟩ := fd_lts hf
    refine va_put (ci := 11) (v := .int z1) (ty := .int) (C := RX11) (T := TX11) (N := 43) hx hb hts h9X11 tyX11 tyX11_ok nmX11 hown hK hP (fd_DM hI hJ) hS 0 fd_WM_0 rfl 0 (by decide) (hts (.fieldLink RX11 99 "FailDiagnoseModel" "thrown" "I") (List.mem_of_getElem? (i := 3) (by eq_refl))) (fun _ h9 => h9) rfl (by decide +kernel) rfl rfl (Nat.le_of_ble_eq_true rfl) dX11_output_30 (fun H locs hP _ hS => ?_)
    have hP : va_P D vwCl (fd_WM a k σ8) H := by rw [eσ8]; exact fd_sP fd_WMi_0 hP
    refine lv_aload_n hx hb dX11_output_33 rfl (lv_at hl 0 rfl) ?_
    refine va_get (ci := 11) (v := .int (σ8.1 0)) (C := RX11) (T := TX11) (N := 43) hx hb hts h9X11 hown hK hP 0 fd_WM_0 rfl 0 (by decide) (hts (.fieldLink RX11 99 "FailDiagnoseModel" "thrown" "I") (List.mem_of_getElem? (i := 3) (by eq_refl))) (fun _ h9 => h9) rfl dX11_output_34 ?_
    refine lv_if_le (tgt := 42) hx hb dX11_output_37 (by decide) (fun c9 => ?_) (fun c9 => ?_)
    · have hf := fd_itp c9 hf
      refine lv_aload_n hx hb dX11_output_42 rfl (lv_at hl 0 rfl) ?_
      refine va_get (ci := 11) (v := .ref (a 5)) (C := RX11) (T := TX11) (N := 43) hx hb hts h9X11 hown hK hP 0 fd_WM_0 rfl 8 (by decide) (hts (.fieldLink RX11 23 "FailDiagnoseModel" "outputNets" "[I") (List.mem_of_getElem? (i := 4) (by eq_refl))) (fun _ h9 => h9) rfl dX11_output_43 ?_
      refine lv_aload_n hx hb dX11_output_46 rfl (lv_at hl 0 rfl) ?_
      refine va_get (ci := 11) (v := .int (σ8.1 3)) (C := RX11) (T := TX11) (N := 43) hx hb hts h9X11 hown hK hP 0 fd_WM_0 rfl 7 (by decide) (hts (.fieldLink RX11 123 "FailDiagnoseModel" "outputs" "I") (List.mem_of_getElem? (i := 2) (by eq_refl))) (fun _ h9 => h9) rfl dX11_output_47 ?_
      refine lv_iload_n hx hb dX11_output_50 rfl (lv_at hl 1 rfl) ?_
      obtain ⟨g10, hf⟩ := fd_gds hf
      obtain ⟨σ11, eσ11, hf⟩ := fd_lts hf
      refine va_iast hx hb hK hP (fd_DM hI hJ) hS 5 4 fd_WM_5 fd_tyM_5 g10 dX11_output_51 (fun H locs hP _ hS => ?_)
      have hP : va_P D vwCl (fd_WM a k σ11) H := by rw [eσ11]; exact fd_sP fd_WMa_5 hP
      refine lv_aload_n hx hb dX11_output_52 rfl (lv_at hl 0 rfl) ?_
      refine va_get (ci := 11) (v := .ref (a 6)) (C := RX11) (T := TX11) (N := 43) hx hb hts h9X11 hown hK hP 0 fd_WM_0 rfl 9 (by decide) (hts (.fieldLink RX11 26 "FailDiagnoseModel" "fails" "[J") (List.mem_of_getElem? (i := 5) (by eq_refl))) (fun _ h9 => h9) rfl dX11_output_53 ?_
      refine lv_aload_n hx hb dX11_output_56 rfl (lv_at hl 0 rfl) ?_
      refine va_get (ci := 11) (v := .int (σ11.1 3)) (C := RX11) (T := TX11) (N := 43) hx hb hts h9X11 hown hK hP 0 fd_WM_0 rfl 7 (by decide) (hts (.fieldLink RX11 123 "FailDiagnoseModel" "outputs" "I") (List.mem_of_getElem? (i := 2) (by eq_refl))) (fun _ h9 => h9) rfl dX11_output_57 ?_
      refine lv_lconst (v := (0 : Int64)) hx hb dX11_output_60 (by decide) ?_
      obtain ⟨g12, hf⟩ := fd_gds hf
      obtain ⟨σ13, eσ13, hf⟩ := fd_lts hf
      refine va_last hx hb hK hP (fd_DM hI hJ) hS 6 5 fd_WM_6 fd_tyM_6 g12 dX11_output_61 (fun H locs hP _ hS => ?_)
      have hP : va_P D vwCl (fd_WM a k σ13) H := by rw [eσ13]; exact fd_sP fd_WMa_6 hP
      refine lv_aload_n hx hb dX11_output_62 rfl (lv_at hl 0 rfl) ?_
      refine lv_dup hx hb dX11_output_63 rfl ?_
      refine va_get (ci := 11) (v := .int (σ13.1 3)) (C := RX11) (T := TX11) (N := 43) hx hb hts h9X11 hown hK hP 0 fd_WM_0 rfl 7 (by decide) (hts (.fieldLink RX11 123 "FailDiagnoseModel" "outputs" "I") (List.mem_of_getElem? (i := 2) (by eq_refl))) (fun _ h9 => h9) rfl dX11_output_64 ?_
      refine lv_iconst (v := (1 : Int32)) hx hb dX11_output_67 (by decide) ?_
      refine lv_iadd hx hb dX11_output_68 ?_
      obtain ⟨σ14, eσ14, hf⟩ := fd_lts hf
      refine va_put (ci := 11) (v := .int ((σ13.1 3) + (1 : Int32))) (ty := .int) (C := RX11) (T := TX11) (N := 43) hx hb hts h9X11 tyX11 tyX11_ok nmX11 hown hK hP (fd_DM hI hJ) hS 0 fd_WM_0 rfl 7 (by decide) (hts (.fieldLink RX11 123 "FailDiagnoseModel" "outputs" "I") (List.mem_of_getElem? (i := 2) (by eq_refl))) (fun _ h9 => h9) rfl (by decide +kernel) rfl rfl (Nat.le_of_ble_eq_true rfl) dX11_output_69 (fun H locs hP _ hS => ?_)
      have hP : va_P D vwCl (fd_WM a k σ14) H := by rw [eσ14]; exact fd_sP fd_WMi_3 hP
      refine lv_aload_n hx hb dX11_output_72 rfl (lv_at hl 0 rfl) ?_
      obtain ⟨w18, τ19, hc15, hf⟩ := fd_bds hf
      refine va_callv (va_runV (As := []) (rest := []) ⟨hx, hb, hml, hown, hts⟩ (m_X11_changed_0 l D a k H.size hI N σ14 _ hc15) (cwV 0 hts gX11_output_X11_changed rfl rfl rfl (by decide +kernel) ⟨Nat.le_of_ble_eq_true rfl, Nat.le_of_ble_eq_true rfl⟩) ⟨fd_blM, va_recv hK hP (ci := 11) (q0 := 0) rfl fd_WM_0, fd_prM hP hK⟩ rfl rfl hl.1 rfl (lv_room (Nat.le_of_ble_eq_true rfl)) dX11_output_73 ⟨Nat.zero_le _, Nat.zero_le _⟩) hS (fun q _ h => fd_A_mono hS.1 h) (fun q h => fd_A_mono hS.1 h) (fun u t H1 locs ht hvm hw hB hz hk hS => ?_)
      obtain ⟨hP1, hK1⟩ := hB
      rw [ht] at hP1
      have e2 := (Prod.mk.inj hw).2
      subst e2
      obtain ⟨σ17, rfl⟩ : ∃ z, z = u := ⟨_, rfl⟩
      have hP := hP1
      generalize H1 = H at hP hS ⊢
      refine lv_aload_n hx hb dX11_output_76 rfl (lv_at hl 0 rfl) ?_
      refine va_get (ci := 11) (v := .int (σ17.1 3)) (C := RX11) (T := TX11) (N := 43) hx hb hts h9X11 hown hK hP 0 fd_WM_0 rfl 7 (by decide) (hts (.fieldLink RX11 123 "FailDiagnoseModel" "outputs" "I") (List.mem_of_getElem? (i := 2) (by eq_refl))) (fun _ h9 => h9) rfl dX11_output_77 ?_
      refine lv_iconst (v := (1 : Int32)) hx hb dX11_output_80 (by decide) ?_
      refine lv_isub hx hb dX11_output_81 ?_
      exact W.iret (v := ((σ17.1 3) - (1 : Int32))) hx hb hr (fun t ht hW => ⟨⟨(σ17.1 3) - (1 : Int32), σ17, rfl, Option.some.inj hf, by rw [ht]; exact hP, va_K.moved hW.alike hK⟩, hS.F ht⟩) hS.2.2 dX11_output_82
    · have hf := fd_itn c9 hf
      refine lv_iconst (v := (0 : Int32)) hx hb dX11_output_40 (by decide) ?_
      exact W.iret (v := (0 : Int32)) hx hb hr (fun t ht hW => ⟨⟨(0 : Int32), σ8, rfl, Option.some.inj hf, by rw [ht]; exact hP, va_K.moved hW.alike hK⟩, hS.F ht⟩) hS.2.2 dX11_output_41
  unfold f_X11_output_0 at hf
  refine lv_aload_n hx hb dX11_output_0 rfl (lv_at hl 0 rfl) ?_
  refine lv_iload_n hx hb dX11_output_1 rfl (lv_at hl 1 rfl) ?_
  refine lv_aload_n hx hb dX11_output_2 rfl (lv_at hl 0 rfl) ?_
  refine va_get (ci := 11) (v := .int (σ.1 1)) (C := RX11) (T := TX11) (N := 43) hx hb hts h9X11 hown hK hP 0 fd_WM_0 rfl 1 (by decide) (hts (.fieldLink RX11 113 "FailDiagnoseModel" "nets" "I") (List.mem_of_getElem? (i := 1) (by eq_refl))) (fun _ h9 => h9) rfl dX11_output_3 ?_
  obtain ⟨w4, τ5, hc1, hf⟩ := fd_bds hf
  refine va_calli (va_runS (As := [.int p1, .int (σ.1 1)]) (rest := [.ref (a 0)]) ⟨hx, hb, hml, hown, hts⟩ (m_X11_isIn l D a k s.heap.size hI N p1 (σ.1 1) σ _ hc1) (va_cwS 2 hts gX11_output_X11_isIn rfl rfl rfl (by decide +kernel) ⟨Nat.le_of_ble_eq_true rfl, Nat.le_of_ble_eq_true rfl⟩) ⟨fd_blM, fd_prM hP hK⟩ rfl rfl hl.1 rfl (lv_room (Nat.le_of_ble_eq_true rfl)) dX11_output_6 ⟨Nat.zero_le _, Nat.zero_le _⟩) hS (fun q _ h => fd_A_mono hS.1 h) (fun q h => fd_A_mono hS.1 h) (fun v2 u t H1 locs ht hvm hw hB hz hk hS => ?_)
  obtain ⟨hP1, hK1⟩ := hB
  rw [ht] at hP1
  obtain ⟨e1, e2⟩ := Prod.mk.inj hw
  subst e1
  subst e2
  obtain ⟨σ3, rfl⟩ : ∃ z, z = u := ⟨_, rfl⟩
  have hP := hP1
  generalize H1 = H at hP hS ⊢
  refine lv_if_ne (tgt := 16) hx hb dX11_output_9 (by decide) (fun c6 => ?_) (fun c6 => ?_)
  · have hf := fd_itn c6 hf
    refine lv_aload_n hx hb dX11_output_16 rfl (lv_at hl 0 rfl) ?_
    refine va_get (ci := 11) (v := .int (σ3.1 3)) (C := RX11) (T := TX11) (N := 43) hx hb hts h9X11 hown hK hP 0 fd_WM_0 rfl 7 (by decide) (hts (.fieldLink RX11 123 "FailDiagnoseModel" "outputs" "I") (List.mem_of_getElem? (i := 2) (by eq_refl))) (fun _ h9 => h9) rfl dX11_output_17 ?_
    refine lv_bipush (v := (32 : Int32)) hx hb dX11_output_20 (by decide) ?_
    refine lv_icmp_ne (tgt := 29) hx hb dX11_output_22 (by decide) (fun c7 => ?_) (fun c7 => ?_)
    · have hf := fd_itn c7 hf
      refine lv_iconst (v := (0 : Int32)) hx hb dX11_output_29 (by decide) ?_
      exact hL30 p1 (0 : Int32) σ3 _ _ _ hP hS (lv_sub hl [0, 1] rfl) hf
    · have hf := fd_itp c7 hf
      refine lv_iconst (v := (2 : Int32)) hx hb dX11_output_25 (by decide) ?_
      refine lv_goto (tgt := 30) hx hb dX11_output_26 (by decide) ?_
      exact hL30 p1 (2 : Int32) σ3 _ _ _ hP hS (lv_sub hl [0, 1] rfl) hf
  · have hf := fd_itp c6 hf
    refine lv_iconst (v := (1 : Int32)) hx hb dX11_output_12 (by decide) ?_
    refine lv_goto (tgt := 30) hx hb dX11_output_13 (by decide) ?_
    exact hL30 p1 (1 : Int32) σ3 _ _ _ hP hS (lv_sub hl [0, 1] rfl) hf
