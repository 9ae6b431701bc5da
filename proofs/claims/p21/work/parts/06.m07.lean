noncomputable def f_X1_begun_10 (N : Nat) (σ : fd_St) : Option (Int32 × fd_St) := if (σ.1 16) ≤ 0 then (some ((0 : Int32), σ)) else (some ((1 : Int32), σ))
set_option maxHeartbeats 4000000 in
set_option maxRecDepth 100000 in
theorem m_X1_begun_10 (l : Launch) (D : va_G) (a : Nat → Nat) (k : Nat → ClassId) (sz : Nat) (hI : fd_I 39 a) (N : Nat) (σ : fd_St) (r : Int32 × fd_St) (hf : f_X1_begun_10 N σ = some r) : Met l yX1_begun wsX1_begun ({ frames := 0, cells := 0, slots := 0, locals := 0 }) (va_Pc [.ref (a 10)] (fd_PC D a k sz σ)) (va_Qi (fun v u => (v, u) = r) (fd_BC D a k) (fd_A 39 a sz)) 0 0 (fd_A 39 a sz) := by
  refine Met.ofW (cc := cX1_begun) (maxL := 1) (ret := (some .boolean)) (by decide) rfl ?_
  intro p e s m args below meth c s₁ B hml hv
  obtain ⟨rfl, hsz, hP, hK⟩ := hv
  have hx := B.exec
  have hb := B.bytes
  have hr := B.returns
  have hts := atoms_spec (ws := wsX1_begun) B.pre
  have hown : s.vm.findClass RX1 = some m.cls := findClass_of_methodNamed B.named
  have hlocks := B.notSynchronized
  subst hsz
  have hJ : ∀ i, i < 39 → fd_A 39 a s.heap.size (a i) := fun i hi => Or.inl ⟨i, hi, rfl⟩
  have hS : va_S (fd_A 39 a s.heap.size) s.heap s.heap [] := va_S.rf
  have hl := lv_entry ([.ref (a 10)]) (n := 1) (Nat.le_of_ble_eq_true rfl)
  rw [lg_entry_eq]
  generalize (lg_sl ([.ref (a 10)]) ++ List.replicate (1 - (lg_sl ([.ref (a 10)])).length) Slot.unset).toArray = ls at hl ⊢
  have hl : lv_has ls 1 [(0, .ref (a 10))] := hl
  have h9X1 : ∀ w ∈ u_ws RX1 TX1 4, w ∈ wsX1_begun := fd_su [2, 3, 4, 5] (by eq_refl)
  unfold f_X1_begun_10 at hf
  refine lv_aload_n hx hb dX1_begun_0 rfl (lv_at hl 0 rfl) ?_
  refine va_get (ci := 1) (v := .int (σ.1 16)) (C := RX1) (T := TX1) (N := 4) hx hb hts h9X1 hown hK hP 10 fd_WC_10 rfl 2 (by decide) (hts (.fieldLink RX1 18 "FailDiagnose$Chain" "size" "I") (List.mem_of_getElem? (i := 1) (by eq_refl))) (fun _ h9 => h9) rfl dX1_begun_1 ?_
  refine lv_if_le (tgt := 11) hx hb dX1_begun_4 (by decide) (fun c1 => ?_) (fun c1 => ?_)
  · have hf := fd_itp c1 hf
    refine lv_iconst (v := (0 : Int32)) hx hb dX1_begun_11 (by decide) ?_
    exact W.zret (v := (0 : Int32)) (ty := .boolean) hx hb hr rfl (fun t ht hW => ⟨⟨(0 : Int32), σ, rfl, Option.some.inj hf, by rw [ht]; exact hP, va_K.moved hW.alike hK⟩, hS.F ht⟩) hS.2.2 dX1_begun_12
  · have hf := fd_itn c1 hf
    refine lv_iconst (v := (1 : Int32)) hx hb dX1_begun_7 (by decide) ?_
    refine lv_goto (tgt := 12) hx hb dX1_begun_8 (by decide) ?_
    exact W.zret (v := (1 : Int32)) (ty := .boolean) hx hb hr rfl (fun t ht hW => ⟨⟨(1 : Int32), σ, rfl, Option.some.inj hf, by rw [ht]; exact hP, va_K.moved hW.alike hK⟩, hS.F ht⟩) hS.2.2 dX1_begun_12
noncomputable def f_X10_needChain_0 (N : Nat) (σ : fd_St) : Option ((Unit ⊕ String) × fd_St) := fd_bd (f_X1_begun_10 N σ) (fun v2 σ3 => if v2 = 0 then (some (.inr "java/lang/IllegalStateException", σ3)) else (some (.inl (), σ3)))
set_option maxHeartbeats 4000000 in
set_option maxRecDepth 100000 in
theorem m_X10_needChain_0 (l : Launch) (hl9 : l.stackTraces = false) (D : va_G) (a : Nat → Nat) (k : Nat → ClassId) (sz : Nat) (hI : fd_I 39 a) (N : Nat) (σ : fd_St) (r : (Unit ⊕ String) × fd_St) (hf : f_X10_needChain_0 N σ = some r) : vx_Met l yX10_needChain wsX10_needChain ({ frames := 6, cells := fd_mc r, slots := fd_ms r, locals := 90 }) (va_Pc [.ref (a 0)] (fd_PZ D a k sz σ)) (va_Qv (fun u => (Sum.inl (), u) = r) (fd_BC D a k) (fd_A 39 a sz)) (fd_X D a k (fd_A 39 a sz) r) (fd_mc r) (fd_ms r) (fd_A 39 a sz) := by
  refine vx_ofW (cc := cX10_needChain) (maxL := 1) (ret := none) (by decide) rfl ?_
  intro p e s m args below meth c s₁ B hml hex hv
  obtain ⟨rfl, ⟨hsz, hP, hK⟩, hZ⟩ := hv
  have hx := B.exec
  have hb := B.bytes
  have hr := B.returns
  have hts := atoms_spec (ws := wsX10_needChain) B.pre
  have hown : s.vm.findClass RX10 = some m.cls := findClass_of_methodNamed B.named
  have hlocks := B.notSynchronized
  subst hsz
  have hJ : ∀ i, i < 39 → fd_A 39 a s.heap.size (a i) := fun i hi => Or.inl ⟨i, hi, rfl⟩
  have hS : va_S (fd_A 39 a s.heap.size) s.heap s.heap [] := va_S.rf
  have hl := lv_entry ([.ref (a 0)]) (n := 1) (Nat.le_of_ble_eq_true rfl)
  rw [lg_entry_eq]
  generalize (lg_sl ([.ref (a 0)]) ++ List.replicate (1 - (lg_sl ([.ref (a 0)])).length) Slot.unset).toArray = ls at hl ⊢
  have hl : lv_has ls 1 [(0, .ref (a 0))] := hl
  have h9X10 : ∀ w ∈ u_ws RX10 TX10 8, w ∈ wsX10_needChain := fd_su [10, 11, 12, 13, 14, 15, 16, 17] (by eq_refl)
  unfold f_X10_needChain_0 at hf
  refine lv_aload_n hx hb dX10_needChain_0 rfl (lv_at hl 0 rfl) ?_
  refine va_get (ci := 10) (v := .ref (a 10)) (C := RX10) (T := TX10) (N := 8) hx hb hts h9X10 hown hK hP 0 fd_WC_0 rfl 5 (by decide) (hts (.fieldLink RX10 49 "FailDiagnose" "cells" "LFailDiagnose$Chain;") (List.mem_of_getElem? (i := 3) (by eq_refl))) (fun _ h9 => h9) rfl dX10_needChain_1 ?_
  obtain ⟨w4, τ5, hc1, hf⟩ := fd_bds hf
  refine va_calli (va_runV (As := []) (rest := []) ⟨hx, hb, hml, hown, hts⟩ (m_X1_begun_10 l D a k s.heap.size hI N σ _ hc1) (cwV 0 hts gX10_needChain_X1_begun rfl rfl rfl (by decide +kernel) ⟨Nat.le_of_ble_eq_true rfl, Nat.le_of_ble_eq_true rfl⟩) ⟨fd_blC, va_recv hK hP (ci := 1) (q0 := 10) rfl fd_WC_10, fd_prC hP hK⟩ rfl rfl hl.1 rfl (lv_room (Nat.le_of_ble_eq_true rfl)) dX10_needChain_4 ⟨Nat.zero_le _, Nat.zero_le _⟩) hS (fun q _ h => fd_A_mono hS.1 h) (fun q h => fd_A_mono hS.1 h) (fun v2 u t H1 locs ht hvm hw hB hz hk hS => ?_)
  obtain ⟨hP1, hK1⟩ := hB
  rw [ht] at hP1
  obtain ⟨e1, e2⟩ := Prod.mk.inj hw
  subst e1
  subst e2
  obtain ⟨σ3, rfl⟩ : ∃ z, z = u := ⟨_, rfl⟩
  have hP := hP1
  generalize H1 = H at hP hS ⊢
  refine lv_if_ne (tgt := 21) hx hb dX10_needChain_7 (by decide) (fun c6 => ?_) (fun c6 => ?_)
  · have hf := fd_itn c6 hf
    refine vx_ret (W.widen (k := fd_mc r) (n := fd_ms r) (Nat.zero_le _) (Nat.zero_le _) ?_)
    exact W.vret hx hb hr (fun t ht hW => ⟨⟨σ3, rfl, Option.some.inj hf, by rw [ht]; exact hP, va_K.moved hW.alike hK⟩, hS.F ht⟩) hS.2.2 dX10_needChain_21
  · have hf := fd_itp c6 hf
    have e7 := Option.some.inj hf
    subst e7
    obtain ⟨sa, hsa⟩ := hZ.str 267 "there is no chain" (by decide +kernel)
    exact vx_throwSW (own := RX10) (cls := "java/lang/IllegalStateException") (names := ["java/lang/RuntimeException", "java/lang/Exception"]) hx hb hl9 hown fd_ex_71_75_f fd_ex_n (hts (.classLink RX10 71 "java/lang/IllegalStateException") (List.mem_of_getElem? (i := 1) (by eq_refl))) (hts (.initialized "java/lang/IllegalStateException") (List.mem_of_getElem? (i := 2) (by eq_refl))) hsa (vx_hat (L := vx_atS RX10 75 "java/lang/IllegalStateException" ["java/lang/RuntimeException", "java/lang/Exception"]) (B := fd_bad "java/lang/IllegalStateException") (fun w hw => hts w ((fun w h => List.mem_cons_of_mem _ (List.mem_append_right _ h) : ∀ w ∈ (vx_atS RX10 75 "java/lang/IllegalStateException" ["java/lang/RuntimeException", "java/lang/Exception"]).filter goodWord, w ∈ wsX10_needChain) w hw)) fd_ex_71_75_b (hZ.bad "java/lang/IllegalStateException" fd_ex_71_75_e)) fd_ex_71_75_g hZ.un hZ.su hS (hl.1.trans hml.symm) dX10_needChain_10 dX10_needChain_13 dX10_needChain_14 dX10_needChain_17 dX10_needChain_20 (fun x hx => (hex x hx).elim) (Nat.le_of_ble_eq_true rfl) (Nat.le_of_ble_eq_true rfl) (Nat.le_of_ble_eq_true rfl) (Nat.le_of_ble_eq_true rfl) hlocks (fun t ha hsz hk => ⟨σ3, trivial, ⟨rfl, hP.kept (fun k q hq => hk q.1 (hP k q hq).lt), va_K.moved ha hK⟩, Nat.le_trans hS.1 hsz, fun q h1 h2 => (hk q (Nat.lt_of_lt_of_le h1 hS.1)).trans (hS.2.1 q h1 h2)⟩) hS.2.2 (Nat.le_of_ble_eq_true rfl) (Nat.le_of_ble_eq_true rfl)
noncomputable def f_X1_rows_10 (N : Nat) (σ : fd_St) : Option (Int32 × fd_St) := some (σ.1 17, σ)
set_option maxHeartbeats 4000000 in
set_option maxRecDepth 100000 in
theorem m_X1_rows_10 (l : Launch) (D : va_G) (a : Nat → Nat) (k : Nat → ClassId) (sz : Nat) (hI : fd_I 39 a) (N : Nat) (σ : fd_St) (r : Int32 × fd_St) (hf : f_X1_rows_10 N σ = some r) : Met l yX1_rows wsX1_rows ({ frames := 0, cells := 0, slots := 0, locals := 0 }) (va_Pc [.ref (a 10)] (fd_PC D a k sz σ)) (va_Qi (fun v u => (v, u) = r) (fd_BC D a k) (fd_A 39 a sz)) 0 0 (fd_A 39 a sz) := by
  refine Met.ofW (cc := cX1_rows) (maxL := 1) (ret := (some .int)) (by decide) rfl ?_
  intro p e s m args below meth c s₁ B hml hv
  obtain ⟨rfl, hsz, hP, hK⟩ := hv
  have hx := B.exec
  have hb := B.bytes
  have hr := B.returns
  have hts := atoms_spec (ws := wsX1_rows) B.pre
  have hown : s.vm.findClass RX1 = some m.cls := findClass_of_methodNamed B.named
  have hlocks := B.notSynchronized
  subst hsz
  have hJ : ∀ i, i < 39 → fd_A 39 a s.heap.size (a i) := fun i hi => Or.inl ⟨i, hi, rfl⟩
  have hS : va_S (fd_A 39 a s.heap.size) s.heap s.heap [] := va_S.rf
  have hl := lv_entry ([.ref (a 10)]) (n := 1) (Nat.le_of_ble_eq_true rfl)
  rw [lg_entry_eq]
  generalize (lg_sl ([.ref (a 10)]) ++ List.replicate (1 - (lg_sl ([.ref (a 10)])).length) Slot.unset).toArray = ls at hl ⊢
  have hl : lv_has ls 1 [(0, .ref (a 10))] := hl
  have h9X1 : ∀ w ∈ u_ws RX1 TX1 4, w ∈ wsX1_rows := fd_su [2, 3, 4, 5] (by eq_refl)
  unfold f_X1_rows_10 at hf
  refine lv_aload_n hx hb dX1_rows_0 rfl (lv_at hl 0 rfl) ?_
  refine va_get (ci := 1) (v := .int (σ.1 17)) (C := RX1) (T := TX1) (N := 4) hx hb hts h9X1 hown hK hP 10 fd_WC_10 rfl 3 (by decide) (hts (.fieldLink RX1 22 "FailDiagnose$Chain" "rows" "I") (List.mem_of_getElem? (i := 1) (by eq_refl))) (fun _ h9 => h9) rfl dX1_rows_1 ?_
  exact W.iret (v := (σ.1 17)) hx hb hr (fun t ht hW => ⟨⟨σ.1 17, σ, rfl, Option.some.inj hf, by rw [ht]; exact hP, va_K.moved hW.alike hK⟩, hS.F ht⟩) hS.2.2 dX1_rows_4
noncomputable def f_X1_addRow_10 (N : Nat) (p1 : Int64) (p3 : Int64) (σ : fd_St) : Option (Int32 × fd_St) := fd_gd (vp_in (σ.1 17) 30) (fd_lt (fd_sL 30 (σ.1 17) p1 σ) (fun σ2 => fd_gd (vp_in (σ2.1 17) 30) (fd_lt (fd_sL 31 (σ2.1 17) p3 σ2) (fun σ4 => fd_lt (fd_sI 17 ((σ4.1 17) + (1 : Int32)) σ4) (fun σ5 => some (σ5.1 17, σ5))))))
set_option maxHeartbeats 4000000 in
set_option maxRecDepth 100000 in
theorem m_X1_addRow_10 (l : Launch) (D : va_G) (a : Nat → Nat) (k : Nat → ClassId) (sz : Nat) (hI : fd_I 39 a) (N : Nat) (p1 : Int64) (p3 : Int64) (σ : fd_St) (r : Int32 × fd_St) (hf : f_X1_addRow_10 N p1 p3 σ = some r) : Met l yX1_addRow wsX1_addRow ({ frames := 0, cells := 0, slots := 0, locals := 0 }) (va_Pc [.ref (a 10), .long p1, .long p3] (fd_PC D a k sz σ)) (va_Qi (fun v u => (v, u) = r) (fd_BC D a k) (fd_A 39 a sz)) 0 0 (fd_A 39 a sz) := by
  refine Met.ofW (cc := cX1_addRow) (maxL := 5) (ret := (some .int)) (by decide) rfl ?_
  intro p e s m args below meth c s₁ B hml hv
  obtain ⟨rfl, hsz, hP, hK⟩ := hv
  have hx := B.exec
  have hb := B.bytes
  have hr := B.returns
  have hts := atoms_spec (ws := wsX1_addRow) B.pre
  have hown : s.vm.findClass RX1 = some m.cls := findClass_of_methodNamed B.named
  have hlocks := B.notSynchronized
  subst hsz
  have hJ : ∀ i, i < 39 → fd_A 39 a s.heap.size (a i) := fun i hi => Or.inl ⟨i, hi, rfl⟩
  have hS : va_S (fd_A 39 a s.heap.size) s.heap s.heap [] := va_S.rf
  have hl := lv_entry ([.ref (a 10), .long p1, .long p3]) (n := 5) (Nat.le_of_ble_eq_true rfl)
  rw [lg_entry_eq]
  generalize (lg_sl ([.ref (a 10), .long p1, .long p3]) ++ List.replicate (5 - (lg_sl ([.ref (a 10), .long p1, .long p3])).length) Slot.unset).toArray = ls at hl ⊢
  have hl : lv_has ls 5 [(0, .ref (a 10)), (1, .long p1), (3, .long p3)] := hl
  have h9X1 : ∀ w ∈ u_ws RX1 TX1 4, w ∈ wsX1_addRow := fd_su [4, 5, 6, 7] (by eq_refl)
  unfold f_X1_addRow_10 at hf
  refine lv_aload_n hx hb dX1_addRow_0 rfl (lv_at hl 0 rfl) ?_
  refine va_get (ci := 1) (v := .ref (a 30)) (C := RX1) (T := TX1) (N := 4) hx hb hts h9X1 hown hK hP 10 fd_WC_10 rfl 0 (by decide) (hts (.fieldLink RX1 9 "FailDiagnose$Chain" "should" "[J") (List.mem_of_getElem? (i := 1) (by eq_refl))) (fun _ h9 => h9) rfl dX1_addRow_1 ?_
  refine lv_aload_n hx hb dX1_addRow_4 rfl (lv_at hl 0 rfl) ?_
  refine va_get (ci := 1) (v := .int (σ.1 17)) (C := RX1) (T := TX1) (N := 4) hx hb hts h9X1 hown hK hP 10 fd_WC_10 rfl 3 (by decide) (hts (.fieldLink RX1 22 "FailDiagnose$Chain" "rows" "I") (List.mem_of_getElem? (i := 2) (by eq_refl))) (fun _ h9 => h9) rfl dX1_addRow_5 ?_
  refine lv_lload_n hx hb dX1_addRow_8 rfl (lv_at hl 1 rfl) ?_
  obtain ⟨g1, hf⟩ := fd_gds hf
  obtain ⟨σ2, eσ2, hf⟩ := fd_lts hf
  refine va_last hx hb hK hP (fd_DC hI hJ) hS 30 18 fd_WC_30 fd_tyC_30 g1 dX1_addRow_9 (fun H locs hP _ hS => ?_)
  have hP : va_P D vwCl (fd_WC a k σ2) H := by rw [eσ2]; exact fd_sP fd_WCa_30 hP
  refine lv_aload_n hx hb dX1_addRow_10 rfl (lv_at hl 0 rfl) ?_
  refine va_get (ci := 1) (v := .ref (a 31)) (C := RX1) (T := TX1) (N := 4) hx hb hts h9X1 hown hK hP 10 fd_WC_10 rfl 1 (by decide) (hts (.fieldLink RX1 15 "FailDiagnose$Chain" "came" "[J") (List.mem_of_getElem? (i := 3) (by eq_refl))) (fun _ h9 => h9) rfl dX1_addRow_11 ?_
  refine lv_aload_n hx hb dX1_addRow_14 rfl (lv_at hl 0 rfl) ?_
  refine va_get (ci := 1) (v := .int (σ2.1 17)) (C := RX1) (T := TX1) (N := 4) hx hb hts h9X1 hown hK hP 10 fd_WC_10 rfl 3 (by decide) (hts (.fieldLink RX1 22 "FailDiagnose$Chain" "rows" "I") (List.mem_of_getElem? (i := 2) (by eq_refl))) (fun _ h9 => h9) rfl dX1_addRow_15 ?_
  refine lv_lload_n hx hb dX1_addRow_18 rfl (lv_at hl 2 rfl) ?_
  obtain ⟨g3, hf⟩ := fd_gds hf
  obtain ⟨σ4, eσ4, hf⟩ := fd_lts hf
  refine va_last hx hb hK hP (fd_DC hI hJ) hS 31 19 fd_WC_31 fd_tyC_31 g3 dX1_addRow_19 (fun H locs hP _ hS => ?_)
  have hP : va_P D vwCl (fd_WC a k σ4) H := by rw [eσ4]; exact fd_sP fd_WCa_31 hP
  refine lv_aload_n hx hb dX1_addRow_20 rfl (lv_at hl 0 rfl) ?_
  refine lv_dup hx hb dX1_addRow_21 rfl ?_
  refine va_get (ci := 1) (v := .int (σ4.1 17)) (C := RX1) (T := TX1) (N := 4) hx hb hts h9X1 hown hK hP 10 fd_WC_10 rfl 3 (by decide) (hts (.fieldLink RX1 22 "FailDiagnose$Chain" "rows" "I") (List.mem_of_getElem? (i := 2) (by eq_refl))) (fun _ h9 => h9) rfl dX1_addRow_22 ?_
  refine lv_iconst (v := (1 : Int32)) hx hb dX1_addRow_25 (by decide) ?_
  refine lv_iadd hx hb dX1_addRow_26 ?_
  obtain ⟨σ5, eσ5, hf⟩ := fd_lts hf
  refine va_put (ci := 1) (v := .int ((σ4.1 17) + (1 : Int32))) (ty := .int) (C := RX1) (T := TX1) (N := 4) hx hb hts h9X1 tyX1 tyX1_ok nmX1 hown hK hP (fd_DC hI hJ) hS 10 fd_WC_10 rfl 3 (by decide) (hts (.fieldLink RX1 22 "FailDiagnose$Chain" "rows" "I") (List.mem_of_getElem? (i := 2) (by eq_refl))) (fun _ h9 => h9) rfl (by decide +kernel) rfl rfl (Nat.le_of_ble_eq_true rfl) dX1_addRow_27 (fun H locs hP _ hS => ?_)
  have hP : va_P D vwCl (fd_WC a k σ5) H := by rw [eσ5]; exact fd_sP fd_WCi_17 hP
  refine lv_aload_n hx hb dX1_addRow_30 rfl (lv_at hl 0 rfl) ?_
  refine va_get (ci := 1) (v := .int (σ5.1 17)) (C := RX1) (T := TX1) (N := 4) hx hb hts h9X1 hown hK hP 10 fd_WC_10 rfl 3 (by decide) (hts (.fieldLink RX1 22 "FailDiagnose$Chain" "rows" "I") (List.mem_of_getElem? (i := 2) (by eq_refl))) (fun _ h9 => h9) rfl dX1_addRow_31 ?_
  exact W.iret (v := (σ5.1 17)) hx hb hr (fun t ht hW => ⟨⟨σ5.1 17, σ5, rfl, Option.some.inj hf, by rw [ht]; exact hP, va_K.moved hW.alike hK⟩, hS.F ht⟩) hS.2.2 dX1_addRow_34
noncomputable def f_X10_caught_0 (N : Nat) (p1 : Int64) (p3 : Int64) (σ : fd_St) : Option ((Int32 ⊕ String) × fd_St) := fd_bx (f_X10_needChain_0 N σ) (fun _ σ3 => fd_bd (f_X1_rows_10 N σ3) (fun v8 σ9 => if v8 = (30 : Int32) then (some (.inr "java/lang/IllegalStateException", σ9)) else (fd_bd (f_X1_addRow_10 N p1 p3 σ9) (fun v14 σ15 => some (.inl v14, σ15))))) (fun E τ => some (.inr E, τ))
set_option maxHeartbeats 4000000 in
set_option maxRecDepth 100000 in
theorem m_X10_caught_0 (l : Launch) (hl9 : l.stackTraces = false) (D : va_G) (a : Nat → Nat) (k : Nat → ClassId) (sz : Nat) (hI : fd_I 39 a) (N : Nat) (p1 : Int64) (p3 : Int64) (σ : fd_St) (r : (Int32 ⊕ String) × fd_St) (hf : f_X10_caught_0 N p1 p3 σ = some r) : vx_Met l yX10_caught wsX10_caught ({ frames := 7, cells := fd_mc r, slots := fd_ms r, locals := 110 }) (va_Pc [.ref (a 0), .long p1, .long p3] (fd_PZ D a k sz σ)) (va_Qi (fun v u => (Sum.inl v, u) = r) (fd_BC D a k) (fd_A 39 a sz)) (fd_X D a k (fd_A 39 a sz) r) (fd_mc r) (fd_ms r) (fd_A 39 a sz) := by
  refine vx_ofW (cc := cX10_caught) (maxL := 5) (ret := (some .int)) (by decide) rfl ?_
  intro p e s m args below meth c s₁ B hml hex hv
  obtain ⟨rfl, ⟨hsz, hP, hK⟩, hZ⟩ := hv
  have hx := B.exec
  have hb := B.bytes
  have hr := B.returns
  have hts := atoms_spec (ws := wsX10_caught) B.pre
  have hown : s.vm.findClass RX10 = some m.cls := findClass_of_methodNamed B.named
  have hlocks := B.notSynchronized
  subst hsz
  have hJ : ∀ i, i < 39 → fd_A 39 a s.heap.size (a i) := fun i hi => Or.inl ⟨i, hi, rfl⟩
  have hS : va_S (fd_A 39 a s.heap.size) s.heap s.heap [] := va_S.rf
  have hl := lv_entry ([.ref (a 0), .long p1, .long p3]) (n := 5) (Nat.le_of_ble_eq_true rfl)
  rw [lg_entry_eq]
  generalize (lg_sl ([.ref (a 0), .long p1, .long p3]) ++ List.replicate (5 - (lg_sl ([.ref (a 0), .long p1, .long p3])).length) Slot.unset).toArray = ls at hl ⊢
  have hl : lv_has ls 5 [(0, .ref (a 0)), (1, .long p1), (3, .long p3)] := hl
  have h9X10 : ∀ w ∈ u_ws RX10 TX10 8, w ∈ wsX10_caught := fd_su [26, 27, 28, 29, 30, 31, 32, 33] (by eq_refl)
  unfold f_X10_caught_0 at hf
  refine lv_aload_n hx hb dX10_caught_0 rfl (lv_at hl 0 rfl) ?_
  rcases fd_bxs hf with ⟨w4, τ5, hc1, hf⟩ | ⟨E6, τ5, hc1, hf⟩
  · refine vx_callv (vx_runV (As := []) (rest := []) ⟨hx, hb, hml, hown, hts⟩ (m_X10_needChain_0 l hl9 D a k s.heap.size hI N σ _ hc1) (cwV 0 hts gX10_caught_X10_needChain rfl rfl rfl (by decide +kernel) ⟨Nat.le_of_ble_eq_true rfl, Nat.le_of_ble_eq_true rfl⟩) ⟨fd_blZ, va_recv hK hP (ci := 10) (q0 := 0) rfl fd_WC_0, fd_prZ hP hK hZ hS⟩ rfl rfl hl.1 rfl (lv_room (Nat.le_of_ble_eq_true rfl)) dX10_caught_1 ⟨Nat.zero_le _, Nat.zero_le _⟩) hS (fun q _ h => fd_A_mono hS.1 h) (fun q h => fd_A_mono hS.1 h) (fun q _ h => fd_A_mono hS.1 h) (fun E ce q9 u t H1 locs1 ht hvm hp hB => ?_) (fun u t H1 locs ht hvm hw hB hz hk hS => ?_)
    · exact absurd hB.1 (by simp)
    obtain ⟨hP1, hK1⟩ := hB
    rw [ht] at hP1
    have e2 := (Prod.mk.inj hw).2
    subst e2
    obtain ⟨σ3, rfl⟩ : ∃ z, z = u := ⟨_, rfl⟩
    have hP := hP1
    generalize H1 = H at hP hS ⊢
    refine W.cs (cells' := 0) (slots' := 0) rfl rfl ?_
    refine lv_aload_n hx hb dX10_caught_4 rfl (lv_at hl 0 rfl) ?_
    refine va_get (ci := 10) (v := .ref (a 10)) (C := RX10) (T := TX10) (N := 8) hx hb hts h9X10 hown hK hP 0 fd_WC_0 rfl 5 (by decide) (hts (.fieldLink RX10 49 "FailDiagnose" "cells" "LFailDiagnose$Chain;") (List.mem_of_getElem? (i := 3) (by eq_refl))) (fun _ h9 => h9) rfl dX10_caught_5 ?_
    obtain ⟨w10, τ11, hc7, hf⟩ := fd_bds hf
    refine va_calli (va_runV (As := []) (rest := []) ⟨hx, hb, hml, hown, hts⟩ (m_X1_rows_10 l D a k H.size hI N σ3 _ hc7) (cwV 0 hts gX10_caught_X1_rows rfl rfl rfl (by decide +kernel) ⟨Nat.le_of_ble_eq_true rfl, Nat.le_of_ble_eq_true rfl⟩) ⟨fd_blC, va_recv hK hP (ci := 1) (q0 := 10) rfl fd_WC_10, fd_prC hP hK⟩ rfl rfl hl.1 rfl (lv_room (Nat.le_of_ble_eq_true rfl)) dX10_caught_8 ⟨Nat.zero_le _, Nat.zero_le _⟩) hS (fun q _ h => fd_A_mono hS.1 h) (fun q h => fd_A_mono hS.1 h) (fun v8 u t H1 locs ht hvm hw hB hz hk hS => ?_)
    obtain ⟨hP1, hK1⟩ := hB
    rw [ht] at hP1
    obtain ⟨e1, e2⟩ := Prod.mk.inj hw
    subst e1
    subst e2
    obtain ⟨σ9, rfl⟩ : ∃ z, z = u := ⟨_, rfl⟩
    have hP := hP1
    generalize H1 = H at hP hS ⊢
    refine lv_bipush (v := (30 : Int32)) hx hb dX10_caught_11 (by decide) ?_
    refine lv_icmp_ne (tgt := 26) hx hb dX10_caught_13 (by decide) (fun c12 => ?_) (fun c12 => ?_)
    · have hf := fd_itn c12 hf
      refine lv_aload_n hx hb dX10_caught_26 rfl (lv_at hl 0 rfl) ?_
      refine va_get (ci := 10) (v := .ref (a 10)) (C := RX10) (T := TX10) (N := 8) hx hb hts h9X10 hown hK hP 0 fd_WC_0 rfl 5 (by decide) (hts (.fieldLink RX10 49 "FailDiagnose" "cells" "LFailDiagnose$Chain;") (List.mem_of_getElem? (i := 3) (by eq_refl))) (fun _ h9 => h9) rfl dX10_caught_27 ?_
      refine lv_lload_n hx hb dX10_caught_30 rfl (lv_at hl 1 rfl) ?_
      refine lv_lload_n hx hb dX10_caught_31 rfl (lv_at hl 2 rfl) ?_
      obtain ⟨w16, τ17, hc13, hf⟩ := fd_bds hf
      refine va_calli (va_runV (As := [.long p1, .long p3]) (rest := []) ⟨hx, hb, hml, hown, hts⟩ (m_X1_addRow_10 l D a k H.size hI N p1 p3 σ9 _ hc13) (cwV 2 hts gX10_caught_X1_addRow rfl rfl rfl (by decide +kernel) ⟨Nat.le_of_ble_eq_true rfl, Nat.le_of_ble_eq_true rfl⟩) ⟨fd_blC, va_recv hK hP (ci := 1) (q0 := 10) rfl fd_WC_10, fd_prC hP hK⟩ rfl rfl hl.1 rfl (lv_room (Nat.le_of_ble_eq_true rfl)) dX10_caught_32 ⟨Nat.zero_le _, Nat.zero_le _⟩) hS (fun q _ h => fd_A_mono hS.1 h) (fun q h => fd_A_mono hS.1 h) (fun v14 u t H1 locs ht hvm hw hB hz hk hS => ?_)
      obtain ⟨hP1, hK1⟩ := hB
      rw [ht] at hP1
      obtain ⟨e1, e2⟩ := Prod.mk.inj hw
      subst e1
      subst e2
      obtain ⟨σ15, rfl⟩ : ∃ z, z = u := ⟨_, rfl⟩
      have hP := hP1
      generalize H1 = H at hP hS ⊢
      refine vx_ret (W.widen (k := fd_mc r) (n := fd_ms r) (Nat.zero_le _) (Nat.zero_le _) ?_)
      exact W.iret (v := v14) hx hb hr (fun t ht hW => ⟨⟨v14, σ15, rfl, Option.some.inj hf, by rw [ht]; exact hP, va_K.moved hW.alike hK⟩, hS.F ht⟩) hS.2.2 dX10_caught_35
    · have hf := fd_itp c12 hf
      have e18 := Option.some.inj hf
      subst e18
      obtain ⟨sa, hsa⟩ := hZ.str 204 "no room for a row of the chain" (by decide +kernel)
      exact vx_throwS (own := RX10) (cls := "java/lang/IllegalStateException") (names := ["java/lang/RuntimeException", "java/lang/Exception"]) hx hb hl9 hown fd_ex_71_75_f fd_ex_n (hts (.classLink RX10 71 "java/lang/IllegalStateException") (List.mem_of_getElem? (i := 1) (by eq_refl))) (hts (.initialized "java/lang/IllegalStateException") (List.mem_of_getElem? (i := 2) (by eq_refl))) hsa (vx_hat (L := vx_atS RX10 75 "java/lang/IllegalStateException" ["java/lang/RuntimeException", "java/lang/Exception"]) (B := fd_bad "java/lang/IllegalStateException") (fun w hw => hts w ((fun w h => List.mem_cons_of_mem _ (List.mem_append_right _ h) : ∀ w ∈ (vx_atS RX10 75 "java/lang/IllegalStateException" ["java/lang/RuntimeException", "java/lang/Exception"]).filter goodWord, w ∈ wsX10_caught) w hw)) fd_ex_71_75_b (hZ.bad "java/lang/IllegalStateException" fd_ex_71_75_e)) fd_ex_71_75_g hZ.un hZ.su hS (hl.1.trans hml.symm) dX10_caught_16 dX10_caught_19 dX10_caught_20 dX10_caught_22 dX10_caught_25 (fun x hx => (hex x hx).elim) (Nat.le_of_ble_eq_true rfl) (Nat.le_of_ble_eq_true rfl) (Nat.le_of_ble_eq_true rfl) (Nat.le_of_ble_eq_true rfl) hlocks (fun t ha hsz hk => ⟨σ9, trivial, ⟨rfl, hP.kept (fun k q hq => hk q.1 (hP k q hq).lt), va_K.moved ha hK⟩, Nat.le_trans hS.1 hsz, fun q h1 h2 => (hk q (Nat.lt_of_lt_of_le h1 hS.1)).trans (hS.2.1 q h1 h2)⟩) hS.2.2 (Nat.le_of_ble_eq_true rfl) (Nat.le_of_ble_eq_true rfl)
  · have er := Option.some.inj hf
    subst er
    refine vx_callv (vx_runV (As := []) (rest := []) ⟨hx, hb, hml, hown, hts⟩ (m_X10_needChain_0 l hl9 D a k s.heap.size hI N σ _ hc1) (cwV 0 hts gX10_caught_X10_needChain rfl rfl rfl (by decide +kernel) ⟨Nat.le_of_ble_eq_true rfl, Nat.le_of_ble_eq_true rfl⟩) ⟨fd_blZ, va_recv hK hP (ci := 10) (q0 := 0) rfl fd_WC_0, fd_prZ hP hK hZ hS⟩ rfl rfl hl.1 rfl (lv_room (Nat.le_of_ble_eq_true rfl)) dX10_caught_1 ⟨Nat.le_of_ble_eq_true rfl, Nat.le_of_ble_eq_true rfl⟩) hS (fun q _ h => fd_A_mono hS.1 h) (fun q h => fd_A_mono hS.1 h) (fun q _ h => fd_A_mono hS.1 h) (fun E ce q9 u t H1 locs1 ht hvm hp hB hz hk hS hce hcv hcl => ?_) (fun u t H1 locs ht hvm hw hB hz hk hS => ?_)
    · obtain ⟨hB0, hP1, hK1⟩ := hB
      rw [ht] at hP1
      exact vx_out (E := E) (fun x hx => (hex x hx).elim) hlocks hce hcv hcl (fun t ht ha => ⟨u, trivial, ⟨fd_inr hB0, by rw [ht]; exact hP1, va_K.moved ha hK⟩, hS.F ht⟩) hS.2.2 (Nat.le_of_ble_eq_true rfl) (Nat.le_of_ble_eq_true rfl)
    · exact absurd hw (by simp)
noncomputable def f_L_caught_0_39 (N : Nat) (p1 : Int64) (p3 : Int64) (σ : fd_St) : Option (Int32 × fd_St) := fd_bx (f_X10_caught_0 N p1 p3 σ) (fun v2 τ => fd_lt (fd_mix τ σ) (fun σ6 => fd_gd (vp_in (0 : Int32) 1) (fd_lt (fd_sL 39 (0 : Int32) v2.toInt64 σ6) (fun σ9 => some ((0 : Int32), σ9))))) (fun E τ => if E = "java/lang/IllegalStateException" then (fd_lt (fd_mix τ σ) (fun σ11 => some ((1 : Int32), σ11))) else (none))
set_option maxHeartbeats 4000000 in
set_option maxRecDepth 100000 in
theorem m_L_caught_0_39 (l : Launch) (hl9 : l.stackTraces = false) (D : va_G) (a : Nat → Nat) (k : Nat → ClassId) (sz : Nat) (hI : fd_I 40 a) (N : Nat) (p1 : Int64) (p3 : Int64) (σ : fd_St) (r : Int32 × fd_St) (hf : f_L_caught_0_39 N p1 p3 σ = some r) : Met l yL_caught wsL_caught ({ frames := 8, cells := 1, slots := 6, locals := 134 }) (va_Pc [.ref (a 0), .long p1, .long p3, .ref (a 39)] (fd_PH D a k sz σ)) (va_Qi (fun v u => (v, u) = r) (fd_BH D a k) (fd_A 40 a sz)) 1 6 (fd_A 40 a sz) := by
  refine fd_ofWT (cc := cL_caught) (maxL := 7) (ret := (some .int)) (by decide) rfl ?_
  intro p e s m args below meth c s₁ B hml hTab hv
  obtain ⟨rfl, hsz, hP, hK, hZ⟩ := hv
  have hx := B.exec
  have hb := B.bytes
  have hr := B.returns
  have hts := atoms_spec (ws := wsL_caught) B.pre
  have hown : s.vm.findClass RL = some m.cls := findClass_of_methodNamed B.named
  have hlocks := B.notSynchronized
  subst hsz
  have hJ : ∀ i, i < 40 → fd_A 40 a s.heap.size (a i) := fun i hi => Or.inl ⟨i, hi, rfl⟩
  have hS : va_S (fd_A 40 a s.heap.size) s.heap s.heap [] := va_S.rf
  have hl := lv_entry ([.ref (a 0), .long p1, .long p3, .ref (a 39)]) (n := 7) (Nat.le_of_ble_eq_true rfl)
  rw [lg_entry_eq]
  generalize (lg_sl ([.ref (a 0), .long p1, .long p3, .ref (a 39)]) ++ List.replicate (7 - (lg_sl ([.ref (a 0), .long p1, .long p3, .ref (a 39)])).length) Slot.unset).toArray = ls at hl ⊢
  have hl : lv_has ls 7 [(0, .ref (a 0)), (1, .long p1), (3, .long p3), (5, .ref (a 39))] := hl
  unfold f_L_caught_0_39 at hf
  refine lv_aload hx hb dL_caught_0 (lv_at hl 3 rfl) ?_
  refine lv_iconst (v := (0 : Int32)) hx hb dL_caught_2 (by decide) ?_
  refine lv_aload_n hx hb dL_caught_3 rfl (lv_at hl 0 rfl) ?_
  refine lv_lload_n hx hb dL_caught_4 rfl (lv_at hl 1 rfl) ?_
  refine lv_lload_n hx hb dL_caught_5 rfl (lv_at hl 2 rfl) ?_
  rcases fd_bxs hf with ⟨w3, τ4, hc1, hf⟩ | ⟨E5, τ4, hc1, hf⟩
  · refine vx_calli (vx_runV (As := [.long p1, .long p3]) (rest := [.int (0 : Int32), .ref (a 39)]) ⟨hx, hb, hml, hown, hts⟩ (m_X10_caught_0 l hl9 D a k s.heap.size (fd_I40 hI) N p1 p3 σ _ hc1) (cwV 2 hts gL_caught_X10_caught rfl rfl rfl (by decide +kernel) ⟨Nat.le_of_ble_eq_true rfl, Nat.le_of_ble_eq_true rfl⟩) ⟨fd_blZ, va_recv (fd_HK hK) (fd_HC hP) (ci := 10) (q0 := 0) rfl fd_WC_0, fd_prHZ hP hK hZ hS⟩ rfl rfl hl.1 rfl (lv_room (Nat.le_of_ble_eq_true rfl)) dL_caught_6 ⟨(Nat.zero_le _), (Nat.zero_le _)⟩) hS (fun q _ h => fd_A_sub hS.1 h) (fun q h => fd_A_sub hS.1 h) (fun q _ h => fd_A_sub hS.1 h) (fun E ce q9 u t H1 locs1 ht hvm hp hB => ?_) (fun v2 u t H1 locs ht hvm hw hB hz hk hS => ?_)
    · exact absurd hB.1 (by simp)
    obtain ⟨hP1, hK1⟩ := hB
    rw [ht] at hP1
    obtain ⟨e1, e2⟩ := Prod.mk.inj hw
    obtain e1 := Sum.inl.inj e1
    subst e1
    subst e2
    obtain ⟨σ6, eσ6, hf⟩ := fd_lts hf
    have hP : va_P D vwCl (fd_WH a k σ6) H1 := by rw [eσ6]; exact fd_HJ hI hP hP1 hk
    generalize H1 = H at hP hS ⊢
    refine W.cs (cells' := 0) (slots' := 0) rfl rfl ?_
    refine lv_i2l hx hb dL_caught_9 rfl ?_
    obtain ⟨g8, hf⟩ := fd_gds hf
    obtain ⟨σ9, eσ9, hf⟩ := fd_lts hf
    refine va_last hx hb hK hP (fd_DH hI hJ) hS 39 27 fd_WH_39 fd_tyH_39 g8 dL_caught_10 (fun H locs hP _ hS => ?_)
    have hP : va_P D vwCl (fd_WH a k σ9) H := by rw [eσ9]; exact fd_sP fd_WHa_39 hP
    refine lv_goto (tgt := 18) hx hb dL_caught_11 (by decide) ?_
    refine lv_iconst (v := (0 : Int32)) hx hb dL_caught_18 (by decide) ?_
    refine W.widen (k := 1) (n := 6) (Nat.le_of_ble_eq_true rfl) (Nat.le_of_ble_eq_true rfl) ?_
    exact W.iret (v := (0 : Int32)) hx hb hr (fun t ht hW => ⟨⟨(0 : Int32), σ9, rfl, Option.some.inj hf, by rw [ht]; exact hP, va_K.moved hW.alike hK⟩, hS.F ht⟩) hS.2.2 dL_caught_19
  · have hE := hf
    by_cases c10 : E5 = "java/lang/IllegalStateException"
    · subst c10
      have hf := fd_itp rfl hf
      refine vx_calli (vx_runV (As := [.long p1, .long p3]) (rest := [.int (0 : Int32), .ref (a 39)]) ⟨hx, hb, hml, hown, hts⟩ (m_X10_caught_0 l hl9 D a k s.heap.size (fd_I40 hI) N p1 p3 σ _ hc1) (cwV 2 hts gL_caught_X10_caught rfl rfl rfl (by decide +kernel) ⟨Nat.le_of_ble_eq_true rfl, Nat.le_of_ble_eq_true rfl⟩) ⟨fd_blZ, va_recv (fd_HK hK) (fd_HC hP) (ci := 10) (q0 := 0) rfl fd_WC_0, fd_prHZ hP hK hZ hS⟩ rfl rfl hl.1 rfl (lv_room (Nat.le_of_ble_eq_true rfl)) dL_caught_6 ⟨Nat.le_of_ble_eq_true rfl, Nat.le_of_ble_eq_true rfl⟩) hS (fun q _ h => fd_A_sub hS.1 h) (fun q h => fd_A_sub hS.1 h) (fun q _ h => fd_A_sub hS.1 h) (fun E ce q9 u t H1 locs1 ht hvm hp hB hz hk hS hce hcv hcl => ?_) (fun v2 u t H1 locs ht hvm hw hB hz hk hS => ?_)
      · obtain ⟨hB0, hP1, hK1⟩ := hB
        rw [ht] at hP1
        obtain ⟨e1, e2⟩ := Prod.mk.inj hB0
        obtain e1 := Sum.inr.inj e1
        subst e1
        subst e2
        obtain ⟨σ11, eσ11, hf⟩ := fd_lts hf
        have hP : va_P D vwCl (fd_WH a k σ11) H1 := by rw [eσ11]; exact fd_HJ hI hP hP1 hk
        refine fd_catch (own := RL) (name := "java/lang/IllegalStateException") (E := "java/lang/IllegalStateException") hown [] ⟨0, 11, 14, 13⟩ [] (by rw [hTab]; rfl) (fun z hz => nomatch hz) (by decide) (by decide) (hts (.classLink RL 13 "java/lang/IllegalStateException") (List.mem_of_getElem? (i := 1) (by eq_refl))) (hZ.cast "java/lang/IllegalStateException" (by decide +kernel)) hce hcv hcl ?_
        refine W.cs (cells' := 1) (slots' := 6) rfl rfl ?_
        refine lv_astore (lv' := [(6, .ref q9), (0, .ref (a 0)), (1, .long p1), (3, .long p3), (5, .ref (a 39))]) hx hb dL_caught_14 hl (by decide) rfl (fun ls hl => ?_)
        refine lv_iconst (v := (1 : Int32)) hx hb dL_caught_16 (by decide) ?_
        refine W.widen (k := 1) (n := 6) (Nat.le_of_ble_eq_true rfl) (Nat.le_of_ble_eq_true rfl) ?_
        exact W.iret (v := (1 : Int32)) hx hb hr (fun t ht hW => ⟨⟨(1 : Int32), σ11, rfl, Option.some.inj hf, by rw [ht]; exact hP, va_K.moved hW.alike hK⟩, hS.F ht⟩) hS.2.2 dL_caught_17
      · exact absurd hw (by simp)
    have hf := fd_itn c10 hf
    cases hf
noncomputable def f_X11_caught_0_J22 (N : Nat) (y1 : Int64) (y3 : Int64) (z1 : Int32) (σ : fd_St) : Option (Int32 × fd_St) := fd_lt (fd_sI 0 z1 σ) (fun σ2 => if (σ2.1 0) ≤ 0 then (fd_gd (vp_in (σ2.1 13) 30) (fd_lt (fd_sL 20 (σ2.1 13) y1 σ2) (fun σ5 => fd_gd (vp_in (σ5.1 13) 30) (fd_lt (fd_sL 21 (σ5.1 13) y3 σ5) (fun σ7 => fd_lt (fd_sI 13 ((σ7.1 13) + (1 : Int32)) σ7) (fun σ8 => some (σ8.1 13, σ8))))))) else (some ((0 : Int32), σ2)))
noncomputable def f_X11_caught_0_J21 (N : Nat) (y1 : Int64) (y3 : Int64) (σ : fd_St) : Option (Int32 × fd_St) := f_X11_caught_0_J22 N y1 y3 (1 : Int32) σ
noncomputable def f_X11_caught_0 (N : Nat) (p1 : Int64) (p3 : Int64) (σ : fd_St) : Option (Int32 × fd_St) := if (σ.1 12) ≤ 0 then (f_X11_caught_0_J21 N p1 p3 σ) else (if (30 : Int32) ≤ (σ.1 13) then (f_X11_caught_0_J21 N p1 p3 σ) else (f_X11_caught_0_J22 N p1 p3 (0 : Int32) σ))
set_option maxHeartbeats 4000000 in
set_option maxRecDepth 100000 in
theorem m_X11_caught_0 (l : Launch) (D : va_G) (a : Nat → Nat) (k : Nat → ClassId) (sz : Nat) (hI : fd_I 29 a) (N : Nat) (p1 : Int64) (p3 : Int64) (σ : fd_St) (r : Int32 × fd_St) (hf : f_X11_caught_0 N p1 p3 σ = some r) : Met l yX11_caught wsX11_caught ({ frames := 0, cells := 0, slots := 0, locals := 0 }) (va_Pc [.ref (a 0), .long p1, .long p3] (fd_PM D a k sz σ)) (va_Qi (fun v u => (v, u) = r) (fd_BM D a k) (fd_A 29 a sz)) 0 0 (fd_A 29 a sz) := by
  refine Met.ofW (cc := cX11_caught) (maxL := 5) (ret := (some .int)) (by decide) rfl ?_
  intro p e s m args below meth c s₁ B hml hv
  obtain ⟨rfl, hsz, hP, hK⟩ := hv
  have hx := B.exec
  have hb := B.bytes
  have hr := B.returns
  have hts := atoms_spec (ws := wsX11_caught) B.pre
  have hown : s.vm.findClass RX11 = some m.cls := findClass_of_methodNamed B.named
  have hlocks := B.notSynchronized
  subst hsz
  have hJ : ∀ i, i < 29 → fd_A 29 a s.heap.size (a i) := fun i hi => Or.inl ⟨i, hi, rfl⟩
  have hS : va_S (fd_A 29 a s.heap.size) s.heap s.heap [] := va_S.rf
  have hl := lv_entry ([.ref (a 0), .long p1, .long p3]) (n := 5) (Nat.le_of_ble_eq_true rfl)
  rw [lg_entry_eq]
  generalize (lg_sl ([.ref (a 0), .long p1, .long p3]) ++ List.replicate (5 - (lg_sl ([.ref (a 0), .long p1, .long p3])).length) Slot.unset).toArray = ls at hl ⊢
  have hl : lv_has ls 5 [(0, .ref (a 0)), (1, .long p1), (3, .long p3)] := hl
  have h9X11 : ∀ w ∈ u_ws RX11 TX11 43, w ∈ wsX11_caught := fd_su [6, 7, 8, 9, 10, 11, 12, 13, 14, 15, 16, 17, 18, 19, 20, 21, 22, 23, 24, 25, 26, 27, 28, 29, 30, 31, 32, 33, 34, 35, 36, 37, 38, 39, 40, 41, 42, 43, 44, 45, 46, 47, 48] (by eq_refl)
  have hL22 : ∀ (y1 : Int64) (y3 : Int64) (z1 : Int32) (σ : fd_St) (H : Heap) (locs : List Loc) (ls : Array Slot), va_P D vwCl (fd_WM a k σ) H → va_S (fd_A 29 a s.heap.size) s.heap H locs → lv_has ls 5 [(0, .ref (a 0)), (1, .long y1), (3, .long y3)] → f_X11_caught_0_J22 N y1 y3 z1 σ = some r → W p l e ((headSpec wsX11_caught ({ frames := 0, cells := 0, slots := 0, locals := 0 })).room) s m ([.ref (a 0), .long p1, .long p3].toArray) below meth c H locs 0 0 (MQ below (va_Qi (fun v u => (v, u) = r) (fd_BM D a k) (fd_A 29 a s.heap.size)) ([.ref (a 0), .long p1, .long p3].toArray) s 0 0 (fd_A 29 a s.heap.size)) (F0 m 22 ls [.int z1, .ref (a 0)]) := by
    intro y1 y3 z1 σ H locs ls hP hS hl hf
    unfold f_X11_caught_0_J22 at hf
    obtain ⟨σ2, eσ2, hf⟩ := fd_lts hf
    refine va_put (ci := 11) (v := .int z1) (ty := .int) (C := RX11) (T := TX11) (N := 43) hx hb hts h9X11 tyX11 tyX11_ok nmX11 hown hK hP (fd_DM hI hJ) hS 0 fd_WM_0 rfl 0 (by decide) (hts (.fieldLink RX11 99 "FailDiagnoseModel" "thrown" "I") (List.mem_of_getElem? (i := 3) (by eq_refl))) (fun _ h9 => h9) rfl (by decide +kernel) rfl rfl (Nat.le_of_ble_eq_true rfl) dX11_caught_22 (fun H locs hP _ hS => ?_)
    have hP : va_P D vwCl (fd_WM a k σ2) H := by rw [eσ2]; exact fd_sP fd_WMi_0 hP
    refine lv_aload_n hx hb dX11_caught_25 rfl (lv_at hl 0 rfl) ?_
    refine va_get (ci := 11) (v := .int (σ2.1 0)) (C := RX11) (T := TX11) (N := 43) hx hb hts h9X11 hown hK hP 0 fd_WM_0 rfl 0 (by decide) (hts (.fieldLink RX11 99 "FailDiagnoseModel" "thrown" "I") (List.mem_of_getElem? (i := 3) (by eq_refl))) (fun _ h9 => h9) rfl dX11_caught_26 ?_
    refine lv_if_le (tgt := 34) hx hb dX11_caught_29 (by decide) (fun c3 => ?_) (fun c3 => ?_)
    · have hf := fd_itp c3 hf
      refine lv_aload_n hx hb dX11_caught_34 rfl (lv_at hl 0 rfl) ?_
      refine va_get (ci := 11) (v := .ref (a 20)) (C := RX11) (T := TX11) (N := 43) hx hb hts h9X11 hown hK hP 0 fd_WM_0 rfl 33 (by decide) (hts (.fieldLink RX11 69 "FailDiagnoseModel" "should" "[J") (List.mem_of_getElem? (i := 4) (by eq_refl))) (fun _ h9 => h9) rfl dX11_caught_35 ?_
      refine lv_aload_n hx hb dX11_caught_38 rfl (lv_at hl 0 rfl) ?_
      refine va_get (ci := 11) (v := .int (σ2.1 13)) (C := RX11) (T := TX11) (N := 43) hx hb hts h9X11 hown hK hP 0 fd_WM_0 rfl 32 (by decide) (hts (.fieldLink RX11 191 "FailDiagnoseModel" "rows" "I") (List.mem_of_getElem? (i := 2) (by eq_refl))) (fun _ h9 => h9) rfl dX11_caught_39 ?_
      refine lv_lload_n hx hb dX11_caught_42 rfl (lv_at hl 1 rfl) ?_
      obtain ⟨g4, hf⟩ := fd_gds hf
      obtain ⟨σ5, eσ5, hf⟩ := fd_lts hf
      refine va_last hx hb hK hP (fd_DM hI hJ) hS 20 19 fd_WM_20 fd_tyM_20 g4 dX11_caught_43 (fun H locs hP _ hS => ?_)
      have hP : va_P D vwCl (fd_WM a k σ5) H := by rw [eσ5]; exact fd_sP fd_WMa_20 hP
      refine lv_aload_n hx hb dX11_caught_44 rfl (lv_at hl 0 rfl) ?_
      refine va_get (ci := 11) (v := .ref (a 21)) (C := RX11) (T := TX11) (N := 43) hx hb hts h9X11 hown hK hP 0 fd_WM_0 rfl 34 (by decide) (hts (.fieldLink RX11 72 "FailDiagnoseModel" "came" "[J") (List.mem_of_getElem? (i := 5) (by eq_refl))) (fun _ h9 => h9) rfl dX11_caught_45 ?_
      refine lv_aload_n hx hb dX11_caught_48 rfl (lv_at hl 0 rfl) ?_
      refine va_get (ci := 11) (v := .int (σ5.1 13)) (C := RX11) (T := TX11) (N := 43) hx hb hts h9X11 hown hK hP 0 fd_WM_0 rfl 32 (by decide) (hts (.fieldLink RX11 191 "FailDiagnoseModel" "rows" "I") (List.mem_of_getElem? (i := 2) (by eq_refl))) (fun _ h9 => h9) rfl dX11_caught_49 ?_
      refine lv_lload_n hx hb dX11_caught_52 rfl (lv_at hl 2 rfl) ?_
      obtain ⟨g6, hf⟩ := fd_gds hf
      obtain ⟨σ7, eσ7, hf⟩ := fd_lts hf
      refine va_last hx hb hK hP (fd_DM hI hJ) hS 21 20 fd_WM_21 fd_tyM_21 g6 dX11_caught_53 (fun H locs hP _ hS => ?_)
      have hP : va_P D vwCl (fd_WM a k σ7) H := by rw [eσ7]; exact fd_sP fd_WMa_21 hP
      refine lv_aload_n hx hb dX11_caught_54 rfl (lv_at hl 0 rfl) ?_
      refine lv_dup hx hb dX11_caught_55 rfl ?_
      refine va_get (ci := 11) (v := .int (σ7.1 13)) (C := RX11) (T := TX11) (N := 43) hx hb hts h9X11 hown hK hP 0 fd_WM_0 rfl 32 (by decide) (hts (.fieldLink RX11 191 "FailDiagnoseModel" "rows" "I") (List.mem_of_getElem? (i := 2) (by eq_refl))) (fun _ h9 => h9) rfl dX11_caught_56 ?_
      refine lv_iconst (v := (1 : Int32)) hx hb dX11_caught_59 (by decide) ?_
      refine lv_iadd hx hb dX11_caught_60 ?_
      obtain ⟨σ8, eσ8, hf⟩ := fd_lts hf
      refine va_put (ci := 11) (v := .int ((σ7.1 13) + (1 : Int32))) (ty := .int) (C := RX11) (T := TX11) (N := 43) hx hb hts h9X11 tyX11 tyX11_ok nmX11 hown hK hP (fd_DM hI hJ) hS 0 fd_WM_0 rfl 32 (by decide) (hts (.fieldLink RX11 191 "FailDiagnoseModel" "rows" "I") (List.mem_of_getElem? (i := 2) (by eq_refl))) (fun _ h9 => h9) rfl (by decide +kernel) rfl rfl (Nat.le_of_ble_eq_true rfl) dX11_caught_61 (fun H locs hP _ hS => ?_)
      have hP : va_P D vwCl (fd_WM a k σ8) H := by rw [eσ8]; exact fd_sP fd_WMi_13 hP
      refine lv_aload_n hx hb dX11_caught_64 rfl (lv_at hl 0 rfl) ?_
      refine va_get (ci := 11) (v := .int (σ8.1 13)) (C := RX11) (T := TX11) (N := 43) hx hb hts h9X11 hown hK hP 0 fd_WM_0 rfl 32 (by decide) (hts (.fieldLink RX11 191 "FailDiagnoseModel" "rows" "I") (List.mem_of_getElem? (i := 2) (by eq_refl))) (fun _ h9 => h9) rfl dX11_caught_65 ?_
      exact W.iret (v := (σ8.1 13)) hx hb hr (fun t ht hW => ⟨⟨σ8.1 13, σ8, rfl, Option.some.inj hf, by rw [ht]; exact hP, va_K.moved hW.alike hK⟩, hS.F ht⟩) hS.2.2 dX11_caught_68
    · have hf := fd_itn c3 hf
      refine lv_iconst (v := (0 : Int32)) hx hb dX11_caught_32 (by decide) ?_
      exact W.iret (v := (0 : Int32)) hx hb hr (fun t ht hW => ⟨⟨(0 : Int32), σ2, rfl, Option.some.inj hf, by rw [ht]; exact hP, va_K.moved hW.alike hK⟩, hS.F ht⟩) hS.2.2 dX11_caught_33
  have hL21 : ∀ (y1 : Int64) (y3 : Int64) (σ : fd_St) (H : Heap) (locs : List Loc) (ls : Array Slot), va_P D vwCl (fd_WM a k σ) H → va_S (fd_A 29 a s.heap.size) s.heap H locs → lv_has ls 5 [(0, .ref (a 0)), (1, .long y1), (3, .long y3)] → f_X11_caught_0_J21 N y1 y3 σ = some r → W p l e ((headSpec wsX11_caught ({ frames := 0, cells := 0, slots := 0, locals := 0 })).room) s m ([.ref (a 0), .long p1, .long p3].toArray) below meth c H locs 0 0 (MQ below (va_Qi (fun v u => (v, u) = r) (fd_BM D a k) (fd_A 29 a s.heap.size)) ([.ref (a 0), .long p1, .long p3].toArray) s 0 0 (fd_A 29 a s.heap.size)) (F0 m 21 ls [.ref (a 0)]) := by
    intro y1 y3 σ H locs ls hP hS hl hf
    unfold f_X11_caught_0_J21 at hf
    refine lv_iconst (v := (1 : Int32)) hx hb dX11_caught_21 (by decide) ?_
    exact hL22 y1 y3 (1 : Int32) σ _ _ _ hP hS (lv_sub hl [0, 1, 2] rfl) hf
  unfold f_X11_caught_0 at hf
  refine lv_aload_n hx hb dX11_caught_0 rfl (lv_at hl 0 rfl) ?_
  refine lv_aload_n hx hb dX11_caught_1 rfl (lv_at hl 0 rfl) ?_
  refine va_get (ci := 11) (v := .int (σ.1 12)) (C := RX11) (T := TX11) (N := 43) hx hb hts h9X11 hown hK hP 0 fd_WM_0 rfl 31 (by decide) (hts (.fieldLink RX11 188 "FailDiagnoseModel" "cells" "I") (List.mem_of_getElem? (i := 1) (by eq_refl))) (fun _ h9 => h9) rfl dX11_caught_2 ?_
  refine lv_if_le (tgt := 21) hx hb dX11_caught_5 (by decide) (fun c1 => ?_) (fun c1 => ?_)
  · have hf := fd_itp c1 hf
    exact hL21 p1 p3 σ _ _ _ hP hS (lv_sub hl [0, 1, 2] rfl) hf
  · have hf := fd_itn c1 hf
    refine lv_aload_n hx hb dX11_caught_8 rfl (lv_at hl 0 rfl) ?_
    refine va_get (ci := 11) (v := .int (σ.1 13)) (C := RX11) (T := TX11) (N := 43) hx hb hts h9X11 hown hK hP 0 fd_WM_0 rfl 32 (by decide) (hts (.fieldLink RX11 191 "FailDiagnoseModel" "rows" "I") (List.mem_of_getElem? (i := 2) (by eq_refl))) (fun _ h9 => h9) rfl dX11_caught_9 ?_
    refine lv_bipush (v := (30 : Int32)) hx hb dX11_caught_12 (by decide) ?_
    refine lv_icmp_ge (tgt := 21) hx hb dX11_caught_14 (by decide) (fun c9 => ?_) (fun c9 => ?_)
    · have hf := fd_itp c9 hf
      exact hL21 p1 p3 σ _ _ _ hP hS (lv_sub hl [0, 1, 2] rfl) hf
    · have hf := fd_itn c9 hf
      refine lv_iconst (v := (0 : Int32)) hx hb dX11_caught_17 (by decide) ?_
      refine lv_goto (tgt := 22) hx hb dX11_caught_18 (by decide) ?_
      exact hL22 p1 p3 (0 : Int32) σ _ _ _ hP hS (lv_sub hl [0, 1, 2] rfl) hf
noncomputable def f_X1_upTo (N : Nat) (p0 : Int32) (σ : fd_St) : Option (Int64 × fd_St) := some (((-1 : Int64).toUInt64 >>> (((63 : Int32) - p0).toInt64.toUInt64 &&& Int64.toUInt64 63)).toInt64, σ)
set_option maxHeartbeats 4000000 in
set_option maxRecDepth 100000 in
theorem m_X1_upTo (l : Launch) (D : va_G) (a : Nat → Nat) (k : Nat → ClassId) (sz : Nat) (hI : fd_I 39 a) (N : Nat) (p0 : Int32) (σ : fd_St) (r : Int64 × fd_St) (hf : f_X1_upTo N p0 σ = some r) : Met l yX1_upTo wsX1_upTo ({ frames := 0, cells := 0, slots := 0, locals := 0 }) (va_Pc [.int p0] (fd_PC D a k sz σ)) (va_Ql (fun v u => (v, u) = r) (fd_BC D a k) (fd_A 39 a sz)) 0 0 (fd_A 39 a sz) := by
  refine Met.ofW (cc := cX1_upTo) (maxL := 1) (ret := (some .long)) (by decide) rfl ?_
  intro p e s m args below meth c s₁ B hml hv
  obtain ⟨rfl, hsz, hP, hK⟩ := hv
  have hx := B.exec
  have hb := B.bytes
  have hr := B.returns
  have hts := atoms_spec (ws := wsX1_upTo) B.pre
  have hown : s.vm.findClass RX1 = some m.cls := findClass_of_methodNamed B.named
  have hlocks := B.notSynchronized
  subst hsz
  have hJ : ∀ i, i < 39 → fd_A 39 a s.heap.size (a i) := fun i hi => Or.inl ⟨i, hi, rfl⟩
  have hS : va_S (fd_A 39 a s.heap.size) s.heap s.heap [] := va_S.rf
  have hl := lv_entry ([.int p0]) (n := 1) (Nat.le_of_ble_eq_true rfl)
  rw [lg_entry_eq]
  generalize (lg_sl ([.int p0]) ++ List.replicate (1 - (lg_sl ([.int p0])).length) Slot.unset).toArray = ls at hl ⊢
  have hl : lv_has ls 1 [(0, .int p0)] := hl
  unfold f_X1_upTo at hf
  refine lv_ldc2 hx hb hown (hts (.constantLong RX1 33 (-1)) (List.mem_of_getElem? (i := 1) (by eq_refl))) dX1_upTo_0 ?_
  refine lv_bipush (v := (63 : Int32)) hx hb dX1_upTo_3 (by decide) ?_
  refine lv_iload_n hx hb dX1_upTo_5 rfl (lv_at hl 0 rfl) ?_
  refine lv_isub hx hb dX1_upTo_6 ?_
  refine lv_lushr hx hb dX1_upTo_7 rfl ?_
  exact W.lret (v := (((-1 : Int64).toUInt64 >>> (((63 : Int32) - p0).toInt64.toUInt64 &&& Int64.toUInt64 63)).toInt64)) hx hb hr (fun t ht hW => ⟨⟨((-1 : Int64).toUInt64 >>> (((63 : Int32) - p0).toInt64.toUInt64 &&& Int64.toUInt64 63)).toInt64, σ, rfl, Option.some.inj hf, by rw [ht]; exact hP, va_K.moved hW.alike hK⟩, hS.F ht⟩) hS.2.2 dX1_upTo_8
noncomputable def f_X1_mayBeStuck_10_L30 (N : Nat) : Nat → Int64 → Int64 → Int64 → Int32 → fd_St → Option (Int32 × fd_St)
  | 0 => fun _ _ _ _ _ => none
  | n + 1 => fun y3 y5 y7 y9 σ => if (σ.1 17) ≤ y9 then (some ((1 : Int32), σ)) else (fd_gd (vp_in y9 30) (fd_lt (y7 ||| ((σ.2.2 30 y9.toNatClampNeg) &&& (y3 ^^^ (-1 : Int64)))) (fun x14 => fd_gd (vp_in y9 30) (if (lg_cmp ((x14 ^^^ (σ.2.2 31 y9.toNatClampNeg)) &&& y5) (0 : Int64)) = 0 then (fd_lt (y9 + (1 : Int32)) (fun x17 => (f_X1_mayBeStuck_10_L30 N n) y3 y5 y7 x17 σ)) else (some ((0 : Int32), σ))))))
noncomputable def f_X1_mayBeStuck_10_J25 (N : Nat) (y3 : Int64) (y5 : Int64) (z0 : Int64) (σ : fd_St) : Option (Int32 × fd_St) := f_X1_mayBeStuck_10_L30 N N y3 y5 z0 (0 : Int32) σ
noncomputable def f_X1_mayBeStuck_10 (N : Nat) (p1 : Int32) (p2 : Int32) (σ : fd_St) : Option (Int32 × fd_St) := fd_bd (f_X1_upTo N p1 σ) (fun v2 σ3 => fd_bd (f_X1_upTo N ((σ3.1 16) - (1 : Int32)) σ3) (fun v7 σ8 => if p2 = 0 then (f_X1_mayBeStuck_10_J25 N v2 v7 (0 : Int64) σ8) else (f_X1_mayBeStuck_10_J25 N v2 v7 v2 σ8)))
set_option maxHeartbeats 4000000 in
set_option maxRecDepth 100000 in
theorem m_X1_mayBeStuck_10 (l : Launch) (D : va_G) (a : Nat → Nat) (k : Nat → ClassId) (sz : Nat) (hI : fd_I 39 a) (N : Nat) (p1 : Int32) (p2 : Int32) (σ : fd_St) (r : Int32 × fd_St) (hf : f_X1_mayBeStuck_10 N p1 p2 σ = some r) : Met l yX1_mayBeStuck wsX1_mayBeStuck ({ frames := 1, cells := 0, slots := 0, locals := 20 }) (va_Pc [.ref (a 10), .int p1, .int p2] (fd_PC D a k sz σ)) (va_Qi (fun v u => (v, u) = r) (fd_BC D a k) (fd_A 39 a sz)) 0 0 (fd_A 39 a sz) := by
  refine Met.ofW (cc := cX1_mayBeStuck) (maxL := 12) (ret := (some .boolean)) (by decide) rfl ?_
  intro p e s m args below meth c s₁ B hml hv
  obtain ⟨rfl, hsz, hP, hK⟩ := hv
  have hx := B.exec
  have hb := B.bytes
  have hr := B.returns
  have hts := atoms_spec (ws := wsX1_mayBeStuck) B.pre
  have hown : s.vm.findClass RX1 = some m.cls := findClass_of_methodNamed B.named
  have hlocks := B.notSynchronized
  subst hsz
  have hJ : ∀ i, i < 39 → fd_A 39 a s.heap.size (a i) := fun i hi => Or.inl ⟨i, hi, rfl⟩
  have hS : va_S (fd_A 39 a s.heap.size) s.heap s.heap [] := va_S.rf
  have hl := lv_entry ([.ref (a 10), .int p1, .int p2]) (n := 12) (Nat.le_of_ble_eq_true rfl)
  rw [lg_entry_eq]
  generalize (lg_sl ([.ref (a 10), .int p1, .int p2]) ++ List.replicate (12 - (lg_sl ([.ref (a 10), .int p1, .int p2])).length) Slot.unset).toArray = ls at hl ⊢
  have hl : lv_has ls 12 [(0, .ref (a 10)), (1, .int p1), (2, .int p2)] := hl
  have h9X1 : ∀ w ∈ u_ws RX1 TX1 4, w ∈ wsX1_mayBeStuck := fd_su [10, 11, 12, 13] (by eq_refl)
  have hL30 : ∀ (n : Nat), ∀ (y3 : Int64) (y5 : Int64) (y7 : Int64) (y9 : Int32) (σ : fd_St) (H : Heap) (locs : List Loc) (ls : Array Slot), va_P D vwCl (fd_WC a k σ) H → va_S (fd_A 39 a s.heap.size) s.heap H locs → lv_has ls 12 [(0, .ref (a 10)), (3, .long y3), (5, .long y5), (7, .long y7), (9, .int y9)] → f_X1_mayBeStuck_10_L30 N n y3 y5 y7 y9 σ = some r → W p l e ((headSpec wsX1_mayBeStuck ({ frames := 1, cells := 0, slots := 0, locals := 20 })).room) s m ([.ref (a 10), .int p1, .int p2].toArray) below meth c H locs 0 0 (MQ below (va_Qi (fun v u => (v, u) = r) (fd_BC D a k) (fd_A 39 a s.heap.size)) ([.ref (a 10), .int p1, .int p2].toArray) s 0 0 (fd_A 39 a s.heap.size)) (F0 m 30 ls []) := by
    intro n
    induction n with
    | zero =>
      intro _ _ _ _ _ _ _ _ _ _ _ hf
      cases hf
    | succ n ih =>
      intro y3 y5 y7 y9 σ H locs ls hP hS hl hf
      unfold f_X1_mayBeStuck_10_L30 at hf
      refine lv_iload hx hb dX1_mayBeStuck_30 (lv_at hl 4 rfl) ?_
      refine lv_aload_n hx hb dX1_mayBeStuck_32 rfl (lv_at hl 0 rfl) ?_
      refine va_get (ci := 1) (v := .int (σ.1 17)) (C := RX1) (T := TX1) (N := 4) hx hb hts h9X1 hown hK hP 10 fd_WC_10 rfl 3 (by decide) (hts (.fieldLink RX1 22 "FailDiagnose$Chain" "rows" "I") (List.mem_of_getElem? (i := 2) (by eq_refl))) (fun _ h9 => h9) rfl dX1_mayBeStuck_33 ?_
      refine lv_icmp_ge (tgt := 83) hx hb dX1_mayBeStuck_36 (by decide) (fun c12 => ?_) (fun c12 => ?_)
      · have hf := fd_itp c12 hf
        refine lv_iconst (v := (1 : Int32)) hx hb dX1_mayBeStuck_83 (by decide) ?_
        exact W.zret (v := (1 : Int32)) (ty := .boolean) hx hb hr rfl (fun t ht hW => ⟨⟨(1 : Int32), σ, rfl, Option.some.inj hf, by rw [ht]; exact hP, va_K.moved hW.alike hK⟩, hS.F ht⟩) hS.2.2 dX1_mayBeStuck_84
      · have hf := fd_itn c12 hf
        refine lv_lload hx hb dX1_mayBeStuck_39 (lv_at hl 3 rfl) ?_
        refine lv_aload_n hx hb dX1_mayBeStuck_41 rfl (lv_at hl 0 rfl) ?_
        refine va_get (ci := 1) (v := .ref (a 30)) (C := RX1) (T := TX1) (N := 4) hx hb hts h9X1 hown hK hP 10 fd_WC_10 rfl 0 (by decide) (hts (.fieldLink RX1 9 "FailDiagnose$Chain" "should" "[J") (List.mem_of_getElem? (i := 3) (by eq_refl))) (fun _ h9 => h9) rfl dX1_mayBeStuck_42 ?_
        refine lv_iload hx hb dX1_mayBeStuck_45 (lv_at hl 4 rfl) ?_
        obtain ⟨g13, hf⟩ := fd_gds hf
        refine va_lald hx hb hK hP 30 18 fd_WC_30 fd_tyC_30 g13 dX1_mayBeStuck_47 ?_
        refine lv_lload_n hx hb dX1_mayBeStuck_48 rfl (lv_at hl 1 rfl) ?_
        refine lv_ldc2 hx hb hown (hts (.constantLong RX1 33 (-1)) (List.mem_of_getElem? (i := 4) (by eq_refl))) dX1_mayBeStuck_49 ?_
        refine lv_lxor hx hb dX1_mayBeStuck_52 ?_
        refine lv_land hx hb dX1_mayBeStuck_53 ?_
        refine lv_lor hx hb dX1_mayBeStuck_54 ?_
        obtain ⟨x14, ex14, hf⟩ := fd_lts hf
        refine fd_nl ex14 ?_
        refine lv_lstore (lv' := [(10, .long x14), (0, .ref (a 10)), (3, .long y3), (5, .long y5), (7, .long y7), (9, .int y9)]) hx hb dX1_mayBeStuck_55 hl (by decide) rfl (fun ls hl => ?_)
        refine lv_lload hx hb dX1_mayBeStuck_57 (lv_at hl 0 rfl) ?_
        refine lv_aload_n hx hb dX1_mayBeStuck_59 rfl (lv_at hl 1 rfl) ?_
        refine va_get (ci := 1) (v := .ref (a 31)) (C := RX1) (T := TX1) (N := 4) hx hb hts h9X1 hown hK hP 10 fd_WC_10 rfl 1 (by decide) (hts (.fieldLink RX1 15 "FailDiagnose$Chain" "came" "[J") (List.mem_of_getElem? (i := 5) (by eq_refl))) (fun _ h9 => h9) rfl dX1_mayBeStuck_60 ?_
        refine lv_iload hx hb dX1_mayBeStuck_63 (lv_at hl 5 rfl) ?_
        obtain ⟨g15, hf⟩ := fd_gds hf
        refine va_lald hx hb hK hP 31 19 fd_WC_31 fd_tyC_31 g15 dX1_mayBeStuck_65 ?_
        refine lv_lxor hx hb dX1_mayBeStuck_66 ?_
        refine lv_lload hx hb dX1_mayBeStuck_67 (lv_at hl 3 rfl) ?_
        refine lv_land hx hb dX1_mayBeStuck_69 ?_
        refine lv_lconst (v := (0 : Int64)) hx hb dX1_mayBeStuck_70 (by decide) ?_
        refine W.lcmp hx hb dX1_mayBeStuck_71 ?_
        refine lv_if_eq (tgt := 77) hx hb dX1_mayBeStuck_72 (by decide) (fun c16 => ?_) (fun c16 => ?_)
        · have hf := fd_itp c16 hf
          obtain ⟨x17, ex17, hf⟩ := fd_lts hf
          refine lv_iinc (v := x17) (lv' := [(9, .int x17), (10, .long x14), (0, .ref (a 10)), (3, .long y3), (5, .long y5), (7, .long y7)]) hx hb dX1_mayBeStuck_77 hl (k := 5) rfl (by rw [ex17]; rfl) (by decide) rfl (fun ls hl => ?_)
          refine lv_goto (tgt := 30) hx hb dX1_mayBeStuck_80 (by decide) ?_
          exact ih y3 y5 y7 x17 σ _ _ _ hP hS (lv_sub hl [2, 3, 4, 5, 0] rfl) hf
        · have hf := fd_itn c16 hf
          refine lv_iconst (v := (0 : Int32)) hx hb dX1_mayBeStuck_75 (by decide) ?_
          exact W.zret (v := (0 : Int32)) (ty := .boolean) hx hb hr rfl (fun t ht hW => ⟨⟨(0 : Int32), σ, rfl, Option.some.inj hf, by rw [ht]; exact hP, va_K.moved hW.alike hK⟩, hS.F ht⟩) hS.2.2 dX1_mayBeStuck_76
  have hL25 : ∀ (y3 : Int64) (y5 : Int64) (z0 : Int64) (σ : fd_St) (H : Heap) (locs : List Loc) (ls : Array Slot), va_P D vwCl (fd_WC a k σ) H → va_S (fd_A 39 a s.heap.size) s.heap H locs → lv_has ls 12 [(0, .ref (a 10)), (3, .long y3), (5, .long y5)] → f_X1_mayBeStuck_10_J25 N y3 y5 z0 σ = some r → W p l e ((headSpec wsX1_mayBeStuck ({ frames := 1, cells := 0, slots := 0, locals := 20 })).room) s m ([.ref (a 10), .int p1, .int p2].toArray) below meth c H locs 0 0 (MQ below (va_Qi (fun v u => (v, u) = r) (fd_BC D a k) (fd_A 39 a s.heap.size)) ([.ref (a 10), .int p1, .int p2].toArray) s 0 0 (fd_A 39 a s.heap.size)) (F0 m 25 ls [.long z0]) := by
    intro y3 y5 z0 σ H locs ls hP hS hl hf
    unfold f_X1_mayBeStuck_10_J25 at hf
    refine lv_lstore (lv' := [(7, .long z0), (0, .ref (a 10)), (3, .long y3), (5, .long y5)]) hx hb dX1_mayBeStuck_25 hl (by decide) rfl (fun ls hl => ?_)
    refine lv_iconst (v := (0 : Int32)) hx hb dX1_mayBeStuck_27 (by decide) ?_
    refine lv_istore (lv' := [(9, .int (0 : Int32)), (7, .long z0), (0, .ref (a 10)), (3, .long y3), (5, .long y5)]) hx hb dX1_mayBeStuck_28 hl (by decide) rfl (fun ls hl => ?_)
    exact hL30 N y3 y5 z0 (0 : Int32) σ _ _ _ hP hS (lv_sub hl [2, 3, 4, 1, 0] rfl) hf
  unfold f_X1_mayBeStuck_10 at hf
  refine lv_iload_n hx hb dX1_mayBeStuck_0 rfl (lv_at hl 1 rfl) ?_
  obtain ⟨w4, τ5, hc1, hf⟩ := fd_bds hf
  refine va_calll (va_runS (As := [.int p1]) (rest := []) ⟨hx, hb, hml, hown, hts⟩ (m_X1_upTo l D a k s.heap.size hI N p1 σ _ hc1) (va_cwS 1 hts gX1_mayBeStuck_X1_upTo rfl rfl rfl (by decide +kernel) ⟨Nat.le_of_ble_eq_true rfl, Nat.le_of_ble_eq_true rfl⟩) ⟨fd_blC, fd_prC hP hK⟩ rfl rfl hl.1 rfl (lv_room (Nat.le_of_ble_eq_true rfl)) dX1_mayBeStuck_1 ⟨Nat.zero_le _, Nat.zero_le _⟩) hS (fun q _ h => fd_A_mono hS.1 h) (fun q h => fd_A_mono hS.1 h) (fun v2 u t H1 locs ht hvm hw hB hz hk hS => ?_)
  obtain ⟨hP1, hK1⟩ := hB
  rw [ht] at hP1
  obtain ⟨e1, e2⟩ := Prod.mk.inj hw
  subst e1
  subst e2
  obtain ⟨σ3, rfl⟩ : ∃ z, z = u := ⟨_, rfl⟩
  have hP := hP1
  generalize H1 = H at hP hS ⊢
  refine lv_lstore_n (lv' := [(3, .long v2), (0, .ref (a 10)), (1, .int p1), (2, .int p2)]) hx hb dX1_mayBeStuck_4 rfl hl (by decide) rfl (fun ls hl => ?_)
  refine lv_aload_n hx hb dX1_mayBeStuck_5 rfl (lv_at hl 1 rfl) ?_
  refine va_get (ci := 1) (v := .int (σ3.1 16)) (C := RX1) (T := TX1) (N := 4) hx hb hts h9X1 hown hK hP 10 fd_WC_10 rfl 2 (by decide) (hts (.fieldLink RX1 18 "FailDiagnose$Chain" "size" "I") (List.mem_of_getElem? (i := 1) (by eq_refl))) (fun _ h9 => h9) rfl dX1_mayBeStuck_6 ?_
  refine lv_iconst (v := (1 : Int32)) hx hb dX1_mayBeStuck_9 (by decide) ?_
  refine lv_isub hx hb dX1_mayBeStuck_10 ?_
  obtain ⟨w9, τ10, hc6, hf⟩ := fd_bds hf
  refine va_calll (va_runS (As := [.int ((σ3.1 16) - (1 : Int32))]) (rest := []) ⟨hx, hb, hml, hown, hts⟩ (m_X1_upTo l D a k H.size hI N ((σ3.1 16) - (1 : Int32)) σ3 _ hc6) (va_cwS 1 hts gX1_mayBeStuck_X1_upTo rfl rfl rfl (by decide +kernel) ⟨Nat.le_of_ble_eq_true rfl, Nat.le_of_ble_eq_true rfl⟩) ⟨fd_blC, fd_prC hP hK⟩ rfl rfl hl.1 rfl (lv_room (Nat.le_of_ble_eq_true rfl)) dX1_mayBeStuck_11 ⟨Nat.zero_le _, Nat.zero_le _⟩) hS (fun q _ h => fd_A_mono hS.1 h) (fun q h => fd_A_mono hS.1 h) (fun v7 u t H1 locs ht hvm hw hB hz hk hS => ?_)
  obtain ⟨hP1, hK1⟩ := hB
  rw [ht] at hP1
  obtain ⟨e1, e2⟩ := Prod.mk.inj hw
  subst e1
  subst e2
  obtain ⟨σ8, rfl⟩ : ∃ z, z = u := ⟨_, rfl⟩
  have hP := hP1
  generalize H1 = H at hP hS ⊢
  refine lv_lstore (lv' := [(5, .long v7), (3, .long v2), (0, .ref (a 10)), (1, .int p1), (2, .int p2)]) hx hb dX1_mayBeStuck_14 hl (by decide) rfl (fun ls hl => ?_)
  refine lv_iload_n hx hb dX1_mayBeStuck_16 rfl (lv_at hl 4 rfl) ?_
  refine lv_if_ne (tgt := 24) hx hb dX1_mayBeStuck_17 (by decide) (fun c11 => ?_) (fun c11 => ?_)
  · have hf := fd_itn c11 hf
    refine lv_lload_n hx hb dX1_mayBeStuck_24 rfl (lv_at hl 1 rfl) ?_
    exact hL25 v2 v7 v2 σ8 _ _ _ hP hS (lv_sub hl [2, 1, 0] rfl) hf
  · have hf := fd_itp c11 hf
    refine lv_lconst (v := (0 : Int64)) hx hb dX1_mayBeStuck_20 (by decide) ?_
    refine lv_goto (tgt := 25) hx hb dX1_mayBeStuck_21 (by decide) ?_
    exact hL25 v2 v7 (0 : Int64) σ8 _ _ _ hP hS (lv_sub hl [2, 1, 0] rfl) hf
noncomputable def f_X1_greatestStuckAt_10_L7 (N : Nat) : Nat → Int32 → Int32 → fd_St → Option (Int32 × fd_St)
  | 0 => fun _ _ _ => none
  | n + 1 => fun y1 y2 σ => if y2 < 0 then (some ((-1 : Int32), σ)) else (fd_bd (f_X1_mayBeStuck_10 N y2 y1 σ) (fun v4 σ5 => if v4 = 0 then (fd_lt (y2 + (-1 : Int32)) (fun x9 => (f_X1_greatestStuckAt_10_L7 N n) y1 x9 σ5)) else (some (y2, σ5))))
noncomputable def f_X1_greatestStuckAt_10 (N : Nat) (p1 : Int32) (σ : fd_St) : Option (Int32 × fd_St) := fd_lt ((σ.1 16) - (1 : Int32)) (fun x1 => f_X1_greatestStuckAt_10_L7 N N p1 x1 σ)
set_option maxHeartbeats 4000000 in
set_option maxRecDepth 100000 in
theorem m_X1_greatestStuckAt_10 (l : Launch) (D : va_G) (a : Nat → Nat) (k : Nat → ClassId) (sz : Nat) (hI : fd_I 39 a) (N : Nat) (p1 : Int32) (σ : fd_St) (r : Int32 × fd_St) (hf : f_X1_greatestStuckAt_10 N p1 σ = some r) : Met l yX1_greatestStuckAt wsX1_greatestStuckAt ({ frames := 2, cells := 0, slots := 0, locals := 51 }) (va_Pc [.ref (a 10), .int p1] (fd_PC D a k sz σ)) (va_Qi (fun v u => (v, u) = r) (fd_BC D a k) (fd_A 39 a sz)) 0 0 (fd_A 39 a sz) := by
  refine Met.ofW (cc := cX1_greatestStuckAt) (maxL := 3) (ret := (some .int)) (by decide) rfl ?_
  intro p e s m args below meth c s₁ B hml hv
  obtain ⟨rfl, hsz, hP, hK⟩ := hv
  have hx := B.exec
  have hb := B.bytes
  have hr := B.returns
  have hts := atoms_spec (ws := wsX1_greatestStuckAt) B.pre
  have hown : s.vm.findClass RX1 = some m.cls := findClass_of_methodNamed B.named
  have hlocks := B.notSynchronized
  subst hsz
  have hJ : ∀ i, i < 39 → fd_A 39 a s.heap.size (a i) := fun i hi => Or.inl ⟨i, hi, rfl⟩
  have hS : va_S (fd_A 39 a s.heap.size) s.heap s.heap [] := va_S.rf
  have hl := lv_entry ([.ref (a 10), .int p1]) (n := 3) (Nat.le_of_ble_eq_true rfl)
  rw [lg_entry_eq]
  generalize (lg_sl ([.ref (a 10), .int p1]) ++ List.replicate (3 - (lg_sl ([.ref (a 10), .int p1])).length) Slot.unset).toArray = ls at hl ⊢
  have hl : lv_has ls 3 [(0, .ref (a 10)), (1, .int p1)] := hl
  have h9X1 : ∀ w ∈ u_ws RX1 TX1 4, w ∈ wsX1_greatestStuckAt := fd_su [14, 15, 16, 17] (by eq_refl)
  have hL7 : ∀ (n : Nat), ∀ (y1 : Int32) (y2 : Int32) (σ : fd_St) (H : Heap) (locs : List Loc) (ls : Array Slot), va_P D vwCl (fd_WC a k σ) H → va_S (fd_A 39 a s.heap.size) s.heap H locs → lv_has ls 3 [(0, .ref (a 10)), (1, .int y1), (2, .int y2)] → f_X1_greatestStuckAt_10_L7 N n y1 y2 σ = some r → W p l e ((headSpec wsX1_greatestStuckAt ({ frames := 2, cells := 0, slots := 0, locals := 51 })).room) s m ([.ref (a 10), .int p1].toArray) below meth c H locs 0 0 (MQ below (va_Qi (fun v u => (v, u) = r) (fd_BC D a k) (fd_A 39 a s.heap.size)) ([.ref (a 10), .int p1].toArray) s 0 0 (fd_A 39 a s.heap.size)) (F0 m 7 ls []) := by
    intro n
    induction n with
    | zero =>
      intro _ _ _ _ _ _ _ _ _ hf
      cases hf
    | succ n ih =>
      intro y1 y2 σ H locs ls hP hS hl hf
      unfold f_X1_greatestStuckAt_10_L7 at hf
      refine lv_iload_n hx hb dX1_greatestStuckAt_7 rfl (lv_at hl 2 rfl) ?_
      refine lv_if_lt (tgt := 28) hx hb dX1_greatestStuckAt_8 (by decide) (fun c2 => ?_) (fun c2 => ?_)
      · have hf := fd_itp c2 hf
        refine lv_iconst (v := (-1 : Int32)) hx hb dX1_greatestStuckAt_28 (by decide) ?_
        exact W.iret (v := (-1 : Int32)) hx hb hr (fun t ht hW => ⟨⟨(-1 : Int32), σ, rfl, Option.some.inj hf, by rw [ht]; exact hP, va_K.moved hW.alike hK⟩, hS.F ht⟩) hS.2.2 dX1_greatestStuckAt_29
      · have hf := fd_itn c2 hf
        refine lv_aload_n hx hb dX1_greatestStuckAt_11 rfl (lv_at hl 0 rfl) ?_
        refine lv_iload_n hx hb dX1_greatestStuckAt_12 rfl (lv_at hl 2 rfl) ?_
        refine lv_iload_n hx hb dX1_greatestStuckAt_13 rfl (lv_at hl 1 rfl) ?_
        obtain ⟨w6, τ7, hc3, hf⟩ := fd_bds hf
        refine va_calli (va_runV (As := [.int y2, .int y1]) (rest := []) ⟨hx, hb, hml, hown, hts⟩ (m_X1_mayBeStuck_10 l D a k H.size hI N y2 y1 σ _ hc3) (cwV 2 hts gX1_greatestStuckAt_X1_mayBeStuck rfl rfl rfl (by decide +kernel) ⟨Nat.le_of_ble_eq_true rfl, Nat.le_of_ble_eq_true rfl⟩) ⟨fd_blC, va_recv hK hP (ci := 1) (q0 := 10) rfl fd_WC_10, fd_prC hP hK⟩ rfl rfl hl.1 rfl (lv_room (Nat.le_of_ble_eq_true rfl)) dX1_greatestStuckAt_14 ⟨Nat.zero_le _, Nat.zero_le _⟩) hS (fun q _ h => fd_A_mono hS.1 h) (fun q h => fd_A_mono hS.1 h) (fun v4 u t H1 locs ht hvm hw hB hz hk hS => ?_)
        obtain ⟨hP1, hK1⟩ := hB
        rw [ht] at hP1
        obtain ⟨e1, e2⟩ := Prod.mk.inj hw
        subst e1
        subst e2
        obtain ⟨σ5, rfl⟩ : ∃ z, z = u := ⟨_, rfl⟩
        have hP := hP1
        generalize H1 = H at hP hS ⊢
        refine lv_if_eq (tgt := 22) hx hb dX1_greatestStuckAt_17 (by decide) (fun c8 => ?_) (fun c8 => ?_)
        · have hf := fd_itp c8 hf
          obtain ⟨x9, ex9, hf⟩ := fd_lts hf
          refine lv_iinc (v := x9) (lv' := [(2, .int x9), (0, .ref (a 10)), (1, .int y1)]) hx hb dX1_greatestStuckAt_22 hl (k := 2) rfl (by rw [ex9]; rfl) (by decide) rfl (fun ls hl => ?_)
          refine lv_goto (tgt := 7) hx hb dX1_greatestStuckAt_25 (by decide) ?_
          exact ih y1 x9 σ5 _ _ _ hP hS (lv_sub hl [1, 2, 0] rfl) hf
        · have hf := fd_itn c8 hf
          refine lv_iload_n hx hb dX1_greatestStuckAt_20 rfl (lv_at hl 2 rfl) ?_
          exact W.iret (v := y2) hx hb hr (fun t ht hW => ⟨⟨y2, σ5, rfl, Option.some.inj hf, by rw [ht]; exact hP, va_K.moved hW.alike hK⟩, hS.F ht⟩) hS.2.2 dX1_greatestStuckAt_21
  unfold f_X1_greatestStuckAt_10 at hf
  refine lv_aload_n hx hb dX1_greatestStuckAt_0 rfl (lv_at hl 0 rfl) ?_
  refine va_get (ci := 1) (v := .int (σ.1 16)) (C := RX1) (T := TX1) (N := 4) hx hb hts h9X1 hown hK hP 10 fd_WC_10 rfl 2 (by decide) (hts (.fieldLink RX1 18 "FailDiagnose$Chain" "size" "I") (List.mem_of_getElem? (i := 1) (by eq_refl))) (fun _ h9 => h9) rfl dX1_greatestStuckAt_1 ?_
  refine lv_iconst (v := (1 : Int32)) hx hb dX1_greatestStuckAt_4 (by decide) ?_
  refine lv_isub hx hb dX1_greatestStuckAt_5 ?_
  obtain ⟨x1, ex1, hf⟩ := fd_lts hf
  refine fd_ni ex1 ?_
  refine lv_istore_n (lv' := [(2, .int x1), (0, .ref (a 10)), (1, .int p1)]) hx hb dX1_greatestStuckAt_6 rfl hl (by decide) rfl (fun ls hl => ?_)
  exact hL7 N p1 x1 σ _ _ _ hP hS (lv_sub hl [1, 2, 0] rfl) hf
noncomputable def f_X1_leastStuckAt_10_L2 (N : Nat) : Nat → Int32 → Int32 → fd_St → Option (Int32 × fd_St)
  | 0 => fun _ _ _ => none
  | n + 1 => fun y1 y2 σ => if (σ.1 16) ≤ y2 then (some ((-1 : Int32), σ)) else (fd_bd (f_X1_mayBeStuck_10 N y2 y1 σ) (fun v3 σ4 => if v3 = 0 then (fd_lt (y2 + (1 : Int32)) (fun x8 => (f_X1_leastStuckAt_10_L2 N n) y1 x8 σ4)) else (some (y2, σ4))))
noncomputable def f_X1_leastStuckAt_10 (N : Nat) (p1 : Int32) (σ : fd_St) : Option (Int32 × fd_St) := f_X1_leastStuckAt_10_L2 N N p1 (0 : Int32) σ
set_option maxHeartbeats 4000000 in
set_option maxRecDepth 100000 in
theorem m_X1_leastStuckAt_10 (l : Launch) (D : va_G) (a : Nat → Nat) (k : Nat → ClassId) (sz : Nat) (hI : fd_I 39 a) (N : Nat) (p1 : Int32) (σ : fd_St) (r : Int32 × fd_St) (hf : f_X1_leastStuckAt_10 N p1 σ = some r) : Met l yX1_leastStuckAt wsX1_leastStuckAt ({ frames := 2, cells := 0, slots := 0, locals := 51 }) (va_Pc [.ref (a 10), .int p1] (fd_PC D a k sz σ)) (va_Qi (fun v u => (v, u) = r) (fd_BC D a k) (fd_A 39 a sz)) 0 0 (fd_A 39 a sz) := by
  refine Met.ofW (cc := cX1_leastStuckAt) (maxL := 3) (ret := (some .int)) (by decide) rfl ?_
  intro p e s m args below meth c s₁ B hml hv
  obtain ⟨rfl, hsz, hP, hK⟩ := hv
  have hx := B.exec
  have hb := B.bytes
  have hr := B.returns
  have hts := atoms_spec (ws := wsX1_leastStuckAt) B.pre
  have hown : s.vm.findClass RX1 = some m.cls := findClass_of_methodNamed B.named
  have hlocks := B.notSynchronized
  subst hsz
  have hJ : ∀ i, i < 39 → fd_A 39 a s.heap.size (a i) := fun i hi => Or.inl ⟨i, hi, rfl⟩
  have hS : va_S (fd_A 39 a s.heap.size) s.heap s.heap [] := va_S.rf
  have hl := lv_entry ([.ref (a 10), .int p1]) (n := 3) (Nat.le_of_ble_eq_true rfl)
  rw [lg_entry_eq]
  generalize (lg_sl ([.ref (a 10), .int p1]) ++ List.replicate (3 - (lg_sl ([.ref (a 10), .int p1])).length) Slot.unset).toArray = ls at hl ⊢
  have hl : lv_has ls 3 [(0, .ref (a 10)), (1, .int p1)] := hl
  have h9X1 : ∀ w ∈ u_ws RX1 TX1 4, w ∈ wsX1_leastStuckAt := fd_su [14, 15, 16, 17] (by eq_refl)
  have hL2 : ∀ (n : Nat), ∀ (y1 : Int32) (y2 : Int32) (σ : fd_St) (H : Heap) (locs : List Loc) (ls : Array Slot), va_P D vwCl (fd_WC a k σ) H → va_S (fd_A 39 a s.heap.size) s.heap H locs → lv_has ls 3 [(0, .ref (a 10)), (1, .int y1), (2, .int y2)] → f_X1_leastStuckAt_10_L2 N n y1 y2 σ = some r → W p l e ((headSpec wsX1_leastStuckAt ({ frames := 2, cells := 0, slots := 0, locals := 51 })).room) s m ([.ref (a 10), .int p1].toArray) below meth c H locs 0 0 (MQ below (va_Qi (fun v u => (v, u) = r) (fd_BC D a k) (fd_A 39 a s.heap.size)) ([.ref (a 10), .int p1].toArray) s 0 0 (fd_A 39 a s.heap.size)) (F0 m 2 ls []) := by
    intro n
    induction n with
    | zero =>
      intro _ _ _ _ _ _ _ _ _ hf
      cases hf
    | succ n ih =>
      intro y1 y2 σ H locs ls hP hS hl hf
      unfold f_X1_leastStuckAt_10_L2 at hf
      refine lv_iload_n hx hb dX1_leastStuckAt_2 rfl (lv_at hl 2 rfl) ?_
      refine lv_aload_n hx hb dX1_leastStuckAt_3 rfl (lv_at hl 0 rfl) ?_
      refine va_get (ci := 1) (v := .int (σ.1 16)) (C := RX1) (T := TX1) (N := 4) hx hb hts h9X1 hown hK hP 10 fd_WC_10 rfl 2 (by decide) (hts (.fieldLink RX1 18 "FailDiagnose$Chain" "size" "I") (List.mem_of_getElem? (i := 1) (by eq_refl))) (fun _ h9 => h9) rfl dX1_leastStuckAt_4 ?_
      refine lv_icmp_ge (tgt := 27) hx hb dX1_leastStuckAt_7 (by decide) (fun c1 => ?_) (fun c1 => ?_)
      · have hf := fd_itp c1 hf
        refine lv_iconst (v := (-1 : Int32)) hx hb dX1_leastStuckAt_27 (by decide) ?_
        exact W.iret (v := (-1 : Int32)) hx hb hr (fun t ht hW => ⟨⟨(-1 : Int32), σ, rfl, Option.some.inj hf, by rw [ht]; exact hP, va_K.moved hW.alike hK⟩, hS.F ht⟩) hS.2.2 dX1_leastStuckAt_28
      · have hf := fd_itn c1 hf
        refine lv_aload_n hx hb dX1_leastStuckAt_10 rfl (lv_at hl 0 rfl) ?_
        refine lv_iload_n hx hb dX1_leastStuckAt_11 rfl (lv_at hl 2 rfl) ?_
        refine lv_iload_n hx hb dX1_leastStuckAt_12 rfl (lv_at hl 1 rfl) ?_
        obtain ⟨w5, τ6, hc2, hf⟩ := fd_bds hf
        refine va_calli (va_runV (As := [.int y2, .int y1]) (rest := []) ⟨hx, hb, hml, hown, hts⟩ (m_X1_mayBeStuck_10 l D a k H.size hI N y2 y1 σ _ hc2) (cwV 2 hts gX1_leastStuckAt_X1_mayBeStuck rfl rfl rfl (by decide +kernel) ⟨Nat.le_of_ble_eq_true rfl, Nat.le_of_ble_eq_true rfl⟩) ⟨fd_blC, va_recv hK hP (ci := 1) (q0 := 10) rfl fd_WC_10, fd_prC hP hK⟩ rfl rfl hl.1 rfl (lv_room (Nat.le_of_ble_eq_true rfl)) dX1_leastStuckAt_13 ⟨Nat.zero_le _, Nat.zero_le _⟩) hS (fun q _ h => fd_A_mono hS.1 h) (fun q h => fd_A_mono hS.1 h) (fun v3 u t H1 locs ht hvm hw hB hz hk hS => ?_)
        obtain ⟨hP1, hK1⟩ := hB
        rw [ht] at hP1
        obtain ⟨e1, e2⟩ := Prod.mk.inj hw
        subst e1
        subst e2
        obtain ⟨σ4, rfl⟩ : ∃ z, z = u := ⟨_, rfl⟩
        have hP := hP1
        generalize H1 = H at hP hS ⊢
        refine lv_if_eq (tgt := 21) hx hb dX1_leastStuckAt_16 (by decide) (fun c7 => ?_) (fun c7 => ?_)
        · have hf := fd_itp c7 hf
          obtain ⟨x8, ex8, hf⟩ := fd_lts hf
          refine lv_iinc (v := x8) (lv' := [(2, .int x8), (0, .ref (a 10)), (1, .int y1)]) hx hb dX1_leastStuckAt_21 hl (k := 2) rfl (by rw [ex8]; rfl) (by decide) rfl (fun ls hl => ?_)
          refine lv_goto (tgt := 2) hx hb dX1_leastStuckAt_24 (by decide) ?_
          exact ih y1 x8 σ4 _ _ _ hP hS (lv_sub hl [1, 2, 0] rfl) hf
        · have hf := fd_itn c7 hf
          refine lv_iload_n hx hb dX1_leastStuckAt_19 rfl (lv_at hl 2 rfl) ?_
          exact W.iret (v := y2) hx hb hr (fun t ht hW => ⟨⟨y2, σ4, rfl, Option.some.inj hf, by rw [ht]; exact hP, va_K.moved hW.alike hK⟩, hS.F ht⟩) hS.2.2 dX1_leastStuckAt_20
  unfold f_X1_leastStuckAt_10 at hf
  refine lv_iconst (v := (0 : Int32)) hx hb dX1_leastStuckAt_0 (by decide) ?_
  refine lv_istore_n (lv' := [(2, .int (0 : Int32)), (0, .ref (a 10)), (1, .int p1)]) hx hb dX1_leastStuckAt_1 rfl hl (by decide) rfl (fun ls hl => ?_)
  exact hL2 N p1 (0 : Int32) σ _ _ _ hP hS (lv_sub hl [1, 2, 0] rfl) hf
noncomputable def f_X10_span_0_J18 (N : Nat) (σ : fd_St) : Option ((Int32 ⊕ String) × fd_St) := some (.inr "java/lang/IndexOutOfBoundsException", σ)
noncomputable def f_X10_span_0 (N : Nat) (p1 : Int32) (p2 : Int32) (σ : fd_St) : Option ((Int32 ⊕ String) × fd_St) := if p1 < 0 then (f_X10_span_0_J18 N σ) else (if (1 : Int32) < p1 then (f_X10_span_0_J18 N σ) else (if p2 < 0 then (f_X10_span_0_J18 N σ) else (if p2 ≤ (1 : Int32) then (fd_bx (f_X10_needChain_0 N σ) (fun _ σ8 => if p2 = 0 then (fd_bd (f_X1_leastStuckAt_10 N p1 σ8) (fun v19 σ20 => some (.inl v19, σ20))) else (fd_bd (f_X1_greatestStuckAt_10 N p1 σ8) (fun v14 σ15 => some (.inl v14, σ15)))) (fun E τ => some (.inr E, τ))) else (f_X10_span_0_J18 N σ))))
set_option maxHeartbeats 4000000 in
set_option maxRecDepth 100000 in
theorem m_X10_span_0 (l : Launch) (hl9 : l.stackTraces = false) (D : va_G) (a : Nat → Nat) (k : Nat → ClassId) (sz : Nat) (hI : fd_I 39 a) (N : Nat) (p1 : Int32) (p2 : Int32) (σ : fd_St) (r : (Int32 ⊕ String) × fd_St) (hf : f_X10_span_0 N p1 p2 σ = some r) : vx_Met l yX10_span wsX10_span ({ frames := 7, cells := fd_mc r, slots := fd_ms r, locals := 110 }) (va_Pc [.ref (a 0), .int p1, .int p2] (fd_PZ D a k sz σ)) (va_Qi (fun v u => (Sum.inl v, u) = r) (fd_BC D a k) (fd_A 39 a sz)) (fd_X D a k (fd_A 39 a sz) r) (fd_mc r) (fd_ms r) (fd_A 39 a sz) := by
  refine vx_ofW (cc := cX10_span) (maxL := 3) (ret := (some .int)) (by decide) rfl ?_
  intro p e s m args below meth c s₁ B hml hex hv
  obtain ⟨rfl, ⟨hsz, hP, hK⟩, hZ⟩ := hv
  have hx := B.exec
  have hb := B.bytes
  have hr := B.returns
  have hts := atoms_spec (ws := wsX10_span) B.pre
  have hown : s.vm.findClass RX10 = some m.cls := findClass_of_methodNamed B.named
  have hlocks := B.notSynchronized
  subst hsz
  have hJ : ∀ i, i < 39 → fd_A 39 a s.heap.size (a i) := fun i hi => Or.inl ⟨i, hi, rfl⟩
  have hS : va_S (fd_A 39 a s.heap.size) s.heap s.heap [] := va_S.rf
  have hl := lv_entry ([.ref (a 0), .int p1, .int p2]) (n := 3) (Nat.le_of_ble_eq_true rfl)
  rw [lg_entry_eq]
  generalize (lg_sl ([.ref (a 0), .int p1, .int p2]) ++ List.replicate (3 - (lg_sl ([.ref (a 0), .int p1, .int p2])).length) Slot.unset).toArray = ls at hl ⊢
  have hl : lv_has ls 3 [(0, .ref (a 0)), (1, .int p1), (2, .int p2)] := hl
  have h9X10 : ∀ w ∈ u_ws RX10 TX10 8, w ∈ wsX10_span := fd_su [36, 37, 38, 39, 40, 41, 42, 43] (by eq_refl)
  have hL18 : ∀ (σ : fd_St) (H : Heap) (locs : List Loc) (ls : Array Slot), va_P D vwCl (fd_WC a k σ) H → va_S (fd_A 39 a s.heap.size) s.heap H locs → lv_has ls 3 [] → f_X10_span_0_J18 N σ = some r → W p l e ((headSpec wsX10_span ({ frames := 7, cells := fd_mc r, slots := fd_ms r, locals := 110 })).room) s m ([.ref (a 0), .int p1, .int p2].toArray) below meth c H locs 0 0 (vx_MQ below (va_Qi (fun v u => (Sum.inl v, u) = r) (fd_BC D a k) (fd_A 39 a s.heap.size)) (fd_X D a k (fd_A 39 a s.heap.size) r) ([.ref (a 0), .int p1, .int p2].toArray) s (fd_mc r) (fd_ms r) (fd_A 39 a s.heap.size)) (F0 m 18 ls []) := by
    intro σ H locs ls hP hS hl hf
    unfold f_X10_span_0_J18 at hf
    have e2 := Option.some.inj hf
    subst e2
    obtain ⟨sa, hsa⟩ := hZ.str 210 "v and end are 0 or 1" (by decide +kernel)
    exact vx_throwS (own := RX10) (cls := "java/lang/IndexOutOfBoundsException") (names := ["java/lang/RuntimeException", "java/lang/Exception"]) hx hb hl9 hown fd_ex_114_118_f fd_ex_n (hts (.classLink RX10 114 "java/lang/IndexOutOfBoundsException") (List.mem_of_getElem? (i := 1) (by eq_refl))) (hts (.initialized "java/lang/IndexOutOfBoundsException") (List.mem_of_getElem? (i := 2) (by eq_refl))) hsa (vx_hat (L := vx_atS RX10 118 "java/lang/IndexOutOfBoundsException" ["java/lang/RuntimeException", "java/lang/Exception"]) (B := fd_bad "java/lang/IndexOutOfBoundsException") (fun w hw => hts w ((fun w h => List.mem_cons_of_mem _ (List.mem_append_left _ (List.mem_append_right _ h)) : ∀ w ∈ (vx_atS RX10 118 "java/lang/IndexOutOfBoundsException" ["java/lang/RuntimeException", "java/lang/Exception"]).filter goodWord, w ∈ wsX10_span) w hw)) fd_ex_114_118_b (hZ.bad "java/lang/IndexOutOfBoundsException" fd_ex_114_118_e)) fd_ex_114_118_g hZ.un hZ.su hS (hl.1.trans hml.symm) dX10_span_18 dX10_span_21 dX10_span_22 dX10_span_24 dX10_span_27 (fun x hx => (hex x hx).elim) (Nat.le_of_ble_eq_true rfl) (Nat.le_of_ble_eq_true rfl) (Nat.le_of_ble_eq_true rfl) (Nat.le_of_ble_eq_true rfl) hlocks (fun t ha hsz hk => ⟨σ, trivial, ⟨rfl, hP.kept (fun k q hq => hk q.1 (hP k q hq).lt), va_K.moved ha hK⟩, Nat.le_trans hS.1 hsz, fun q h1 h2 => (hk q (Nat.lt_of_lt_of_le h1 hS.1)).trans (hS.2.1 q h1 h2)⟩) hS.2.2 (Nat.le_of_ble_eq_true rfl) (Nat.le_of_ble_eq_true rfl)
  unfold f_X10_span_0 at hf
  refine lv_iload_n hx hb dX10_span_0 rfl (lv_at hl 1 rfl) ?_
  refine lv_if_lt (tgt := 18) hx hb dX10_span_1 (by decide) (fun c1 => ?_) (fun c1 => ?_)
  · have hf := fd_itp c1 hf
    exact hL18 σ _ _ _ hP hS (lv_sub hl [] rfl) hf
  · have hf := fd_itn c1 hf
    refine lv_iload_n hx hb dX10_span_4 rfl (lv_at hl 1 rfl) ?_
    refine lv_iconst (v := (1 : Int32)) hx hb dX10_span_5 (by decide) ?_
    refine lv_icmp_gt (tgt := 18) hx hb dX10_span_6 (by decide) (fun c3 => ?_) (fun c3 => ?_)
    · have hf := fd_itp c3 hf
      exact hL18 σ _ _ _ hP hS (lv_sub hl [] rfl) hf
    · have hf := fd_itn c3 hf
      refine lv_iload_n hx hb dX10_span_9 rfl (lv_at hl 2 rfl) ?_
      refine lv_if_lt (tgt := 18) hx hb dX10_span_10 (by decide) (fun c4 => ?_) (fun c4 => ?_)
      · have hf := fd_itp c4 hf
        exact hL18 σ _ _ _ hP hS (lv_sub hl [] rfl) hf
      · have hf := fd_itn c4 hf
        refine lv_iload_n hx hb dX10_span_13 rfl (lv_at hl 2 rfl) ?_
        refine lv_iconst (v := (1 : Int32)) hx hb dX10_span_14 (by decide) ?_
        refine lv_icmp_le (tgt := 28) hx hb dX10_span_15 (by decide) (fun c5 => ?_) (fun c5 => ?_)
        · have hf := fd_itp c5 hf
          refine lv_aload_n hx hb dX10_span_28 rfl (lv_at hl 0 rfl) ?_
          rcases fd_bxs hf with ⟨w9, τ10, hc6, hf⟩ | ⟨E11, τ10, hc6, hf⟩
          · refine vx_callv (vx_runV (As := []) (rest := []) ⟨hx, hb, hml, hown, hts⟩ (m_X10_needChain_0 l hl9 D a k s.heap.size hI N σ _ hc6) (cwV 0 hts gX10_span_X10_needChain rfl rfl rfl (by decide +kernel) ⟨Nat.le_of_ble_eq_true rfl, Nat.le_of_ble_eq_true rfl⟩) ⟨fd_blZ, va_recv hK hP (ci := 10) (q0 := 0) rfl fd_WC_0, fd_prZ hP hK hZ hS⟩ rfl rfl hl.1 rfl (lv_room (Nat.le_of_ble_eq_true rfl)) dX10_span_29 ⟨Nat.zero_le _, Nat.zero_le _⟩) hS (fun q _ h => fd_A_mono hS.1 h) (fun q h => fd_A_mono hS.1 h) (fun q _ h => fd_A_mono hS.1 h) (fun E ce q9 u t H1 locs1 ht hvm hp hB => ?_) (fun u t H1 locs ht hvm hw hB hz hk hS => ?_)
            · exact absurd hB.1 (by simp)
            obtain ⟨hP1, hK1⟩ := hB
            rw [ht] at hP1
            have e2 := (Prod.mk.inj hw).2
            subst e2
            obtain ⟨σ8, rfl⟩ : ∃ z, z = u := ⟨_, rfl⟩
            have hP := hP1
            generalize H1 = H at hP hS ⊢
            refine W.cs (cells' := 0) (slots' := 0) rfl rfl ?_
            refine lv_iload_n hx hb dX10_span_32 rfl (lv_at hl 2 rfl) ?_
            refine lv_if_ne (tgt := 47) hx hb dX10_span_33 (by decide) (fun c12 => ?_) (fun c12 => ?_)
            · have hf := fd_itn c12 hf
              refine lv_aload_n hx hb dX10_span_47 rfl (lv_at hl 0 rfl) ?_
              refine va_get (ci := 10) (v := .ref (a 10)) (C := RX10) (T := TX10) (N := 8) hx hb hts h9X10 hown hK hP 0 fd_WC_0 rfl 5 (by decide) (hts (.fieldLink RX10 49 "FailDiagnose" "cells" "LFailDiagnose$Chain;") (List.mem_of_getElem? (i := 3) (by eq_refl))) (fun _ h9 => h9) rfl dX10_span_48 ?_
              refine lv_iload_n hx hb dX10_span_51 rfl (lv_at hl 1 rfl) ?_
              obtain ⟨w16, τ17, hc13, hf⟩ := fd_bds hf
              refine va_calli (va_runV (As := [.int p1]) (rest := []) ⟨hx, hb, hml, hown, hts⟩ (m_X1_greatestStuckAt_10 l D a k H.size hI N p1 σ8 _ hc13) (cwV 1 hts gX10_span_X1_greatestStuckAt rfl rfl rfl (by decide +kernel) ⟨Nat.le_of_ble_eq_true rfl, Nat.le_of_ble_eq_true rfl⟩) ⟨fd_blC, va_recv hK hP (ci := 1) (q0 := 10) rfl fd_WC_10, fd_prC hP hK⟩ rfl rfl hl.1 rfl (lv_room (Nat.le_of_ble_eq_true rfl)) dX10_span_52 ⟨Nat.zero_le _, Nat.zero_le _⟩) hS (fun q _ h => fd_A_mono hS.1 h) (fun q h => fd_A_mono hS.1 h) (fun v14 u t H1 locs ht hvm hw hB hz hk hS => ?_)
              obtain ⟨hP1, hK1⟩ := hB
              rw [ht] at hP1
              obtain ⟨e1, e2⟩ := Prod.mk.inj hw
              subst e1
              subst e2
              obtain ⟨σ15, rfl⟩ : ∃ z, z = u := ⟨_, rfl⟩
              have hP := hP1
              generalize H1 = H at hP hS ⊢
              refine vx_ret (W.widen (k := fd_mc r) (n := fd_ms r) (Nat.zero_le _) (Nat.zero_le _) ?_)
              exact W.iret (v := v14) hx hb hr (fun t ht hW => ⟨⟨v14, σ15, rfl, Option.some.inj hf, by rw [ht]; exact hP, va_K.moved hW.alike hK⟩, hS.F ht⟩) hS.2.2 dX10_span_55
            · have hf := fd_itp c12 hf
              refine lv_aload_n hx hb dX10_span_36 rfl (lv_at hl 0 rfl) ?_
              refine va_get (ci := 10) (v := .ref (a 10)) (C := RX10) (T := TX10) (N := 8) hx hb hts h9X10 hown hK hP 0 fd_WC_0 rfl 5 (by decide) (hts (.fieldLink RX10 49 "FailDiagnose" "cells" "LFailDiagnose$Chain;") (List.mem_of_getElem? (i := 3) (by eq_refl))) (fun _ h9 => h9) rfl dX10_span_37 ?_
              refine lv_iload_n hx hb dX10_span_40 rfl (lv_at hl 1 rfl) ?_
              obtain ⟨w21, τ22, hc18, hf⟩ := fd_bds hf
              refine va_calli (va_runV (As := [.int p1]) (rest := []) ⟨hx, hb, hml, hown, hts⟩ (m_X1_leastStuckAt_10 l D a k H.size hI N p1 σ8 _ hc18) (cwV 1 hts gX10_span_X1_leastStuckAt rfl rfl rfl (by decide +kernel) ⟨Nat.le_of_ble_eq_true rfl, Nat.le_of_ble_eq_true rfl⟩) ⟨fd_blC, va_recv hK hP (ci := 1) (q0 := 10) rfl fd_WC_10, fd_prC hP hK⟩ rfl rfl hl.1 rfl (lv_room (Nat.le_of_ble_eq_true rfl)) dX10_span_41 ⟨Nat.zero_le _, Nat.zero_le _⟩) hS (fun q _ h => fd_A_mono hS.1 h) (fun q h => fd_A_mono hS.1 h) (fun v19 u t H1 locs ht hvm hw hB hz hk hS => ?_)
              obtain ⟨hP1, hK1⟩ := hB
              rw [ht] at hP1
              obtain ⟨e1, e2⟩ := Prod.mk.inj hw
              subst e1
              subst e2
              obtain ⟨σ20, rfl⟩ : ∃ z, z = u := ⟨_, rfl⟩
              have hP := hP1
              generalize H1 = H at hP hS ⊢
              refine lv_goto (tgt := 55) hx hb dX10_span_44 (by decide) ?_
              refine vx_ret (W.widen (k := fd_mc r) (n := fd_ms r) (Nat.zero_le _) (Nat.zero_le _) ?_)
              exact W.iret (v := v19) hx hb hr (fun t ht hW => ⟨⟨v19, σ20, rfl, Option.some.inj hf, by rw [ht]; exact hP, va_K.moved hW.alike hK⟩, hS.F ht⟩) hS.2.2 dX10_span_55
          · have er := Option.some.inj hf
            subst er
            refine vx_callv (vx_runV (As := []) (rest := []) ⟨hx, hb, hml, hown, hts⟩ (m_X10_needChain_0 l hl9 D a k s.heap.size hI N σ _ hc6) (cwV 0 hts gX10_span_X10_needChain rfl rfl rfl (by decide +kernel) ⟨Nat.le_of_ble_eq_true rfl, Nat.le_of_ble_eq_true rfl⟩) ⟨fd_blZ, va_recv hK hP (ci := 10) (q0 := 0) rfl fd_WC_0, fd_prZ hP hK hZ hS⟩ rfl rfl hl.1 rfl (lv_room (Nat.le_of_ble_eq_true rfl)) dX10_span_29 ⟨Nat.le_of_ble_eq_true rfl, Nat.le_of_ble_eq_true rfl⟩) hS (fun q _ h => fd_A_mono hS.1 h) (fun q h => fd_A_mono hS.1 h) (fun q _ h => fd_A_mono hS.1 h) (fun E ce q9 u t H1 locs1 ht hvm hp hB hz hk hS hce hcv hcl => ?_) (fun u t H1 locs ht hvm hw hB hz hk hS => ?_)
            · obtain ⟨hB0, hP1, hK1⟩ := hB
              rw [ht] at hP1
              exact vx_out (E := E) (fun x hx => (hex x hx).elim) hlocks hce hcv hcl (fun t ht ha => ⟨u, trivial, ⟨fd_inr hB0, by rw [ht]; exact hP1, va_K.moved ha hK⟩, hS.F ht⟩) hS.2.2 (Nat.le_of_ble_eq_true rfl) (Nat.le_of_ble_eq_true rfl)
            · exact absurd hw (by simp)
        · have hf := fd_itn c5 hf
          exact hL18 σ _ _ _ hP hS (lv_sub hl [] rfl) hf
noncomputable def f_L_span_0_39 (N : Nat) (p1 : Int32) (p2 : Int32) (σ : fd_St) : Option (Int32 × fd_St) := fd_bx (f_X10_span_0 N p1 p2 σ) (fun v2 τ => fd_lt (fd_mix τ σ) (fun σ6 => fd_gd (vp_in (0 : Int32) 1) (fd_lt (fd_sL 39 (0 : Int32) v2.toInt64 σ6) (fun σ9 => some ((0 : Int32), σ9))))) (fun E τ => if E = "java/lang/IndexOutOfBoundsException" then (fd_lt (fd_mix τ σ) (fun σ11 => some ((1 : Int32), σ11))) else (if E = "java/lang/IllegalStateException" then (fd_lt (fd_mix τ σ) (fun σ13 => some ((2 : Int32), σ13))) else (none)))
set_option maxHeartbeats 4000000 in
set_option maxRecDepth 100000 in
theorem m_L_span_0_39 (l : Launch) (hl9 : l.stackTraces = false) (D : va_G) (a : Nat → Nat) (k : Nat → ClassId) (sz : Nat) (hI : fd_I 40 a) (N : Nat) (p1 : Int32) (p2 : Int32) (σ : fd_St) (r : Int32 × fd_St) (hf : f_L_span_0_39 N p1 p2 σ = some r) : Met l yL_span wsL_span ({ frames := 8, cells := 1, slots := 6, locals := 132 }) (va_Pc [.ref (a 0), .int p1, .int p2, .ref (a 39)] (fd_PH D a k sz σ)) (va_Qi (fun v u => (v, u) = r) (fd_BH D a k) (fd_A 40 a sz)) 1 6 (fd_A 40 a sz) := by
  refine fd_ofWT (cc := cL_span) (maxL := 5) (ret := (some .int)) (by decide) rfl ?_
  intro p e s m args below meth c s₁ B hml hTab hv
  obtain ⟨rfl, hsz, hP, hK, hZ⟩ := hv
  have hx := B.exec
  have hb := B.bytes
  have hr := B.returns
  have hts := atoms_spec (ws := wsL_span) B.pre
  have hown : s.vm.findClass RL = some m.cls := findClass_of_methodNamed B.named
  have hlocks := B.notSynchronized
  subst hsz
  have hJ : ∀ i, i < 40 → fd_A 40 a s.heap.size (a i) := fun i hi => Or.inl ⟨i, hi, rfl⟩
  have hS : va_S (fd_A 40 a s.heap.size) s.heap s.heap [] := va_S.rf
  have hl := lv_entry ([.ref (a 0), .int p1, .int p2, .ref (a 39)]) (n := 5) (Nat.le_of_ble_eq_true rfl)
  rw [lg_entry_eq]
  generalize (lg_sl ([.ref (a 0), .int p1, .int p2, .ref (a 39)]) ++ List.replicate (5 - (lg_sl ([.ref (a 0), .int p1, .int p2, .ref (a 39)])).length) Slot.unset).toArray = ls at hl ⊢
  have hl : lv_has ls 5 [(0, .ref (a 0)), (1, .int p1), (2, .int p2), (3, .ref (a 39))] := hl
  unfold f_L_span_0_39 at hf
  refine lv_aload_n hx hb dL_span_0 rfl (lv_at hl 3 rfl) ?_
  refine lv_iconst (v := (0 : Int32)) hx hb dL_span_1 (by decide) ?_
  refine lv_aload_n hx hb dL_span_2 rfl (lv_at hl 0 rfl) ?_
  refine lv_iload_n hx hb dL_span_3 rfl (lv_at hl 1 rfl) ?_
  refine lv_iload_n hx hb dL_span_4 rfl (lv_at hl 2 rfl) ?_
  rcases fd_bxs hf with ⟨w3, τ4, hc1, hf⟩ | ⟨E5, τ4, hc1, hf⟩
  · refine vx_calli (vx_runV (As := [.int p1, .int p2]) (rest := [.int (0 : Int32), .ref (a 39)]) ⟨hx, hb, hml, hown, hts⟩ (m_X10_span_0 l hl9 D a k s.heap.size (fd_I40 hI) N p1 p2 σ _ hc1) (cwV 2 hts gL_span_X10_span rfl rfl rfl (by decide +kernel) ⟨Nat.le_of_ble_eq_true rfl, Nat.le_of_ble_eq_true rfl⟩) ⟨fd_blZ, va_recv (fd_HK hK) (fd_HC hP) (ci := 10) (q0 := 0) rfl fd_WC_0, fd_prHZ hP hK hZ hS⟩ rfl rfl hl.1 rfl (lv_room (Nat.le_of_ble_eq_true rfl)) dL_span_5 ⟨(Nat.zero_le _), (Nat.zero_le _)⟩) hS (fun q _ h => fd_A_sub hS.1 h) (fun q h => fd_A_sub hS.1 h) (fun q _ h => fd_A_sub hS.1 h) (fun E ce q9 u t H1 locs1 ht hvm hp hB => ?_) (fun v2 u t H1 locs ht hvm hw hB hz hk hS => ?_)
    · exact absurd hB.1 (by simp)
    obtain ⟨hP1, hK1⟩ := hB
    rw [ht] at hP1
    obtain ⟨e1, e2⟩ := Prod.mk.inj hw
    obtain e1 := Sum.inl.inj e1
    subst e1
    subst e2
    obtain ⟨σ6, eσ6, hf⟩ := fd_lts hf
    have hP : va_P D vwCl (fd_WH a k σ6) H1 := by rw [eσ6]; exact fd_HJ hI hP hP1 hk
    generalize H1 = H at hP hS ⊢
    refine W.cs (cells' := 0) (slots' := 0) rfl rfl ?_
    refine lv_i2l hx hb dL_span_8 rfl ?_
    obtain ⟨g8, hf⟩ := fd_gds hf
    obtain ⟨σ9, eσ9, hf⟩ := fd_lts hf
    refine va_last hx hb hK hP (fd_DH hI hJ) hS 39 27 fd_WH_39 fd_tyH_39 g8 dL_span_9 (fun H locs hP _ hS => ?_)
    have hP : va_P D vwCl (fd_WH a k σ9) H := by rw [eσ9]; exact fd_sP fd_WHa_39 hP
    refine lv_goto (tgt := 21) hx hb dL_span_10 (by decide) ?_
    refine lv_iconst (v := (0 : Int32)) hx hb dL_span_21 (by decide) ?_
    refine W.widen (k := 1) (n := 6) (Nat.le_of_ble_eq_true rfl) (Nat.le_of_ble_eq_true rfl) ?_
    exact W.iret (v := (0 : Int32)) hx hb hr (fun t ht hW => ⟨⟨(0 : Int32), σ9, rfl, Option.some.inj hf, by rw [ht]; exact hP, va_K.moved hW.alike hK⟩, hS.F ht⟩) hS.2.2 dL_span_22
  · have hE := hf
    by_cases c10 : E5 = "java/lang/IndexOutOfBoundsException"
    · subst c10
      have hf := fd_itp rfl hf
      refine vx_calli (vx_runV (As := [.int p1, .int p2]) (rest := [.int (0 : Int32), .ref (a 39)]) ⟨hx, hb, hml, hown, hts⟩ (m_X10_span_0 l hl9 D a k s.heap.size (fd_I40 hI) N p1 p2 σ _ hc1) (cwV 2 hts gL_span_X10_span rfl rfl rfl (by decide +kernel) ⟨Nat.le_of_ble_eq_true rfl, Nat.le_of_ble_eq_true rfl⟩) ⟨fd_blZ, va_recv (fd_HK hK) (fd_HC hP) (ci := 10) (q0 := 0) rfl fd_WC_0, fd_prHZ hP hK hZ hS⟩ rfl rfl hl.1 rfl (lv_room (Nat.le_of_ble_eq_true rfl)) dL_span_5 ⟨Nat.le_of_ble_eq_true rfl, Nat.le_of_ble_eq_true rfl⟩) hS (fun q _ h => fd_A_sub hS.1 h) (fun q h => fd_A_sub hS.1 h) (fun q _ h => fd_A_sub hS.1 h) (fun E ce q9 u t H1 locs1 ht hvm hp hB hz hk hS hce hcv hcl => ?_) (fun v2 u t H1 locs ht hvm hw hB hz hk hS => ?_)
      · obtain ⟨hB0, hP1, hK1⟩ := hB
        rw [ht] at hP1
        obtain ⟨e1, e2⟩ := Prod.mk.inj hB0
        obtain e1 := Sum.inr.inj e1
        subst e1
        subst e2
        obtain ⟨σ11, eσ11, hf⟩ := fd_lts hf
        have hP : va_P D vwCl (fd_WH a k σ11) H1 := by rw [eσ11]; exact fd_HJ hI hP hP1 hk
        refine fd_catch (own := RL) (name := "java/lang/IndexOutOfBoundsException") (E := "java/lang/IndexOutOfBoundsException") hown [] ⟨0, 10, 13, 19⟩ [⟨0, 10, 17, 13⟩] (by rw [hTab]; rfl) (fun z hz => nomatch hz) (by decide) (by decide) (hts (.classLink RL 19 "java/lang/IndexOutOfBoundsException") (List.mem_of_getElem? (i := 1) (by eq_refl))) (hZ.cast "java/lang/IndexOutOfBoundsException" (by decide +kernel)) hce hcv hcl ?_
        refine W.cs (cells' := 1) (slots' := 6) rfl rfl ?_
        refine lv_astore (lv' := [(4, .ref q9), (0, .ref (a 0)), (1, .int p1), (2, .int p2), (3, .ref (a 39))]) hx hb dL_span_13 hl (by decide) rfl (fun ls hl => ?_)
        refine lv_iconst (v := (1 : Int32)) hx hb dL_span_15 (by decide) ?_
        refine W.widen (k := 1) (n := 6) (Nat.le_of_ble_eq_true rfl) (Nat.le_of_ble_eq_true rfl) ?_
        exact W.iret (v := (1 : Int32)) hx hb hr (fun t ht hW => ⟨⟨(1 : Int32), σ11, rfl, Option.some.inj hf, by rw [ht]; exact hP, va_K.moved hW.alike hK⟩, hS.F ht⟩) hS.2.2 dL_span_16
      · exact absurd hw (by simp)
    have hf := fd_itn c10 hf
    by_cases c12 : E5 = "java/lang/IllegalStateException"
    · subst c12
      have hf := fd_itp rfl hf
      refine vx_calli (vx_runV (As := [.int p1, .int p2]) (rest := [.int (0 : Int32), .ref (a 39)]) ⟨hx, hb, hml, hown, hts⟩ (m_X10_span_0 l hl9 D a k s.heap.size (fd_I40 hI) N p1 p2 σ _ hc1) (cwV 2 hts gL_span_X10_span rfl rfl rfl (by decide +kernel) ⟨Nat.le_of_ble_eq_true rfl, Nat.le_of_ble_eq_true rfl⟩) ⟨fd_blZ, va_recv (fd_HK hK) (fd_HC hP) (ci := 10) (q0 := 0) rfl fd_WC_0, fd_prHZ hP hK hZ hS⟩ rfl rfl hl.1 rfl (lv_room (Nat.le_of_ble_eq_true rfl)) dL_span_5 ⟨Nat.le_of_ble_eq_true rfl, Nat.le_of_ble_eq_true rfl⟩) hS (fun q _ h => fd_A_sub hS.1 h) (fun q h => fd_A_sub hS.1 h) (fun q _ h => fd_A_sub hS.1 h) (fun E ce q9 u t H1 locs1 ht hvm hp hB hz hk hS hce hcv hcl => ?_) (fun v2 u t H1 locs ht hvm hw hB hz hk hS => ?_)
      · obtain ⟨hB0, hP1, hK1⟩ := hB
        rw [ht] at hP1
        obtain ⟨e1, e2⟩ := Prod.mk.inj hB0
        obtain e1 := Sum.inr.inj e1
        subst e1
        subst e2
        obtain ⟨σ13, eσ13, hf⟩ := fd_lts hf
        have hP : va_P D vwCl (fd_WH a k σ13) H1 := by rw [eσ13]; exact fd_HJ hI hP hP1 hk
        refine fd_catch (own := RL) (name := "java/lang/IllegalStateException") (E := "java/lang/IllegalStateException") hown [⟨0, 10, 13, 19⟩] ⟨0, 10, 17, 13⟩ [] (by rw [hTab]; rfl) (fun z hz => by
            rcases List.mem_cons.mp hz with rfl | hz
            · exact ⟨by decide, by decide, "java/lang/IndexOutOfBoundsException", hts (.classLink RL 19 "java/lang/IndexOutOfBoundsException") (by decide +kernel), hZ.nc "java/lang/IllegalStateException" "java/lang/IndexOutOfBoundsException" (by decide +kernel)⟩
            cases hz) (by decide) (by decide) (hts (.classLink RL 13 "java/lang/IllegalStateException") (List.mem_of_getElem? (i := 2) (by eq_refl))) (hZ.cast "java/lang/IllegalStateException" (by decide +kernel)) hce hcv hcl ?_
        refine W.cs (cells' := 1) (slots' := 6) rfl rfl ?_
        refine lv_astore (lv' := [(4, .ref q9), (0, .ref (a 0)), (1, .int p1), (2, .int p2), (3, .ref (a 39))]) hx hb dL_span_17 hl (by decide) rfl (fun ls hl => ?_)
        refine lv_iconst (v := (2 : Int32)) hx hb dL_span_19 (by decide) ?_
        refine W.widen (k := 1) (n := 6) (Nat.le_of_ble_eq_true rfl) (Nat.le_of_ble_eq_true rfl) ?_
        exact W.iret (v := (2 : Int32)) hx hb hr (fun t ht hW => ⟨⟨(2 : Int32), σ13, rfl, Option.some.inj hf, by rw [ht]; exact hP, va_K.moved hW.alike hK⟩, hS.F ht⟩) hS.2.2 dL_span_20
      · exact absurd hw (by simp)
    have hf := fd_itn c12 hf
    cases hf
noncomputable def f_X11_mayBe_0_J46 (N : Nat) (k3 : Int32 → Int64 → Int32 → fd_St → Option (Int32 × fd_St)) (k15 : Int32 → Int64 → Int32 → Int32 → fd_St → Option (Int32 × fd_St)) (y1 : Int32) (y2 : Int64) (y4 : Int32) (y5 : Int32) (z0 : Int64) (σ : fd_St) : Option (Int32 × fd_St) := fd_gd (vp_in y4 30) (if (lg_cmp ((((σ.2.2 21 y4.toNatClampNeg).toUInt64 >>> (y5.toInt64.toUInt64 &&& Int64.toUInt64 63)).toInt64) &&& (1 : Int64)) z0) = 0 then (fd_lt (y5 + (1 : Int32)) (fun x8 => k15 y1 y2 y4 x8 σ)) else (some ((0 : Int32), σ)))
noncomputable def f_X11_mayBe_0_L15 (N : Nat) (k3 : Int32 → Int64 → Int32 → fd_St → Option (Int32 × fd_St)) : Nat → Int32 → Int64 → Int32 → Int32 → fd_St → Option (Int32 × fd_St)
  | 0 => fun _ _ _ _ _ => none
  | n + 1 => fun y1 y2 y4 y5 σ => if (σ.1 12) ≤ y5 then (fd_lt (y4 + (1 : Int32)) (fun x3 => k3 y1 y2 x3 σ)) else (if y1 < y5 then (fd_gd (vp_in y4 30) (f_X11_mayBe_0_J46 N k3 (f_X11_mayBe_0_L15 N k3 n) y1 y2 y4 y5 ((((σ.2.2 20 y4.toNatClampNeg).toUInt64 >>> (y5.toInt64.toUInt64 &&& Int64.toUInt64 63)).toInt64) &&& (1 : Int64)) σ)) else (f_X11_mayBe_0_J46 N k3 (f_X11_mayBe_0_L15 N k3 n) y1 y2 y4 y5 y2 σ))
noncomputable def f_X11_mayBe_0_L3 (N : Nat) : Nat → Int32 → Int64 → Int32 → fd_St → Option (Int32 × fd_St)
  | 0 => fun _ _ _ _ => none
  | n + 1 => fun y1 y2 y4 σ => if (σ.1 13) ≤ y4 then (some ((1 : Int32), σ)) else (f_X11_mayBe_0_L15 N (f_X11_mayBe_0_L3 N n) N y1 y2 y4 (0 : Int32) σ)
noncomputable def f_X11_mayBe_0 (N : Nat) (p1 : Int32) (p2 : Int64) (σ : fd_St) : Option (Int32 × fd_St) := f_X11_mayBe_0_L3 N N p1 p2 (0 : Int32) σ
set_option maxHeartbeats 4000000 in
set_option maxRecDepth 100000 in
theorem m_X11_mayBe_0 (l : Launch) (D : va_G) (a : Nat → Nat) (k : Nat → ClassId) (sz : Nat) (hI : fd_I 29 a) (N : Nat) (p1 : Int32) (p2 : Int64) (σ : fd_St) (r : Int32 × fd_St) (hf : f_X11_mayBe_0 N p1 p2 σ = some r) : Met l yX11_mayBe wsX11_mayBe ({ frames := 0, cells := 0, slots := 0, locals := 0 }) (va_Pc [.ref (a 0), .int p1, .long p2] (fd_PM D a k sz σ)) (va_Qi (fun v u => (v, u) = r) (fd_BM D a k) (fd_A 29 a sz)) 0 0 (fd_A 29 a sz) := by
  refine Met.ofW (cc := cX11_mayBe) (maxL := 8) (ret := (some .boolean)) (by decide) rfl ?_
  intro p e s m args below meth c s₁ B hml hv
  obtain ⟨rfl, hsz, hP, hK⟩ := hv
  have hx := B.exec
  have hb := B.bytes
  have hr := B.returns
  have hts := atoms_spec (ws := wsX11_mayBe) B.pre
  have hown : s.vm.findClass RX11 = some m.cls := findClass_of_methodNamed B.named
  have hlocks := B.notSynchronized
  subst hsz
  have hJ : ∀ i, i < 29 → fd_A 29 a s.heap.size (a i) := fun i hi => Or.inl ⟨i, hi, rfl⟩
  have hS : va_S (fd_A 29 a s.heap.size) s.heap s.heap [] := va_S.rf
  have hl := lv_entry ([.ref (a 0), .int p1, .long p2]) (n := 8) (Nat.le_of_ble_eq_true rfl)
  rw [lg_entry_eq]
  generalize (lg_sl ([.ref (a 0), .int p1, .long p2]) ++ List.replicate (8 - (lg_sl ([.ref (a 0), .int p1, .long p2])).length) Slot.unset).toArray = ls at hl ⊢
  have hl : lv_has ls 8 [(0, .ref (a 0)), (1, .int p1), (2, .long p2)] := hl
  have h9X11 : ∀ w ∈ u_ws RX11 TX11 43, w ∈ wsX11_mayBe := fd_su [5, 6, 7, 8, 9, 10, 11, 12, 13, 14, 15, 16, 17, 18, 19, 20, 21, 22, 23, 24, 25, 26, 27, 28, 29, 30, 31, 32, 33, 34, 35, 36, 37, 38, 39, 40, 41, 42, 43, 44, 45, 46, 47] (by eq_refl)
  have hL46 : ∀ (k3 : Int32 → Int64 → Int32 → fd_St → Option (Int32 × fd_St)) (hk3 : ∀ (y1 : Int32) (y2 : Int64) (y4 : Int32) (σ : fd_St) (H : Heap) (locs : List Loc) (ls : Array Slot), va_P D vwCl (fd_WM a k σ) H → va_S (fd_A 29 a s.heap.size) s.heap H locs → lv_has ls 8 [(0, .ref (a 0)), (1, .int y1), (2, .long y2), (4, .int y4)] → k3 y1 y2 y4 σ = some r → W p l e ((headSpec wsX11_mayBe ({ frames := 0, cells := 0, slots := 0, locals := 0 })).room) s m ([.ref (a 0), .int p1, .long p2].toArray) below meth c H locs 0 0 (MQ below (va_Qi (fun v u => (v, u) = r) (fd_BM D a k) (fd_A 29 a s.heap.size)) ([.ref (a 0), .int p1, .long p2].toArray) s 0 0 (fd_A 29 a s.heap.size)) (F0 m 3 ls [])) (k15 : Int32 → Int64 → Int32 → Int32 → fd_St → Option (Int32 × fd_St)) (hk15 : ∀ (y1 : Int32) (y2 : Int64) (y4 : Int32) (y5 : Int32) (σ : fd_St) (H : Heap) (locs : List Loc) (ls : Array Slot), va_P D vwCl (fd_WM a k σ) H → va_S (fd_A 29 a s.heap.size) s.heap H locs → lv_has ls 8 [(0, .ref (a 0)), (1, .int y1), (2, .long y2), (4, .int y4), (5, .int y5)] → k15 y1 y2 y4 y5 σ = some r → W p l e ((headSpec wsX11_mayBe ({ frames := 0, cells := 0, slots := 0, locals := 0 })).room) s m ([.ref (a 0), .int p1, .long p2].toArray) below meth c H locs 0 0 (MQ below (va_Qi (fun v u => (v, u) = r) (fd_BM D a k) (fd_A 29 a s.heap.size)) ([.ref (a 0), .int p1, .long p2].toArray) s 0 0 (fd_A 29 a s.heap.size)) (F0 m 15 ls [])), ∀ (y1 : Int32) (y2 : Int64) (y4 : Int32) (y5 : Int32) (z0 : Int64) (σ : fd_St) (H : Heap) (locs : List Loc) (ls : Array Slot), va_P D vwCl (fd_WM a k σ) H → va_S (fd_A 29 a s.heap.size) s.heap H locs → lv_has ls 8 [(0, .ref (a 0)), (1, .int y1), (2, .long y2), (4, .int y4), (5, .int y5)] → f_X11_mayBe_0_J46 N k3 k15 y1 y2 y4 y5 z0 σ = some r → W p l e ((headSpec wsX11_mayBe ({ frames := 0, cells := 0, slots := 0, locals := 0 })).room) s m ([.ref (a 0), .int p1, .long p2].toArray) below meth c H locs 0 0 (MQ below (va_Qi (fun v u => (v, u) = r) (fd_BM D a k) (fd_A 29 a s.heap.size)) ([.ref (a 0), .int p1, .long p2].toArray) s 0 0 (fd_A 29 a s.heap.size)) (F0 m 46 ls [.long z0]) := by
    intro k3 hk3 k15 hk15 y1 y2 y4 y5 z0 σ H locs ls hP hS hl hf
    unfold f_X11_mayBe_0_J46 at hf
    refine lv_lstore (lv' := [(6, .long z0), (0, .ref (a 0)), (1, .int y1), (2, .long y2), (4, .int y4), (5, .int y5)]) hx hb dX11_mayBe_46 hl (by decide) rfl (fun ls hl => ?_)
    refine lv_aload_n hx hb dX11_mayBe_48 rfl (lv_at hl 1 rfl) ?_
    refine va_get (ci := 11) (v := .ref (a 21)) (C := RX11) (T := TX11) (N := 43) hx hb hts h9X11 hown hK hP 0 fd_WM_0 rfl 34 (by decide) (hts (.fieldLink RX11 72 "FailDiagnoseModel" "came" "[J") (List.mem_of_getElem? (i := 4) (by eq_refl))) (fun _ h9 => h9) rfl dX11_mayBe_49 ?_
    refine lv_iload hx hb dX11_mayBe_52 (lv_at hl 4 rfl) ?_
    obtain ⟨g6, hf⟩ := fd_gds hf
    refine va_lald hx hb hK hP 21 20 fd_WM_21 fd_tyM_21 g6 dX11_mayBe_54 ?_
    refine lv_iload hx hb dX11_mayBe_55 (lv_at hl 5 rfl) ?_
    refine lv_lushr hx hb dX11_mayBe_57 rfl ?_
    refine lv_lconst (v := (1 : Int64)) hx hb dX11_mayBe_58 (by decide) ?_
    refine lv_land hx hb dX11_mayBe_59 ?_
    refine lv_lload hx hb dX11_mayBe_60 (lv_at hl 0 rfl) ?_
    refine W.lcmp hx hb dX11_mayBe_62 ?_
    refine lv_if_eq (tgt := 68) hx hb dX11_mayBe_63 (by decide) (fun c7 => ?_) (fun c7 => ?_)
    · have hf := fd_itp c7 hf
      obtain ⟨x8, ex8, hf⟩ := fd_lts hf
      refine lv_iinc (v := x8) (lv' := [(5, .int x8), (6, .long z0), (0, .ref (a 0)), (1, .int y1), (2, .long y2), (4, .int y4)]) hx hb dX11_mayBe_68 hl (k := 5) rfl (by rw [ex8]; rfl) (by decide) rfl (fun ls hl => ?_)
      refine lv_goto (tgt := 15) hx hb dX11_mayBe_71 (by decide) ?_
      exact hk15 y1 y2 y4 x8 σ _ _ _ hP hS (lv_sub hl [2, 3, 4, 5, 0] rfl) hf
    · have hf := fd_itn c7 hf
      refine lv_iconst (v := (0 : Int32)) hx hb dX11_mayBe_66 (by decide) ?_
      exact W.zret (v := (0 : Int32)) (ty := .boolean) hx hb hr rfl (fun t ht hW => ⟨⟨(0 : Int32), σ, rfl, Option.some.inj hf, by rw [ht]; exact hP, va_K.moved hW.alike hK⟩, hS.F ht⟩) hS.2.2 dX11_mayBe_67
  have hL15 : ∀ (k3 : Int32 → Int64 → Int32 → fd_St → Option (Int32 × fd_St)) (hk3 : ∀ (y1 : Int32) (y2 : Int64) (y4 : Int32) (σ : fd_St) (H : Heap) (locs : List Loc) (ls : Array Slot), va_P D vwCl (fd_WM a k σ) H → va_S (fd_A 29 a s.heap.size) s.heap H locs → lv_has ls 8 [(0, .ref (a 0)), (1, .int y1), (2, .long y2), (4, .int y4)] → k3 y1 y2 y4 σ = some r → W p l e ((headSpec wsX11_mayBe ({ frames := 0, cells := 0, slots := 0, locals := 0 })).room) s m ([.ref (a 0), .int p1, .long p2].toArray) below meth c H locs 0 0 (MQ below (va_Qi (fun v u => (v, u) = r) (fd_BM D a k) (fd_A 29 a s.heap.size)) ([.ref (a 0), .int p1, .long p2].toArray) s 0 0 (fd_A 29 a s.heap.size)) (F0 m 3 ls [])) (n : Nat), ∀ (y1 : Int32) (y2 : Int64) (y4 : Int32) (y5 : Int32) (σ : fd_St) (H : Heap) (locs : List Loc) (ls : Array Slot), va_P D vwCl (fd_WM a k σ) H → va_S (fd_A 29 a s.heap.size) s.heap H locs → lv_has ls 8 [(0, .ref (a 0)), (1, .int y1), (2, .long y2), (4, .int y4), (5, .int y5)] → f_X11_mayBe_0_L15 N k3 n y1 y2 y4 y5 σ = some r → W p l e ((headSpec wsX11_mayBe ({ frames := 0, cells := 0, slots := 0, locals := 0 })).room) s m ([.ref (a 0), .int p1, .long p2].toArray) below meth c H locs 0 0 (MQ below (va_Qi (fun v u => (v, u) = r) (fd_BM D a k) (fd_A 29 a s.heap.size)) ([.ref (a 0), .int p1, .long p2].toArray) s 0 0 (fd_A 29 a s.heap.size)) (F0 m 15 ls []) := by
    intro k3 hk3 n
    induction n with
    | zero =>
      intro _ _ _ _ _ _ _ _ _ _ _ hf
      cases hf
    | succ n ih =>
      intro y1 y2 y4 y5 σ H locs ls hP hS hl hf
      unfold f_X11_mayBe_0_L15 at hf
      refine lv_iload hx hb dX11_mayBe_15 (lv_at hl 4 rfl) ?_
      refine lv_aload_n hx hb dX11_mayBe_17 rfl (lv_at hl 0 rfl) ?_
      refine va_get (ci := 11) (v := .int (σ.1 12)) (C := RX11) (T := TX11) (N := 43) hx hb hts h9X11 hown hK hP 0 fd_WM_0 rfl 31 (by decide) (hts (.fieldLink RX11 188 "FailDiagnoseModel" "cells" "I") (List.mem_of_getElem? (i := 2) (by eq_refl))) (fun _ h9 => h9) rfl dX11_mayBe_18 ?_
      refine lv_icmp_ge (tgt := 74) hx hb dX11_mayBe_21 (by decide) (fun c2 => ?_) (fun c2 => ?_)
      · have hf := fd_itp c2 hf
        obtain ⟨x3, ex3, hf⟩ := fd_lts hf
        refine lv_iinc (v := x3) (lv' := [(4, .int x3), (0, .ref (a 0)), (1, .int y1), (2, .long y2), (5, .int y5)]) hx hb dX11_mayBe_74 hl (k := 3) rfl (by rw [ex3]; rfl) (by decide) rfl (fun ls hl => ?_)
        refine lv_goto (tgt := 3) hx hb dX11_mayBe_77 (by decide) ?_
        exact hk3 y1 y2 x3 σ _ _ _ hP hS (lv_sub hl [1, 2, 3, 0] rfl) hf
      · have hf := fd_itn c2 hf
        refine lv_iload hx hb dX11_mayBe_24 (lv_at hl 4 rfl) ?_
        refine lv_iload_n hx hb dX11_mayBe_26 rfl (lv_at hl 1 rfl) ?_
        refine lv_icmp_gt (tgt := 34) hx hb dX11_mayBe_27 (by decide) (fun c4 => ?_) (fun c4 => ?_)
        · have hf := fd_itp c4 hf
          refine lv_aload_n hx hb dX11_mayBe_34 rfl (lv_at hl 0 rfl) ?_
          refine va_get (ci := 11) (v := .ref (a 20)) (C := RX11) (T := TX11) (N := 43) hx hb hts h9X11 hown hK hP 0 fd_WM_0 rfl 33 (by decide) (hts (.fieldLink RX11 69 "FailDiagnoseModel" "should" "[J") (List.mem_of_getElem? (i := 3) (by eq_refl))) (fun _ h9 => h9) rfl dX11_mayBe_35 ?_
          refine lv_iload hx hb dX11_mayBe_38 (lv_at hl 3 rfl) ?_
          obtain ⟨g5, hf⟩ := fd_gds hf
          refine va_lald hx hb hK hP 20 19 fd_WM_20 fd_tyM_20 g5 dX11_mayBe_40 ?_
          refine lv_iload hx hb dX11_mayBe_41 (lv_at hl 4 rfl) ?_
          refine lv_lushr hx hb dX11_mayBe_43 rfl ?_
          refine lv_lconst (v := (1 : Int64)) hx hb dX11_mayBe_44 (by decide) ?_
          refine lv_land hx hb dX11_mayBe_45 ?_
          exact hL46 k3 hk3 (f_X11_mayBe_0_L15 N k3 n) ih y1 y2 y4 y5 ((((σ.2.2 20 y4.toNatClampNeg).toUInt64 >>> (y5.toInt64.toUInt64 &&& Int64.toUInt64 63)).toInt64) &&& (1 : Int64)) σ _ _ _ hP hS (lv_sub hl [0, 1, 2, 3, 4] rfl) hf
        · have hf := fd_itn c4 hf
          refine lv_lload_n hx hb dX11_mayBe_30 rfl (lv_at hl 2 rfl) ?_
          refine lv_goto (tgt := 46) hx hb dX11_mayBe_31 (by decide) ?_
          exact hL46 k3 hk3 (f_X11_mayBe_0_L15 N k3 n) ih y1 y2 y4 y5 y2 σ _ _ _ hP hS (lv_sub hl [0, 1, 2, 3, 4] rfl) hf
  have hL3 : ∀ (n : Nat), ∀ (y1 : Int32) (y2 : Int64) (y4 : Int32) (σ : fd_St) (H : Heap) (locs : List Loc) (ls : Array Slot), va_P D vwCl (fd_WM a k σ) H → va_S (fd_A 29 a s.heap.size) s.heap H locs → lv_has ls 8 [(0, .ref (a 0)), (1, .int y1), (2, .long y2), (4, .int y4)] → f_X11_mayBe_0_L3 N n y1 y2 y4 σ = some r → W p l e ((headSpec wsX11_mayBe ({ frames := 0, cells := 0, slots := 0, locals := 0 })).room) s m ([.ref (a 0), .int p1, .long p2].toArray) below meth c H locs 0 0 (MQ below (va_Qi (fun v u => (v, u) = r) (fd_BM D a k) (fd_A 29 a s.heap.size)) ([.ref (a 0), .int p1, .long p2].toArray) s 0 0 (fd_A 29 a s.heap.size)) (F0 m 3 ls []) := by
    intro n
    induction n with
    | zero =>
      intro _ _ _ _ _ _ _ _ _ _ hf
      cases hf
    | succ n ih =>
      intro y1 y2 y4 σ H locs ls hP hS hl hf
      unfold f_X11_mayBe_0_L3 at hf
      refine lv_iload hx hb dX11_mayBe_3 (lv_at hl 3 rfl) ?_
      refine lv_aload_n hx hb dX11_mayBe_5 rfl (lv_at hl 0 rfl) ?_
      refine va_get (ci := 11) (v := .int (σ.1 13)) (C := RX11) (T := TX11) (N := 43) hx hb hts h9X11 hown hK hP 0 fd_WM_0 rfl 32 (by decide) (hts (.fieldLink RX11 191 "FailDiagnoseModel" "rows" "I") (List.mem_of_getElem? (i := 1) (by eq_refl))) (fun _ h9 => h9) rfl dX11_mayBe_6 ?_
      refine lv_icmp_ge (tgt := 80) hx hb dX11_mayBe_9 (by decide) (fun c1 => ?_) (fun c1 => ?_)
      · have hf := fd_itp c1 hf
        refine lv_iconst (v := (1 : Int32)) hx hb dX11_mayBe_80 (by decide) ?_
        exact W.zret (v := (1 : Int32)) (ty := .boolean) hx hb hr rfl (fun t ht hW => ⟨⟨(1 : Int32), σ, rfl, Option.some.inj hf, by rw [ht]; exact hP, va_K.moved hW.alike hK⟩, hS.F ht⟩) hS.2.2 dX11_mayBe_81
      · have hf := fd_itn c1 hf
        refine lv_iconst (v := (0 : Int32)) hx hb dX11_mayBe_12 (by decide) ?_
        refine lv_istore (lv' := [(5, .int (0 : Int32)), (0, .ref (a 0)), (1, .int y1), (2, .long y2), (4, .int y4)]) hx hb dX11_mayBe_13 hl (by decide) rfl (fun ls hl => ?_)
        exact hL15 (f_X11_mayBe_0_L3 N n) ih N y1 y2 y4 (0 : Int32) σ _ _ _ hP hS (lv_sub hl [1, 2, 3, 4, 0] rfl) hf
  unfold f_X11_mayBe_0 at hf
  refine lv_iconst (v := (0 : Int32)) hx hb dX11_mayBe_0 (by decide) ?_
  refine lv_istore (lv' := [(4, .int (0 : Int32)), (0, .ref (a 0)), (1, .int p1), (2, .long p2)]) hx hb dX11_mayBe_1 hl (by decide) rfl (fun ls hl => ?_)
  exact hL3 N p1 p2 (0 : Int32) σ _ _ _ hP hS (lv_sub hl [1, 2, 3, 0] rfl) hf
noncomputable def f_X11_span_0_J102 (N : Nat) (y4 : Int32) (σ : fd_St) : Option (Int32 × fd_St) := if (σ.1 0) ≤ 0 then (some (y4, σ)) else (some ((0 : Int32), σ))
noncomputable def f_X11_span_0_J96 (N : Nat) (k54 : Int32 → Int32 → Int32 → Int32 → fd_St → Option (Int32 × fd_St)) (y1 : Int32) (y2 : Int32) (y4 : Int32) (y5 : Int32) (σ : fd_St) : Option (Int32 × fd_St) := fd_lt (y5 + (1 : Int32)) (fun x15 => k54 y1 y2 y4 x15 σ)
noncomputable def f_X11_span_0_J92 (N : Nat) (k54 : Int32 → Int32 → Int32 → Int32 → fd_St → Option (Int32 × fd_St)) (y1 : Int32) (y2 : Int32) (y5 : Int32) (σ : fd_St) : Option (Int32 × fd_St) := f_X11_span_0_J96 N k54 y1 y2 y5 y5 σ
noncomputable def f_X11_span_0_L54 (N : Nat) : Nat → Int32 → Int32 → Int32 → Int32 → fd_St → Option (Int32 × fd_St)
  | 0 => fun _ _ _ _ _ => none
  | n + 1 => fun y1 y2 y4 y5 σ => if (σ.1 12) ≤ y5 then (f_X11_span_0_J102 N y4 σ) else (if (σ.1 0) = 0 then (fd_bd (f_X11_mayBe_0 N y5 y1.toInt64 σ) (fun v10 σ11 => if v10 = 0 then (f_X11_span_0_J96 N (f_X11_span_0_L54 N n) y1 y2 y4 y5 σ11) else (if y2 = (1 : Int32) then (f_X11_span_0_J92 N (f_X11_span_0_L54 N n) y1 y2 y5 σ11) else (if y4 = (-1 : Int32) then (f_X11_span_0_J92 N (f_X11_span_0_L54 N n) y1 y2 y5 σ11) else (f_X11_span_0_J96 N (f_X11_span_0_L54 N n) y1 y2 y4 y5 σ11))))) else (f_X11_span_0_J102 N y4 σ))
noncomputable def f_X11_span_0_J45 (N : Nat) (y1 : Int32) (y2 : Int32) (z1 : Int32) (σ : fd_St) : Option (Int32 × fd_St) := fd_lt (fd_sI 0 z1 σ) (fun σ5 => f_X11_span_0_L54 N N y1 y2 (-1 : Int32) (0 : Int32) σ5)
noncomputable def f_X11_span_0_J23 (N : Nat) (y1 : Int32) (y2 : Int32) (z0 : Int32) (σ : fd_St) : Option (Int32 × fd_St) := if z0 = 0 then (f_X11_span_0_J45 N y1 y2 (1 : Int32) σ) else (if (σ.1 12) = 0 then (f_X11_span_0_J45 N y1 y2 (2 : Int32) σ) else (f_X11_span_0_J45 N y1 y2 (0 : Int32) σ))
noncomputable def f_X11_span_0_J18 (N : Nat) (y1 : Int32) (y2 : Int32) (σ : fd_St) : Option (Int32 × fd_St) := f_X11_span_0_J23 N y1 y2 (1 : Int32) σ
noncomputable def f_X11_span_0_J22 (N : Nat) (y1 : Int32) (y2 : Int32) (σ : fd_St) : Option (Int32 × fd_St) := f_X11_span_0_J23 N y1 y2 (0 : Int32) σ
noncomputable def f_X11_span_0_J9 (N : Nat) (y1 : Int32) (y2 : Int32) (σ : fd_St) : Option (Int32 × fd_St) := if y2 = 0 then (f_X11_span_0_J18 N y1 y2 σ) else (if y2 = (1 : Int32) then (f_X11_span_0_J18 N y1 y2 σ) else (f_X11_span_0_J22 N y1 y2 σ))
noncomputable def f_X11_span_0 (N : Nat) (p1 : Int32) (p2 : Int32) (σ : fd_St) : Option (Int32 × fd_St) := if p1 = 0 then (f_X11_span_0_J9 N p1 p2 σ) else (if p1 = (1 : Int32) then (f_X11_span_0_J9 N p1 p2 σ) else (f_X11_span_0_J22 N p1 p2 σ))
set_option maxHeartbeats 4000000 in
set_option maxRecDepth 100000 in
theorem m_X11_span_0 (l : Launch) (D : va_G) (a : Nat → Nat) (k : Nat → ClassId) (sz : Nat) (hI : fd_I 29 a) (N : Nat) (p1 : Int32) (p2 : Int32) (σ : fd_St) (r : Int32 × fd_St) (hf : f_X11_span_0 N p1 p2 σ = some r) : Met l yX11_span wsX11_span ({ frames := 1, cells := 0, slots := 0, locals := 27 }) (va_Pc [.ref (a 0), .int p1, .int p2] (fd_PM D a k sz σ)) (va_Qi (fun v u => (v, u) = r) (fd_BM D a k) (fd_A 29 a sz)) 0 0 (fd_A 29 a sz) := by
  refine Met.ofW (cc := cX11_span) (maxL := 6) (ret := (some .int)) (by decide) rfl ?_
  intro p e s m args below meth c s₁ B hml hv
  obtain ⟨rfl, hsz, hP, hK⟩ := hv
  have hx := B.exec
  have hb := B.bytes
  have hr := B.returns
  have hts := atoms_spec (ws := wsX11_span) B.pre
  have hown : s.vm.findClass RX11 = some m.cls := findClass_of_methodNamed B.named
  have hlocks := B.notSynchronized
  subst hsz
  have hJ : ∀ i, i < 29 → fd_A 29 a s.heap.size (a i) := fun i hi => Or.inl ⟨i, hi, rfl⟩
  have hS : va_S (fd_A 29 a s.heap.size) s.heap s.heap [] := va_S.rf
  have hl := lv_entry ([.ref (a 0), .int p1, .int p2]) (n := 6) (Nat.le_of_ble_eq_true rfl)
  rw [lg_entry_eq]
  generalize (lg_sl ([.ref (a 0), .int p1, .int p2]) ++ List.replicate (6 - (lg_sl ([.ref (a 0), .int p1, .int p2])).length) Slot.unset).toArray = ls at hl ⊢
  have hl : lv_has ls 6 [(0, .ref (a 0)), (1, .int p1), (2, .int p2)] := hl
  have h9X11 : ∀ w ∈ u_ws RX11 TX11 43, w ∈ wsX11_span := fd_su [11, 12, 13, 14, 15, 16, 17, 18, 19, 20, 21, 22, 23, 24, 25, 26, 27, 28, 29, 30, 31, 32, 33, 34, 35, 36, 37, 38, 39, 40, 41, 42, 43, 44, 45, 46, 47, 48, 49, 50, 51, 52, 53] (by eq_refl)
  have hL102 : ∀ (y4 : Int32) (σ : fd_St) (H : Heap) (locs : List Loc) (ls : Array Slot), va_P D vwCl (fd_WM a k σ) H → va_S (fd_A 29 a s.heap.size) s.heap H locs → lv_has ls 6 [(0, .ref (a 0)), (4, .int y4)] → f_X11_span_0_J102 N y4 σ = some r → W p l e ((headSpec wsX11_span ({ frames := 1, cells := 0, slots := 0, locals := 27 })).room) s m ([.ref (a 0), .int p1, .int p2].toArray) below meth c H locs 0 0 (MQ below (va_Qi (fun v u => (v, u) = r) (fd_BM D a k) (fd_A 29 a s.heap.size)) ([.ref (a 0), .int p1, .int p2].toArray) s 0 0 (fd_A 29 a s.heap.size)) (F0 m 102 ls []) := by
    intro y4 σ H locs ls hP hS hl hf
    unfold f_X11_span_0_J102 at hf
    refine lv_aload_n hx hb dX11_span_102 rfl (lv_at hl 0 rfl) ?_
    refine va_get (ci := 11) (v := .int (σ.1 0)) (C := RX11) (T := TX11) (N := 43) hx hb hts h9X11 hown hK hP 0 fd_WM_0 rfl 0 (by decide) (hts (.fieldLink RX11 99 "FailDiagnoseModel" "thrown" "I") (List.mem_of_getElem? (i := 2) (by eq_refl))) (fun _ h9 => h9) rfl dX11_span_103 ?_
    refine lv_if_le (tgt := 113) hx hb dX11_span_106 (by decide) (fun c7 => ?_) (fun c7 => ?_)
    · have hf := fd_itp c7 hf
      refine lv_iload hx hb dX11_span_113 (lv_at hl 1 rfl) ?_
      exact W.iret (v := y4) hx hb hr (fun t ht hW => ⟨⟨y4, σ, rfl, Option.some.inj hf, by rw [ht]; exact hP, va_K.moved hW.alike hK⟩, hS.F ht⟩) hS.2.2 dX11_span_115
    · have hf := fd_itn c7 hf
      refine lv_iconst (v := (0 : Int32)) hx hb dX11_span_109 (by decide) ?_
      refine lv_goto (tgt := 115) hx hb dX11_span_110 (by decide) ?_
      exact W.iret (v := (0 : Int32)) hx hb hr (fun t ht hW => ⟨⟨(0 : Int32), σ, rfl, Option.some.inj hf, by rw [ht]; exact hP, va_K.moved hW.alike hK⟩, hS.F ht⟩) hS.2.2 dX11_span_115
  have hL96 : ∀ (k54 : Int32 → Int32 → Int32 → Int32 → fd_St → Option (Int32 × fd_St)) (hk54 : ∀ (y1 : Int32) (y2 : Int32) (y4 : Int32) (y5 : Int32) (σ : fd_St) (H : Heap) (locs : List Loc) (ls : Array Slot), va_P D vwCl (fd_WM a k σ) H → va_S (fd_A 29 a s.heap.size) s.heap H locs → lv_has ls 6 [(0, .ref (a 0)), (1, .int y1), (2, .int y2), (4, .int y4), (5, .int y5)] → k54 y1 y2 y4 y5 σ = some r → W p l e ((headSpec wsX11_span ({ frames := 1, cells := 0, slots := 0, locals := 27 })).room) s m ([.ref (a 0), .int p1, .int p2].toArray) below meth c H locs 0 0 (MQ below (va_Qi (fun v u => (v, u) = r) (fd_BM D a k) (fd_A 29 a s.heap.size)) ([.ref (a 0), .int p1, .int p2].toArray) s 0 0 (fd_A 29 a s.heap.size)) (F0 m 54 ls [])), ∀ (y1 : Int32) (y2 : Int32) (y4 : Int32) (y5 : Int32) (σ : fd_St) (H : Heap) (locs : List Loc) (ls : Array Slot), va_P D vwCl (fd_WM a k σ) H → va_S (fd_A 29 a s.heap.size) s.heap H locs → lv_has ls 6 [(0, .ref (a 0)), (1, .int y1), (2, .int y2), (4, .int y4), (5, .int y5)] → f_X11_span_0_J96 N k54 y1 y2 y4 y5 σ = some r → W p l e ((headSpec wsX11_span ({ frames := 1, cells := 0, slots := 0, locals := 27 })).room) s m ([.ref (a 0), .int p1, .int p2].toArray) below meth c H locs 0 0 (MQ below (va_Qi (fun v u => (v, u) = r) (fd_BM D a k) (fd_A 29 a s.heap.size)) ([.ref (a 0), .int p1, .int p2].toArray) s 0 0 (fd_A 29 a s.heap.size)) (F0 m 96 ls []) := by
    intro k54 hk54 y1 y2 y4 y5 σ H locs ls hP hS hl hf
    unfold f_X11_span_0_J96 at hf
    obtain ⟨x15, ex15, hf⟩ := fd_lts hf
    refine lv_iinc (v := x15) (lv' := [(5, .int x15), (0, .ref (a 0)), (1, .int y1), (2, .int y2), (4, .int y4)]) hx hb dX11_span_96 hl (k := 4) rfl (by rw [ex15]; rfl) (by decide) rfl (fun ls hl => ?_)
    refine lv_goto (tgt := 54) hx hb dX11_span_99 (by decide) ?_
    exact hk54 y1 y2 y4 x15 σ _ _ _ hP hS (lv_sub hl [1, 2, 3, 4, 0] rfl) hf
  have hL92 : ∀ (k54 : Int32 → Int32 → Int32 → Int32 → fd_St → Option (Int32 × fd_St)) (hk54 : ∀ (y1 : Int32) (y2 : Int32) (y4 : Int32) (y5 : Int32) (σ : fd_St) (H : Heap) (locs : List Loc) (ls : Array Slot), va_P D vwCl (fd_WM a k σ) H → va_S (fd_A 29 a s.heap.size) s.heap H locs → lv_has ls 6 [(0, .ref (a 0)), (1, .int y1), (2, .int y2), (4, .int y4), (5, .int y5)] → k54 y1 y2 y4 y5 σ = some r → W p l e ((headSpec wsX11_span ({ frames := 1, cells := 0, slots := 0, locals := 27 })).room) s m ([.ref (a 0), .int p1, .int p2].toArray) below meth c H locs 0 0 (MQ below (va_Qi (fun v u => (v, u) = r) (fd_BM D a k) (fd_A 29 a s.heap.size)) ([.ref (a 0), .int p1, .int p2].toArray) s 0 0 (fd_A 29 a s.heap.size)) (F0 m 54 ls [])), ∀ (y1 : Int32) (y2 : Int32) (y5 : Int32) (σ : fd_St) (H : Heap) (locs : List Loc) (ls : Array Slot), va_P D vwCl (fd_WM a k σ) H → va_S (fd_A 29 a s.heap.size) s.heap H locs → lv_has ls 6 [(0, .ref (a 0)), (1, .int y1), (2, .int y2), (5, .int y5)] → f_X11_span_0_J92 N k54 y1 y2 y5 σ = some r → W p l e ((headSpec wsX11_span ({ frames := 1, cells := 0, slots := 0, locals := 27 })).room) s m ([.ref (a 0), .int p1, .int p2].toArray) below meth c H locs 0 0 (MQ below (va_Qi (fun v u => (v, u) = r) (fd_BM D a k) (fd_A 29 a s.heap.size)) ([.ref (a 0), .int p1, .int p2].toArray) s 0 0 (fd_A 29 a s.heap.size)) (F0 m 92 ls []) := by
    intro k54 hk54 y1 y2 y5 σ H locs ls hP hS hl hf
    unfold f_X11_span_0_J92 at hf
    refine lv_iload hx hb dX11_span_92 (lv_at hl 3 rfl) ?_
    refine lv_istore (lv' := [(4, .int y5), (0, .ref (a 0)), (1, .int y1), (2, .int y2), (5, .int y5)]) hx hb dX11_span_94 hl (by decide) rfl (fun ls hl => ?_)
    exact hL96 k54 hk54 y1 y2 y5 y5 σ _ _ _ hP hS (lv_sub hl [1, 2, 3, 0, 4] rfl) hf
  have hL54 : ∀ (n : Nat), ∀ (y1 : Int32) (y2 : Int32) (y4 : Int32) (y5 : Int32) (σ : fd_St) (H : Heap) (locs : List Loc) (ls : Array Slot), va_P D vwCl (fd_WM a k σ) H → va_S (fd_A 29 a s.heap.size) s.heap H locs → lv_has ls 6 [(0, .ref (a 0)), (1, .int y1), (2, .int y2), (4, .int y4), (5, .int y5)] → f_X11_span_0_L54 N n y1 y2 y4 y5 σ = some r → W p l e ((headSpec wsX11_span ({ frames := 1, cells := 0, slots := 0, locals := 27 })).room) s m ([.ref (a 0), .int p1, .int p2].toArray) below meth c H locs 0 0 (MQ below (va_Qi (fun v u => (v, u) = r) (fd_BM D a k) (fd_A 29 a s.heap.size)) ([.ref (a 0), .int p1, .int p2].toArray) s 0 0 (fd_A 29 a s.heap.size)) (F0 m 54 ls []) := by
    intro n
    induction n with
    | zero =>
      intro _ _ _ _ _ _ _ _ _ _ _ hf
      cases hf
    | succ n ih =>
      intro y1 y2 y4 y5 σ H locs ls hP hS hl hf
      unfold f_X11_span_0_L54 at hf
      refine lv_iload hx hb dX11_span_54 (lv_at hl 4 rfl) ?_
      refine lv_aload_n hx hb dX11_span_56 rfl (lv_at hl 0 rfl) ?_
      refine va_get (ci := 11) (v := .int (σ.1 12)) (C := RX11) (T := TX11) (N := 43) hx hb hts h9X11 hown hK hP 0 fd_WM_0 rfl 31 (by decide) (hts (.fieldLink RX11 188 "FailDiagnoseModel" "cells" "I") (List.mem_of_getElem? (i := 1) (by eq_refl))) (fun _ h9 => h9) rfl dX11_span_57 ?_
      refine lv_icmp_ge (tgt := 102) hx hb dX11_span_60 (by decide) (fun c6 => ?_) (fun c6 => ?_)
      · have hf := fd_itp c6 hf
        exact hL102 y4 σ _ _ _ hP hS (lv_sub hl [0, 3] rfl) hf
      · have hf := fd_itn c6 hf
        refine lv_aload_n hx hb dX11_span_63 rfl (lv_at hl 0 rfl) ?_
        refine va_get (ci := 11) (v := .int (σ.1 0)) (C := RX11) (T := TX11) (N := 43) hx hb hts h9X11 hown hK hP 0 fd_WM_0 rfl 0 (by decide) (hts (.fieldLink RX11 99 "FailDiagnoseModel" "thrown" "I") (List.mem_of_getElem? (i := 2) (by eq_refl))) (fun _ h9 => h9) rfl dX11_span_64 ?_
        refine lv_if_ne (tgt := 102) hx hb dX11_span_67 (by decide) (fun c8 => ?_) (fun c8 => ?_)
        · have hf := fd_itn c8 hf
          exact hL102 y4 σ _ _ _ hP hS (lv_sub hl [0, 3] rfl) hf
        · have hf := fd_itp c8 hf
          refine lv_aload_n hx hb dX11_span_70 rfl (lv_at hl 0 rfl) ?_
          refine lv_iload hx hb dX11_span_71 (lv_at hl 4 rfl) ?_
          refine lv_iload_n hx hb dX11_span_73 rfl (lv_at hl 1 rfl) ?_
          refine lv_i2l hx hb dX11_span_74 rfl ?_
          obtain ⟨w12, τ13, hc9, hf⟩ := fd_bds hf
          refine va_calli (va_runV (As := [.int y5, .long y1.toInt64]) (rest := []) ⟨hx, hb, hml, hown, hts⟩ (m_X11_mayBe_0 l D a k H.size hI N y5 y1.toInt64 σ _ hc9) (cwV 2 hts gX11_span_X11_mayBe rfl rfl rfl (by decide +kernel) ⟨Nat.le_of_ble_eq_true rfl, Nat.le_of_ble_eq_true rfl⟩) ⟨fd_blM, va_recv hK hP (ci := 11) (q0 := 0) rfl fd_WM_0, fd_prM hP hK⟩ rfl rfl hl.1 rfl (lv_room (Nat.le_of_ble_eq_true rfl)) dX11_span_75 ⟨Nat.zero_le _, Nat.zero_le _⟩) hS (fun q _ h => fd_A_mono hS.1 h) (fun q h => fd_A_mono hS.1 h) (fun v10 u t H1 locs ht hvm hw hB hz hk hS => ?_)
          obtain ⟨hP1, hK1⟩ := hB
          rw [ht] at hP1
          obtain ⟨e1, e2⟩ := Prod.mk.inj hw
          subst e1
          subst e2
          obtain ⟨σ11, rfl⟩ : ∃ z, z = u := ⟨_, rfl⟩
          have hP := hP1
          generalize H1 = H at hP hS ⊢
          refine lv_if_eq (tgt := 96) hx hb dX11_span_78 (by decide) (fun c14 => ?_) (fun c14 => ?_)
          · have hf := fd_itp c14 hf
            exact hL96 (f_X11_span_0_L54 N n) ih y1 y2 y4 y5 σ11 _ _ _ hP hS (lv_sub hl [0, 1, 2, 3, 4] rfl) hf
          · have hf := fd_itn c14 hf
            refine lv_iload_n hx hb dX11_span_81 rfl (lv_at hl 2 rfl) ?_
            refine lv_iconst (v := (1 : Int32)) hx hb dX11_span_82 (by decide) ?_
            refine lv_icmp_eq (tgt := 92) hx hb dX11_span_83 (by decide) (fun c16 => ?_) (fun c16 => ?_)
            · have hf := fd_itp c16 hf
              exact hL92 (f_X11_span_0_L54 N n) ih y1 y2 y5 σ11 _ _ _ hP hS (lv_sub hl [0, 1, 2, 4] rfl) hf
            · have hf := fd_itn c16 hf
              refine lv_iload hx hb dX11_span_86 (lv_at hl 3 rfl) ?_
              refine lv_iconst (v := (-1 : Int32)) hx hb dX11_span_88 (by decide) ?_
              refine lv_icmp_ne (tgt := 96) hx hb dX11_span_89 (by decide) (fun c17 => ?_) (fun c17 => ?_)
              · have hf := fd_itn c17 hf
                exact hL96 (f_X11_span_0_L54 N n) ih y1 y2 y4 y5 σ11 _ _ _ hP hS (lv_sub hl [0, 1, 2, 3, 4] rfl) hf
              · have hf := fd_itp c17 hf
                exact hL92 (f_X11_span_0_L54 N n) ih y1 y2 y5 σ11 _ _ _ hP hS (lv_sub hl [0, 1, 2, 4] rfl) hf
  have hL45 : ∀ (y1 : Int32) (y2 : Int32) (z1 : Int32) (σ : fd_St) (H : Heap) (locs : List Loc) (ls : Array Slot), va_P D vwCl (fd_WM a k σ) H → va_S (fd_A 29 a s.heap.size) s.heap H locs → lv_has ls 6 [(0, .ref (a 0)), (1, .int y1), (2, .int y2)] → f_X11_span_0_J45 N y1 y2 z1 σ = some r → W p l e ((headSpec wsX11_span ({ frames := 1, cells := 0, slots := 0, locals := 27 })).room) s m ([.ref (a 0), .int p1, .int p2].toArray) below meth c H locs 0 0 (MQ below (va_Qi (fun v u => (v, u) = r) (fd_BM D a k) (fd_A 29 a s.heap.size)) ([.ref (a 0), .int p1, .int p2].toArray) s 0 0 (fd_A 29 a s.heap.size)) (F0 m 45 ls [.int z1, .ref (a 0)]) := by
    intro y1 y2 z1 σ H locs ls hP hS hl hf
    unfold f_X11_span_0_J45 at hf
    obtain ⟨σ5, eσ5, hf⟩ := fd_lts hf
    refine va_put (ci := 11) (v := .int z1) (ty := .int) (C := RX11) (T := TX11) (N := 43) hx hb hts h9X11 tyX11 tyX11_ok nmX11 hown hK hP (fd_DM hI hJ) hS 0 fd_WM_0 rfl 0 (by decide) (hts (.fieldLink RX11 99 "FailDiagnoseModel" "thrown" "I") (List.mem_of_getElem? (i := 2) (by eq_refl))) (fun _ h9 => h9) rfl (by decide +kernel) rfl rfl (Nat.le_of_ble_eq_true rfl) dX11_span_45 (fun H locs hP _ hS => ?_)
    have hP : va_P D vwCl (fd_WM a k σ5) H := by rw [eσ5]; exact fd_sP fd_WMi_0 hP
    refine lv_iconst (v := (-1 : Int32)) hx hb dX11_span_48 (by decide) ?_
    refine lv_istore (lv' := [(4, .int (-1 : Int32)), (0, .ref (a 0)), (1, .int y1), (2, .int y2)]) hx hb dX11_span_49 hl (by decide) rfl (fun ls hl => ?_)
    refine lv_iconst (v := (0 : Int32)) hx hb dX11_span_51 (by decide) ?_
    refine lv_istore (lv' := [(5, .int (0 : Int32)), (4, .int (-1 : Int32)), (0, .ref (a 0)), (1, .int y1), (2, .int y2)]) hx hb dX11_span_52 hl (by decide) rfl (fun ls hl => ?_)
    exact hL54 N y1 y2 (-1 : Int32) (0 : Int32) σ5 _ _ _ hP hS (lv_sub hl [2, 3, 4, 1, 0] rfl) hf
  have hL23 : ∀ (y1 : Int32) (y2 : Int32) (z0 : Int32) (σ : fd_St) (H : Heap) (locs : List Loc) (ls : Array Slot), va_P D vwCl (fd_WM a k σ) H → va_S (fd_A 29 a s.heap.size) s.heap H locs → lv_has ls 6 [(0, .ref (a 0)), (1, .int y1), (2, .int y2)] → f_X11_span_0_J23 N y1 y2 z0 σ = some r → W p l e ((headSpec wsX11_span ({ frames := 1, cells := 0, slots := 0, locals := 27 })).room) s m ([.ref (a 0), .int p1, .int p2].toArray) below meth c H locs 0 0 (MQ below (va_Qi (fun v u => (v, u) = r) (fd_BM D a k) (fd_A 29 a s.heap.size)) ([.ref (a 0), .int p1, .int p2].toArray) s 0 0 (fd_A 29 a s.heap.size)) (F0 m 23 ls [.int z0]) := by
    intro y1 y2 z0 σ H locs ls hP hS hl hf
    unfold f_X11_span_0_J23 at hf
    refine lv_istore_n (lv' := [(3, .int z0), (0, .ref (a 0)), (1, .int y1), (2, .int y2)]) hx hb dX11_span_23 rfl hl (by decide) rfl (fun ls hl => ?_)
    refine lv_aload_n hx hb dX11_span_24 rfl (lv_at hl 1 rfl) ?_
    refine lv_iload_n hx hb dX11_span_25 rfl (lv_at hl 0 rfl) ?_
    refine lv_if_ne (tgt := 33) hx hb dX11_span_26 (by decide) (fun c3 => ?_) (fun c3 => ?_)
    · have hf := fd_itn c3 hf
      refine lv_aload_n hx hb dX11_span_33 rfl (lv_at hl 1 rfl) ?_
      refine va_get (ci := 11) (v := .int (σ.1 12)) (C := RX11) (T := TX11) (N := 43) hx hb hts h9X11 hown hK hP 0 fd_WM_0 rfl 31 (by decide) (hts (.fieldLink RX11 188 "FailDiagnoseModel" "cells" "I") (List.mem_of_getElem? (i := 1) (by eq_refl))) (fun _ h9 => h9) rfl dX11_span_34 ?_
      refine lv_if_ne (tgt := 44) hx hb dX11_span_37 (by decide) (fun c4 => ?_) (fun c4 => ?_)
      · have hf := fd_itn c4 hf
        refine lv_iconst (v := (0 : Int32)) hx hb dX11_span_44 (by decide) ?_
        exact hL45 y1 y2 (0 : Int32) σ _ _ _ hP hS (lv_sub hl [1, 2, 3] rfl) hf
      · have hf := fd_itp c4 hf
        refine lv_iconst (v := (2 : Int32)) hx hb dX11_span_40 (by decide) ?_
        refine lv_goto (tgt := 45) hx hb dX11_span_41 (by decide) ?_
        exact hL45 y1 y2 (2 : Int32) σ _ _ _ hP hS (lv_sub hl [1, 2, 3] rfl) hf
    · have hf := fd_itp c3 hf
      refine lv_iconst (v := (1 : Int32)) hx hb dX11_span_29 (by decide) ?_
      refine lv_goto (tgt := 45) hx hb dX11_span_30 (by decide) ?_
      exact hL45 y1 y2 (1 : Int32) σ _ _ _ hP hS (lv_sub hl [1, 2, 3] rfl) hf
  have hL18 : ∀ (y1 : Int32) (y2 : Int32) (σ : fd_St) (H : Heap) (locs : List Loc) (ls : Array Slot), va_P D vwCl (fd_WM a k σ) H → va_S (fd_A 29 a s.heap.size) s.heap H locs → lv_has ls 6 [(0, .ref (a 0)), (1, .int y1), (2, .int y2)] → f_X11_span_0_J18 N y1 y2 σ = some r → W p l e ((headSpec wsX11_span ({ frames := 1, cells := 0, slots := 0, locals := 27 })).room) s m ([.ref (a 0), .int p1, .int p2].toArray) below meth c H locs 0 0 (MQ below (va_Qi (fun v u => (v, u) = r) (fd_BM D a k) (fd_A 29 a s.heap.size)) ([.ref (a 0), .int p1, .int p2].toArray) s 0 0 (fd_A 29 a s.heap.size)) (F0 m 18 ls []) := by
    intro y1 y2 σ H locs ls hP hS hl hf
    unfold f_X11_span_0_J18 at hf
    refine lv_iconst (v := (1 : Int32)) hx hb dX11_span_18 (by decide) ?_
    refine lv_goto (tgt := 23) hx hb dX11_span_19 (by decide) ?_
    exact hL23 y1 y2 (1 : Int32) σ _ _ _ hP hS (lv_sub hl [0, 1, 2] rfl) hf
  have hL22 : ∀ (y1 : Int32) (y2 : Int32) (σ : fd_St) (H : Heap) (locs : List Loc) (ls : Array Slot), va_P D vwCl (fd_WM a k σ) H → va_S (fd_A 29 a s.heap.size) s.heap H locs → lv_has ls 6 [(0, .ref (a 0)), (1, .int y1), (2, .int y2)] → f_X11_span_0_J22 N y1 y2 σ = some r → W p l e ((headSpec wsX11_span ({ frames := 1, cells := 0, slots := 0, locals := 27 })).room) s m ([.ref (a 0), .int p1, .int p2].toArray) below meth c H locs 0 0 (MQ below (va_Qi (fun v u => (v, u) = r) (fd_BM D a k) (fd_A 29 a s.heap.size)) ([.ref (a 0), .int p1, .int p2].toArray) s 0 0 (fd_A 29 a s.heap.size)) (F0 m 22 ls []) := by
    intro y1 y2 σ H locs ls hP hS hl hf
    unfold f_X11_span_0_J22 at hf
    refine lv_iconst (v := (0 : Int32)) hx hb dX11_span_22 (by decide) ?_
    exact hL23 y1 y2 (0 : Int32) σ _ _ _ hP hS (lv_sub hl [0, 1, 2] rfl) hf
  have hL9 : ∀ (y1 : Int32) (y2 : Int32) (σ : fd_St) (H : Heap) (locs : List Loc) (ls : Array Slot), va_P D vwCl (fd_WM a k σ) H → va_S (fd_A 29 a s.heap.size) s.heap H locs → lv_has ls 6 [(0, .ref (a 0)), (1, .int y1), (2, .int y2)] → f_X11_span_0_J9 N y1 y2 σ = some r → W p l e ((headSpec wsX11_span ({ frames := 1, cells := 0, slots := 0, locals := 27 })).room) s m ([.ref (a 0), .int p1, .int p2].toArray) below meth c H locs 0 0 (MQ below (va_Qi (fun v u => (v, u) = r) (fd_BM D a k) (fd_A 29 a s.heap.size)) ([.ref (a 0), .int p1, .int p2].toArray) s 0 0 (fd_A 29 a s.heap.size)) (F0 m 9 ls []) := by
    intro y1 y2 σ H locs ls hP hS hl hf
    unfold f_X11_span_0_J9 at hf
    refine lv_iload_n hx hb dX11_span_9 rfl (lv_at hl 2 rfl) ?_
    refine lv_if_eq (tgt := 18) hx hb dX11_span_10 (by decide) (fun c2 => ?_) (fun c2 => ?_)
    · have hf := fd_itp c2 hf
      exact hL18 y1 y2 σ _ _ _ hP hS (lv_sub hl [0, 1, 2] rfl) hf
    · have hf := fd_itn c2 hf
      refine lv_iload_n hx hb dX11_span_13 rfl (lv_at hl 2 rfl) ?_
      refine lv_iconst (v := (1 : Int32)) hx hb dX11_span_14 (by decide) ?_
      refine lv_icmp_ne (tgt := 22) hx hb dX11_span_15 (by decide) (fun c18 => ?_) (fun c18 => ?_)
      · have hf := fd_itn c18 hf
        exact hL22 y1 y2 σ _ _ _ hP hS (lv_sub hl [0, 1, 2] rfl) hf
      · have hf := fd_itp c18 hf
        exact hL18 y1 y2 σ _ _ _ hP hS (lv_sub hl [0, 1, 2] rfl) hf
  unfold f_X11_span_0 at hf
  refine lv_iload_n hx hb dX11_span_0 rfl (lv_at hl 1 rfl) ?_
  refine lv_if_eq (tgt := 9) hx hb dX11_span_1 (by decide) (fun c1 => ?_) (fun c1 => ?_)
  · have hf := fd_itp c1 hf
    exact hL9 p1 p2 σ _ _ _ hP hS (lv_sub hl [0, 1, 2] rfl) hf
  · have hf := fd_itn c1 hf
    refine lv_iload_n hx hb dX11_span_4 rfl (lv_at hl 1 rfl) ?_
    refine lv_iconst (v := (1 : Int32)) hx hb dX11_span_5 (by decide) ?_
    refine lv_icmp_ne (tgt := 22) hx hb dX11_span_6 (by decide) (fun c19 => ?_) (fun c19 => ?_)
    · have hf := fd_itn c19 hf
      exact hL22 p1 p2 σ _ _ _ hP hS (lv_sub hl [0, 1, 2] rfl) hf
    · have hf := fd_itp c19 hf
      exact hL9 p1 p2 σ _ _ _ hP hS (lv_sub hl [0, 1, 2] rfl) hf
noncomputable def f_X6_size_11 (N : Nat) (σ : fd_St) : Option (Int32 × fd_St) := some (σ.1 18, σ)
set_option maxHeartbeats 4000000 in
set_option maxRecDepth 100000 in
theorem m_X6_size_11 (l : Launch) (D : va_G) (a : Nat → Nat) (k : Nat → ClassId) (sz : Nat) (hI : fd_I 39 a) (N : Nat) (σ : fd_St) (r : Int32 × fd_St) (hf : f_X6_size_11 N σ = some r) : Met l yX6_size wsX6_size ({ frames := 0, cells := 0, slots := 0, locals := 0 }) (va_Pc [.ref (a 11)] (fd_PC D a k sz σ)) (va_Qi (fun v u => (v, u) = r) (fd_BC D a k) (fd_A 39 a sz)) 0 0 (fd_A 39 a sz) := by
  refine Met.ofW (cc := cX6_size) (maxL := 1) (ret := (some .int)) (by decide) rfl ?_
  intro p e s m args below meth c s₁ B hml hv
  obtain ⟨rfl, hsz, hP, hK⟩ := hv
  have hx := B.exec
  have hb := B.bytes
  have hr := B.returns
  have hts := atoms_spec (ws := wsX6_size) B.pre
  have hown : s.vm.findClass RX6 = some m.cls := findClass_of_methodNamed B.named
  have hlocks := B.notSynchronized
  subst hsz
  have hJ : ∀ i, i < 39 → fd_A 39 a s.heap.size (a i) := fun i hi => Or.inl ⟨i, hi, rfl⟩
  have hS : va_S (fd_A 39 a s.heap.size) s.heap s.heap [] := va_S.rf
  have hl := lv_entry ([.ref (a 11)]) (n := 1) (Nat.le_of_ble_eq_true rfl)
  rw [lg_entry_eq]
  generalize (lg_sl ([.ref (a 11)]) ++ List.replicate (1 - (lg_sl ([.ref (a 11)])).length) Slot.unset).toArray = ls at hl ⊢
  have hl : lv_has ls 1 [(0, .ref (a 11))] := hl
  have h9X6 : ∀ w ∈ u_ws RX6 TX6 9, w ∈ wsX6_size := fd_su [2, 3, 4, 5, 6, 7, 8, 9, 10] (by eq_refl)
  unfold f_X6_size_11 at hf
  refine lv_aload_n hx hb dX6_size_0 rfl (lv_at hl 0 rfl) ?_
  refine va_get (ci := 6) (v := .int (σ.1 18)) (C := RX6) (T := TX6) (N := 9) hx hb hts h9X6 hown hK hP 11 fd_WC_11 rfl 7 (by decide) (hts (.fieldLink RX6 33 "FailDiagnose$Shapes" "size" "I") (List.mem_of_getElem? (i := 1) (by eq_refl))) (fun _ h9 => h9) rfl dX6_size_1 ?_
  exact W.iret (v := (σ.1 18)) hx hb hr (fun t ht hW => ⟨⟨σ.1 18, σ, rfl, Option.some.inj hf, by rw [ht]; exact hP, va_K.moved hW.alike hK⟩, hS.F ht⟩) hS.2.2 dX6_size_4
noncomputable def f_X10_isStretch (N : Nat) (p0 : Int32) (p1 : Int32) (σ : fd_St) : Option (Int32 × fd_St) := if p0 < 0 then (some ((0 : Int32), σ)) else (if p1 ≤ p0 then (some ((0 : Int32), σ)) else (if (1000 : Int32) < p1 then (some ((0 : Int32), σ)) else (some ((1 : Int32), σ))))
set_option maxHeartbeats 4000000 in
set_option maxRecDepth 100000 in
theorem m_X10_isStretch (l : Launch) (D : va_G) (a : Nat → Nat) (k : Nat → ClassId) (sz : Nat) (hI : fd_I 39 a) (N : Nat) (p0 : Int32) (p1 : Int32) (σ : fd_St) (r : Int32 × fd_St) (hf : f_X10_isStretch N p0 p1 σ = some r) : Met l yX10_isStretch wsX10_isStretch ({ frames := 0, cells := 0, slots := 0, locals := 0 }) (va_Pc [.int p0, .int p1] (fd_PC D a k sz σ)) (va_Qi (fun v u => (v, u) = r) (fd_BC D a k) (fd_A 39 a sz)) 0 0 (fd_A 39 a sz) := by
  refine Met.ofW (cc := cX10_isStretch) (maxL := 2) (ret := (some .boolean)) (by decide) rfl ?_
  intro p e s m args below meth c s₁ B hml hv
  obtain ⟨rfl, hsz, hP, hK⟩ := hv
  have hx := B.exec
  have hb := B.bytes
  have hr := B.returns
  have hts := atoms_spec (ws := wsX10_isStretch) B.pre
  have hown : s.vm.findClass RX10 = some m.cls := findClass_of_methodNamed B.named
  have hlocks := B.notSynchronized
  subst hsz
  have hJ : ∀ i, i < 39 → fd_A 39 a s.heap.size (a i) := fun i hi => Or.inl ⟨i, hi, rfl⟩
  have hS : va_S (fd_A 39 a s.heap.size) s.heap s.heap [] := va_S.rf
  have hl := lv_entry ([.int p0, .int p1]) (n := 2) (Nat.le_of_ble_eq_true rfl)
  rw [lg_entry_eq]
  generalize (lg_sl ([.int p0, .int p1]) ++ List.replicate (2 - (lg_sl ([.int p0, .int p1])).length) Slot.unset).toArray = ls at hl ⊢
  have hl : lv_has ls 2 [(0, .int p0), (1, .int p1)] := hl
  unfold f_X10_isStretch at hf
  refine lv_iload_n hx hb dX10_isStretch_0 rfl (lv_at hl 0 rfl) ?_
  refine lv_if_lt (tgt := 20) hx hb dX10_isStretch_1 (by decide) (fun c1 => ?_) (fun c1 => ?_)
  · have hf := fd_itp c1 hf
    refine lv_iconst (v := (0 : Int32)) hx hb dX10_isStretch_20 (by decide) ?_
    exact W.zret (v := (0 : Int32)) (ty := .boolean) hx hb hr rfl (fun t ht hW => ⟨⟨(0 : Int32), σ, rfl, Option.some.inj hf, by rw [ht]; exact hP, va_K.moved hW.alike hK⟩, hS.F ht⟩) hS.2.2 dX10_isStretch_21
  · have hf := fd_itn c1 hf
    refine lv_iload_n hx hb dX10_isStretch_4 rfl (lv_at hl 0 rfl) ?_
    refine lv_iload_n hx hb dX10_isStretch_5 rfl (lv_at hl 1 rfl) ?_
    refine lv_icmp_ge (tgt := 20) hx hb dX10_isStretch_6 (by decide) (fun c2 => ?_) (fun c2 => ?_)
    · have hf := fd_itp c2 hf
      refine lv_iconst (v := (0 : Int32)) hx hb dX10_isStretch_20 (by decide) ?_
      exact W.zret (v := (0 : Int32)) (ty := .boolean) hx hb hr rfl (fun t ht hW => ⟨⟨(0 : Int32), σ, rfl, Option.some.inj hf, by rw [ht]; exact hP, va_K.moved hW.alike hK⟩, hS.F ht⟩) hS.2.2 dX10_isStretch_21
    · have hf := fd_itn c2 hf
      refine lv_iload_n hx hb dX10_isStretch_9 rfl (lv_at hl 1 rfl) ?_
      refine lv_sipush (v := (1000 : Int32)) hx hb dX10_isStretch_10 (by decide) ?_
      refine lv_icmp_gt (tgt := 20) hx hb dX10_isStretch_13 (by decide) (fun c3 => ?_) (fun c3 => ?_)
      · have hf := fd_itp c3 hf
        refine lv_iconst (v := (0 : Int32)) hx hb dX10_isStretch_20 (by decide) ?_
        exact W.zret (v := (0 : Int32)) (ty := .boolean) hx hb hr rfl (fun t ht hW => ⟨⟨(0 : Int32), σ, rfl, Option.some.inj hf, by rw [ht]; exact hP, va_K.moved hW.alike hK⟩, hS.F ht⟩) hS.2.2 dX10_isStretch_21
      · have hf := fd_itn c3 hf
        refine lv_iconst (v := (1 : Int32)) hx hb dX10_isStretch_16 (by decide) ?_
        refine lv_goto (tgt := 21) hx hb dX10_isStretch_17 (by decide) ?_
        exact W.zret (v := (1 : Int32)) (ty := .boolean) hx hb hr rfl (fun t ht hW => ⟨⟨(1 : Int32), σ, rfl, Option.some.inj hf, by rw [ht]; exact hP, va_K.moved hW.alike hK⟩, hS.F ht⟩) hS.2.2 dX10_isStretch_21
noncomputable def f_X6_shapesOf_11_J25 (N : Nat) (k4 : Int32 → Int32 → Int32 → fd_St → Option (Int32 × fd_St)) (y1 : Int32) (y2 : Int32) (y3 : Int32) (σ : fd_St) : Option (Int32 × fd_St) := fd_lt (y3 + (1 : Int32)) (fun x4 => k4 y1 y2 x4 σ)
noncomputable def f_X6_shapesOf_11_L4 (N : Nat) : Nat → Int32 → Int32 → Int32 → fd_St → Option (Int32 × fd_St)
  | 0 => fun _ _ _ _ => none
  | n + 1 => fun y1 y2 y3 σ => if (σ.1 18) ≤ y3 then (some (y2, σ)) else (fd_gd (vp_in y3 60) (if (σ.2.1 32 y3.toNatClampNeg) = y1 then (fd_lt (y2 + (1 : Int32)) (fun x5 => f_X6_shapesOf_11_J25 N (f_X6_shapesOf_11_L4 N n) y1 x5 y3 σ)) else (f_X6_shapesOf_11_J25 N (f_X6_shapesOf_11_L4 N n) y1 y2 y3 σ)))
noncomputable def f_X6_shapesOf_11 (N : Nat) (p1 : Int32) (σ : fd_St) : Option (Int32 × fd_St) := f_X6_shapesOf_11_L4 N N p1 (0 : Int32) (0 : Int32) σ
set_option maxHeartbeats 4000000 in
set_option maxRecDepth 100000 in
theorem m_X6_shapesOf_11 (l : Launch) (D : va_G) (a : Nat → Nat) (k : Nat → ClassId) (sz : Nat) (hI : fd_I 39 a) (N : Nat) (p1 : Int32) (σ : fd_St) (r : Int32 × fd_St) (hf : f_X6_shapesOf_11 N p1 σ = some r) : Met l yX6_shapesOf wsX6_shapesOf ({ frames := 0, cells := 0, slots := 0, locals := 0 }) (va_Pc [.ref (a 11), .int p1] (fd_PC D a k sz σ)) (va_Qi (fun v u => (v, u) = r) (fd_BC D a k) (fd_A 39 a sz)) 0 0 (fd_A 39 a sz) := by
  refine Met.ofW (cc := cX6_shapesOf) (maxL := 4) (ret := (some .int)) (by decide) rfl ?_
  intro p e s m args below meth c s₁ B hml hv
  obtain ⟨rfl, hsz, hP, hK⟩ := hv
  have hx := B.exec
  have hb := B.bytes
  have hr := B.returns
  have hts := atoms_spec (ws := wsX6_shapesOf) B.pre
  have hown : s.vm.findClass RX6 = some m.cls := findClass_of_methodNamed B.named
  have hlocks := B.notSynchronized
  subst hsz
  have hJ : ∀ i, i < 39 → fd_A 39 a s.heap.size (a i) := fun i hi => Or.inl ⟨i, hi, rfl⟩
  have hS : va_S (fd_A 39 a s.heap.size) s.heap s.heap [] := va_S.rf
  have hl := lv_entry ([.ref (a 11), .int p1]) (n := 4) (Nat.le_of_ble_eq_true rfl)
  rw [lg_entry_eq]
  generalize (lg_sl ([.ref (a 11), .int p1]) ++ List.replicate (4 - (lg_sl ([.ref (a 11), .int p1])).length) Slot.unset).toArray = ls at hl ⊢
  have hl : lv_has ls 4 [(0, .ref (a 11)), (1, .int p1)] := hl
  have h9X6 : ∀ w ∈ u_ws RX6 TX6 9, w ∈ wsX6_shapesOf := fd_su [3, 4, 5, 6, 7, 8, 9, 10, 11] (by eq_refl)
  have hL25 : ∀ (k4 : Int32 → Int32 → Int32 → fd_St → Option (Int32 × fd_St)) (hk4 : ∀ (y1 : Int32) (y2 : Int32) (y3 : Int32) (σ : fd_St) (H : Heap) (locs : List Loc) (ls : Array Slot), va_P D vwCl (fd_WC a k σ) H → va_S (fd_A 39 a s.heap.size) s.heap H locs → lv_has ls 4 [(0, .ref (a 11)), (1, .int y1), (2, .int y2), (3, .int y3)] → k4 y1 y2 y3 σ = some r → W p l e ((headSpec wsX6_shapesOf ({ frames := 0, cells := 0, slots := 0, locals := 0 })).room) s m ([.ref (a 11), .int p1].toArray) below meth c H locs 0 0 (MQ below (va_Qi (fun v u => (v, u) = r) (fd_BC D a k) (fd_A 39 a s.heap.size)) ([.ref (a 11), .int p1].toArray) s 0 0 (fd_A 39 a s.heap.size)) (F0 m 4 ls [])), ∀ (y1 : Int32) (y2 : Int32) (y3 : Int32) (σ : fd_St) (H : Heap) (locs : List Loc) (ls : Array Slot), va_P D vwCl (fd_WC a k σ) H → va_S (fd_A 39 a s.heap.size) s.heap H locs → lv_has ls 4 [(0, .ref (a 11)), (1, .int y1), (2, .int y2), (3, .int y3)] → f_X6_shapesOf_11_J25 N k4 y1 y2 y3 σ = some r → W p l e ((headSpec wsX6_shapesOf ({ frames := 0, cells := 0, slots := 0, locals := 0 })).room) s m ([.ref (a 11), .int p1].toArray) below meth c H locs 0 0 (MQ below (va_Qi (fun v u => (v, u) = r) (fd_BC D a k) (fd_A 39 a s.heap.size)) ([.ref (a 11), .int p1].toArray) s 0 0 (fd_A 39 a s.heap.size)) (F0 m 25 ls []) := by
    intro k4 hk4 y1 y2 y3 σ H locs ls hP hS hl hf
    unfold f_X6_shapesOf_11_J25 at hf
    obtain ⟨x4, ex4, hf⟩ := fd_lts hf
    refine lv_iinc (v := x4) (lv' := [(3, .int x4), (0, .ref (a 11)), (1, .int y1), (2, .int y2)]) hx hb dX6_shapesOf_25 hl (k := 3) rfl (by rw [ex4]; rfl) (by decide) rfl (fun ls hl => ?_)
    refine lv_goto (tgt := 4) hx hb dX6_shapesOf_28 (by decide) ?_
    exact hk4 y1 y2 x4 σ _ _ _ hP hS (lv_sub hl [1, 2, 3, 0] rfl) hf
  have hL4 : ∀ (n : Nat), ∀ (y1 : Int32) (y2 : Int32) (y3 : Int32) (σ : fd_St) (H : Heap) (locs : List Loc) (ls : Array Slot), va_P D vwCl (fd_WC a k σ) H → va_S (fd_A 39 a s.heap.size) s.heap H locs → lv_has ls 4 [(0, .ref (a 11)), (1, .int y1), (2, .int y2), (3, .int y3)] → f_X6_shapesOf_11_L4 N n y1 y2 y3 σ = some r → W p l e ((headSpec wsX6_shapesOf ({ frames := 0, cells := 0, slots := 0, locals := 0 })).room) s m ([.ref (a 11), .int p1].toArray) below meth c H locs 0 0 (MQ below (va_Qi (fun v u => (v, u) = r) (fd_BC D a k) (fd_A 39 a s.heap.size)) ([.ref (a 11), .int p1].toArray) s 0 0 (fd_A 39 a s.heap.size)) (F0 m 4 ls []) := by
    intro n
    induction n with
    | zero =>
      intro _ _ _ _ _ _ _ _ _ _ hf
      cases hf
    | succ n ih =>
      intro y1 y2 y3 σ H locs ls hP hS hl hf
      unfold f_X6_shapesOf_11_L4 at hf
      refine lv_iload_n hx hb dX6_shapesOf_4 rfl (lv_at hl 3 rfl) ?_
      refine lv_aload_n hx hb dX6_shapesOf_5 rfl (lv_at hl 0 rfl) ?_
      refine va_get (ci := 6) (v := .int (σ.1 18)) (C := RX6) (T := TX6) (N := 9) hx hb hts h9X6 hown hK hP 11 fd_WC_11 rfl 7 (by decide) (hts (.fieldLink RX6 33 "FailDiagnose$Shapes" "size" "I") (List.mem_of_getElem? (i := 1) (by eq_refl))) (fun _ h9 => h9) rfl dX6_shapesOf_6 ?_
      refine lv_icmp_ge (tgt := 31) hx hb dX6_shapesOf_9 (by decide) (fun c1 => ?_) (fun c1 => ?_)
      · have hf := fd_itp c1 hf
        refine lv_iload_n hx hb dX6_shapesOf_31 rfl (lv_at hl 2 rfl) ?_
        exact W.iret (v := y2) hx hb hr (fun t ht hW => ⟨⟨y2, σ, rfl, Option.some.inj hf, by rw [ht]; exact hP, va_K.moved hW.alike hK⟩, hS.F ht⟩) hS.2.2 dX6_shapesOf_32
      · have hf := fd_itn c1 hf
        refine lv_aload_n hx hb dX6_shapesOf_12 rfl (lv_at hl 0 rfl) ?_
        refine va_get (ci := 6) (v := .ref (a 32)) (C := RX6) (T := TX6) (N := 9) hx hb hts h9X6 hown hK hP 11 fd_WC_11 rfl 0 (by decide) (hts (.fieldLink RX6 9 "FailDiagnose$Shapes" "nets" "[I") (List.mem_of_getElem? (i := 2) (by eq_refl))) (fun _ h9 => h9) rfl dX6_shapesOf_13 ?_
        refine lv_iload_n hx hb dX6_shapesOf_16 rfl (lv_at hl 3 rfl) ?_
        obtain ⟨g2, hf⟩ := fd_gds hf
        refine va_iald hx hb hK hP 32 20 fd_WC_32 fd_tyC_32 g2 dX6_shapesOf_17 ?_
        refine lv_iload_n hx hb dX6_shapesOf_18 rfl (lv_at hl 1 rfl) ?_
        refine lv_icmp_ne (tgt := 25) hx hb dX6_shapesOf_19 (by decide) (fun c3 => ?_) (fun c3 => ?_)
        · have hf := fd_itn c3 hf
          exact hL25 (f_X6_shapesOf_11_L4 N n) ih y1 y2 y3 σ _ _ _ hP hS (lv_sub hl [0, 1, 2, 3] rfl) hf
        · have hf := fd_itp c3 hf
          obtain ⟨x5, ex5, hf⟩ := fd_lts hf
          refine lv_iinc (v := x5) (lv' := [(2, .int x5), (0, .ref (a 11)), (1, .int y1), (3, .int y3)]) hx hb dX6_shapesOf_22 hl (k := 2) rfl (by rw [ex5]; rfl) (by decide) rfl (fun ls hl => ?_)
          exact hL25 (f_X6_shapesOf_11_L4 N n) ih y1 x5 y3 σ _ _ _ hP hS (lv_sub hl [1, 2, 0, 3] rfl) hf
  unfold f_X6_shapesOf_11 at hf
  refine lv_iconst (v := (0 : Int32)) hx hb dX6_shapesOf_0 (by decide) ?_
  refine lv_istore_n (lv' := [(2, .int (0 : Int32)), (0, .ref (a 11)), (1, .int p1)]) hx hb dX6_shapesOf_1 rfl hl (by decide) rfl (fun ls hl => ?_)
  refine lv_iconst (v := (0 : Int32)) hx hb dX6_shapesOf_2 (by decide) ?_
  refine lv_istore_n (lv' := [(3, .int (0 : Int32)), (2, .int (0 : Int32)), (0, .ref (a 11)), (1, .int p1)]) hx hb dX6_shapesOf_3 rfl hl (by decide) rfl (fun ls hl => ?_)
  exact hL4 N p1 (0 : Int32) (0 : Int32) σ _ _ _ hP hS (lv_sub hl [2, 3, 1, 0] rfl) hf
noncomputable def f_X6_add_11 (N : Nat) (p1 : Int32) (p2 : Int32) (p3 : Int32) (p4 : Int32) (p5 : Int32) (σ : fd_St) : Option (Int32 × fd_St) := fd_gd (vp_in (σ.1 18) 60) (fd_lt (fd_sA 32 (σ.1 18) p1 σ) (fun σ2 => fd_gd (vp_in (σ2.1 18) 60) (fd_lt (fd_sA 33 (σ2.1 18) p2 σ2) (fun σ4 => fd_gd (vp_in (σ4.1 18) 60) (fd_lt (fd_sA 34 (σ4.1 18) p3 σ4) (fun σ6 => fd_gd (vp_in (σ6.1 18) 60) (fd_lt (fd_sA 35 (σ6.1 18) p4 σ6) (fun σ8 => fd_gd (vp_in (σ8.1 18) 60) (fd_lt (fd_sA 36 (σ8.1 18) p5 σ8) (fun σ10 => fd_lt (fd_sI 18 ((σ10.1 18) + (1 : Int32)) σ10) (fun σ11 => fd_bd (f_X6_shapesOf_11 N p1 σ11) (fun v13 σ14 => some (v13, σ14)))))))))))))
set_option maxHeartbeats 4000000 in
set_option maxRecDepth 100000 in
theorem m_X6_add_11 (l : Launch) (D : va_G) (a : Nat → Nat) (k : Nat → ClassId) (sz : Nat) (hI : fd_I 39 a) (N : Nat) (p1 : Int32) (p2 : Int32) (p3 : Int32) (p4 : Int32) (p5 : Int32) (σ : fd_St) (r : Int32 × fd_St) (hf : f_X6_add_11 N p1 p2 p3 p4 p5 σ = some r) : Met l yX6_add wsX6_add ({ frames := 1, cells := 0, slots := 0, locals := 23 }) (va_Pc [.ref (a 11), .int p1, .int p2, .int p3, .int p4, .int p5] (fd_PC D a k sz σ)) (va_Qi (fun v u => (v, u) = r) (fd_BC D a k) (fd_A 39 a sz)) 0 0 (fd_A 39 a sz) := by
  refine Met.ofW (cc := cX6_add) (maxL := 6) (ret := (some .int)) (by decide) rfl ?_
  intro p e s m args below meth c s₁ B hml hv
  obtain ⟨rfl, hsz, hP, hK⟩ := hv
  have hx := B.exec
  have hb := B.bytes
  have hr := B.returns
  have hts := atoms_spec (ws := wsX6_add) B.pre
  have hown : s.vm.findClass RX6 = some m.cls := findClass_of_methodNamed B.named
  have hlocks := B.notSynchronized
  subst hsz
  have hJ : ∀ i, i < 39 → fd_A 39 a s.heap.size (a i) := fun i hi => Or.inl ⟨i, hi, rfl⟩
  have hS : va_S (fd_A 39 a s.heap.size) s.heap s.heap [] := va_S.rf
  have hl := lv_entry ([.ref (a 11), .int p1, .int p2, .int p3, .int p4, .int p5]) (n := 6) (Nat.le_of_ble_eq_true rfl)
  rw [lg_entry_eq]
  generalize (lg_sl ([.ref (a 11), .int p1, .int p2, .int p3, .int p4, .int p5]) ++ List.replicate (6 - (lg_sl ([.ref (a 11), .int p1, .int p2, .int p3, .int p4, .int p5])).length) Slot.unset).toArray = ls at hl ⊢
  have hl : lv_has ls 6 [(0, .ref (a 11)), (1, .int p1), (2, .int p2), (3, .int p3), (4, .int p4), (5, .int p5)] := hl
  have h9X6 : ∀ w ∈ u_ws RX6 TX6 9, w ∈ wsX6_add := fd_su [12, 13, 14, 15, 16, 17, 18, 19, 20] (by eq_refl)
  unfold f_X6_add_11 at hf
  refine lv_aload_n hx hb dX6_add_0 rfl (lv_at hl 0 rfl) ?_
  refine va_get (ci := 6) (v := .ref (a 32)) (C := RX6) (T := TX6) (N := 9) hx hb hts h9X6 hown hK hP 11 fd_WC_11 rfl 0 (by decide) (hts (.fieldLink RX6 9 "FailDiagnose$Shapes" "nets" "[I") (List.mem_of_getElem? (i := 1) (by eq_refl))) (fun _ h9 => h9) rfl dX6_add_1 ?_
  refine lv_aload_n hx hb dX6_add_4 rfl (lv_at hl 0 rfl) ?_
  refine va_get (ci := 6) (v := .int (σ.1 18)) (C := RX6) (T := TX6) (N := 9) hx hb hts h9X6 hown hK hP 11 fd_WC_11 rfl 7 (by decide) (hts (.fieldLink RX6 33 "FailDiagnose$Shapes" "size" "I") (List.mem_of_getElem? (i := 2) (by eq_refl))) (fun _ h9 => h9) rfl dX6_add_5 ?_
  refine lv_iload_n hx hb dX6_add_8 rfl (lv_at hl 1 rfl) ?_
  obtain ⟨g1, hf⟩ := fd_gds hf
  obtain ⟨σ2, eσ2, hf⟩ := fd_lts hf
  refine va_iast hx hb hK hP (fd_DC hI hJ) hS 32 20 fd_WC_32 fd_tyC_32 g1 dX6_add_9 (fun H locs hP _ hS => ?_)
  have hP : va_P D vwCl (fd_WC a k σ2) H := by rw [eσ2]; exact fd_sP fd_WCa_32 hP
  refine lv_aload_n hx hb dX6_add_10 rfl (lv_at hl 0 rfl) ?_
  refine va_get (ci := 6) (v := .ref (a 33)) (C := RX6) (T := TX6) (N := 9) hx hb hts h9X6 hown hK hP 11 fd_WC_11 rfl 1 (by decide) (hts (.fieldLink RX6 15 "FailDiagnose$Shapes" "lefts" "[I") (List.mem_of_getElem? (i := 3) (by eq_refl))) (fun _ h9 => h9) rfl dX6_add_11 ?_
  refine lv_aload_n hx hb dX6_add_14 rfl (lv_at hl 0 rfl) ?_
  refine va_get (ci := 6) (v := .int (σ2.1 18)) (C := RX6) (T := TX6) (N := 9) hx hb hts h9X6 hown hK hP 11 fd_WC_11 rfl 7 (by decide) (hts (.fieldLink RX6 33 "FailDiagnose$Shapes" "size" "I") (List.mem_of_getElem? (i := 2) (by eq_refl))) (fun _ h9 => h9) rfl dX6_add_15 ?_
  refine lv_iload_n hx hb dX6_add_18 rfl (lv_at hl 2 rfl) ?_
  obtain ⟨g3, hf⟩ := fd_gds hf
  obtain ⟨σ4, eσ4, hf⟩ := fd_lts hf
  refine va_iast hx hb hK hP (fd_DC hI hJ) hS 33 21 fd_WC_33 fd_tyC_33 g3 dX6_add_19 (fun H locs hP _ hS => ?_)
  have hP : va_P D vwCl (fd_WC a k σ4) H := by rw [eσ4]; exact fd_sP fd_WCa_33 hP
  refine lv_aload_n hx hb dX6_add_20 rfl (lv_at hl 0 rfl) ?_
  refine va_get (ci := 6) (v := .ref (a 34)) (C := RX6) (T := TX6) (N := 9) hx hb hts h9X6 hown hK hP 11 fd_WC_11 rfl 2 (by decide) (hts (.fieldLink RX6 18 "FailDiagnose$Shapes" "bottoms" "[I") (List.mem_of_getElem? (i := 4) (by eq_refl))) (fun _ h9 => h9) rfl dX6_add_21 ?_
  refine lv_aload_n hx hb dX6_add_24 rfl (lv_at hl 0 rfl) ?_
  refine va_get (ci := 6) (v := .int (σ4.1 18)) (C := RX6) (T := TX6) (N := 9) hx hb hts h9X6 hown hK hP 11 fd_WC_11 rfl 7 (by decide) (hts (.fieldLink RX6 33 "FailDiagnose$Shapes" "size" "I") (List.mem_of_getElem? (i := 2) (by eq_refl))) (fun _ h9 => h9) rfl dX6_add_25 ?_
  refine lv_iload_n hx hb dX6_add_28 rfl (lv_at hl 3 rfl) ?_
  obtain ⟨g5, hf⟩ := fd_gds hf
  obtain ⟨σ6, eσ6, hf⟩ := fd_lts hf
  refine va_iast hx hb hK hP (fd_DC hI hJ) hS 34 22 fd_WC_34 fd_tyC_34 g5 dX6_add_29 (fun H locs hP _ hS => ?_)
  have hP : va_P D vwCl (fd_WC a k σ6) H := by rw [eσ6]; exact fd_sP fd_WCa_34 hP
  refine lv_aload_n hx hb dX6_add_30 rfl (lv_at hl 0 rfl) ?_
  refine va_get (ci := 6) (v := .ref (a 35)) (C := RX6) (T := TX6) (N := 9) hx hb hts h9X6 hown hK hP 11 fd_WC_11 rfl 3 (by decide) (hts (.fieldLink RX6 21 "FailDiagnose$Shapes" "rights" "[I") (List.mem_of_getElem? (i := 5) (by eq_refl))) (fun _ h9 => h9) rfl dX6_add_31 ?_
  refine lv_aload_n hx hb dX6_add_34 rfl (lv_at hl 0 rfl) ?_
  refine va_get (ci := 6) (v := .int (σ6.1 18)) (C := RX6) (T := TX6) (N := 9) hx hb hts h9X6 hown hK hP 11 fd_WC_11 rfl 7 (by decide) (hts (.fieldLink RX6 33 "FailDiagnose$Shapes" "size" "I") (List.mem_of_getElem? (i := 2) (by eq_refl))) (fun _ h9 => h9) rfl dX6_add_35 ?_
  refine lv_iload hx hb dX6_add_38 (lv_at hl 4 rfl) ?_
  obtain ⟨g7, hf⟩ := fd_gds hf
  obtain ⟨σ8, eσ8, hf⟩ := fd_lts hf
  refine va_iast hx hb hK hP (fd_DC hI hJ) hS 35 23 fd_WC_35 fd_tyC_35 g7 dX6_add_40 (fun H locs hP _ hS => ?_)
  have hP : va_P D vwCl (fd_WC a k σ8) H := by rw [eσ8]; exact fd_sP fd_WCa_35 hP
  refine lv_aload_n hx hb dX6_add_41 rfl (lv_at hl 0 rfl) ?_
  refine va_get (ci := 6) (v := .ref (a 36)) (C := RX6) (T := TX6) (N := 9) hx hb hts h9X6 hown hK hP 11 fd_WC_11 rfl 4 (by decide) (hts (.fieldLink RX6 24 "FailDiagnose$Shapes" "tops" "[I") (List.mem_of_getElem? (i := 6) (by eq_refl))) (fun _ h9 => h9) rfl dX6_add_42 ?_
  refine lv_aload_n hx hb dX6_add_45 rfl (lv_at hl 0 rfl) ?_
  refine va_get (ci := 6) (v := .int (σ8.1 18)) (C := RX6) (T := TX6) (N := 9) hx hb hts h9X6 hown hK hP 11 fd_WC_11 rfl 7 (by decide) (hts (.fieldLink RX6 33 "FailDiagnose$Shapes" "size" "I") (List.mem_of_getElem? (i := 2) (by eq_refl))) (fun _ h9 => h9) rfl dX6_add_46 ?_
  refine lv_iload hx hb dX6_add_49 (lv_at hl 5 rfl) ?_
  obtain ⟨g9, hf⟩ := fd_gds hf
  obtain ⟨σ10, eσ10, hf⟩ := fd_lts hf
  refine va_iast hx hb hK hP (fd_DC hI hJ) hS 36 24 fd_WC_36 fd_tyC_36 g9 dX6_add_51 (fun H locs hP _ hS => ?_)
  have hP : va_P D vwCl (fd_WC a k σ10) H := by rw [eσ10]; exact fd_sP fd_WCa_36 hP
  refine lv_aload_n hx hb dX6_add_52 rfl (lv_at hl 0 rfl) ?_
  refine lv_dup hx hb dX6_add_53 rfl ?_
  refine va_get (ci := 6) (v := .int (σ10.1 18)) (C := RX6) (T := TX6) (N := 9) hx hb hts h9X6 hown hK hP 11 fd_WC_11 rfl 7 (by decide) (hts (.fieldLink RX6 33 "FailDiagnose$Shapes" "size" "I") (List.mem_of_getElem? (i := 2) (by eq_refl))) (fun _ h9 => h9) rfl dX6_add_54 ?_
  refine lv_iconst (v := (1 : Int32)) hx hb dX6_add_57 (by decide) ?_
  refine lv_iadd hx hb dX6_add_58 ?_
  obtain ⟨σ11, eσ11, hf⟩ := fd_lts hf
  refine va_put (ci := 6) (v := .int ((σ10.1 18) + (1 : Int32))) (ty := .int) (C := RX6) (T := TX6) (N := 9) hx hb hts h9X6 tyX6 tyX6_ok nmX6 hown hK hP (fd_DC hI hJ) hS 11 fd_WC_11 rfl 7 (by decide) (hts (.fieldLink RX6 33 "FailDiagnose$Shapes" "size" "I") (List.mem_of_getElem? (i := 2) (by eq_refl))) (fun _ h9 => h9) rfl (by decide +kernel) rfl rfl (Nat.le_of_ble_eq_true rfl) dX6_add_59 (fun H locs hP _ hS => ?_)
  have hP : va_P D vwCl (fd_WC a k σ11) H := by rw [eσ11]; exact fd_sP fd_WCi_18 hP
  refine lv_aload_n hx hb dX6_add_62 rfl (lv_at hl 0 rfl) ?_
  refine lv_iload_n hx hb dX6_add_63 rfl (lv_at hl 1 rfl) ?_
  obtain ⟨w15, τ16, hc12, hf⟩ := fd_bds hf
  refine va_calli (va_runV (As := [.int p1]) (rest := []) ⟨hx, hb, hml, hown, hts⟩ (m_X6_shapesOf_11 l D a k H.size hI N p1 σ11 _ hc12) (cwV 1 hts gX6_add_X6_shapesOf rfl rfl rfl (by decide +kernel) ⟨Nat.le_of_ble_eq_true rfl, Nat.le_of_ble_eq_true rfl⟩) ⟨fd_blC, va_recv hK hP (ci := 6) (q0 := 11) rfl fd_WC_11, fd_prC hP hK⟩ rfl rfl hl.1 rfl (lv_room (Nat.le_of_ble_eq_true rfl)) dX6_add_64 ⟨Nat.zero_le _, Nat.zero_le _⟩) hS (fun q _ h => fd_A_mono hS.1 h) (fun q h => fd_A_mono hS.1 h) (fun v13 u t H1 locs ht hvm hw hB hz hk hS => ?_)
  obtain ⟨hP1, hK1⟩ := hB
  rw [ht] at hP1
  obtain ⟨e1, e2⟩ := Prod.mk.inj hw
  subst e1
  subst e2
  obtain ⟨σ14, rfl⟩ : ∃ z, z = u := ⟨_, rfl⟩
  have hP := hP1
  generalize H1 = H at hP hS ⊢
  exact W.iret (v := v13) hx hb hr (fun t ht hW => ⟨⟨v13, σ14, rfl, Option.some.inj hf, by rw [ht]; exact hP, va_K.moved hW.alike hK⟩, hS.F ht⟩) hS.2.2 dX6_add_67
noncomputable def f_X10_shape_0_J45 (N : Nat) (σ : fd_St) : Option ((Int32 ⊕ String) × fd_St) := some (.inr "java/lang/IllegalArgumentException", σ)
noncomputable def f_X10_shape_0 (N : Nat) (p1 : Int32) (p2 : Int32) (p3 : Int32) (p4 : Int32) (p5 : Int32) (σ : fd_St) : Option ((Int32 ⊕ String) × fd_St) := fd_bx (f_X10_needNet_0 N p1 σ) (fun _ σ3 => fd_bd (f_X6_size_11 N σ3) (fun v8 σ9 => if v8 = (60 : Int32) then (some (.inr "java/lang/IllegalStateException", σ9)) else (fd_bd (f_X10_isStretch N p2 p4 σ9) (fun v14 σ15 => if v14 = 0 then (f_X10_shape_0_J45 N σ15) else (fd_bd (f_X10_isStretch N p3 p5 σ15) (fun v21 σ22 => if v21 = 0 then (f_X10_shape_0_J45 N σ22) else (fd_bd (f_X6_add_11 N p1 p2 p3 p4 p5 σ22) (fun v27 σ28 => some (.inl v27, σ28))))))))) (fun E τ => some (.inr E, τ))
set_option maxHeartbeats 4000000 in
set_option maxRecDepth 100000 in
theorem m_X10_shape_0 (l : Launch) (hl9 : l.stackTraces = false) (D : va_G) (a : Nat → Nat) (k : Nat → ClassId) (sz : Nat) (hI : fd_I 39 a) (N : Nat) (p1 : Int32) (p2 : Int32) (p3 : Int32) (p4 : Int32) (p5 : Int32) (σ : fd_St) (r : (Int32 ⊕ String) × fd_St) (hf : f_X10_shape_0 N p1 p2 p3 p4 p5 σ = some r) : vx_Met l yX10_shape wsX10_shape ({ frames := 7, cells := fd_mc r, slots := fd_ms r, locals := 111 }) (va_Pc [.ref (a 0), .int p1, .int p2, .int p3, .int p4, .int p5] (fd_PZ D a k sz σ)) (va_Qi (fun v u => (Sum.inl v, u) = r) (fd_BC D a k) (fd_A 39 a sz)) (fd_X D a k (fd_A 39 a sz) r) (fd_mc r) (fd_ms r) (fd_A 39 a sz) := by
  refine vx_ofW (cc := cX10_shape) (maxL := 6) (ret := (some .int)) (by decide) rfl ?_
  intro p e s m args below meth c s₁ B hml hex hv
  obtain ⟨rfl, ⟨hsz, hP, hK⟩, hZ⟩ := hv
  have hx := B.exec
  have hb := B.bytes
  have hr := B.returns
  have hts := atoms_spec (ws := wsX10_shape) B.pre
  have hown : s.vm.findClass RX10 = some m.cls := findClass_of_methodNamed B.named
  have hlocks := B.notSynchronized
  subst hsz
  have hJ : ∀ i, i < 39 → fd_A 39 a s.heap.size (a i) := fun i hi => Or.inl ⟨i, hi, rfl⟩
  have hS : va_S (fd_A 39 a s.heap.size) s.heap s.heap [] := va_S.rf
  have hl := lv_entry ([.ref (a 0), .int p1, .int p2, .int p3, .int p4, .int p5]) (n := 6) (Nat.le_of_ble_eq_true rfl)
  rw [lg_entry_eq]
  generalize (lg_sl ([.ref (a 0), .int p1, .int p2, .int p3, .int p4, .int p5]) ++ List.replicate (6 - (lg_sl ([.ref (a 0), .int p1, .int p2, .int p3, .int p4, .int p5])).length) Slot.unset).toArray = ls at hl ⊢
  have hl : lv_has ls 6 [(0, .ref (a 0)), (1, .int p1), (2, .int p2), (3, .int p3), (4, .int p4), (5, .int p5)] := hl
  have h9X10 : ∀ w ∈ u_ws RX10 TX10 8, w ∈ wsX10_shape := fd_su [42, 43, 44, 45, 46, 47, 48, 49] (by eq_refl)
  have hL45 : ∀ (σ : fd_St) (H : Heap) (locs : List Loc) (ls : Array Slot), va_P D vwCl (fd_WC a k σ) H → va_S (fd_A 39 a s.heap.size) s.heap H locs → lv_has ls 6 [] → f_X10_shape_0_J45 N σ = some r → W p l e ((headSpec wsX10_shape ({ frames := 7, cells := fd_mc r, slots := fd_ms r, locals := 111 })).room) s m ([.ref (a 0), .int p1, .int p2, .int p3, .int p4, .int p5].toArray) below meth c H locs 0 0 (vx_MQ below (va_Qi (fun v u => (Sum.inl v, u) = r) (fd_BC D a k) (fd_A 39 a s.heap.size)) (fd_X D a k (fd_A 39 a s.heap.size) r) ([.ref (a 0), .int p1, .int p2, .int p3, .int p4, .int p5].toArray) s (fd_mc r) (fd_ms r) (fd_A 39 a s.heap.size)) (F0 m 45 ls []) := by
    intro σ H locs ls hP hS hl hf
    unfold f_X10_shape_0_J45 at hf
    have e19 := Option.some.inj hf
    subst e19
    obtain ⟨sa, hsa⟩ := hZ.str 224 "no such rectangle" (by decide +kernel)
    exact vx_throwS (own := RX10) (cls := "java/lang/IllegalArgumentException") (names := ["java/lang/RuntimeException", "java/lang/Exception"]) hx hb hl9 hown fd_ex_87_91_f fd_ex_n (hts (.classLink RX10 87 "java/lang/IllegalArgumentException") (List.mem_of_getElem? (i := 3) (by eq_refl))) (hts (.initialized "java/lang/IllegalArgumentException") (List.mem_of_getElem? (i := 4) (by eq_refl))) hsa (vx_hat (L := vx_atS RX10 91 "java/lang/IllegalArgumentException" ["java/lang/RuntimeException", "java/lang/Exception"]) (B := fd_bad "java/lang/IllegalArgumentException") (fun w hw => hts w ((fun w h => List.mem_cons_of_mem _ (List.mem_append_left _ (List.mem_append_right _ h)) : ∀ w ∈ (vx_atS RX10 91 "java/lang/IllegalArgumentException" ["java/lang/RuntimeException", "java/lang/Exception"]).filter goodWord, w ∈ wsX10_shape) w hw)) fd_ex_87_91_b (hZ.bad "java/lang/IllegalArgumentException" fd_ex_87_91_e)) fd_ex_87_91_g hZ.un hZ.su hS (hl.1.trans hml.symm) dX10_shape_45 dX10_shape_48 dX10_shape_49 dX10_shape_51 dX10_shape_54 (fun x hx => (hex x hx).elim) (Nat.le_of_ble_eq_true rfl) (Nat.le_of_ble_eq_true rfl) (Nat.le_of_ble_eq_true rfl) (Nat.le_of_ble_eq_true rfl) hlocks (fun t ha hsz hk => ⟨σ, trivial, ⟨rfl, hP.kept (fun k q hq => hk q.1 (hP k q hq).lt), va_K.moved ha hK⟩, Nat.le_trans hS.1 hsz, fun q h1 h2 => (hk q (Nat.lt_of_lt_of_le h1 hS.1)).trans (hS.2.1 q h1 h2)⟩) hS.2.2 (Nat.le_of_ble_eq_true rfl) (Nat.le_of_ble_eq_true rfl)
  unfold f_X10_shape_0 at hf
  refine lv_aload_n hx hb dX10_shape_0 rfl (lv_at hl 0 rfl) ?_
  refine lv_iload_n hx hb dX10_shape_1 rfl (lv_at hl 1 rfl) ?_
  rcases fd_bxs hf with ⟨w4, τ5, hc1, hf⟩ | ⟨E6, τ5, hc1, hf⟩
  · refine vx_callv (vx_runV (As := [.int p1]) (rest := []) ⟨hx, hb, hml, hown, hts⟩ (m_X10_needNet_0 l hl9 D a k s.heap.size hI N p1 σ _ hc1) (cwV 1 hts gX10_shape_X10_needNet rfl rfl rfl (by decide +kernel) ⟨Nat.le_of_ble_eq_true rfl, Nat.le_of_ble_eq_true rfl⟩) ⟨fd_blZ, va_recv hK hP (ci := 10) (q0 := 0) rfl fd_WC_0, fd_prZ hP hK hZ hS⟩ rfl rfl hl.1 rfl (lv_room (Nat.le_of_ble_eq_true rfl)) dX10_shape_2 ⟨Nat.zero_le _, Nat.zero_le _⟩) hS (fun q _ h => fd_A_mono hS.1 h) (fun q h => fd_A_mono hS.1 h) (fun q _ h => fd_A_mono hS.1 h) (fun E ce q9 u t H1 locs1 ht hvm hp hB => ?_) (fun u t H1 locs ht hvm hw hB hz hk hS => ?_)
    · exact absurd hB.1 (by simp)
    obtain ⟨hP1, hK1⟩ := hB
    rw [ht] at hP1
    have e2 := (Prod.mk.inj hw).2
    subst e2
    obtain ⟨σ3, rfl⟩ : ∃ z, z = u := ⟨_, rfl⟩
    have hP := hP1
    generalize H1 = H at hP hS ⊢
    refine W.cs (cells' := 0) (slots' := 0) rfl rfl ?_
    refine lv_aload_n hx hb dX10_shape_5 rfl (lv_at hl 0 rfl) ?_
    refine va_get (ci := 10) (v := .ref (a 11)) (C := RX10) (T := TX10) (N := 8) hx hb hts h9X10 hown hK hP 0 fd_WC_0 rfl 6 (by decide) (hts (.fieldLink RX10 56 "FailDiagnose" "shapes" "LFailDiagnose$Shapes;") (List.mem_of_getElem? (i := 5) (by eq_refl))) (fun _ h9 => h9) rfl dX10_shape_6 ?_
    obtain ⟨w10, τ11, hc7, hf⟩ := fd_bds hf
    refine va_calli (va_runV (As := []) (rest := []) ⟨hx, hb, hml, hown, hts⟩ (m_X6_size_11 l D a k H.size hI N σ3 _ hc7) (cwV 0 hts gX10_shape_X6_size rfl rfl rfl (by decide +kernel) ⟨Nat.le_of_ble_eq_true rfl, Nat.le_of_ble_eq_true rfl⟩) ⟨fd_blC, va_recv hK hP (ci := 6) (q0 := 11) rfl fd_WC_11, fd_prC hP hK⟩ rfl rfl hl.1 rfl (lv_room (Nat.le_of_ble_eq_true rfl)) dX10_shape_9 ⟨Nat.zero_le _, Nat.zero_le _⟩) hS (fun q _ h => fd_A_mono hS.1 h) (fun q h => fd_A_mono hS.1 h) (fun v8 u t H1 locs ht hvm hw hB hz hk hS => ?_)
    obtain ⟨hP1, hK1⟩ := hB
    rw [ht] at hP1
    obtain ⟨e1, e2⟩ := Prod.mk.inj hw
    subst e1
    subst e2
    obtain ⟨σ9, rfl⟩ : ∃ z, z = u := ⟨_, rfl⟩
    have hP := hP1
    generalize H1 = H at hP hS ⊢
    refine lv_bipush (v := (60 : Int32)) hx hb dX10_shape_12 (by decide) ?_
    refine lv_icmp_ne (tgt := 27) hx hb dX10_shape_14 (by decide) (fun c12 => ?_) (fun c12 => ?_)
    · have hf := fd_itn c12 hf
      refine lv_iload_n hx hb dX10_shape_27 rfl (lv_at hl 2 rfl) ?_
      refine lv_iload hx hb dX10_shape_28 (lv_at hl 4 rfl) ?_
      obtain ⟨w16, τ17, hc13, hf⟩ := fd_bds hf
      refine va_calli (va_runS (As := [.int p2, .int p4]) (rest := []) ⟨hx, hb, hml, hown, hts⟩ (m_X10_isStretch l D a k H.size hI N p2 p4 σ9 _ hc13) (va_cwS 2 hts gX10_shape_X10_isStretch rfl rfl rfl (by decide +kernel) ⟨Nat.le_of_ble_eq_true rfl, Nat.le_of_ble_eq_true rfl⟩) ⟨fd_blC, fd_prC hP hK⟩ rfl rfl hl.1 rfl (lv_room (Nat.le_of_ble_eq_true rfl)) dX10_shape_30 ⟨Nat.zero_le _, Nat.zero_le _⟩) hS (fun q _ h => fd_A_mono hS.1 h) (fun q h => fd_A_mono hS.1 h) (fun v14 u t H1 locs ht hvm hw hB hz hk hS => ?_)
      obtain ⟨hP1, hK1⟩ := hB
      rw [ht] at hP1
      obtain ⟨e1, e2⟩ := Prod.mk.inj hw
      subst e1
      subst e2
      obtain ⟨σ15, rfl⟩ : ∃ z, z = u := ⟨_, rfl⟩
      have hP := hP1
      generalize H1 = H at hP hS ⊢
      refine lv_if_eq (tgt := 45) hx hb dX10_shape_33 (by decide) (fun c18 => ?_) (fun c18 => ?_)
      · have hf := fd_itp c18 hf
        exact hL45 σ15 _ _ _ hP hS (lv_sub hl [] rfl) hf
      · have hf := fd_itn c18 hf
        refine lv_iload_n hx hb dX10_shape_36 rfl (lv_at hl 3 rfl) ?_
        refine lv_iload hx hb dX10_shape_37 (lv_at hl 5 rfl) ?_
        obtain ⟨w23, τ24, hc20, hf⟩ := fd_bds hf
        refine va_calli (va_runS (As := [.int p3, .int p5]) (rest := []) ⟨hx, hb, hml, hown, hts⟩ (m_X10_isStretch l D a k H.size hI N p3 p5 σ15 _ hc20) (va_cwS 2 hts gX10_shape_X10_isStretch rfl rfl rfl (by decide +kernel) ⟨Nat.le_of_ble_eq_true rfl, Nat.le_of_ble_eq_true rfl⟩) ⟨fd_blC, fd_prC hP hK⟩ rfl rfl hl.1 rfl (lv_room (Nat.le_of_ble_eq_true rfl)) dX10_shape_39 ⟨Nat.zero_le _, Nat.zero_le _⟩) hS (fun q _ h => fd_A_mono hS.1 h) (fun q h => fd_A_mono hS.1 h) (fun v21 u t H1 locs ht hvm hw hB hz hk hS => ?_)
        obtain ⟨hP1, hK1⟩ := hB
        rw [ht] at hP1
        obtain ⟨e1, e2⟩ := Prod.mk.inj hw
        subst e1
        subst e2
        obtain ⟨σ22, rfl⟩ : ∃ z, z = u := ⟨_, rfl⟩
        have hP := hP1
        generalize H1 = H at hP hS ⊢
        refine lv_if_ne (tgt := 55) hx hb dX10_shape_42 (by decide) (fun c25 => ?_) (fun c25 => ?_)
        · have hf := fd_itn c25 hf
          refine lv_aload_n hx hb dX10_shape_55 rfl (lv_at hl 0 rfl) ?_
          refine va_get (ci := 10) (v := .ref (a 11)) (C := RX10) (T := TX10) (N := 8) hx hb hts h9X10 hown hK hP 0 fd_WC_0 rfl 6 (by decide) (hts (.fieldLink RX10 56 "FailDiagnose" "shapes" "LFailDiagnose$Shapes;") (List.mem_of_getElem? (i := 5) (by eq_refl))) (fun _ h9 => h9) rfl dX10_shape_56 ?_
          refine lv_iload_n hx hb dX10_shape_59 rfl (lv_at hl 1 rfl) ?_
          refine lv_iload_n hx hb dX10_shape_60 rfl (lv_at hl 2 rfl) ?_
          refine lv_iload_n hx hb dX10_shape_61 rfl (lv_at hl 3 rfl) ?_
          refine lv_iload hx hb dX10_shape_62 (lv_at hl 4 rfl) ?_
          refine lv_iload hx hb dX10_shape_64 (lv_at hl 5 rfl) ?_
          obtain ⟨w29, τ30, hc26, hf⟩ := fd_bds hf
          refine va_calli (va_runV (As := [.int p1, .int p2, .int p3, .int p4, .int p5]) (rest := []) ⟨hx, hb, hml, hown, hts⟩ (m_X6_add_11 l D a k H.size hI N p1 p2 p3 p4 p5 σ22 _ hc26) (cwV 5 hts gX10_shape_X6_add rfl rfl rfl (by decide +kernel) ⟨Nat.le_of_ble_eq_true rfl, Nat.le_of_ble_eq_true rfl⟩) ⟨fd_blC, va_recv hK hP (ci := 6) (q0 := 11) rfl fd_WC_11, fd_prC hP hK⟩ rfl rfl hl.1 rfl (lv_room (Nat.le_of_ble_eq_true rfl)) dX10_shape_66 ⟨Nat.zero_le _, Nat.zero_le _⟩) hS (fun q _ h => fd_A_mono hS.1 h) (fun q h => fd_A_mono hS.1 h) (fun v27 u t H1 locs ht hvm hw hB hz hk hS => ?_)
          obtain ⟨hP1, hK1⟩ := hB
          rw [ht] at hP1
          obtain ⟨e1, e2⟩ := Prod.mk.inj hw
          subst e1
          subst e2
          obtain ⟨σ28, rfl⟩ : ∃ z, z = u := ⟨_, rfl⟩
          have hP := hP1
          generalize H1 = H at hP hS ⊢
          refine vx_ret (W.widen (k := fd_mc r) (n := fd_ms r) (Nat.zero_le _) (Nat.zero_le _) ?_)
          exact W.iret (v := v27) hx hb hr (fun t ht hW => ⟨⟨v27, σ28, rfl, Option.some.inj hf, by rw [ht]; exact hP, va_K.moved hW.alike hK⟩, hS.F ht⟩) hS.2.2 dX10_shape_69
        · have hf := fd_itp c25 hf
          exact hL45 σ22 _ _ _ hP hS (lv_sub hl [] rfl) hf
    · have hf := fd_itp c12 hf
      have e31 := Option.some.inj hf
      subst e31
      obtain ⟨sa, hsa⟩ := hZ.str 219 "no room for a shape" (by decide +kernel)
      exact vx_throwS (own := RX10) (cls := "java/lang/IllegalStateException") (names := ["java/lang/RuntimeException", "java/lang/Exception"]) hx hb hl9 hown fd_ex_71_75_f fd_ex_n (hts (.classLink RX10 71 "java/lang/IllegalStateException") (List.mem_of_getElem? (i := 1) (by eq_refl))) (hts (.initialized "java/lang/IllegalStateException") (List.mem_of_getElem? (i := 2) (by eq_refl))) hsa (vx_hat (L := vx_atS RX10 75 "java/lang/IllegalStateException" ["java/lang/RuntimeException", "java/lang/Exception"]) (B := fd_bad "java/lang/IllegalStateException") (fun w hw => hts w ((fun w h => List.mem_cons_of_mem _ (List.mem_append_left _ (List.mem_append_left _ (List.mem_append_right _ h))) : ∀ w ∈ (vx_atS RX10 75 "java/lang/IllegalStateException" ["java/lang/RuntimeException", "java/lang/Exception"]).filter goodWord, w ∈ wsX10_shape) w hw)) fd_ex_71_75_b (hZ.bad "java/lang/IllegalStateException" fd_ex_71_75_e)) fd_ex_71_75_g hZ.un hZ.su hS (hl.1.trans hml.symm) dX10_shape_17 dX10_shape_20 dX10_shape_21 dX10_shape_23 dX10_shape_26 (fun x hx => (hex x hx).elim) (Nat.le_of_ble_eq_true rfl) (Nat.le_of_ble_eq_true rfl) (Nat.le_of_ble_eq_true rfl) (Nat.le_of_ble_eq_true rfl) hlocks (fun t ha hsz hk => ⟨σ9, trivial, ⟨rfl, hP.kept (fun k q hq => hk q.1 (hP k q hq).lt), va_K.moved ha hK⟩, Nat.le_trans hS.1 hsz, fun q h1 h2 => (hk q (Nat.lt_of_lt_of_le h1 hS.1)).trans (hS.2.1 q h1 h2)⟩) hS.2.2 (Nat.le_of_ble_eq_true rfl) (Nat.le_of_ble_eq_true rfl)
  · have er := Option.some.inj hf
    subst er
    refine vx_callv (vx_runV (As := [.int p1]) (rest := []) ⟨hx, hb, hml, hown, hts⟩ (m_X10_needNet_0 l hl9 D a k s.heap.size hI N p1 σ _ hc1) (cwV 1 hts gX10_shape_X10_needNet rfl rfl rfl (by decide +kernel) ⟨Nat.le_of_ble_eq_true rfl, Nat.le_of_ble_eq_true rfl⟩) ⟨fd_blZ, va_recv hK hP (ci := 10) (q0 := 0) rfl fd_WC_0, fd_prZ hP hK hZ hS⟩ rfl rfl hl.1 rfl (lv_room (Nat.le_of_ble_eq_true rfl)) dX10_shape_2 ⟨Nat.le_of_ble_eq_true rfl, Nat.le_of_ble_eq_true rfl⟩) hS (fun q _ h => fd_A_mono hS.1 h) (fun q h => fd_A_mono hS.1 h) (fun q _ h => fd_A_mono hS.1 h) (fun E ce q9 u t H1 locs1 ht hvm hp hB hz hk hS hce hcv hcl => ?_) (fun u t H1 locs ht hvm hw hB hz hk hS => ?_)
    · obtain ⟨hB0, hP1, hK1⟩ := hB
      rw [ht] at hP1
      exact vx_out (E := E) (fun x hx => (hex x hx).elim) hlocks hce hcv hcl (fun t ht ha => ⟨u, trivial, ⟨fd_inr hB0, by rw [ht]; exact hP1, va_K.moved ha hK⟩, hS.F ht⟩) hS.2.2 (Nat.le_of_ble_eq_true rfl) (Nat.le_of_ble_eq_true rfl)
    · exact absurd hw (by simp)
noncomputable def f_L_shape_0_39 (N : Nat) (p1 : Int32) (p2 : Int32) (p3 : Int32) (p4 : Int32) (p5 : Int32) (σ : fd_St) : Option (Int32 × fd_St) := fd_bx (f_X10_shape_0 N p1 p2 p3 p4 p5 σ) (fun v2 τ => fd_lt (fd_mix τ σ) (fun σ6 => fd_gd (vp_in (0 : Int32) 1) (fd_lt (fd_sL 39 (0 : Int32) v2.toInt64 σ6) (fun σ9 => some ((0 : Int32), σ9))))) (fun E τ => if E = "java/lang/IndexOutOfBoundsException" then (fd_lt (fd_mix τ σ) (fun σ11 => some ((1 : Int32), σ11))) else (if E = "java/lang/IllegalStateException" then (fd_lt (fd_mix τ σ) (fun σ13 => some ((2 : Int32), σ13))) else (if E = "java/lang/IllegalArgumentException" then (fd_lt (fd_mix τ σ) (fun σ15 => some ((3 : Int32), σ15))) else (none))))
set_option maxHeartbeats 4000000 in
set_option maxRecDepth 100000 in
theorem m_L_shape_0_39 (l : Launch) (hl9 : l.stackTraces = false) (D : va_G) (a : Nat → Nat) (k : Nat → ClassId) (sz : Nat) (hI : fd_I 40 a) (N : Nat) (p1 : Int32) (p2 : Int32) (p3 : Int32) (p4 : Int32) (p5 : Int32) (σ : fd_St) (r : Int32 × fd_St) (hf : f_L_shape_0_39 N p1 p2 p3 p4 p5 σ = some r) : Met l yL_shape wsL_shape ({ frames := 8, cells := 1, slots := 6, locals := 136 }) (va_Pc [.ref (a 0), .int p1, .int p2, .int p3, .int p4, .int p5, .ref (a 39)] (fd_PH D a k sz σ)) (va_Qi (fun v u => (v, u) = r) (fd_BH D a k) (fd_A 40 a sz)) 1 6 (fd_A 40 a sz) := by
  refine fd_ofWT (cc := cL_shape) (maxL := 8) (ret := (some .int)) (by decide) rfl ?_
  intro p e s m args below meth c s₁ B hml hTab hv
  obtain ⟨rfl, hsz, hP, hK, hZ⟩ := hv
  have hx := B.exec
  have hb := B.bytes
  have hr := B.returns
  have hts := atoms_spec (ws := wsL_shape) B.pre
  have hown : s.vm.findClass RL = some m.cls := findClass_of_methodNamed B.named
  have hlocks := B.notSynchronized
  subst hsz
  have hJ : ∀ i, i < 40 → fd_A 40 a s.heap.size (a i) := fun i hi => Or.inl ⟨i, hi, rfl⟩
  have hS : va_S (fd_A 40 a s.heap.size) s.heap s.heap [] := va_S.rf
  have hl := lv_entry ([.ref (a 0), .int p1, .int p2, .int p3, .int p4, .int p5, .ref (a 39)]) (n := 8) (Nat.le_of_ble_eq_true rfl)
  rw [lg_entry_eq]
  generalize (lg_sl ([.ref (a 0), .int p1, .int p2, .int p3, .int p4, .int p5, .ref (a 39)]) ++ List.replicate (8 - (lg_sl ([.ref (a 0), .int p1, .int p2, .int p3, .int p4, .int p5, .ref (a 39)])).length) Slot.unset).toArray = ls at hl ⊢
  have hl : lv_has ls 8 [(0, .ref (a 0)), (1, .int p1), (2, .int p2), (3, .int p3), (4, .int p4), (5, .int p5), (6, .ref (a 39))] := hl
  unfold f_L_shape_0_39 at hf
  refine lv_aload hx hb dL_shape_0 (lv_at hl 6 rfl) ?_
  refine lv_iconst (v := (0 : Int32)) hx hb dL_shape_2 (by decide) ?_
  refine lv_aload_n hx hb dL_shape_3 rfl (lv_at hl 0 rfl) ?_
  refine lv_iload_n hx hb dL_shape_4 rfl (lv_at hl 1 rfl) ?_
  refine lv_iload_n hx hb dL_shape_5 rfl (lv_at hl 2 rfl) ?_
  refine lv_iload_n hx hb dL_shape_6 rfl (lv_at hl 3 rfl) ?_
  refine lv_iload hx hb dL_shape_7 (lv_at hl 4 rfl) ?_
  refine lv_iload hx hb dL_shape_9 (lv_at hl 5 rfl) ?_
  rcases fd_bxs hf with ⟨w3, τ4, hc1, hf⟩ | ⟨E5, τ4, hc1, hf⟩
  · refine vx_calli (vx_runV (As := [.int p1, .int p2, .int p3, .int p4, .int p5]) (rest := [.int (0 : Int32), .ref (a 39)]) ⟨hx, hb, hml, hown, hts⟩ (m_X10_shape_0 l hl9 D a k s.heap.size (fd_I40 hI) N p1 p2 p3 p4 p5 σ _ hc1) (cwV 5 hts gL_shape_X10_shape rfl rfl rfl (by decide +kernel) ⟨Nat.le_of_ble_eq_true rfl, Nat.le_of_ble_eq_true rfl⟩) ⟨fd_blZ, va_recv (fd_HK hK) (fd_HC hP) (ci := 10) (q0 := 0) rfl fd_WC_0, fd_prHZ hP hK hZ hS⟩ rfl rfl hl.1 rfl (lv_room (Nat.le_of_ble_eq_true rfl)) dL_shape_11 ⟨(Nat.zero_le _), (Nat.zero_le _)⟩) hS (fun q _ h => fd_A_sub hS.1 h) (fun q h => fd_A_sub hS.1 h) (fun q _ h => fd_A_sub hS.1 h) (fun E ce q9 u t H1 locs1 ht hvm hp hB => ?_) (fun v2 u t H1 locs ht hvm hw hB hz hk hS => ?_)
    · exact absurd hB.1 (by simp)
    obtain ⟨hP1, hK1⟩ := hB
    rw [ht] at hP1
    obtain ⟨e1, e2⟩ := Prod.mk.inj hw
    obtain e1 := Sum.inl.inj e1
    subst e1
    subst e2
    obtain ⟨σ6, eσ6, hf⟩ := fd_lts hf
    have hP : va_P D vwCl (fd_WH a k σ6) H1 := by rw [eσ6]; exact fd_HJ hI hP hP1 hk
    generalize H1 = H at hP hS ⊢
    refine W.cs (cells' := 0) (slots' := 0) rfl rfl ?_
    refine lv_i2l hx hb dL_shape_14 rfl ?_
    obtain ⟨g8, hf⟩ := fd_gds hf
    obtain ⟨σ9, eσ9, hf⟩ := fd_lts hf
    refine va_last hx hb hK hP (fd_DH hI hJ) hS 39 27 fd_WH_39 fd_tyH_39 g8 dL_shape_15 (fun H locs hP _ hS => ?_)
    have hP : va_P D vwCl (fd_WH a k σ9) H := by rw [eσ9]; exact fd_sP fd_WHa_39 hP
    refine lv_goto (tgt := 31) hx hb dL_shape_16 (by decide) ?_
    refine lv_iconst (v := (0 : Int32)) hx hb dL_shape_31 (by decide) ?_
    refine W.widen (k := 1) (n := 6) (Nat.le_of_ble_eq_true rfl) (Nat.le_of_ble_eq_true rfl) ?_
    exact W.iret (v := (0 : Int32)) hx hb hr (fun t ht hW => ⟨⟨(0 : Int32), σ9, rfl, Option.some.inj hf, by rw [ht]; exact hP, va_K.moved hW.alike hK⟩, hS.F ht⟩) hS.2.2 dL_shape_32
  · have hE := hf
    by_cases c10 : E5 = "java/lang/IndexOutOfBoundsException"
    · subst c10
      have hf := fd_itp rfl hf
      refine vx_calli (vx_runV (As := [.int p1, .int p2, .int p3, .int p4, .int p5]) (rest := [.int (0 : Int32), .ref (a 39)]) ⟨hx, hb, hml, hown, hts⟩ (m_X10_shape_0 l hl9 D a k s.heap.size (fd_I40 hI) N p1 p2 p3 p4 p5 σ _ hc1) (cwV 5 hts gL_shape_X10_shape rfl rfl rfl (by decide +kernel) ⟨Nat.le_of_ble_eq_true rfl, Nat.le_of_ble_eq_true rfl⟩) ⟨fd_blZ, va_recv (fd_HK hK) (fd_HC hP) (ci := 10) (q0 := 0) rfl fd_WC_0, fd_prHZ hP hK hZ hS⟩ rfl rfl hl.1 rfl (lv_room (Nat.le_of_ble_eq_true rfl)) dL_shape_11 ⟨Nat.le_of_ble_eq_true rfl, Nat.le_of_ble_eq_true rfl⟩) hS (fun q _ h => fd_A_sub hS.1 h) (fun q h => fd_A_sub hS.1 h) (fun q _ h => fd_A_sub hS.1 h) (fun E ce q9 u t H1 locs1 ht hvm hp hB hz hk hS hce hcv hcl => ?_) (fun v2 u t H1 locs ht hvm hw hB hz hk hS => ?_)
      · obtain ⟨hB0, hP1, hK1⟩ := hB
        rw [ht] at hP1
        obtain ⟨e1, e2⟩ := Prod.mk.inj hB0
        obtain e1 := Sum.inr.inj e1
        subst e1
        subst e2
        obtain ⟨σ11, eσ11, hf⟩ := fd_lts hf
        have hP : va_P D vwCl (fd_WH a k σ11) H1 := by rw [eσ11]; exact fd_HJ hI hP hP1 hk
        refine fd_catch (own := RL) (name := "java/lang/IndexOutOfBoundsException") (E := "java/lang/IndexOutOfBoundsException") hown [] ⟨0, 16, 19, 19⟩ [⟨0, 16, 23, 13⟩, ⟨0, 16, 27, 21⟩] (by rw [hTab]; rfl) (fun z hz => nomatch hz) (by decide) (by decide) (hts (.classLink RL 19 "java/lang/IndexOutOfBoundsException") (List.mem_of_getElem? (i := 1) (by eq_refl))) (hZ.cast "java/lang/IndexOutOfBoundsException" (by decide +kernel)) hce hcv hcl ?_
        refine W.cs (cells' := 1) (slots' := 6) rfl rfl ?_
        refine lv_astore (lv' := [(7, .ref q9), (0, .ref (a 0)), (1, .int p1), (2, .int p2), (3, .int p3), (4, .int p4), (5, .int p5), (6, .ref (a 39))]) hx hb dL_shape_19 hl (by decide) rfl (fun ls hl => ?_)
        refine lv_iconst (v := (1 : Int32)) hx hb dL_shape_21 (by decide) ?_
        refine W.widen (k := 1) (n := 6) (Nat.le_of_ble_eq_true rfl) (Nat.le_of_ble_eq_true rfl) ?_
        exact W.iret (v := (1 : Int32)) hx hb hr (fun t ht hW => ⟨⟨(1 : Int32), σ11, rfl, Option.some.inj hf, by rw [ht]; exact hP, va_K.moved hW.alike hK⟩, hS.F ht⟩) hS.2.2 dL_shape_22
      · exact absurd hw (by simp)
    have hf := fd_itn c10 hf
    by_cases c12 : E5 = "java/lang/IllegalStateException"
    · subst c12
      have hf := fd_itp rfl hf
      refine vx_calli (vx_runV (As := [.int p1, .int p2, .int p3, .int p4, .int p5]) (rest := [.int (0 : Int32), .ref (a 39)]) ⟨hx, hb, hml, hown, hts⟩ (m_X10_shape_0 l hl9 D a k s.heap.size (fd_I40 hI) N p1 p2 p3 p4 p5 σ _ hc1) (cwV 5 hts gL_shape_X10_shape rfl rfl rfl (by decide +kernel) ⟨Nat.le_of_ble_eq_true rfl, Nat.le_of_ble_eq_true rfl⟩) ⟨fd_blZ, va_recv (fd_HK hK) (fd_HC hP) (ci := 10) (q0 := 0) rfl fd_WC_0, fd_prHZ hP hK hZ hS⟩ rfl rfl hl.1 rfl (lv_room (Nat.le_of_ble_eq_true rfl)) dL_shape_11 ⟨Nat.le_of_ble_eq_true rfl, Nat.le_of_ble_eq_true rfl⟩) hS (fun q _ h => fd_A_sub hS.1 h) (fun q h => fd_A_sub hS.1 h) (fun q _ h => fd_A_sub hS.1 h) (fun E ce q9 u t H1 locs1 ht hvm hp hB hz hk hS hce hcv hcl => ?_) (fun v2 u t H1 locs ht hvm hw hB hz hk hS => ?_)
      · obtain ⟨hB0, hP1, hK1⟩ := hB
        rw [ht] at hP1
        obtain ⟨e1, e2⟩ := Prod.mk.inj hB0
        obtain e1 := Sum.inr.inj e1
        subst e1
        subst e2
        obtain ⟨σ13, eσ13, hf⟩ := fd_lts hf
        have hP : va_P D vwCl (fd_WH a k σ13) H1 := by rw [eσ13]; exact fd_HJ hI hP hP1 hk
        refine fd_catch (own := RL) (name := "java/lang/IllegalStateException") (E := "java/lang/IllegalStateException") hown [⟨0, 16, 19, 19⟩] ⟨0, 16, 23, 13⟩ [⟨0, 16, 27, 21⟩] (by rw [hTab]; rfl) (fun z hz => by
            rcases List.mem_cons.mp hz with rfl | hz
            · exact ⟨by decide, by decide, "java/lang/IndexOutOfBoundsException", hts (.classLink RL 19 "java/lang/IndexOutOfBoundsException") (by decide +kernel), hZ.nc "java/lang/IllegalStateException" "java/lang/IndexOutOfBoundsException" (by decide +kernel)⟩
            cases hz) (by decide) (by decide) (hts (.classLink RL 13 "java/lang/IllegalStateException") (List.mem_of_getElem? (i := 2) (by eq_refl))) (hZ.cast "java/lang/IllegalStateException" (by decide +kernel)) hce hcv hcl ?_
        refine W.cs (cells' := 1) (slots' := 6) rfl rfl ?_
        refine lv_astore (lv' := [(7, .ref q9), (0, .ref (a 0)), (1, .int p1), (2, .int p2), (3, .int p3), (4, .int p4), (5, .int p5), (6, .ref (a 39))]) hx hb dL_shape_23 hl (by decide) rfl (fun ls hl => ?_)
        refine lv_iconst (v := (2 : Int32)) hx hb dL_shape_25 (by decide) ?_
        refine W.widen (k := 1) (n := 6) (Nat.le_of_ble_eq_true rfl) (Nat.le_of_ble_eq_true rfl) ?_
        exact W.iret (v := (2 : Int32)) hx hb hr (fun t ht hW => ⟨⟨(2 : Int32), σ13, rfl, Option.some.inj hf, by rw [ht]; exact hP, va_K.moved hW.alike hK⟩, hS.F ht⟩) hS.2.2 dL_shape_26
      · exact absurd hw (by simp)
    have hf := fd_itn c12 hf
    by_cases c14 : E5 = "java/lang/IllegalArgumentException"
    · subst c14
      have hf := fd_itp rfl hf
      refine vx_calli (vx_runV (As := [.int p1, .int p2, .int p3, .int p4, .int p5]) (rest := [.int (0 : Int32), .ref (a 39)]) ⟨hx, hb, hml, hown, hts⟩ (m_X10_shape_0 l hl9 D a k s.heap.size (fd_I40 hI) N p1 p2 p3 p4 p5 σ _ hc1) (cwV 5 hts gL_shape_X10_shape rfl rfl rfl (by decide +kernel) ⟨Nat.le_of_ble_eq_true rfl, Nat.le_of_ble_eq_true rfl⟩) ⟨fd_blZ, va_recv (fd_HK hK) (fd_HC hP) (ci := 10) (q0 := 0) rfl fd_WC_0, fd_prHZ hP hK hZ hS⟩ rfl rfl hl.1 rfl (lv_room (Nat.le_of_ble_eq_true rfl)) dL_shape_11 ⟨Nat.le_of_ble_eq_true rfl, Nat.le_of_ble_eq_true rfl⟩) hS (fun q _ h => fd_A_sub hS.1 h) (fun q h => fd_A_sub hS.1 h) (fun q _ h => fd_A_sub hS.1 h) (fun E ce q9 u t H1 locs1 ht hvm hp hB hz hk hS hce hcv hcl => ?_) (fun v2 u t H1 locs ht hvm hw hB hz hk hS => ?_)
      · obtain ⟨hB0, hP1, hK1⟩ := hB
        rw [ht] at hP1
        obtain ⟨e1, e2⟩ := Prod.mk.inj hB0
        obtain e1 := Sum.inr.inj e1
        subst e1
        subst e2
        obtain ⟨σ15, eσ15, hf⟩ := fd_lts hf
        have hP : va_P D vwCl (fd_WH a k σ15) H1 := by rw [eσ15]; exact fd_HJ hI hP hP1 hk
        refine fd_catch (own := RL) (name := "java/lang/IllegalArgumentException") (E := "java/lang/IllegalArgumentException") hown [⟨0, 16, 19, 19⟩, ⟨0, 16, 23, 13⟩] ⟨0, 16, 27, 21⟩ [] (by rw [hTab]; rfl) (fun z hz => by
            rcases List.mem_cons.mp hz with rfl | hz
            · exact ⟨by decide, by decide, "java/lang/IndexOutOfBoundsException", hts (.classLink RL 19 "java/lang/IndexOutOfBoundsException") (by decide +kernel), hZ.nc "java/lang/IllegalArgumentException" "java/lang/IndexOutOfBoundsException" (by decide +kernel)⟩
            rcases List.mem_cons.mp hz with rfl | hz
            · exact ⟨by decide, by decide, "java/lang/IllegalStateException", hts (.classLink RL 13 "java/lang/IllegalStateException") (by decide +kernel), hZ.nc "java/lang/IllegalArgumentException" "java/lang/IllegalStateException" (by decide +kernel)⟩
            cases hz) (by decide) (by decide) (hts (.classLink RL 21 "java/lang/IllegalArgumentException") (List.mem_of_getElem? (i := 3) (by eq_refl))) (hZ.cast "java/lang/IllegalArgumentException" (by decide +kernel)) hce hcv hcl ?_
        refine W.cs (cells' := 1) (slots' := 6) rfl rfl ?_
        refine lv_astore (lv' := [(7, .ref q9), (0, .ref (a 0)), (1, .int p1), (2, .int p2), (3, .int p3), (4, .int p4), (5, .int p5), (6, .ref (a 39))]) hx hb dL_shape_27 hl (by decide) rfl (fun ls hl => ?_)
        refine lv_iconst (v := (3 : Int32)) hx hb dL_shape_29 (by decide) ?_
        refine W.widen (k := 1) (n := 6) (Nat.le_of_ble_eq_true rfl) (Nat.le_of_ble_eq_true rfl) ?_
        exact W.iret (v := (3 : Int32)) hx hb hr (fun t ht hW => ⟨⟨(3 : Int32), σ15, rfl, Option.some.inj hf, by rw [ht]; exact hP, va_K.moved hW.alike hK⟩, hS.F ht⟩) hS.2.2 dL_shape_30
      · exact absurd hw (by simp)
    have hf := fd_itn c14 hf
    cases hf
