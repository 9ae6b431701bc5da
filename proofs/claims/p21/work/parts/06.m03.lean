noncomputable def f_X2_holdStuck_1 (N : Nat) (p1 : Int32) (p2 : Int32) (p3 : Int32) (p4 : Int32) (σ : fd_St) : Option (Unit × fd_St) := fd_bd (f_X2_stuckRow N p2 σ) (fun v2 σ3 => fd_bd (f_X2_stuckRow N p4 σ3) (fun v7 σ8 => fd_bd (f_X2_hold_1 N p1 v2 p3 v7 σ8) (fun _ σ13 => some ((), σ13))))
set_option maxHeartbeats 4000000 in
set_option maxRecDepth 100000 in
theorem m_X2_holdStuck_1 (l : Launch) (D : va_G) (a : Nat → Nat) (k : Nat → ClassId) (sz : Nat) (hI : fd_I 39 a) (N : Nat) (p1 : Int32) (p2 : Int32) (p3 : Int32) (p4 : Int32) (σ : fd_St) (r : Unit × fd_St) (hf : f_X2_holdStuck_1 N p1 p2 p3 p4 σ = some r) : Met l yX2_holdStuck wsX2_holdStuck ({ frames := 2, cells := 0, slots := 0, locals := 107 }) (va_Pc [.ref (a 1), .int p1, .int p2, .int p3, .int p4] (fd_PC D a k sz σ)) (va_Qv (fun u => ((), u) = r) (fd_BC D a k) (fd_A 39 a sz)) 0 0 (fd_A 39 a sz) := by
  refine Met.ofW (cc := cX2_holdStuck) (maxL := 5) (ret := none) (by decide) rfl ?_
  intro p e s m args below meth c s₁ B hml hv
  obtain ⟨rfl, hsz, hP, hK⟩ := hv
  have hx := B.exec
  have hb := B.bytes
  have hr := B.returns
  have hts := atoms_spec (ws := wsX2_holdStuck) B.pre
  have hown : s.vm.findClass RX2 = some m.cls := findClass_of_methodNamed B.named
  have hlocks := B.notSynchronized
  subst hsz
  have hJ : ∀ i, i < 39 → fd_A 39 a s.heap.size (a i) := fun i hi => Or.inl ⟨i, hi, rfl⟩
  have hS : va_S (fd_A 39 a s.heap.size) s.heap s.heap [] := va_S.rf
  have hl := lv_entry ([.ref (a 1), .int p1, .int p2, .int p3, .int p4]) (n := 5) (Nat.le_of_ble_eq_true rfl)
  rw [lg_entry_eq]
  generalize (lg_sl ([.ref (a 1), .int p1, .int p2, .int p3, .int p4]) ++ List.replicate (5 - (lg_sl ([.ref (a 1), .int p1, .int p2, .int p3, .int p4])).length) Slot.unset).toArray = ls at hl ⊢
  have hl : lv_has ls 5 [(0, .ref (a 1)), (1, .int p1), (2, .int p2), (3, .int p3), (4, .int p4)] := hl
  unfold f_X2_holdStuck_1 at hf
  refine lv_aload_n hx hb dX2_holdStuck_0 rfl (lv_at hl 0 rfl) ?_
  refine lv_iload_n hx hb dX2_holdStuck_1 rfl (lv_at hl 1 rfl) ?_
  refine lv_iload_n hx hb dX2_holdStuck_2 rfl (lv_at hl 2 rfl) ?_
  obtain ⟨w4, τ5, hc1, hf⟩ := fd_bds hf
  refine va_calll (va_runS (As := [.int p2]) (rest := [.int p1, .ref (a 1)]) ⟨hx, hb, hml, hown, hts⟩ (m_X2_stuckRow l D a k s.heap.size hI N p2 σ _ hc1) (va_cwS 1 hts gX2_holdStuck_X2_stuckRow rfl rfl rfl (by decide +kernel) ⟨Nat.le_of_ble_eq_true rfl, Nat.le_of_ble_eq_true rfl⟩) ⟨fd_blC, fd_prC hP hK⟩ rfl rfl hl.1 rfl (lv_room (Nat.le_of_ble_eq_true rfl)) dX2_holdStuck_3 ⟨Nat.zero_le _, Nat.zero_le _⟩) hS (fun q _ h => fd_A_mono hS.1 h) (fun q h => fd_A_mono hS.1 h) (fun v2 u t H1 locs ht hvm hw hB hz hk hS => ?_)
  obtain ⟨hP1, hK1⟩ := hB
  rw [ht] at hP1
  obtain ⟨e1, e2⟩ := Prod.mk.inj hw
  subst e1
  subst e2
  obtain ⟨σ3, rfl⟩ : ∃ z, z = u := ⟨_, rfl⟩
  have hP := hP1
  generalize H1 = H at hP hS ⊢
  refine lv_iload_n hx hb dX2_holdStuck_6 rfl (lv_at hl 3 rfl) ?_
  refine lv_iload hx hb dX2_holdStuck_7 (lv_at hl 4 rfl) ?_
  obtain ⟨w9, τ10, hc6, hf⟩ := fd_bds hf
  refine va_calll (va_runS (As := [.int p4]) (rest := [.int p3, .long v2, .int p1, .ref (a 1)]) ⟨hx, hb, hml, hown, hts⟩ (m_X2_stuckRow l D a k H.size hI N p4 σ3 _ hc6) (va_cwS 1 hts gX2_holdStuck_X2_stuckRow rfl rfl rfl (by decide +kernel) ⟨Nat.le_of_ble_eq_true rfl, Nat.le_of_ble_eq_true rfl⟩) ⟨fd_blC, fd_prC hP hK⟩ rfl rfl hl.1 rfl (lv_room (Nat.le_of_ble_eq_true rfl)) dX2_holdStuck_9 ⟨Nat.zero_le _, Nat.zero_le _⟩) hS (fun q _ h => fd_A_mono hS.1 h) (fun q h => fd_A_mono hS.1 h) (fun v7 u t H1 locs ht hvm hw hB hz hk hS => ?_)
  obtain ⟨hP1, hK1⟩ := hB
  rw [ht] at hP1
  obtain ⟨e1, e2⟩ := Prod.mk.inj hw
  subst e1
  subst e2
  obtain ⟨σ8, rfl⟩ : ∃ z, z = u := ⟨_, rfl⟩
  have hP := hP1
  generalize H1 = H at hP hS ⊢
  obtain ⟨w14, τ15, hc11, hf⟩ := fd_bds hf
  refine va_callv (va_runV (As := [.int p1, .long v2, .int p3, .long v7]) (rest := []) ⟨hx, hb, hml, hown, hts⟩ (m_X2_hold_1 l D a k H.size hI N p1 v2 p3 v7 σ8 _ hc11) (cwV 4 hts gX2_holdStuck_X2_hold rfl rfl rfl (by decide +kernel) ⟨Nat.le_of_ble_eq_true rfl, Nat.le_of_ble_eq_true rfl⟩) ⟨fd_blC, va_recv hK hP (ci := 2) (q0 := 1) rfl fd_WC_1, fd_prC hP hK⟩ rfl rfl hl.1 rfl (lv_room (Nat.le_of_ble_eq_true rfl)) dX2_holdStuck_12 ⟨Nat.zero_le _, Nat.zero_le _⟩) hS (fun q _ h => fd_A_mono hS.1 h) (fun q h => fd_A_mono hS.1 h) (fun u t H1 locs ht hvm hw hB hz hk hS => ?_)
  obtain ⟨hP1, hK1⟩ := hB
  rw [ht] at hP1
  have e2 := (Prod.mk.inj hw).2
  subst e2
  obtain ⟨σ13, rfl⟩ : ∃ z, z = u := ⟨_, rfl⟩
  have hP := hP1
  generalize H1 = H at hP hS ⊢
  exact W.vret hx hb hr (fun t ht hW => ⟨⟨σ13, rfl, Option.some.inj hf, by rw [ht]; exact hP, va_K.moved hW.alike hK⟩, hS.F ht⟩) hS.2.2 dX2_holdStuck_15
noncomputable def f_X3_tryFault_4 (N : Nat) (p1 : Int32) (p2 : Int32) (σ : fd_St) : Option (Unit × fd_St) := if (1 : Int32) < p1 then (fd_bd (f_X4_first_3 N p2 σ) (fun v3 σ4 => fd_bd (f_X4_second_3 N p2 σ4) (fun v8 σ9 => fd_bd (f_X2_holdJoined_1 N v3 v8 p1 σ9) (fun _ σ14 => some ((), σ14))))) else (fd_bd (f_X2_holdStuck_1 N p2 p1 p2 p1 σ) (fun _ σ19 => some ((), σ19)))
set_option maxHeartbeats 4000000 in
set_option maxRecDepth 100000 in
theorem m_X3_tryFault_4 (l : Launch) (D : va_G) (a : Nat → Nat) (k : Nat → ClassId) (sz : Nat) (hI : fd_I 39 a) (N : Nat) (p1 : Int32) (p2 : Int32) (σ : fd_St) (r : Unit × fd_St) (hf : f_X3_tryFault_4 N p1 p2 σ = some r) : Met l yX3_tryFault wsX3_tryFault ({ frames := 3, cells := 0, slots := 0, locals := 132 }) (va_Pc [.ref (a 4), .int p1, .int p2] (fd_PC D a k sz σ)) (va_Qv (fun u => ((), u) = r) (fd_BC D a k) (fd_A 39 a sz)) 0 0 (fd_A 39 a sz) := by
  refine Met.ofW (cc := cX3_tryFault) (maxL := 3) (ret := none) (by decide) rfl ?_
  intro p e s m args below meth c s₁ B hml hv
  obtain ⟨rfl, hsz, hP, hK⟩ := hv
  have hx := B.exec
  have hb := B.bytes
  have hr := B.returns
  have hts := atoms_spec (ws := wsX3_tryFault) B.pre
  have hown : s.vm.findClass RX3 = some m.cls := findClass_of_methodNamed B.named
  have hlocks := B.notSynchronized
  subst hsz
  have hJ : ∀ i, i < 39 → fd_A 39 a s.heap.size (a i) := fun i hi => Or.inl ⟨i, hi, rfl⟩
  have hS : va_S (fd_A 39 a s.heap.size) s.heap s.heap [] := va_S.rf
  have hl := lv_entry ([.ref (a 4), .int p1, .int p2]) (n := 3) (Nat.le_of_ble_eq_true rfl)
  rw [lg_entry_eq]
  generalize (lg_sl ([.ref (a 4), .int p1, .int p2]) ++ List.replicate (3 - (lg_sl ([.ref (a 4), .int p1, .int p2])).length) Slot.unset).toArray = ls at hl ⊢
  have hl : lv_has ls 3 [(0, .ref (a 4)), (1, .int p1), (2, .int p2)] := hl
  have h9X3 : ∀ w ∈ u_ws RX3 TX3 7, w ∈ wsX3_tryFault := fd_su [49, 50, 51, 52, 53, 54, 55] (by eq_refl)
  unfold f_X3_tryFault_4 at hf
  refine lv_iload_n hx hb dX3_tryFault_0 rfl (lv_at hl 1 rfl) ?_
  refine lv_iconst (v := (1 : Int32)) hx hb dX3_tryFault_1 (by decide) ?_
  refine lv_icmp_gt (tgt := 19) hx hb dX3_tryFault_2 (by decide) (fun c1 => ?_) (fun c1 => ?_)
  · have hf := fd_itp c1 hf
    refine lv_aload_n hx hb dX3_tryFault_19 rfl (lv_at hl 0 rfl) ?_
    refine va_get (ci := 3) (v := .ref (a 1)) (C := RX3) (T := TX3) (N := 7) hx hb hts h9X3 hown hK hP 4 fd_WC_4 rfl 0 (by decide) (hts (.fieldLink RX3 36 "FailDiagnose$Diagnosis" "circuit" "LFailDiagnose$Circuit;") (List.mem_of_getElem? (i := 1) (by eq_refl))) (fun _ h9 => h9) rfl dX3_tryFault_20 ?_
    refine lv_aload_n hx hb dX3_tryFault_23 rfl (lv_at hl 0 rfl) ?_
    refine va_get (ci := 3) (v := .ref (a 3)) (C := RX3) (T := TX3) (N := 7) hx hb hts h9X3 hown hK hP 4 fd_WC_4 rfl 2 (by decide) (hts (.fieldLink RX3 44 "FailDiagnose$Diagnosis" "nearPairs" "LFailDiagnose$NearPairs;") (List.mem_of_getElem? (i := 2) (by eq_refl))) (fun _ h9 => h9) rfl dX3_tryFault_24 ?_
    refine lv_iload_n hx hb dX3_tryFault_27 rfl (lv_at hl 2 rfl) ?_
    obtain ⟨w5, τ6, hc2, hf⟩ := fd_bds hf
    refine va_calli (va_runV (As := [.int p2]) (rest := [.ref (a 1)]) ⟨hx, hb, hml, hown, hts⟩ (m_X4_first_3 l D a k s.heap.size hI N p2 σ _ hc2) (cwV 1 hts gX3_tryFault_X4_first rfl rfl rfl (by decide +kernel) ⟨Nat.le_of_ble_eq_true rfl, Nat.le_of_ble_eq_true rfl⟩) ⟨fd_blC, va_recv hK hP (ci := 4) (q0 := 3) rfl fd_WC_3, fd_prC hP hK⟩ rfl rfl hl.1 rfl (lv_room (Nat.le_of_ble_eq_true rfl)) dX3_tryFault_28 ⟨Nat.zero_le _, Nat.zero_le _⟩) hS (fun q _ h => fd_A_mono hS.1 h) (fun q h => fd_A_mono hS.1 h) (fun v3 u t H1 locs ht hvm hw hB hz hk hS => ?_)
    obtain ⟨hP1, hK1⟩ := hB
    rw [ht] at hP1
    obtain ⟨e1, e2⟩ := Prod.mk.inj hw
    subst e1
    subst e2
    obtain ⟨σ4, rfl⟩ : ∃ z, z = u := ⟨_, rfl⟩
    have hP := hP1
    generalize H1 = H at hP hS ⊢
    refine lv_aload_n hx hb dX3_tryFault_31 rfl (lv_at hl 0 rfl) ?_
    refine va_get (ci := 3) (v := .ref (a 3)) (C := RX3) (T := TX3) (N := 7) hx hb hts h9X3 hown hK hP 4 fd_WC_4 rfl 2 (by decide) (hts (.fieldLink RX3 44 "FailDiagnose$Diagnosis" "nearPairs" "LFailDiagnose$NearPairs;") (List.mem_of_getElem? (i := 2) (by eq_refl))) (fun _ h9 => h9) rfl dX3_tryFault_32 ?_
    refine lv_iload_n hx hb dX3_tryFault_35 rfl (lv_at hl 2 rfl) ?_
    obtain ⟨w10, τ11, hc7, hf⟩ := fd_bds hf
    refine va_calli (va_runV (As := [.int p2]) (rest := [.int v3, .ref (a 1)]) ⟨hx, hb, hml, hown, hts⟩ (m_X4_second_3 l D a k H.size hI N p2 σ4 _ hc7) (cwV 1 hts gX3_tryFault_X4_second rfl rfl rfl (by decide +kernel) ⟨Nat.le_of_ble_eq_true rfl, Nat.le_of_ble_eq_true rfl⟩) ⟨fd_blC, va_recv hK hP (ci := 4) (q0 := 3) rfl fd_WC_3, fd_prC hP hK⟩ rfl rfl hl.1 rfl (lv_room (Nat.le_of_ble_eq_true rfl)) dX3_tryFault_36 ⟨Nat.zero_le _, Nat.zero_le _⟩) hS (fun q _ h => fd_A_mono hS.1 h) (fun q h => fd_A_mono hS.1 h) (fun v8 u t H1 locs ht hvm hw hB hz hk hS => ?_)
    obtain ⟨hP1, hK1⟩ := hB
    rw [ht] at hP1
    obtain ⟨e1, e2⟩ := Prod.mk.inj hw
    subst e1
    subst e2
    obtain ⟨σ9, rfl⟩ : ∃ z, z = u := ⟨_, rfl⟩
    have hP := hP1
    generalize H1 = H at hP hS ⊢
    refine lv_iload_n hx hb dX3_tryFault_39 rfl (lv_at hl 1 rfl) ?_
    obtain ⟨w15, τ16, hc12, hf⟩ := fd_bds hf
    refine va_callv (va_runV (As := [.int v3, .int v8, .int p1]) (rest := []) ⟨hx, hb, hml, hown, hts⟩ (m_X2_holdJoined_1 l D a k H.size hI N v3 v8 p1 σ9 _ hc12) (cwV 3 hts gX3_tryFault_X2_holdJoined rfl rfl rfl (by decide +kernel) ⟨Nat.le_of_ble_eq_true rfl, Nat.le_of_ble_eq_true rfl⟩) ⟨fd_blC, va_recv hK hP (ci := 2) (q0 := 1) rfl fd_WC_1, fd_prC hP hK⟩ rfl rfl hl.1 rfl (lv_room (Nat.le_of_ble_eq_true rfl)) dX3_tryFault_40 ⟨Nat.zero_le _, Nat.zero_le _⟩) hS (fun q _ h => fd_A_mono hS.1 h) (fun q h => fd_A_mono hS.1 h) (fun u t H1 locs ht hvm hw hB hz hk hS => ?_)
    obtain ⟨hP1, hK1⟩ := hB
    rw [ht] at hP1
    have e2 := (Prod.mk.inj hw).2
    subst e2
    obtain ⟨σ14, rfl⟩ : ∃ z, z = u := ⟨_, rfl⟩
    have hP := hP1
    generalize H1 = H at hP hS ⊢
    exact W.vret hx hb hr (fun t ht hW => ⟨⟨σ14, rfl, Option.some.inj hf, by rw [ht]; exact hP, va_K.moved hW.alike hK⟩, hS.F ht⟩) hS.2.2 dX3_tryFault_43
  · have hf := fd_itn c1 hf
    refine lv_aload_n hx hb dX3_tryFault_5 rfl (lv_at hl 0 rfl) ?_
    refine va_get (ci := 3) (v := .ref (a 1)) (C := RX3) (T := TX3) (N := 7) hx hb hts h9X3 hown hK hP 4 fd_WC_4 rfl 0 (by decide) (hts (.fieldLink RX3 36 "FailDiagnose$Diagnosis" "circuit" "LFailDiagnose$Circuit;") (List.mem_of_getElem? (i := 1) (by eq_refl))) (fun _ h9 => h9) rfl dX3_tryFault_6 ?_
    refine lv_iload_n hx hb dX3_tryFault_9 rfl (lv_at hl 2 rfl) ?_
    refine lv_iload_n hx hb dX3_tryFault_10 rfl (lv_at hl 1 rfl) ?_
    refine lv_iload_n hx hb dX3_tryFault_11 rfl (lv_at hl 2 rfl) ?_
    refine lv_iload_n hx hb dX3_tryFault_12 rfl (lv_at hl 1 rfl) ?_
    obtain ⟨w20, τ21, hc17, hf⟩ := fd_bds hf
    refine va_callv (va_runV (As := [.int p2, .int p1, .int p2, .int p1]) (rest := []) ⟨hx, hb, hml, hown, hts⟩ (m_X2_holdStuck_1 l D a k s.heap.size hI N p2 p1 p2 p1 σ _ hc17) (cwV 4 hts gX3_tryFault_X2_holdStuck rfl rfl rfl (by decide +kernel) ⟨Nat.le_of_ble_eq_true rfl, Nat.le_of_ble_eq_true rfl⟩) ⟨fd_blC, va_recv hK hP (ci := 2) (q0 := 1) rfl fd_WC_1, fd_prC hP hK⟩ rfl rfl hl.1 rfl (lv_room (Nat.le_of_ble_eq_true rfl)) dX3_tryFault_13 ⟨Nat.zero_le _, Nat.zero_le _⟩) hS (fun q _ h => fd_A_mono hS.1 h) (fun q h => fd_A_mono hS.1 h) (fun u t H1 locs ht hvm hw hB hz hk hS => ?_)
    obtain ⟨hP1, hK1⟩ := hB
    rw [ht] at hP1
    have e2 := (Prod.mk.inj hw).2
    subst e2
    obtain ⟨σ19, rfl⟩ : ∃ z, z = u := ⟨_, rfl⟩
    have hP := hP1
    generalize H1 = H at hP hS ⊢
    refine lv_goto (tgt := 43) hx hb dX3_tryFault_16 (by decide) ?_
    exact W.vret hx hb hr (fun t ht hW => ⟨⟨σ19, rfl, Option.some.inj hf, by rw [ht]; exact hP, va_K.moved hW.alike hK⟩, hS.F ht⟩) hS.2.2 dX3_tryFault_43
noncomputable def f_X5_net_2 (N : Nat) (p1 : Int32) (σ : fd_St) : Option (Int32 × fd_St) := fd_gd (vp_in p1 32) (some (σ.2.1 18 p1.toNatClampNeg, σ))
set_option maxHeartbeats 4000000 in
set_option maxRecDepth 100000 in
theorem m_X5_net_2 (l : Launch) (D : va_G) (a : Nat → Nat) (k : Nat → ClassId) (sz : Nat) (hI : fd_I 39 a) (N : Nat) (p1 : Int32) (σ : fd_St) (r : Int32 × fd_St) (hf : f_X5_net_2 N p1 σ = some r) : Met l yX5_net wsX5_net ({ frames := 0, cells := 0, slots := 0, locals := 0 }) (va_Pc [.ref (a 2), .int p1] (fd_PC D a k sz σ)) (va_Qi (fun v u => (v, u) = r) (fd_BC D a k) (fd_A 39 a sz)) 0 0 (fd_A 39 a sz) := by
  refine Met.ofW (cc := cX5_net) (maxL := 2) (ret := (some .int)) (by decide) rfl ?_
  intro p e s m args below meth c s₁ B hml hv
  obtain ⟨rfl, hsz, hP, hK⟩ := hv
  have hx := B.exec
  have hb := B.bytes
  have hr := B.returns
  have hts := atoms_spec (ws := wsX5_net) B.pre
  have hown : s.vm.findClass RX5 = some m.cls := findClass_of_methodNamed B.named
  have hlocks := B.notSynchronized
  subst hsz
  have hJ : ∀ i, i < 39 → fd_A 39 a s.heap.size (a i) := fun i hi => Or.inl ⟨i, hi, rfl⟩
  have hS : va_S (fd_A 39 a s.heap.size) s.heap s.heap [] := va_S.rf
  have hl := lv_entry ([.ref (a 2), .int p1]) (n := 2) (Nat.le_of_ble_eq_true rfl)
  rw [lg_entry_eq]
  generalize (lg_sl ([.ref (a 2), .int p1]) ++ List.replicate (2 - (lg_sl ([.ref (a 2), .int p1])).length) Slot.unset).toArray = ls at hl ⊢
  have hl : lv_has ls 2 [(0, .ref (a 2)), (1, .int p1)] := hl
  have h9X5 : ∀ w ∈ u_ws RX5 TX5 3, w ∈ wsX5_net := fd_su [2, 3, 4] (by eq_refl)
  unfold f_X5_net_2 at hf
  refine lv_aload_n hx hb dX5_net_0 rfl (lv_at hl 0 rfl) ?_
  refine va_get (ci := 5) (v := .ref (a 18)) (C := RX5) (T := TX5) (N := 3) hx hb hts h9X5 hown hK hP 2 fd_WC_2 rfl 0 (by decide) (hts (.fieldLink RX5 9 "FailDiagnose$Outputs" "nets" "[I") (List.mem_of_getElem? (i := 1) (by eq_refl))) (fun _ h9 => h9) rfl dX5_net_1 ?_
  refine lv_iload_n hx hb dX5_net_4 rfl (lv_at hl 1 rfl) ?_
  obtain ⟨g1, hf⟩ := fd_gds hf
  refine va_iald hx hb hK hP 18 6 fd_WC_18 fd_tyC_18 g1 dX5_net_5 ?_
  exact W.iret (v := (σ.2.1 18 p1.toNatClampNeg)) hx hb hr (fun t ht hW => ⟨⟨σ.2.1 18 p1.toNatClampNeg, σ, rfl, Option.some.inj hf, by rw [ht]; exact hP, va_K.moved hW.alike hK⟩, hS.F ht⟩) hS.2.2 dX5_net_6
noncomputable def f_X2_changed_1 (N : Nat) (p1 : Int32) (σ : fd_St) : Option (Int64 × fd_St) := fd_gd (vp_in p1 200) (fd_gd (vp_in p1 200) (fd_bd (f_X2_counted_1 N σ) (fun v4 σ5 => some (((σ.2.2 15 p1.toNatClampNeg) ^^^ (σ.2.2 16 p1.toNatClampNeg)) &&& v4, σ5))))
set_option maxHeartbeats 4000000 in
set_option maxRecDepth 100000 in
theorem m_X2_changed_1 (l : Launch) (D : va_G) (a : Nat → Nat) (k : Nat → ClassId) (sz : Nat) (hI : fd_I 39 a) (N : Nat) (p1 : Int32) (σ : fd_St) (r : Int64 × fd_St) (hf : f_X2_changed_1 N p1 σ = some r) : Met l yX2_changed wsX2_changed ({ frames := 1, cells := 0, slots := 0, locals := 20 }) (va_Pc [.ref (a 1), .int p1] (fd_PC D a k sz σ)) (va_Ql (fun v u => (v, u) = r) (fd_BC D a k) (fd_A 39 a sz)) 0 0 (fd_A 39 a sz) := by
  refine Met.ofW (cc := cX2_changed) (maxL := 2) (ret := (some .long)) (by decide) rfl ?_
  intro p e s m args below meth c s₁ B hml hv
  obtain ⟨rfl, hsz, hP, hK⟩ := hv
  have hx := B.exec
  have hb := B.bytes
  have hr := B.returns
  have hts := atoms_spec (ws := wsX2_changed) B.pre
  have hown : s.vm.findClass RX2 = some m.cls := findClass_of_methodNamed B.named
  have hlocks := B.notSynchronized
  subst hsz
  have hJ : ∀ i, i < 39 → fd_A 39 a s.heap.size (a i) := fun i hi => Or.inl ⟨i, hi, rfl⟩
  have hS : va_S (fd_A 39 a s.heap.size) s.heap s.heap [] := va_S.rf
  have hl := lv_entry ([.ref (a 1), .int p1]) (n := 2) (Nat.le_of_ble_eq_true rfl)
  rw [lg_entry_eq]
  generalize (lg_sl ([.ref (a 1), .int p1]) ++ List.replicate (2 - (lg_sl ([.ref (a 1), .int p1])).length) Slot.unset).toArray = ls at hl ⊢
  have hl : lv_has ls 2 [(0, .ref (a 1)), (1, .int p1)] := hl
  have h9X2 : ∀ w ∈ u_ws RX2 TX2 9, w ∈ wsX2_changed := fd_su [10, 11, 12, 13, 14, 15, 16, 17, 18] (by eq_refl)
  unfold f_X2_changed_1 at hf
  refine lv_aload_n hx hb dX2_changed_0 rfl (lv_at hl 0 rfl) ?_
  refine va_get (ci := 2) (v := .ref (a 15)) (C := RX2) (T := TX2) (N := 9) hx hb hts h9X2 hown hK hP 1 fd_WC_1 rfl 3 (by decide) (hts (.fieldLink RX2 21 "FailDiagnose$Circuit" "goodRows" "[J") (List.mem_of_getElem? (i := 1) (by eq_refl))) (fun _ h9 => h9) rfl dX2_changed_1 ?_
  refine lv_iload_n hx hb dX2_changed_4 rfl (lv_at hl 1 rfl) ?_
  obtain ⟨g1, hf⟩ := fd_gds hf
  refine va_lald hx hb hK hP 15 3 fd_WC_15 fd_tyC_15 g1 dX2_changed_5 ?_
  refine lv_aload_n hx hb dX2_changed_6 rfl (lv_at hl 0 rfl) ?_
  refine va_get (ci := 2) (v := .ref (a 16)) (C := RX2) (T := TX2) (N := 9) hx hb hts h9X2 hown hK hP 1 fd_WC_1 rfl 4 (by decide) (hts (.fieldLink RX2 25 "FailDiagnose$Circuit" "faultyRows" "[J") (List.mem_of_getElem? (i := 2) (by eq_refl))) (fun _ h9 => h9) rfl dX2_changed_7 ?_
  refine lv_iload_n hx hb dX2_changed_10 rfl (lv_at hl 1 rfl) ?_
  obtain ⟨g2, hf⟩ := fd_gds hf
  refine va_lald hx hb hK hP 16 4 fd_WC_16 fd_tyC_16 g2 dX2_changed_11 ?_
  refine lv_lxor hx hb dX2_changed_12 ?_
  refine lv_aload_n hx hb dX2_changed_13 rfl (lv_at hl 0 rfl) ?_
  obtain ⟨w6, τ7, hc3, hf⟩ := fd_bds hf
  refine va_calll (va_runV (As := []) (rest := [.long ((σ.2.2 15 p1.toNatClampNeg) ^^^ (σ.2.2 16 p1.toNatClampNeg))]) ⟨hx, hb, hml, hown, hts⟩ (m_X2_counted_1 l D a k s.heap.size hI N σ _ hc3) (cwV 0 hts gX2_changed_X2_counted rfl rfl rfl (by decide +kernel) ⟨Nat.le_of_ble_eq_true rfl, Nat.le_of_ble_eq_true rfl⟩) ⟨fd_blC, va_recv hK hP (ci := 2) (q0 := 1) rfl fd_WC_1, fd_prC hP hK⟩ rfl rfl hl.1 rfl (lv_room (Nat.le_of_ble_eq_true rfl)) dX2_changed_14 ⟨Nat.zero_le _, Nat.zero_le _⟩) hS (fun q _ h => fd_A_mono hS.1 h) (fun q h => fd_A_mono hS.1 h) (fun v4 u t H1 locs ht hvm hw hB hz hk hS => ?_)
  obtain ⟨hP1, hK1⟩ := hB
  rw [ht] at hP1
  obtain ⟨e1, e2⟩ := Prod.mk.inj hw
  subst e1
  subst e2
  obtain ⟨σ5, rfl⟩ : ∃ z, z = u := ⟨_, rfl⟩
  have hP := hP1
  generalize H1 = H at hP hS ⊢
  refine lv_land hx hb dX2_changed_17 ?_
  exact W.lret (v := (((σ.2.2 15 p1.toNatClampNeg) ^^^ (σ.2.2 16 p1.toNatClampNeg)) &&& v4)) hx hb hr (fun t ht hW => ⟨⟨((σ.2.2 15 p1.toNatClampNeg) ^^^ (σ.2.2 16 p1.toNatClampNeg)) &&& v4, σ5, rfl, Option.some.inj hf, by rw [ht]; exact hP, va_K.moved hW.alike hK⟩, hS.F ht⟩) hS.2.2 dX2_changed_18
noncomputable def f_X3_shownBy_4 (N : Nat) (p1 : Int32) (p2 : Int32) (p3 : Int32) (σ : fd_St) : Option (Int64 × fd_St) := fd_bd (f_X3_tryFault_4 N p1 p2 σ) (fun _ σ3 => fd_bd (f_X5_net_2 N p3 σ3) (fun v7 σ8 => fd_bd (f_X2_changed_1 N v7 σ8) (fun v12 σ13 => some (v12, σ13))))
set_option maxHeartbeats 4000000 in
set_option maxRecDepth 100000 in
theorem m_X3_shownBy_4 (l : Launch) (D : va_G) (a : Nat → Nat) (k : Nat → ClassId) (sz : Nat) (hI : fd_I 39 a) (N : Nat) (p1 : Int32) (p2 : Int32) (p3 : Int32) (σ : fd_St) (r : Int64 × fd_St) (hf : f_X3_shownBy_4 N p1 p2 p3 σ = some r) : Met l yX3_shownBy wsX3_shownBy ({ frames := 4, cells := 0, slots := 0, locals := 154 }) (va_Pc [.ref (a 4), .int p1, .int p2, .int p3] (fd_PC D a k sz σ)) (va_Ql (fun v u => (v, u) = r) (fd_BC D a k) (fd_A 39 a sz)) 0 0 (fd_A 39 a sz) := by
  refine Met.ofW (cc := cX3_shownBy) (maxL := 4) (ret := (some .long)) (by decide) rfl ?_
  intro p e s m args below meth c s₁ B hml hv
  obtain ⟨rfl, hsz, hP, hK⟩ := hv
  have hx := B.exec
  have hb := B.bytes
  have hr := B.returns
  have hts := atoms_spec (ws := wsX3_shownBy) B.pre
  have hown : s.vm.findClass RX3 = some m.cls := findClass_of_methodNamed B.named
  have hlocks := B.notSynchronized
  subst hsz
  have hJ : ∀ i, i < 39 → fd_A 39 a s.heap.size (a i) := fun i hi => Or.inl ⟨i, hi, rfl⟩
  have hS : va_S (fd_A 39 a s.heap.size) s.heap s.heap [] := va_S.rf
  have hl := lv_entry ([.ref (a 4), .int p1, .int p2, .int p3]) (n := 4) (Nat.le_of_ble_eq_true rfl)
  rw [lg_entry_eq]
  generalize (lg_sl ([.ref (a 4), .int p1, .int p2, .int p3]) ++ List.replicate (4 - (lg_sl ([.ref (a 4), .int p1, .int p2, .int p3])).length) Slot.unset).toArray = ls at hl ⊢
  have hl : lv_has ls 4 [(0, .ref (a 4)), (1, .int p1), (2, .int p2), (3, .int p3)] := hl
  have h9X3 : ∀ w ∈ u_ws RX3 TX3 7, w ∈ wsX3_shownBy := fd_su [70, 71, 72, 73, 74, 75, 76] (by eq_refl)
  unfold f_X3_shownBy_4 at hf
  refine lv_aload_n hx hb dX3_shownBy_0 rfl (lv_at hl 0 rfl) ?_
  refine lv_iload_n hx hb dX3_shownBy_1 rfl (lv_at hl 1 rfl) ?_
  refine lv_iload_n hx hb dX3_shownBy_2 rfl (lv_at hl 2 rfl) ?_
  obtain ⟨w4, τ5, hc1, hf⟩ := fd_bds hf
  refine va_callv (va_runV (As := [.int p1, .int p2]) (rest := []) ⟨hx, hb, hml, hown, hts⟩ (m_X3_tryFault_4 l D a k s.heap.size hI N p1 p2 σ _ hc1) (cwV 2 hts gX3_shownBy_X3_tryFault rfl rfl rfl (by decide +kernel) ⟨Nat.le_of_ble_eq_true rfl, Nat.le_of_ble_eq_true rfl⟩) ⟨fd_blC, va_recv hK hP (ci := 3) (q0 := 4) rfl fd_WC_4, fd_prC hP hK⟩ rfl rfl hl.1 rfl (lv_room (Nat.le_of_ble_eq_true rfl)) dX3_shownBy_3 ⟨Nat.zero_le _, Nat.zero_le _⟩) hS (fun q _ h => fd_A_mono hS.1 h) (fun q h => fd_A_mono hS.1 h) (fun u t H1 locs ht hvm hw hB hz hk hS => ?_)
  obtain ⟨hP1, hK1⟩ := hB
  rw [ht] at hP1
  have e2 := (Prod.mk.inj hw).2
  subst e2
  obtain ⟨σ3, rfl⟩ : ∃ z, z = u := ⟨_, rfl⟩
  have hP := hP1
  generalize H1 = H at hP hS ⊢
  refine lv_aload_n hx hb dX3_shownBy_6 rfl (lv_at hl 0 rfl) ?_
  refine va_get (ci := 3) (v := .ref (a 1)) (C := RX3) (T := TX3) (N := 7) hx hb hts h9X3 hown hK hP 4 fd_WC_4 rfl 0 (by decide) (hts (.fieldLink RX3 36 "FailDiagnose$Diagnosis" "circuit" "LFailDiagnose$Circuit;") (List.mem_of_getElem? (i := 1) (by eq_refl))) (fun _ h9 => h9) rfl dX3_shownBy_7 ?_
  refine lv_aload_n hx hb dX3_shownBy_10 rfl (lv_at hl 0 rfl) ?_
  refine va_get (ci := 3) (v := .ref (a 2)) (C := RX3) (T := TX3) (N := 7) hx hb hts h9X3 hown hK hP 4 fd_WC_4 rfl 1 (by decide) (hts (.fieldLink RX3 40 "FailDiagnose$Diagnosis" "outputs" "LFailDiagnose$Outputs;") (List.mem_of_getElem? (i := 2) (by eq_refl))) (fun _ h9 => h9) rfl dX3_shownBy_11 ?_
  refine lv_iload_n hx hb dX3_shownBy_14 rfl (lv_at hl 3 rfl) ?_
  obtain ⟨w9, τ10, hc6, hf⟩ := fd_bds hf
  refine va_calli (va_runV (As := [.int p3]) (rest := [.ref (a 1)]) ⟨hx, hb, hml, hown, hts⟩ (m_X5_net_2 l D a k H.size hI N p3 σ3 _ hc6) (cwV 1 hts gX3_shownBy_X5_net rfl rfl rfl (by decide +kernel) ⟨Nat.le_of_ble_eq_true rfl, Nat.le_of_ble_eq_true rfl⟩) ⟨fd_blC, va_recv hK hP (ci := 5) (q0 := 2) rfl fd_WC_2, fd_prC hP hK⟩ rfl rfl hl.1 rfl (lv_room (Nat.le_of_ble_eq_true rfl)) dX3_shownBy_15 ⟨Nat.zero_le _, Nat.zero_le _⟩) hS (fun q _ h => fd_A_mono hS.1 h) (fun q h => fd_A_mono hS.1 h) (fun v7 u t H1 locs ht hvm hw hB hz hk hS => ?_)
  obtain ⟨hP1, hK1⟩ := hB
  rw [ht] at hP1
  obtain ⟨e1, e2⟩ := Prod.mk.inj hw
  subst e1
  subst e2
  obtain ⟨σ8, rfl⟩ : ∃ z, z = u := ⟨_, rfl⟩
  have hP := hP1
  generalize H1 = H at hP hS ⊢
  obtain ⟨w14, τ15, hc11, hf⟩ := fd_bds hf
  refine va_calll (va_runV (As := [.int v7]) (rest := []) ⟨hx, hb, hml, hown, hts⟩ (m_X2_changed_1 l D a k H.size hI N v7 σ8 _ hc11) (cwV 1 hts gX3_shownBy_X2_changed rfl rfl rfl (by decide +kernel) ⟨Nat.le_of_ble_eq_true rfl, Nat.le_of_ble_eq_true rfl⟩) ⟨fd_blC, va_recv hK hP (ci := 2) (q0 := 1) rfl fd_WC_1, fd_prC hP hK⟩ rfl rfl hl.1 rfl (lv_room (Nat.le_of_ble_eq_true rfl)) dX3_shownBy_18 ⟨Nat.zero_le _, Nat.zero_le _⟩) hS (fun q _ h => fd_A_mono hS.1 h) (fun q h => fd_A_mono hS.1 h) (fun v12 u t H1 locs ht hvm hw hB hz hk hS => ?_)
  obtain ⟨hP1, hK1⟩ := hB
  rw [ht] at hP1
  obtain ⟨e1, e2⟩ := Prod.mk.inj hw
  subst e1
  subst e2
  obtain ⟨σ13, rfl⟩ : ∃ z, z = u := ⟨_, rfl⟩
  have hP := hP1
  generalize H1 = H at hP hS ⊢
  exact W.lret (v := v12) hx hb hr (fun t ht hW => ⟨⟨v12, σ13, rfl, Option.some.inj hf, by rw [ht]; exact hP, va_K.moved hW.alike hK⟩, hS.F ht⟩) hS.2.2 dX3_shownBy_21
noncomputable def f_X10_shows_0 (N : Nat) (p1 : Int32) (p2 : Int32) (p3 : Int32) (σ : fd_St) : Option ((Int64 ⊕ String) × fd_St) := fd_bd (f_X3_hasFault_4 N p1 p2 σ) (fun v2 σ3 => if v2 = 0 then (some (.inr "java/lang/IndexOutOfBoundsException", σ3)) else (fd_bx (f_X10_needOutput_0 N p3 σ3) (fun _ σ9 => fd_bd (f_X3_shownBy_4 N p1 p2 p3 σ9) (fun v14 σ15 => some (.inl v14, σ15))) (fun E τ => some (.inr E, τ))))
set_option maxHeartbeats 4000000 in
set_option maxRecDepth 100000 in
theorem m_X10_shows_0 (l : Launch) (hl9 : l.stackTraces = false) (D : va_G) (a : Nat → Nat) (k : Nat → ClassId) (sz : Nat) (hI : fd_I 39 a) (N : Nat) (p1 : Int32) (p2 : Int32) (p3 : Int32) (σ : fd_St) (r : (Int64 ⊕ String) × fd_St) (hf : f_X10_shows_0 N p1 p2 p3 σ = some r) : vx_Met l yX10_shows wsX10_shows ({ frames := 7, cells := fd_mc r, slots := fd_ms r, locals := 177 }) (va_Pc [.ref (a 0), .int p1, .int p2, .int p3] (fd_PZ D a k sz σ)) (va_Ql (fun v u => (Sum.inl v, u) = r) (fd_BC D a k) (fd_A 39 a sz)) (fd_X D a k (fd_A 39 a sz) r) (fd_mc r) (fd_ms r) (fd_A 39 a sz) := by
  refine vx_ofW (cc := cX10_shows) (maxL := 4) (ret := (some .long)) (by decide) rfl ?_
  intro p e s m args below meth c s₁ B hml hex hv
  obtain ⟨rfl, ⟨hsz, hP, hK⟩, hZ⟩ := hv
  have hx := B.exec
  have hb := B.bytes
  have hr := B.returns
  have hts := atoms_spec (ws := wsX10_shows) B.pre
  have hown : s.vm.findClass RX10 = some m.cls := findClass_of_methodNamed B.named
  have hlocks := B.notSynchronized
  subst hsz
  have hJ : ∀ i, i < 39 → fd_A 39 a s.heap.size (a i) := fun i hi => Or.inl ⟨i, hi, rfl⟩
  have hS : va_S (fd_A 39 a s.heap.size) s.heap s.heap [] := va_S.rf
  have hl := lv_entry ([.ref (a 0), .int p1, .int p2, .int p3]) (n := 4) (Nat.le_of_ble_eq_true rfl)
  rw [lg_entry_eq]
  generalize (lg_sl ([.ref (a 0), .int p1, .int p2, .int p3]) ++ List.replicate (4 - (lg_sl ([.ref (a 0), .int p1, .int p2, .int p3])).length) Slot.unset).toArray = ls at hl ⊢
  have hl : lv_has ls 4 [(0, .ref (a 0)), (1, .int p1), (2, .int p2), (3, .int p3)] := hl
  have h9X10 : ∀ w ∈ u_ws RX10 TX10 8, w ∈ wsX10_shows := fd_su [105, 106, 107, 108, 109, 110, 111, 112] (by eq_refl)
  unfold f_X10_shows_0 at hf
  refine lv_aload_n hx hb dX10_shows_0 rfl (lv_at hl 0 rfl) ?_
  refine va_get (ci := 10) (v := .ref (a 4)) (C := RX10) (T := TX10) (N := 8) hx hb hts h9X10 hown hK hP 0 fd_WC_0 rfl 3 (by decide) (hts (.fieldLink RX10 35 "FailDiagnose" "diagnosis" "LFailDiagnose$Diagnosis;") (List.mem_of_getElem? (i := 3) (by eq_refl))) (fun _ h9 => h9) rfl dX10_shows_1 ?_
  refine lv_iload_n hx hb dX10_shows_4 rfl (lv_at hl 1 rfl) ?_
  refine lv_iload_n hx hb dX10_shows_5 rfl (lv_at hl 2 rfl) ?_
  obtain ⟨w4, τ5, hc1, hf⟩ := fd_bds hf
  refine va_calli (va_runV (As := [.int p1, .int p2]) (rest := []) ⟨hx, hb, hml, hown, hts⟩ (m_X3_hasFault_4 l D a k s.heap.size hI N p1 p2 σ _ hc1) (cwV 2 hts gX10_shows_X3_hasFault rfl rfl rfl (by decide +kernel) ⟨Nat.le_of_ble_eq_true rfl, Nat.le_of_ble_eq_true rfl⟩) ⟨fd_blC, va_recv hK hP (ci := 3) (q0 := 4) rfl fd_WC_4, fd_prC hP hK⟩ rfl rfl hl.1 rfl (lv_room (Nat.le_of_ble_eq_true rfl)) dX10_shows_6 ⟨Nat.zero_le _, Nat.zero_le _⟩) hS (fun q _ h => fd_A_mono hS.1 h) (fun q h => fd_A_mono hS.1 h) (fun v2 u t H1 locs ht hvm hw hB hz hk hS => ?_)
  obtain ⟨hP1, hK1⟩ := hB
  rw [ht] at hP1
  obtain ⟨e1, e2⟩ := Prod.mk.inj hw
  subst e1
  subst e2
  obtain ⟨σ3, rfl⟩ : ∃ z, z = u := ⟨_, rfl⟩
  have hP := hP1
  generalize H1 = H at hP hS ⊢
  refine lv_if_ne (tgt := 22) hx hb dX10_shows_9 (by decide) (fun c6 => ?_) (fun c6 => ?_)
  · have hf := fd_itn c6 hf
    refine lv_aload_n hx hb dX10_shows_22 rfl (lv_at hl 0 rfl) ?_
    refine lv_iload_n hx hb dX10_shows_23 rfl (lv_at hl 3 rfl) ?_
    rcases fd_bxs hf with ⟨w10, τ11, hc7, hf⟩ | ⟨E12, τ11, hc7, hf⟩
    · refine vx_callv (vx_runV (As := [.int p3]) (rest := []) ⟨hx, hb, hml, hown, hts⟩ (m_X10_needOutput_0 l hl9 D a k H.size hI N p3 σ3 _ hc7) (cwV 1 hts gX10_shows_X10_needOutput rfl rfl rfl (by decide +kernel) ⟨Nat.le_of_ble_eq_true rfl, Nat.le_of_ble_eq_true rfl⟩) ⟨fd_blZ, va_recv hK hP (ci := 10) (q0 := 0) rfl fd_WC_0, fd_prZ hP hK hZ hS⟩ rfl rfl hl.1 rfl (lv_room (Nat.le_of_ble_eq_true rfl)) dX10_shows_24 ⟨Nat.zero_le _, Nat.zero_le _⟩) hS (fun q _ h => fd_A_mono hS.1 h) (fun q h => fd_A_mono hS.1 h) (fun q _ h => fd_A_mono hS.1 h) (fun E ce q9 u t H1 locs1 ht hvm hp hB => ?_) (fun u t H1 locs ht hvm hw hB hz hk hS => ?_)
      · exact absurd hB.1 (by simp)
      obtain ⟨hP1, hK1⟩ := hB
      rw [ht] at hP1
      have e2 := (Prod.mk.inj hw).2
      subst e2
      obtain ⟨σ9, rfl⟩ : ∃ z, z = u := ⟨_, rfl⟩
      have hP := hP1
      generalize H1 = H at hP hS ⊢
      refine W.cs (cells' := 0) (slots' := 0) rfl rfl ?_
      refine lv_aload_n hx hb dX10_shows_27 rfl (lv_at hl 0 rfl) ?_
      refine va_get (ci := 10) (v := .ref (a 4)) (C := RX10) (T := TX10) (N := 8) hx hb hts h9X10 hown hK hP 0 fd_WC_0 rfl 3 (by decide) (hts (.fieldLink RX10 35 "FailDiagnose" "diagnosis" "LFailDiagnose$Diagnosis;") (List.mem_of_getElem? (i := 3) (by eq_refl))) (fun _ h9 => h9) rfl dX10_shows_28 ?_
      refine lv_iload_n hx hb dX10_shows_31 rfl (lv_at hl 1 rfl) ?_
      refine lv_iload_n hx hb dX10_shows_32 rfl (lv_at hl 2 rfl) ?_
      refine lv_iload_n hx hb dX10_shows_33 rfl (lv_at hl 3 rfl) ?_
      obtain ⟨w16, τ17, hc13, hf⟩ := fd_bds hf
      refine va_calll (va_runV (As := [.int p1, .int p2, .int p3]) (rest := []) ⟨hx, hb, hml, hown, hts⟩ (m_X3_shownBy_4 l D a k H.size hI N p1 p2 p3 σ9 _ hc13) (cwV 3 hts gX10_shows_X3_shownBy rfl rfl rfl (by decide +kernel) ⟨Nat.le_of_ble_eq_true rfl, Nat.le_of_ble_eq_true rfl⟩) ⟨fd_blC, va_recv hK hP (ci := 3) (q0 := 4) rfl fd_WC_4, fd_prC hP hK⟩ rfl rfl hl.1 rfl (lv_room (Nat.le_of_ble_eq_true rfl)) dX10_shows_34 ⟨Nat.zero_le _, Nat.zero_le _⟩) hS (fun q _ h => fd_A_mono hS.1 h) (fun q h => fd_A_mono hS.1 h) (fun v14 u t H1 locs ht hvm hw hB hz hk hS => ?_)
      obtain ⟨hP1, hK1⟩ := hB
      rw [ht] at hP1
      obtain ⟨e1, e2⟩ := Prod.mk.inj hw
      subst e1
      subst e2
      obtain ⟨σ15, rfl⟩ : ∃ z, z = u := ⟨_, rfl⟩
      have hP := hP1
      generalize H1 = H at hP hS ⊢
      refine vx_ret (W.widen (k := fd_mc r) (n := fd_ms r) (Nat.zero_le _) (Nat.zero_le _) ?_)
      exact W.lret (v := v14) hx hb hr (fun t ht hW => ⟨⟨v14, σ15, rfl, Option.some.inj hf, by rw [ht]; exact hP, va_K.moved hW.alike hK⟩, hS.F ht⟩) hS.2.2 dX10_shows_37
    · have er := Option.some.inj hf
      subst er
      refine vx_callv (vx_runV (As := [.int p3]) (rest := []) ⟨hx, hb, hml, hown, hts⟩ (m_X10_needOutput_0 l hl9 D a k H.size hI N p3 σ3 _ hc7) (cwV 1 hts gX10_shows_X10_needOutput rfl rfl rfl (by decide +kernel) ⟨Nat.le_of_ble_eq_true rfl, Nat.le_of_ble_eq_true rfl⟩) ⟨fd_blZ, va_recv hK hP (ci := 10) (q0 := 0) rfl fd_WC_0, fd_prZ hP hK hZ hS⟩ rfl rfl hl.1 rfl (lv_room (Nat.le_of_ble_eq_true rfl)) dX10_shows_24 ⟨Nat.le_of_ble_eq_true rfl, Nat.le_of_ble_eq_true rfl⟩) hS (fun q _ h => fd_A_mono hS.1 h) (fun q h => fd_A_mono hS.1 h) (fun q _ h => fd_A_mono hS.1 h) (fun E ce q9 u t H1 locs1 ht hvm hp hB hz hk hS hce hcv hcl => ?_) (fun u t H1 locs ht hvm hw hB hz hk hS => ?_)
      · obtain ⟨hB0, hP1, hK1⟩ := hB
        rw [ht] at hP1
        exact vx_out (E := E) (fun x hx => (hex x hx).elim) hlocks hce hcv hcl (fun t ht ha => ⟨u, trivial, ⟨fd_inr hB0, by rw [ht]; exact hP1, va_K.moved ha hK⟩, hS.F ht⟩) hS.2.2 (Nat.le_of_ble_eq_true rfl) (Nat.le_of_ble_eq_true rfl)
      · exact absurd hw (by simp)
  · have hf := fd_itp c6 hf
    have e18 := Option.some.inj hf
    subst e18
    obtain ⟨sa, hsa⟩ := hZ.str 149 "no such fault" (by decide +kernel)
    exact vx_throwS (own := RX10) (cls := "java/lang/IndexOutOfBoundsException") (names := ["java/lang/RuntimeException", "java/lang/Exception"]) hx hb hl9 hown fd_ex_114_118_f fd_ex_n (hts (.classLink RX10 114 "java/lang/IndexOutOfBoundsException") (List.mem_of_getElem? (i := 1) (by eq_refl))) (hts (.initialized "java/lang/IndexOutOfBoundsException") (List.mem_of_getElem? (i := 2) (by eq_refl))) hsa (vx_hat (L := vx_atS RX10 118 "java/lang/IndexOutOfBoundsException" ["java/lang/RuntimeException", "java/lang/Exception"]) (B := fd_bad "java/lang/IndexOutOfBoundsException") (fun w hw => hts w ((fun w h => List.mem_cons_of_mem _ (List.mem_append_right _ h) : ∀ w ∈ (vx_atS RX10 118 "java/lang/IndexOutOfBoundsException" ["java/lang/RuntimeException", "java/lang/Exception"]).filter goodWord, w ∈ wsX10_shows) w hw)) fd_ex_114_118_b (hZ.bad "java/lang/IndexOutOfBoundsException" fd_ex_114_118_e)) fd_ex_114_118_g hZ.un hZ.su hS (hl.1.trans hml.symm) dX10_shows_12 dX10_shows_15 dX10_shows_16 dX10_shows_18 dX10_shows_21 (fun x hx => (hex x hx).elim) (Nat.le_of_ble_eq_true rfl) (Nat.le_of_ble_eq_true rfl) (Nat.le_of_ble_eq_true rfl) (Nat.le_of_ble_eq_true rfl) hlocks (fun t ha hsz hk => ⟨σ3, trivial, ⟨rfl, hP.kept (fun k q hq => hk q.1 (hP k q hq).lt), va_K.moved ha hK⟩, Nat.le_trans hS.1 hsz, fun q h1 h2 => (hk q (Nat.lt_of_lt_of_le h1 hS.1)).trans (hS.2.1 q h1 h2)⟩) hS.2.2 (Nat.le_of_ble_eq_true rfl) (Nat.le_of_ble_eq_true rfl)
noncomputable def f_L_shows_0_39 (N : Nat) (p1 : Int32) (p2 : Int32) (p3 : Int32) (σ : fd_St) : Option (Int32 × fd_St) := fd_bx (f_X10_shows_0 N p1 p2 p3 σ) (fun v2 τ => fd_lt (fd_mix τ σ) (fun σ6 => fd_gd (vp_in (0 : Int32) 1) (fd_lt (fd_sL 39 (0 : Int32) v2 σ6) (fun σ9 => some ((0 : Int32), σ9))))) (fun E τ => if E = "java/lang/IndexOutOfBoundsException" then (fd_lt (fd_mix τ σ) (fun σ11 => some ((1 : Int32), σ11))) else (none))
set_option maxHeartbeats 4000000 in
set_option maxRecDepth 100000 in
theorem m_L_shows_0_39 (l : Launch) (hl9 : l.stackTraces = false) (D : va_G) (a : Nat → Nat) (k : Nat → ClassId) (sz : Nat) (hI : fd_I 40 a) (N : Nat) (p1 : Int32) (p2 : Int32) (p3 : Int32) (σ : fd_St) (r : Int32 × fd_St) (hf : f_L_shows_0_39 N p1 p2 p3 σ = some r) : Met l yL_shows wsL_shows ({ frames := 8, cells := 1, slots := 6, locals := 200 }) (va_Pc [.ref (a 0), .int p1, .int p2, .int p3, .ref (a 39)] (fd_PH D a k sz σ)) (va_Qi (fun v u => (v, u) = r) (fd_BH D a k) (fd_A 40 a sz)) 1 6 (fd_A 40 a sz) := by
  refine fd_ofWT (cc := cL_shows) (maxL := 6) (ret := (some .int)) (by decide) rfl ?_
  intro p e s m args below meth c s₁ B hml hTab hv
  obtain ⟨rfl, hsz, hP, hK, hZ⟩ := hv
  have hx := B.exec
  have hb := B.bytes
  have hr := B.returns
  have hts := atoms_spec (ws := wsL_shows) B.pre
  have hown : s.vm.findClass RL = some m.cls := findClass_of_methodNamed B.named
  have hlocks := B.notSynchronized
  subst hsz
  have hJ : ∀ i, i < 40 → fd_A 40 a s.heap.size (a i) := fun i hi => Or.inl ⟨i, hi, rfl⟩
  have hS : va_S (fd_A 40 a s.heap.size) s.heap s.heap [] := va_S.rf
  have hl := lv_entry ([.ref (a 0), .int p1, .int p2, .int p3, .ref (a 39)]) (n := 6) (Nat.le_of_ble_eq_true rfl)
  rw [lg_entry_eq]
  generalize (lg_sl ([.ref (a 0), .int p1, .int p2, .int p3, .ref (a 39)]) ++ List.replicate (6 - (lg_sl ([.ref (a 0), .int p1, .int p2, .int p3, .ref (a 39)])).length) Slot.unset).toArray = ls at hl ⊢
  have hl : lv_has ls 6 [(0, .ref (a 0)), (1, .int p1), (2, .int p2), (3, .int p3), (4, .ref (a 39))] := hl
  unfold f_L_shows_0_39 at hf
  refine lv_aload hx hb dL_shows_0 (lv_at hl 4 rfl) ?_
  refine lv_iconst (v := (0 : Int32)) hx hb dL_shows_2 (by decide) ?_
  refine lv_aload_n hx hb dL_shows_3 rfl (lv_at hl 0 rfl) ?_
  refine lv_iload_n hx hb dL_shows_4 rfl (lv_at hl 1 rfl) ?_
  refine lv_iload_n hx hb dL_shows_5 rfl (lv_at hl 2 rfl) ?_
  refine lv_iload_n hx hb dL_shows_6 rfl (lv_at hl 3 rfl) ?_
  rcases fd_bxs hf with ⟨w3, τ4, hc1, hf⟩ | ⟨E5, τ4, hc1, hf⟩
  · refine vx_calll (vx_runV (As := [.int p1, .int p2, .int p3]) (rest := [.int (0 : Int32), .ref (a 39)]) ⟨hx, hb, hml, hown, hts⟩ (m_X10_shows_0 l hl9 D a k s.heap.size (fd_I40 hI) N p1 p2 p3 σ _ hc1) (cwV 3 hts gL_shows_X10_shows rfl rfl rfl (by decide +kernel) ⟨Nat.le_of_ble_eq_true rfl, Nat.le_of_ble_eq_true rfl⟩) ⟨fd_blZ, va_recv (fd_HK hK) (fd_HC hP) (ci := 10) (q0 := 0) rfl fd_WC_0, fd_prHZ hP hK hZ hS⟩ rfl rfl hl.1 rfl (lv_room (Nat.le_of_ble_eq_true rfl)) dL_shows_7 ⟨(Nat.zero_le _), (Nat.zero_le _)⟩) hS (fun q _ h => fd_A_sub hS.1 h) (fun q h => fd_A_sub hS.1 h) (fun q _ h => fd_A_sub hS.1 h) (fun E ce q9 u t H1 locs1 ht hvm hp hB => ?_) (fun v2 u t H1 locs ht hvm hw hB hz hk hS => ?_)
    · exact absurd hB.1 (by simp)
    obtain ⟨hP1, hK1⟩ := hB
    rw [ht] at hP1
    obtain ⟨e1, e2⟩ := Prod.mk.inj hw
    obtain e1 := Sum.inl.inj e1
    subst e1
    subst e2
    obtain ⟨σ6, eσ6, hf⟩ := fd_lts hf
    have hP : va_P D vwCl (fd_WH a k σ6) H1 := by rw [eσ6]; exact fd_HJ hI hP hP1 hk
    generalize H1 = H at hP hS ⊢
    refine W.cs (cells' := 0) (slots' := 0) rfl rfl ?_
    obtain ⟨g8, hf⟩ := fd_gds hf
    obtain ⟨σ9, eσ9, hf⟩ := fd_lts hf
    refine va_last hx hb hK hP (fd_DH hI hJ) hS 39 27 fd_WH_39 fd_tyH_39 g8 dL_shows_10 (fun H locs hP _ hS => ?_)
    have hP : va_P D vwCl (fd_WH a k σ9) H := by rw [eσ9]; exact fd_sP fd_WHa_39 hP
    refine lv_goto (tgt := 18) hx hb dL_shows_11 (by decide) ?_
    refine lv_iconst (v := (0 : Int32)) hx hb dL_shows_18 (by decide) ?_
    refine W.widen (k := 1) (n := 6) (Nat.le_of_ble_eq_true rfl) (Nat.le_of_ble_eq_true rfl) ?_
    exact W.iret (v := (0 : Int32)) hx hb hr (fun t ht hW => ⟨⟨(0 : Int32), σ9, rfl, Option.some.inj hf, by rw [ht]; exact hP, va_K.moved hW.alike hK⟩, hS.F ht⟩) hS.2.2 dL_shows_19
  · have hE := hf
    by_cases c10 : E5 = "java/lang/IndexOutOfBoundsException"
    · subst c10
      have hf := fd_itp rfl hf
      refine vx_calll (vx_runV (As := [.int p1, .int p2, .int p3]) (rest := [.int (0 : Int32), .ref (a 39)]) ⟨hx, hb, hml, hown, hts⟩ (m_X10_shows_0 l hl9 D a k s.heap.size (fd_I40 hI) N p1 p2 p3 σ _ hc1) (cwV 3 hts gL_shows_X10_shows rfl rfl rfl (by decide +kernel) ⟨Nat.le_of_ble_eq_true rfl, Nat.le_of_ble_eq_true rfl⟩) ⟨fd_blZ, va_recv (fd_HK hK) (fd_HC hP) (ci := 10) (q0 := 0) rfl fd_WC_0, fd_prHZ hP hK hZ hS⟩ rfl rfl hl.1 rfl (lv_room (Nat.le_of_ble_eq_true rfl)) dL_shows_7 ⟨Nat.le_of_ble_eq_true rfl, Nat.le_of_ble_eq_true rfl⟩) hS (fun q _ h => fd_A_sub hS.1 h) (fun q h => fd_A_sub hS.1 h) (fun q _ h => fd_A_sub hS.1 h) (fun E ce q9 u t H1 locs1 ht hvm hp hB hz hk hS hce hcv hcl => ?_) (fun v2 u t H1 locs ht hvm hw hB hz hk hS => ?_)
      · obtain ⟨hB0, hP1, hK1⟩ := hB
        rw [ht] at hP1
        obtain ⟨e1, e2⟩ := Prod.mk.inj hB0
        obtain e1 := Sum.inr.inj e1
        subst e1
        subst e2
        obtain ⟨σ11, eσ11, hf⟩ := fd_lts hf
        have hP : va_P D vwCl (fd_WH a k σ11) H1 := by rw [eσ11]; exact fd_HJ hI hP hP1 hk
        refine fd_catch (own := RL) (name := "java/lang/IndexOutOfBoundsException") (E := "java/lang/IndexOutOfBoundsException") hown [] ⟨0, 11, 14, 19⟩ [] (by rw [hTab]; rfl) (fun z hz => nomatch hz) (by decide) (by decide) (hts (.classLink RL 19 "java/lang/IndexOutOfBoundsException") (List.mem_of_getElem? (i := 1) (by eq_refl))) (hZ.cast "java/lang/IndexOutOfBoundsException" (by decide +kernel)) hce hcv hcl ?_
        refine W.cs (cells' := 1) (slots' := 6) rfl rfl ?_
        refine lv_astore (lv' := [(5, .ref q9), (0, .ref (a 0)), (1, .int p1), (2, .int p2), (3, .int p3), (4, .ref (a 39))]) hx hb dL_shows_14 hl (by decide) rfl (fun ls hl => ?_)
        refine lv_iconst (v := (1 : Int32)) hx hb dL_shows_16 (by decide) ?_
        refine W.widen (k := 1) (n := 6) (Nat.le_of_ble_eq_true rfl) (Nat.le_of_ble_eq_true rfl) ?_
        exact W.iret (v := (1 : Int32)) hx hb hr (fun t ht hW => ⟨⟨(1 : Int32), σ11, rfl, Option.some.inj hf, by rw [ht]; exact hP, va_K.moved hW.alike hK⟩, hS.F ht⟩) hS.2.2 dL_shows_17
      · exact absurd hw (by simp)
    have hf := fd_itn c10 hf
    cases hf
noncomputable def f_X11_own_0_10_J44 (N : Nat) (z0 : Int64) (σ : fd_St) : Option (Int64 × fd_St) := fd_bd (f_X11_mask_0 N σ) (fun v14 σ15 => some (z0 &&& v14, σ15))
noncomputable def f_X11_own_0_10 (N : Nat) (p1 : Int32) (σ : fd_St) : Option (Int64 × fd_St) := fd_gd (vp_in p1 200) (if (σ.2.1 1 p1.toNatClampNeg) = (-1 : Int32) then (fd_gd (vp_in p1 200) (f_X11_own_0_10_J44 N (σ.2.2 4 p1.toNatClampNeg) σ)) else (fd_gd (vp_in p1 200) (fd_gd (vp_in p1 200) (fd_gd (vp_in (σ.2.1 2 p1.toNatClampNeg) 200) (fd_gd (vp_in p1 200) (fd_gd (vp_in (σ.2.1 3 p1.toNatClampNeg) 200) (fd_bd (f_X11_tell N (σ.2.1 1 p1.toNatClampNeg) (σ.2.2 10 (σ.2.1 2 p1.toNatClampNeg).toNatClampNeg) (σ.2.2 10 (σ.2.1 3 p1.toNatClampNeg).toNatClampNeg) σ) (fun v9 σ10 => f_X11_own_0_10_J44 N v9 σ10))))))))
set_option maxHeartbeats 4000000 in
set_option maxRecDepth 100000 in
theorem m_X11_own_0_10 (l : Launch) (D : va_G) (a : Nat → Nat) (k : Nat → ClassId) (sz : Nat) (hI : fd_I 29 a) (N : Nat) (p1 : Int32) (σ : fd_St) (r : Int64 × fd_St) (hf : f_X11_own_0_10 N p1 σ = some r) : Met l yX11_own wsX11_own ({ frames := 1, cells := 0, slots := 0, locals := 24 }) (va_Pc [.ref (a 0), .int p1, .ref (a 10)] (fd_PM D a k sz σ)) (va_Ql (fun v u => (v, u) = r) (fd_BM D a k) (fd_A 29 a sz)) 0 0 (fd_A 29 a sz) := by
  refine Met.ofW (cc := cX11_own) (maxL := 5) (ret := (some .long)) (by decide) rfl ?_
  intro p e s m args below meth c s₁ B hml hv
  obtain ⟨rfl, hsz, hP, hK⟩ := hv
  have hx := B.exec
  have hb := B.bytes
  have hr := B.returns
  have hts := atoms_spec (ws := wsX11_own) B.pre
  have hown : s.vm.findClass RX11 = some m.cls := findClass_of_methodNamed B.named
  have hlocks := B.notSynchronized
  subst hsz
  have hJ : ∀ i, i < 29 → fd_A 29 a s.heap.size (a i) := fun i hi => Or.inl ⟨i, hi, rfl⟩
  have hS : va_S (fd_A 29 a s.heap.size) s.heap s.heap [] := va_S.rf
  have hl := lv_entry ([.ref (a 0), .int p1, .ref (a 10)]) (n := 5) (Nat.le_of_ble_eq_true rfl)
  rw [lg_entry_eq]
  generalize (lg_sl ([.ref (a 0), .int p1, .ref (a 10)]) ++ List.replicate (5 - (lg_sl ([.ref (a 0), .int p1, .ref (a 10)])).length) Slot.unset).toArray = ls at hl ⊢
  have hl : lv_has ls 5 [(0, .ref (a 0)), (1, .int p1), (2, .ref (a 10))] := hl
  have h9X11 : ∀ w ∈ u_ws RX11 TX11 43, w ∈ wsX11_own := fd_su [15, 16, 17, 18, 19, 20, 21, 22, 23, 24, 25, 26, 27, 28, 29, 30, 31, 32, 33, 34, 35, 36, 37, 38, 39, 40, 41, 42, 43, 44, 45, 46, 47, 48, 49, 50, 51, 52, 53, 54, 55, 56, 57] (by eq_refl)
  have hL44 : ∀ (z0 : Int64) (σ : fd_St) (H : Heap) (locs : List Loc) (ls : Array Slot), va_P D vwCl (fd_WM a k σ) H → va_S (fd_A 29 a s.heap.size) s.heap H locs → lv_has ls 5 [(0, .ref (a 0))] → f_X11_own_0_10_J44 N z0 σ = some r → W p l e ((headSpec wsX11_own ({ frames := 1, cells := 0, slots := 0, locals := 24 })).room) s m ([.ref (a 0), .int p1, .ref (a 10)].toArray) below meth c H locs 0 0 (MQ below (va_Ql (fun v u => (v, u) = r) (fd_BM D a k) (fd_A 29 a s.heap.size)) ([.ref (a 0), .int p1, .ref (a 10)].toArray) s 0 0 (fd_A 29 a s.heap.size)) (F0 m 44 ls [.long z0]) := by
    intro z0 σ H locs ls hP hS hl hf
    unfold f_X11_own_0_10_J44 at hf
    refine lv_lstore_n (lv' := [(3, .long z0), (0, .ref (a 0))]) hx hb dX11_own_44 rfl hl (by decide) rfl (fun ls hl => ?_)
    refine lv_lload_n hx hb dX11_own_45 rfl (lv_at hl 0 rfl) ?_
    refine lv_aload_n hx hb dX11_own_46 rfl (lv_at hl 1 rfl) ?_
    obtain ⟨w16, τ17, hc13, hf⟩ := fd_bds hf
    refine va_calll (va_runV (As := []) (rest := [.long z0]) ⟨hx, hb, hml, hown, hts⟩ (m_X11_mask_0 l D a k H.size hI N σ _ hc13) (cwV 0 hts gX11_own_X11_mask rfl rfl rfl (by decide +kernel) ⟨Nat.le_of_ble_eq_true rfl, Nat.le_of_ble_eq_true rfl⟩) ⟨fd_blM, va_recv hK hP (ci := 11) (q0 := 0) rfl fd_WM_0, fd_prM hP hK⟩ rfl rfl hl.1 rfl (lv_room (Nat.le_of_ble_eq_true rfl)) dX11_own_47 ⟨Nat.zero_le _, Nat.zero_le _⟩) hS (fun q _ h => fd_A_mono hS.1 h) (fun q h => fd_A_mono hS.1 h) (fun v14 u t H1 locs ht hvm hw hB hz hk hS => ?_)
    obtain ⟨hP1, hK1⟩ := hB
    rw [ht] at hP1
    obtain ⟨e1, e2⟩ := Prod.mk.inj hw
    subst e1
    subst e2
    obtain ⟨σ15, rfl⟩ : ∃ z, z = u := ⟨_, rfl⟩
    have hP := hP1
    generalize H1 = H at hP hS ⊢
    refine lv_land hx hb dX11_own_50 ?_
    exact W.lret (v := (z0 &&& v14)) hx hb hr (fun t ht hW => ⟨⟨z0 &&& v14, σ15, rfl, Option.some.inj hf, by rw [ht]; exact hP, va_K.moved hW.alike hK⟩, hS.F ht⟩) hS.2.2 dX11_own_51
  unfold f_X11_own_0_10 at hf
  refine lv_aload_n hx hb dX11_own_0 rfl (lv_at hl 0 rfl) ?_
  refine va_get (ci := 11) (v := .ref (a 1)) (C := RX11) (T := TX11) (N := 43) hx hb hts h9X11 hown hK hP 0 fd_WM_0 rfl 2 (by decide) (hts (.fieldLink RX11 7 "FailDiagnoseModel" "kinds" "[I") (List.mem_of_getElem? (i := 1) (by eq_refl))) (fun _ h9 => h9) rfl dX11_own_1 ?_
  refine lv_iload_n hx hb dX11_own_4 rfl (lv_at hl 1 rfl) ?_
  obtain ⟨g1, hf⟩ := fd_gds hf
  refine va_iald hx hb hK hP 1 0 fd_WM_1 fd_tyM_1 g1 dX11_own_5 ?_
  refine lv_iconst (v := (-1 : Int32)) hx hb dX11_own_6 (by decide) ?_
  refine lv_icmp_ne (tgt := 19) hx hb dX11_own_7 (by decide) (fun c2 => ?_) (fun c2 => ?_)
  · have hf := fd_itn c2 hf
    refine lv_aload_n hx hb dX11_own_19 rfl (lv_at hl 0 rfl) ?_
    refine va_get (ci := 11) (v := .ref (a 1)) (C := RX11) (T := TX11) (N := 43) hx hb hts h9X11 hown hK hP 0 fd_WM_0 rfl 2 (by decide) (hts (.fieldLink RX11 7 "FailDiagnoseModel" "kinds" "[I") (List.mem_of_getElem? (i := 1) (by eq_refl))) (fun _ h9 => h9) rfl dX11_own_20 ?_
    refine lv_iload_n hx hb dX11_own_23 rfl (lv_at hl 1 rfl) ?_
    obtain ⟨g3, hf⟩ := fd_gds hf
    refine va_iald hx hb hK hP 1 0 fd_WM_1 fd_tyM_1 g3 dX11_own_24 ?_
    refine lv_aload_n hx hb dX11_own_25 rfl (lv_at hl 2 rfl) ?_
    refine lv_aload_n hx hb dX11_own_26 rfl (lv_at hl 0 rfl) ?_
    refine va_get (ci := 11) (v := .ref (a 2)) (C := RX11) (T := TX11) (N := 43) hx hb hts h9X11 hown hK hP 0 fd_WM_0 rfl 3 (by decide) (hts (.fieldLink RX11 13 "FailDiagnoseModel" "firsts" "[I") (List.mem_of_getElem? (i := 3) (by eq_refl))) (fun _ h9 => h9) rfl dX11_own_27 ?_
    refine lv_iload_n hx hb dX11_own_30 rfl (lv_at hl 1 rfl) ?_
    obtain ⟨g4, hf⟩ := fd_gds hf
    refine va_iald hx hb hK hP 2 1 fd_WM_2 fd_tyM_2 g4 dX11_own_31 ?_
    obtain ⟨g5, hf⟩ := fd_gds hf
    refine va_lald hx hb hK hP 10 9 fd_WM_10 fd_tyM_10 g5 dX11_own_32 ?_
    refine lv_aload_n hx hb dX11_own_33 rfl (lv_at hl 2 rfl) ?_
    refine lv_aload_n hx hb dX11_own_34 rfl (lv_at hl 0 rfl) ?_
    refine va_get (ci := 11) (v := .ref (a 3)) (C := RX11) (T := TX11) (N := 43) hx hb hts h9X11 hown hK hP 0 fd_WM_0 rfl 4 (by decide) (hts (.fieldLink RX11 16 "FailDiagnoseModel" "seconds" "[I") (List.mem_of_getElem? (i := 4) (by eq_refl))) (fun _ h9 => h9) rfl dX11_own_35 ?_
    refine lv_iload_n hx hb dX11_own_38 rfl (lv_at hl 1 rfl) ?_
    obtain ⟨g6, hf⟩ := fd_gds hf
    refine va_iald hx hb hK hP 3 2 fd_WM_3 fd_tyM_3 g6 dX11_own_39 ?_
    obtain ⟨g7, hf⟩ := fd_gds hf
    refine va_lald hx hb hK hP 10 9 fd_WM_10 fd_tyM_10 g7 dX11_own_40 ?_
    obtain ⟨w11, τ12, hc8, hf⟩ := fd_bds hf
    refine va_calll (va_runS (As := [.int (σ.2.1 1 p1.toNatClampNeg), .long (σ.2.2 10 (σ.2.1 2 p1.toNatClampNeg).toNatClampNeg), .long (σ.2.2 10 (σ.2.1 3 p1.toNatClampNeg).toNatClampNeg)]) (rest := []) ⟨hx, hb, hml, hown, hts⟩ (m_X11_tell l D a k s.heap.size hI N (σ.2.1 1 p1.toNatClampNeg) (σ.2.2 10 (σ.2.1 2 p1.toNatClampNeg).toNatClampNeg) (σ.2.2 10 (σ.2.1 3 p1.toNatClampNeg).toNatClampNeg) σ _ hc8) (va_cwS 3 hts gX11_own_X11_tell rfl rfl rfl (by decide +kernel) ⟨Nat.le_of_ble_eq_true rfl, Nat.le_of_ble_eq_true rfl⟩) ⟨fd_blM, fd_prM hP hK⟩ rfl rfl hl.1 rfl (lv_room (Nat.le_of_ble_eq_true rfl)) dX11_own_41 ⟨Nat.zero_le _, Nat.zero_le _⟩) hS (fun q _ h => fd_A_mono hS.1 h) (fun q h => fd_A_mono hS.1 h) (fun v9 u t H1 locs ht hvm hw hB hz hk hS => ?_)
    obtain ⟨hP1, hK1⟩ := hB
    rw [ht] at hP1
    obtain ⟨e1, e2⟩ := Prod.mk.inj hw
    subst e1
    subst e2
    obtain ⟨σ10, rfl⟩ : ∃ z, z = u := ⟨_, rfl⟩
    have hP := hP1
    generalize H1 = H at hP hS ⊢
    exact hL44 v9 σ10 _ _ _ hP hS (lv_sub hl [0] rfl) hf
  · have hf := fd_itp c2 hf
    refine lv_aload_n hx hb dX11_own_10 rfl (lv_at hl 0 rfl) ?_
    refine va_get (ci := 11) (v := .ref (a 4)) (C := RX11) (T := TX11) (N := 43) hx hb hts h9X11 hown hK hP 0 fd_WM_0 rfl 5 (by decide) (hts (.fieldLink RX11 19 "FailDiagnoseModel" "puts" "[J") (List.mem_of_getElem? (i := 2) (by eq_refl))) (fun _ h9 => h9) rfl dX11_own_11 ?_
    refine lv_iload_n hx hb dX11_own_14 rfl (lv_at hl 1 rfl) ?_
    obtain ⟨g18, hf⟩ := fd_gds hf
    refine va_lald hx hb hK hP 4 3 fd_WM_4 fd_tyM_4 g18 dX11_own_15 ?_
    refine lv_goto (tgt := 44) hx hb dX11_own_16 (by decide) ?_
    exact hL44 (σ.2.2 4 p1.toNatClampNeg) σ _ _ _ hP hS (lv_sub hl [0] rfl) hf
noncomputable def f_X11_work_0_J60 (N : Nat) (k3 : Int32 → Int64 → Int32 → Int64 → Int32 → fd_St → Option (Unit × fd_St)) (y1 : Int32) (y2 : Int64) (y4 : Int32) (y5 : Int64) (y7 : Int32) (z1 : Int32) (z2 : Int64) (σ : fd_St) : Option (Unit × fd_St) := fd_gd (vp_in z1 200) (fd_lt (fd_sL 10 z1 z2 σ) (fun σ10 => fd_lt (y7 + (1 : Int32)) (fun x11 => k3 y1 y2 y4 y5 x11 σ10)))
noncomputable def f_X11_work_0_L3 (N : Nat) : Nat → Int32 → Int64 → Int32 → Int64 → Int32 → fd_St → Option (Unit × fd_St)
  | 0 => fun _ _ _ _ _ _ => none
  | n + 1 => fun y1 y2 y4 y5 y7 σ => if (σ.1 1) ≤ y7 then (some ((), σ)) else (if y7 = y1 then (fd_bd (f_X11_mask_0 N σ) (fun v18 σ19 => f_X11_work_0_J60 N (f_X11_work_0_L3 N n) y1 y2 y4 y5 y7 y7 (y2 &&& v18) σ19)) else (if y7 = y4 then (fd_bd (f_X11_mask_0 N σ) (fun v13 σ14 => f_X11_work_0_J60 N (f_X11_work_0_L3 N n) y1 y2 y4 y5 y7 y7 (y5 &&& v13) σ14)) else (fd_bd (f_X11_own_0_10 N y7 σ) (fun v5 σ6 => f_X11_work_0_J60 N (f_X11_work_0_L3 N n) y1 y2 y4 y5 y7 y7 v5 σ6))))
noncomputable def f_X11_work_0 (N : Nat) (p1 : Int32) (p2 : Int64) (p4 : Int32) (p5 : Int64) (σ : fd_St) : Option (Unit × fd_St) := f_X11_work_0_L3 N N p1 p2 p4 p5 (0 : Int32) σ
set_option maxHeartbeats 4000000 in
set_option maxRecDepth 100000 in
theorem m_X11_work_0 (l : Launch) (D : va_G) (a : Nat → Nat) (k : Nat → ClassId) (sz : Nat) (hI : fd_I 29 a) (N : Nat) (p1 : Int32) (p2 : Int64) (p4 : Int32) (p5 : Int64) (σ : fd_St) (r : Unit × fd_St) (hf : f_X11_work_0 N p1 p2 p4 p5 σ = some r) : Met l yX11_work wsX11_work ({ frames := 2, cells := 0, slots := 0, locals := 48 }) (va_Pc [.ref (a 0), .int p1, .long p2, .int p4, .long p5] (fd_PM D a k sz σ)) (va_Qv (fun u => ((), u) = r) (fd_BM D a k) (fd_A 29 a sz)) 0 0 (fd_A 29 a sz) := by
  refine Met.ofW (cc := cX11_work) (maxL := 8) (ret := none) (by decide) rfl ?_
  intro p e s m args below meth c s₁ B hml hv
  obtain ⟨rfl, hsz, hP, hK⟩ := hv
  have hx := B.exec
  have hb := B.bytes
  have hr := B.returns
  have hts := atoms_spec (ws := wsX11_work) B.pre
  have hown : s.vm.findClass RX11 = some m.cls := findClass_of_methodNamed B.named
  have hlocks := B.notSynchronized
  subst hsz
  have hJ : ∀ i, i < 29 → fd_A 29 a s.heap.size (a i) := fun i hi => Or.inl ⟨i, hi, rfl⟩
  have hS : va_S (fd_A 29 a s.heap.size) s.heap s.heap [] := va_S.rf
  have hl := lv_entry ([.ref (a 0), .int p1, .long p2, .int p4, .long p5]) (n := 8) (Nat.le_of_ble_eq_true rfl)
  rw [lg_entry_eq]
  generalize (lg_sl ([.ref (a 0), .int p1, .long p2, .int p4, .long p5]) ++ List.replicate (8 - (lg_sl ([.ref (a 0), .int p1, .long p2, .int p4, .long p5])).length) Slot.unset).toArray = ls at hl ⊢
  have hl : lv_has ls 8 [(0, .ref (a 0)), (1, .int p1), (2, .long p2), (4, .int p4), (5, .long p5)] := hl
  have h9X11 : ∀ w ∈ u_ws RX11 TX11 43, w ∈ wsX11_work := fd_su [21, 22, 23, 24, 25, 26, 27, 28, 29, 30, 31, 32, 33, 34, 35, 36, 37, 38, 39, 40, 41, 42, 43, 44, 45, 46, 47, 48, 49, 50, 51, 52, 53, 54, 55, 56, 57, 58, 59, 60, 61, 62, 63] (by eq_refl)
  have hL60 : ∀ (k3 : Int32 → Int64 → Int32 → Int64 → Int32 → fd_St → Option (Unit × fd_St)) (hk3 : ∀ (y1 : Int32) (y2 : Int64) (y4 : Int32) (y5 : Int64) (y7 : Int32) (σ : fd_St) (H : Heap) (locs : List Loc) (ls : Array Slot), va_P D vwCl (fd_WM a k σ) H → va_S (fd_A 29 a s.heap.size) s.heap H locs → lv_has ls 8 [(0, .ref (a 0)), (1, .int y1), (2, .long y2), (4, .int y4), (5, .long y5), (7, .int y7)] → k3 y1 y2 y4 y5 y7 σ = some r → W p l e ((headSpec wsX11_work ({ frames := 2, cells := 0, slots := 0, locals := 48 })).room) s m ([.ref (a 0), .int p1, .long p2, .int p4, .long p5].toArray) below meth c H locs 0 0 (MQ below (va_Qv (fun u => ((), u) = r) (fd_BM D a k) (fd_A 29 a s.heap.size)) ([.ref (a 0), .int p1, .long p2, .int p4, .long p5].toArray) s 0 0 (fd_A 29 a s.heap.size)) (F0 m 3 ls [])), ∀ (y1 : Int32) (y2 : Int64) (y4 : Int32) (y5 : Int64) (y7 : Int32) (z1 : Int32) (z2 : Int64) (σ : fd_St) (H : Heap) (locs : List Loc) (ls : Array Slot), va_P D vwCl (fd_WM a k σ) H → va_S (fd_A 29 a s.heap.size) s.heap H locs → lv_has ls 8 [(0, .ref (a 0)), (1, .int y1), (2, .long y2), (4, .int y4), (5, .long y5), (7, .int y7)] → f_X11_work_0_J60 N k3 y1 y2 y4 y5 y7 z1 z2 σ = some r → W p l e ((headSpec wsX11_work ({ frames := 2, cells := 0, slots := 0, locals := 48 })).room) s m ([.ref (a 0), .int p1, .long p2, .int p4, .long p5].toArray) below meth c H locs 0 0 (MQ below (va_Qv (fun u => ((), u) = r) (fd_BM D a k) (fd_A 29 a s.heap.size)) ([.ref (a 0), .int p1, .long p2, .int p4, .long p5].toArray) s 0 0 (fd_A 29 a s.heap.size)) (F0 m 60 ls [.long z2, .int z1, .ref (a 10)]) := by
    intro k3 hk3 y1 y2 y4 y5 y7 z1 z2 σ H locs ls hP hS hl hf
    unfold f_X11_work_0_J60 at hf
    obtain ⟨g9, hf⟩ := fd_gds hf
    obtain ⟨σ10, eσ10, hf⟩ := fd_lts hf
    refine va_last hx hb hK hP (fd_DM hI hJ) hS 10 9 fd_WM_10 fd_tyM_10 g9 dX11_work_60 (fun H locs hP _ hS => ?_)
    have hP : va_P D vwCl (fd_WM a k σ10) H := by rw [eσ10]; exact fd_sP fd_WMa_10 hP
    obtain ⟨x11, ex11, hf⟩ := fd_lts hf
    refine lv_iinc (v := x11) (lv' := [(7, .int x11), (0, .ref (a 0)), (1, .int y1), (2, .long y2), (4, .int y4), (5, .long y5)]) hx hb dX11_work_61 hl (k := 5) rfl (by rw [ex11]; rfl) (by decide) rfl (fun ls hl => ?_)
    refine lv_goto (tgt := 3) hx hb dX11_work_64 (by decide) ?_
    exact hk3 y1 y2 y4 y5 x11 σ10 _ _ _ hP hS (lv_sub hl [1, 2, 3, 4, 5, 0] rfl) hf
  have hL3 : ∀ (n : Nat), ∀ (y1 : Int32) (y2 : Int64) (y4 : Int32) (y5 : Int64) (y7 : Int32) (σ : fd_St) (H : Heap) (locs : List Loc) (ls : Array Slot), va_P D vwCl (fd_WM a k σ) H → va_S (fd_A 29 a s.heap.size) s.heap H locs → lv_has ls 8 [(0, .ref (a 0)), (1, .int y1), (2, .long y2), (4, .int y4), (5, .long y5), (7, .int y7)] → f_X11_work_0_L3 N n y1 y2 y4 y5 y7 σ = some r → W p l e ((headSpec wsX11_work ({ frames := 2, cells := 0, slots := 0, locals := 48 })).room) s m ([.ref (a 0), .int p1, .long p2, .int p4, .long p5].toArray) below meth c H locs 0 0 (MQ below (va_Qv (fun u => ((), u) = r) (fd_BM D a k) (fd_A 29 a s.heap.size)) ([.ref (a 0), .int p1, .long p2, .int p4, .long p5].toArray) s 0 0 (fd_A 29 a s.heap.size)) (F0 m 3 ls []) := by
    intro n
    induction n with
    | zero =>
      intro _ _ _ _ _ _ _ _ _ _ _ _ hf
      cases hf
    | succ n ih =>
      intro y1 y2 y4 y5 y7 σ H locs ls hP hS hl hf
      unfold f_X11_work_0_L3 at hf
      refine lv_iload hx hb dX11_work_3 (lv_at hl 5 rfl) ?_
      refine lv_aload_n hx hb dX11_work_5 rfl (lv_at hl 0 rfl) ?_
      refine va_get (ci := 11) (v := .int (σ.1 1)) (C := RX11) (T := TX11) (N := 43) hx hb hts h9X11 hown hK hP 0 fd_WM_0 rfl 1 (by decide) (hts (.fieldLink RX11 113 "FailDiagnoseModel" "nets" "I") (List.mem_of_getElem? (i := 1) (by eq_refl))) (fun _ h9 => h9) rfl dX11_work_6 ?_
      refine lv_icmp_ge (tgt := 67) hx hb dX11_work_9 (by decide) (fun c1 => ?_) (fun c1 => ?_)
      · have hf := fd_itp c1 hf
        exact W.vret hx hb hr (fun t ht hW => ⟨⟨σ, rfl, Option.some.inj hf, by rw [ht]; exact hP, va_K.moved hW.alike hK⟩, hS.F ht⟩) hS.2.2 dX11_work_67
      · have hf := fd_itn c1 hf
        refine lv_aload_n hx hb dX11_work_12 rfl (lv_at hl 0 rfl) ?_
        refine va_get (ci := 11) (v := .ref (a 10)) (C := RX11) (T := TX11) (N := 43) hx hb hts h9X11 hown hK hP 0 fd_WM_0 rfl 15 (by decide) (hts (.fieldLink RX11 38 "FailDiagnoseModel" "faulty" "[J") (List.mem_of_getElem? (i := 2) (by eq_refl))) (fun _ h9 => h9) rfl dX11_work_13 ?_
        refine lv_iload hx hb dX11_work_16 (lv_at hl 5 rfl) ?_
        refine lv_iload hx hb dX11_work_18 (lv_at hl 5 rfl) ?_
        refine lv_iload_n hx hb dX11_work_20 rfl (lv_at hl 1 rfl) ?_
        refine lv_icmp_ne (tgt := 33) hx hb dX11_work_21 (by decide) (fun c2 => ?_) (fun c2 => ?_)
        · have hf := fd_itn c2 hf
          refine lv_iload hx hb dX11_work_33 (lv_at hl 5 rfl) ?_
          refine lv_iload hx hb dX11_work_35 (lv_at hl 3 rfl) ?_
          refine lv_icmp_ne (tgt := 50) hx hb dX11_work_37 (by decide) (fun c3 => ?_) (fun c3 => ?_)
          · have hf := fd_itn c3 hf
            refine lv_aload_n hx hb dX11_work_50 rfl (lv_at hl 0 rfl) ?_
            refine lv_iload hx hb dX11_work_51 (lv_at hl 5 rfl) ?_
            refine lv_aload_n hx hb dX11_work_53 rfl (lv_at hl 0 rfl) ?_
            refine va_get (ci := 11) (v := .ref (a 10)) (C := RX11) (T := TX11) (N := 43) hx hb hts h9X11 hown hK hP 0 fd_WM_0 rfl 15 (by decide) (hts (.fieldLink RX11 38 "FailDiagnoseModel" "faulty" "[J") (List.mem_of_getElem? (i := 2) (by eq_refl))) (fun _ h9 => h9) rfl dX11_work_54 ?_
            obtain ⟨w7, τ8, hc4, hf⟩ := fd_bds hf
            refine va_calll (va_runV (As := [.int y7, .ref (a 10)]) (rest := [.int y7, .ref (a 10)]) ⟨hx, hb, hml, hown, hts⟩ (m_X11_own_0_10 l D a k H.size hI N y7 σ _ hc4) (cwV 2 hts gX11_work_X11_own rfl rfl rfl (by decide +kernel) ⟨Nat.le_of_ble_eq_true rfl, Nat.le_of_ble_eq_true rfl⟩) ⟨fd_blM, va_recv hK hP (ci := 11) (q0 := 0) rfl fd_WM_0, fd_prM hP hK⟩ rfl rfl hl.1 rfl (lv_room (Nat.le_of_ble_eq_true rfl)) dX11_work_57 ⟨Nat.zero_le _, Nat.zero_le _⟩) hS (fun q _ h => fd_A_mono hS.1 h) (fun q h => fd_A_mono hS.1 h) (fun v5 u t H1 locs ht hvm hw hB hz hk hS => ?_)
            obtain ⟨hP1, hK1⟩ := hB
            rw [ht] at hP1
            obtain ⟨e1, e2⟩ := Prod.mk.inj hw
            subst e1
            subst e2
            obtain ⟨σ6, rfl⟩ : ∃ z, z = u := ⟨_, rfl⟩
            have hP := hP1
            generalize H1 = H at hP hS ⊢
            exact hL60 (f_X11_work_0_L3 N n) ih y1 y2 y4 y5 y7 y7 v5 σ6 _ _ _ hP hS (lv_sub hl [0, 1, 2, 3, 4, 5] rfl) hf
          · have hf := fd_itp c3 hf
            refine lv_lload hx hb dX11_work_40 (lv_at hl 4 rfl) ?_
            refine lv_aload_n hx hb dX11_work_42 rfl (lv_at hl 0 rfl) ?_
            obtain ⟨w15, τ16, hc12, hf⟩ := fd_bds hf
            refine va_calll (va_runV (As := []) (rest := [.long y5, .int y7, .ref (a 10)]) ⟨hx, hb, hml, hown, hts⟩ (m_X11_mask_0 l D a k H.size hI N σ _ hc12) (cwV 0 hts gX11_work_X11_mask rfl rfl rfl (by decide +kernel) ⟨Nat.le_of_ble_eq_true rfl, Nat.le_of_ble_eq_true rfl⟩) ⟨fd_blM, va_recv hK hP (ci := 11) (q0 := 0) rfl fd_WM_0, fd_prM hP hK⟩ rfl rfl hl.1 rfl (lv_room (Nat.le_of_ble_eq_true rfl)) dX11_work_43 ⟨Nat.zero_le _, Nat.zero_le _⟩) hS (fun q _ h => fd_A_mono hS.1 h) (fun q h => fd_A_mono hS.1 h) (fun v13 u t H1 locs ht hvm hw hB hz hk hS => ?_)
            obtain ⟨hP1, hK1⟩ := hB
            rw [ht] at hP1
            obtain ⟨e1, e2⟩ := Prod.mk.inj hw
            subst e1
            subst e2
            obtain ⟨σ14, rfl⟩ : ∃ z, z = u := ⟨_, rfl⟩
            have hP := hP1
            generalize H1 = H at hP hS ⊢
            refine lv_land hx hb dX11_work_46 ?_
            refine lv_goto (tgt := 60) hx hb dX11_work_47 (by decide) ?_
            exact hL60 (f_X11_work_0_L3 N n) ih y1 y2 y4 y5 y7 y7 (y5 &&& v13) σ14 _ _ _ hP hS (lv_sub hl [0, 1, 2, 3, 4, 5] rfl) hf
        · have hf := fd_itp c2 hf
          refine lv_lload_n hx hb dX11_work_24 rfl (lv_at hl 2 rfl) ?_
          refine lv_aload_n hx hb dX11_work_25 rfl (lv_at hl 0 rfl) ?_
          obtain ⟨w20, τ21, hc17, hf⟩ := fd_bds hf
          refine va_calll (va_runV (As := []) (rest := [.long y2, .int y7, .ref (a 10)]) ⟨hx, hb, hml, hown, hts⟩ (m_X11_mask_0 l D a k H.size hI N σ _ hc17) (cwV 0 hts gX11_work_X11_mask rfl rfl rfl (by decide +kernel) ⟨Nat.le_of_ble_eq_true rfl, Nat.le_of_ble_eq_true rfl⟩) ⟨fd_blM, va_recv hK hP (ci := 11) (q0 := 0) rfl fd_WM_0, fd_prM hP hK⟩ rfl rfl hl.1 rfl (lv_room (Nat.le_of_ble_eq_true rfl)) dX11_work_26 ⟨Nat.zero_le _, Nat.zero_le _⟩) hS (fun q _ h => fd_A_mono hS.1 h) (fun q h => fd_A_mono hS.1 h) (fun v18 u t H1 locs ht hvm hw hB hz hk hS => ?_)
          obtain ⟨hP1, hK1⟩ := hB
          rw [ht] at hP1
          obtain ⟨e1, e2⟩ := Prod.mk.inj hw
          subst e1
          subst e2
          obtain ⟨σ19, rfl⟩ : ∃ z, z = u := ⟨_, rfl⟩
          have hP := hP1
          generalize H1 = H at hP hS ⊢
          refine lv_land hx hb dX11_work_29 ?_
          refine lv_goto (tgt := 60) hx hb dX11_work_30 (by decide) ?_
          exact hL60 (f_X11_work_0_L3 N n) ih y1 y2 y4 y5 y7 y7 (y2 &&& v18) σ19 _ _ _ hP hS (lv_sub hl [0, 1, 2, 3, 4, 5] rfl) hf
  unfold f_X11_work_0 at hf
  refine lv_iconst (v := (0 : Int32)) hx hb dX11_work_0 (by decide) ?_
  refine lv_istore (lv' := [(7, .int (0 : Int32)), (0, .ref (a 0)), (1, .int p1), (2, .long p2), (4, .int p4), (5, .long p5)]) hx hb dX11_work_1 hl (by decide) rfl (fun ls hl => ?_)
  exact hL3 N p1 p2 p4 p5 (0 : Int32) σ _ _ _ hP hS (lv_sub hl [1, 2, 3, 4, 5, 0] rfl) hf
noncomputable def f_X11_workFault_0_J78 (N : Nat) (y3 : Int32) (y4 : Int32) (z0 : Int64) (σ : fd_St) : Option (Unit × fd_St) := fd_bd (f_X11_work_0 N y3 z0 y4 z0 σ) (fun _ σ11 => some ((), σ11))
noncomputable def f_X11_workFault_0_J19 (N : Nat) (y2 : Int32) (z1 : Int32) (z2 : Int64) (σ : fd_St) : Option (Unit × fd_St) := fd_bd (f_X11_work_0 N z1 z2 y2 (0 : Int64) σ) (fun _ σ19 => some ((), σ19))
noncomputable def f_X11_workFault_0 (N : Nat) (p1 : Int32) (p2 : Int32) (σ : fd_St) : Option (Unit × fd_St) := if (2 : Int32) ≤ p1 then (fd_gd (vp_in p2 40) (fd_lt (σ.2.1 7 p2.toNatClampNeg) (fun x3 => fd_gd (vp_in p2 40) (fd_lt (σ.2.1 8 p2.toNatClampNeg) (fun x5 => if p1 = (2 : Int32) then (fd_gd (vp_in x3 200) (fd_gd (vp_in x5 200) (f_X11_workFault_0_J78 N x3 x5 ((σ.2.2 9 x3.toNatClampNeg) &&& (σ.2.2 9 x5.toNatClampNeg)) σ))) else (fd_gd (vp_in x3 200) (fd_gd (vp_in x5 200) (f_X11_workFault_0_J78 N x3 x5 ((σ.2.2 9 x3.toNatClampNeg) ||| (σ.2.2 9 x5.toNatClampNeg)) σ)))))))) else (if p1 = (1 : Int32) then (f_X11_workFault_0_J19 N p2 p2 (-1 : Int64) σ) else (f_X11_workFault_0_J19 N p2 p2 (0 : Int64) σ))
set_option maxHeartbeats 4000000 in
set_option maxRecDepth 100000 in
theorem m_X11_workFault_0 (l : Launch) (D : va_G) (a : Nat → Nat) (k : Nat → ClassId) (sz : Nat) (hI : fd_I 29 a) (N : Nat) (p1 : Int32) (p2 : Int32) (σ : fd_St) (r : Unit × fd_St) (hf : f_X11_workFault_0 N p1 p2 σ = some r) : Met l yX11_workFault wsX11_workFault ({ frames := 3, cells := 0, slots := 0, locals := 75 }) (va_Pc [.ref (a 0), .int p1, .int p2] (fd_PM D a k sz σ)) (va_Qv (fun u => ((), u) = r) (fd_BM D a k) (fd_A 29 a sz)) 0 0 (fd_A 29 a sz) := by
  refine Met.ofW (cc := cX11_workFault) (maxL := 7) (ret := none) (by decide) rfl ?_
  intro p e s m args below meth c s₁ B hml hv
  obtain ⟨rfl, hsz, hP, hK⟩ := hv
  have hx := B.exec
  have hb := B.bytes
  have hr := B.returns
  have hts := atoms_spec (ws := wsX11_workFault) B.pre
  have hown : s.vm.findClass RX11 = some m.cls := findClass_of_methodNamed B.named
  have hlocks := B.notSynchronized
  subst hsz
  have hJ : ∀ i, i < 29 → fd_A 29 a s.heap.size (a i) := fun i hi => Or.inl ⟨i, hi, rfl⟩
  have hS : va_S (fd_A 29 a s.heap.size) s.heap s.heap [] := va_S.rf
  have hl := lv_entry ([.ref (a 0), .int p1, .int p2]) (n := 7) (Nat.le_of_ble_eq_true rfl)
  rw [lg_entry_eq]
  generalize (lg_sl ([.ref (a 0), .int p1, .int p2]) ++ List.replicate (7 - (lg_sl ([.ref (a 0), .int p1, .int p2])).length) Slot.unset).toArray = ls at hl ⊢
  have hl : lv_has ls 7 [(0, .ref (a 0)), (1, .int p1), (2, .int p2)] := hl
  have h9X11 : ∀ w ∈ u_ws RX11 TX11 43, w ∈ wsX11_workFault := fd_su [28, 29, 30, 31, 32, 33, 34, 35, 36, 37, 38, 39, 40, 41, 42, 43, 44, 45, 46, 47, 48, 49, 50, 51, 52, 53, 54, 55, 56, 57, 58, 59, 60, 61, 62, 63, 64, 65, 66, 67, 68, 69, 70] (by eq_refl)
  have hL78 : ∀ (y3 : Int32) (y4 : Int32) (z0 : Int64) (σ : fd_St) (H : Heap) (locs : List Loc) (ls : Array Slot), va_P D vwCl (fd_WM a k σ) H → va_S (fd_A 29 a s.heap.size) s.heap H locs → lv_has ls 7 [(0, .ref (a 0)), (3, .int y3), (4, .int y4)] → f_X11_workFault_0_J78 N y3 y4 z0 σ = some r → W p l e ((headSpec wsX11_workFault ({ frames := 3, cells := 0, slots := 0, locals := 75 })).room) s m ([.ref (a 0), .int p1, .int p2].toArray) below meth c H locs 0 0 (MQ below (va_Qv (fun u => ((), u) = r) (fd_BM D a k) (fd_A 29 a s.heap.size)) ([.ref (a 0), .int p1, .int p2].toArray) s 0 0 (fd_A 29 a s.heap.size)) (F0 m 78 ls [.long z0]) := by
    intro y3 y4 z0 σ H locs ls hP hS hl hf
    unfold f_X11_workFault_0_J78 at hf
    refine lv_lstore (lv' := [(5, .long z0), (0, .ref (a 0)), (3, .int y3), (4, .int y4)]) hx hb dX11_workFault_78 hl (by decide) rfl (fun ls hl => ?_)
    refine lv_aload_n hx hb dX11_workFault_80 rfl (lv_at hl 1 rfl) ?_
    refine lv_iload_n hx hb dX11_workFault_81 rfl (lv_at hl 2 rfl) ?_
    refine lv_lload hx hb dX11_workFault_82 (lv_at hl 0 rfl) ?_
    refine lv_iload hx hb dX11_workFault_84 (lv_at hl 3 rfl) ?_
    refine lv_lload hx hb dX11_workFault_86 (lv_at hl 0 rfl) ?_
    obtain ⟨w12, τ13, hc9, hf⟩ := fd_bds hf
    refine va_callv (va_runV (As := [.int y3, .long z0, .int y4, .long z0]) (rest := []) ⟨hx, hb, hml, hown, hts⟩ (m_X11_work_0 l D a k H.size hI N y3 z0 y4 z0 σ _ hc9) (cwV 4 hts gX11_workFault_X11_work rfl rfl rfl (by decide +kernel) ⟨Nat.le_of_ble_eq_true rfl, Nat.le_of_ble_eq_true rfl⟩) ⟨fd_blM, va_recv hK hP (ci := 11) (q0 := 0) rfl fd_WM_0, fd_prM hP hK⟩ rfl rfl hl.1 rfl (lv_room (Nat.le_of_ble_eq_true rfl)) dX11_workFault_88 ⟨Nat.zero_le _, Nat.zero_le _⟩) hS (fun q _ h => fd_A_mono hS.1 h) (fun q h => fd_A_mono hS.1 h) (fun u t H1 locs ht hvm hw hB hz hk hS => ?_)
    obtain ⟨hP1, hK1⟩ := hB
    rw [ht] at hP1
    have e2 := (Prod.mk.inj hw).2
    subst e2
    obtain ⟨σ11, rfl⟩ : ∃ z, z = u := ⟨_, rfl⟩
    have hP := hP1
    generalize H1 = H at hP hS ⊢
    exact W.vret hx hb hr (fun t ht hW => ⟨⟨σ11, rfl, Option.some.inj hf, by rw [ht]; exact hP, va_K.moved hW.alike hK⟩, hS.F ht⟩) hS.2.2 dX11_workFault_91
  have hL19 : ∀ (y2 : Int32) (z1 : Int32) (z2 : Int64) (σ : fd_St) (H : Heap) (locs : List Loc) (ls : Array Slot), va_P D vwCl (fd_WM a k σ) H → va_S (fd_A 29 a s.heap.size) s.heap H locs → lv_has ls 7 [(2, .int y2)] → f_X11_workFault_0_J19 N y2 z1 z2 σ = some r → W p l e ((headSpec wsX11_workFault ({ frames := 3, cells := 0, slots := 0, locals := 75 })).room) s m ([.ref (a 0), .int p1, .int p2].toArray) below meth c H locs 0 0 (MQ below (va_Qv (fun u => ((), u) = r) (fd_BM D a k) (fd_A 29 a s.heap.size)) ([.ref (a 0), .int p1, .int p2].toArray) s 0 0 (fd_A 29 a s.heap.size)) (F0 m 19 ls [.long z2, .int z1, .ref (a 0)]) := by
    intro y2 z1 z2 σ H locs ls hP hS hl hf
    unfold f_X11_workFault_0_J19 at hf
    refine lv_iload_n hx hb dX11_workFault_19 rfl (lv_at hl 0 rfl) ?_
    refine lv_lconst (v := (0 : Int64)) hx hb dX11_workFault_20 (by decide) ?_
    obtain ⟨w20, τ21, hc17, hf⟩ := fd_bds hf
    refine va_callv (va_runV (As := [.int z1, .long z2, .int y2, .long (0 : Int64)]) (rest := []) ⟨hx, hb, hml, hown, hts⟩ (m_X11_work_0 l D a k H.size hI N z1 z2 y2 (0 : Int64) σ _ hc17) (cwV 4 hts gX11_workFault_X11_work rfl rfl rfl (by decide +kernel) ⟨Nat.le_of_ble_eq_true rfl, Nat.le_of_ble_eq_true rfl⟩) ⟨fd_blM, va_recv hK hP (ci := 11) (q0 := 0) rfl fd_WM_0, fd_prM hP hK⟩ rfl rfl hl.1 rfl (lv_room (Nat.le_of_ble_eq_true rfl)) dX11_workFault_21 ⟨Nat.zero_le _, Nat.zero_le _⟩) hS (fun q _ h => fd_A_mono hS.1 h) (fun q h => fd_A_mono hS.1 h) (fun u t H1 locs ht hvm hw hB hz hk hS => ?_)
    obtain ⟨hP1, hK1⟩ := hB
    rw [ht] at hP1
    have e2 := (Prod.mk.inj hw).2
    subst e2
    obtain ⟨σ19, rfl⟩ : ∃ z, z = u := ⟨_, rfl⟩
    have hP := hP1
    generalize H1 = H at hP hS ⊢
    refine lv_goto (tgt := 91) hx hb dX11_workFault_24 (by decide) ?_
    exact W.vret hx hb hr (fun t ht hW => ⟨⟨σ19, rfl, Option.some.inj hf, by rw [ht]; exact hP, va_K.moved hW.alike hK⟩, hS.F ht⟩) hS.2.2 dX11_workFault_91
  unfold f_X11_workFault_0 at hf
  refine lv_iload_n hx hb dX11_workFault_0 rfl (lv_at hl 1 rfl) ?_
  refine lv_iconst (v := (2 : Int32)) hx hb dX11_workFault_1 (by decide) ?_
  refine lv_icmp_ge (tgt := 27) hx hb dX11_workFault_2 (by decide) (fun c1 => ?_) (fun c1 => ?_)
  · have hf := fd_itp c1 hf
    refine lv_aload_n hx hb dX11_workFault_27 rfl (lv_at hl 0 rfl) ?_
    refine va_get (ci := 11) (v := .ref (a 7)) (C := RX11) (T := TX11) (N := 43) hx hb hts h9X11 hown hK hP 0 fd_WM_0 rfl 12 (by decide) (hts (.fieldLink RX11 29 "FailDiagnoseModel" "pairA" "[I") (List.mem_of_getElem? (i := 2) (by eq_refl))) (fun _ h9 => h9) rfl dX11_workFault_28 ?_
    refine lv_iload_n hx hb dX11_workFault_31 rfl (lv_at hl 2 rfl) ?_
    obtain ⟨g2, hf⟩ := fd_gds hf
    refine va_iald hx hb hK hP 7 6 fd_WM_7 fd_tyM_7 g2 dX11_workFault_32 ?_
    obtain ⟨x3, ex3, hf⟩ := fd_lts hf
    refine fd_ni ex3 ?_
    refine lv_istore_n (lv' := [(3, .int x3), (0, .ref (a 0)), (1, .int p1), (2, .int p2)]) hx hb dX11_workFault_33 rfl hl (by decide) rfl (fun ls hl => ?_)
    refine lv_aload_n hx hb dX11_workFault_34 rfl (lv_at hl 1 rfl) ?_
    refine va_get (ci := 11) (v := .ref (a 8)) (C := RX11) (T := TX11) (N := 43) hx hb hts h9X11 hown hK hP 0 fd_WM_0 rfl 13 (by decide) (hts (.fieldLink RX11 32 "FailDiagnoseModel" "pairB" "[I") (List.mem_of_getElem? (i := 3) (by eq_refl))) (fun _ h9 => h9) rfl dX11_workFault_35 ?_
    refine lv_iload_n hx hb dX11_workFault_38 rfl (lv_at hl 3 rfl) ?_
    obtain ⟨g4, hf⟩ := fd_gds hf
    refine va_iald hx hb hK hP 8 7 fd_WM_8 fd_tyM_8 g4 dX11_workFault_39 ?_
    obtain ⟨x5, ex5, hf⟩ := fd_lts hf
    refine fd_ni ex5 ?_
    refine lv_istore (lv' := [(4, .int x5), (3, .int x3), (0, .ref (a 0)), (1, .int p1), (2, .int p2)]) hx hb dX11_workFault_40 hl (by decide) rfl (fun ls hl => ?_)
    refine lv_iload_n hx hb dX11_workFault_42 rfl (lv_at hl 3 rfl) ?_
    refine lv_iconst (v := (2 : Int32)) hx hb dX11_workFault_43 (by decide) ?_
    refine lv_icmp_ne (tgt := 64) hx hb dX11_workFault_44 (by decide) (fun c6 => ?_) (fun c6 => ?_)
    · have hf := fd_itn c6 hf
      refine lv_aload_n hx hb dX11_workFault_64 rfl (lv_at hl 2 rfl) ?_
      refine va_get (ci := 11) (v := .ref (a 9)) (C := RX11) (T := TX11) (N := 43) hx hb hts h9X11 hown hK hP 0 fd_WM_0 rfl 14 (by decide) (hts (.fieldLink RX11 35 "FailDiagnoseModel" "plain" "[J") (List.mem_of_getElem? (i := 4) (by eq_refl))) (fun _ h9 => h9) rfl dX11_workFault_65 ?_
      refine lv_iload_n hx hb dX11_workFault_68 rfl (lv_at hl 1 rfl) ?_
      obtain ⟨g7, hf⟩ := fd_gds hf
      refine va_lald hx hb hK hP 9 8 fd_WM_9 fd_tyM_9 g7 dX11_workFault_69 ?_
      refine lv_aload_n hx hb dX11_workFault_70 rfl (lv_at hl 2 rfl) ?_
      refine va_get (ci := 11) (v := .ref (a 9)) (C := RX11) (T := TX11) (N := 43) hx hb hts h9X11 hown hK hP 0 fd_WM_0 rfl 14 (by decide) (hts (.fieldLink RX11 35 "FailDiagnoseModel" "plain" "[J") (List.mem_of_getElem? (i := 4) (by eq_refl))) (fun _ h9 => h9) rfl dX11_workFault_71 ?_
      refine lv_iload hx hb dX11_workFault_74 (lv_at hl 0 rfl) ?_
      obtain ⟨g8, hf⟩ := fd_gds hf
      refine va_lald hx hb hK hP 9 8 fd_WM_9 fd_tyM_9 g8 dX11_workFault_76 ?_
      refine lv_lor hx hb dX11_workFault_77 ?_
      exact hL78 x3 x5 ((σ.2.2 9 x3.toNatClampNeg) ||| (σ.2.2 9 x5.toNatClampNeg)) σ _ _ _ hP hS (lv_sub hl [2, 1, 0] rfl) hf
    · have hf := fd_itp c6 hf
      refine lv_aload_n hx hb dX11_workFault_47 rfl (lv_at hl 2 rfl) ?_
      refine va_get (ci := 11) (v := .ref (a 9)) (C := RX11) (T := TX11) (N := 43) hx hb hts h9X11 hown hK hP 0 fd_WM_0 rfl 14 (by decide) (hts (.fieldLink RX11 35 "FailDiagnoseModel" "plain" "[J") (List.mem_of_getElem? (i := 4) (by eq_refl))) (fun _ h9 => h9) rfl dX11_workFault_48 ?_
      refine lv_iload_n hx hb dX11_workFault_51 rfl (lv_at hl 1 rfl) ?_
      obtain ⟨g14, hf⟩ := fd_gds hf
      refine va_lald hx hb hK hP 9 8 fd_WM_9 fd_tyM_9 g14 dX11_workFault_52 ?_
      refine lv_aload_n hx hb dX11_workFault_53 rfl (lv_at hl 2 rfl) ?_
      refine va_get (ci := 11) (v := .ref (a 9)) (C := RX11) (T := TX11) (N := 43) hx hb hts h9X11 hown hK hP 0 fd_WM_0 rfl 14 (by decide) (hts (.fieldLink RX11 35 "FailDiagnoseModel" "plain" "[J") (List.mem_of_getElem? (i := 4) (by eq_refl))) (fun _ h9 => h9) rfl dX11_workFault_54 ?_
      refine lv_iload hx hb dX11_workFault_57 (lv_at hl 0 rfl) ?_
      obtain ⟨g15, hf⟩ := fd_gds hf
      refine va_lald hx hb hK hP 9 8 fd_WM_9 fd_tyM_9 g15 dX11_workFault_59 ?_
      refine lv_land hx hb dX11_workFault_60 ?_
      refine lv_goto (tgt := 78) hx hb dX11_workFault_61 (by decide) ?_
      exact hL78 x3 x5 ((σ.2.2 9 x3.toNatClampNeg) &&& (σ.2.2 9 x5.toNatClampNeg)) σ _ _ _ hP hS (lv_sub hl [2, 1, 0] rfl) hf
  · have hf := fd_itn c1 hf
    refine lv_aload_n hx hb dX11_workFault_5 rfl (lv_at hl 0 rfl) ?_
    refine lv_iload_n hx hb dX11_workFault_6 rfl (lv_at hl 2 rfl) ?_
    refine lv_iload_n hx hb dX11_workFault_7 rfl (lv_at hl 1 rfl) ?_
    refine lv_iconst (v := (1 : Int32)) hx hb dX11_workFault_8 (by decide) ?_
    refine lv_icmp_ne (tgt := 18) hx hb dX11_workFault_9 (by decide) (fun c16 => ?_) (fun c16 => ?_)
    · have hf := fd_itn c16 hf
      refine lv_lconst (v := (0 : Int64)) hx hb dX11_workFault_18 (by decide) ?_
      exact hL19 p2 p2 (0 : Int64) σ _ _ _ hP hS (lv_sub hl [2] rfl) hf
    · have hf := fd_itp c16 hf
      refine lv_ldc2 hx hb hown (hts (.constantLong RX11 129 (-1)) (List.mem_of_getElem? (i := 1) (by eq_refl))) dX11_workFault_12 ?_
      refine lv_goto (tgt := 19) hx hb dX11_workFault_15 (by decide) ?_
      exact hL19 p2 p2 (-1 : Int64) σ _ _ _ hP hS (lv_sub hl [2] rfl) hf
noncomputable def f_X11_shows_0_J70 (N : Nat) (y1 : Int32) (y2 : Int32) (y3 : Int32) (z1 : Int32) (σ : fd_St) : Option (Int64 × fd_St) := fd_lt (fd_sI 0 z1 σ) (fun σ9 => if (σ9.1 0) ≤ 0 then (fd_bd (f_X11_workPlain_0 N σ9) (fun _ σ13 => fd_bd (f_X11_workFault_0 N y1 y2 σ13) (fun _ σ18 => fd_gd (vp_in y3 32) (fd_gd (vp_in (σ18.2.1 5 y3.toNatClampNeg) 200) (fd_gd (vp_in y3 32) (fd_gd (vp_in (σ18.2.1 5 y3.toNatClampNeg) 200) (some ((σ18.2.2 9 (σ18.2.1 5 y3.toNatClampNeg).toNatClampNeg) ^^^ (σ18.2.2 10 (σ18.2.1 5 y3.toNatClampNeg).toNatClampNeg), σ18)))))))) else (some ((0 : Int64), σ9)))
noncomputable def f_X11_shows_0_J69 (N : Nat) (y1 : Int32) (y2 : Int32) (y3 : Int32) (σ : fd_St) : Option (Int64 × fd_St) := f_X11_shows_0_J70 N y1 y2 y3 (1 : Int32) σ
noncomputable def f_X11_shows_0_J46 (N : Nat) (y1 : Int32) (y2 : Int32) (y3 : Int32) (z0 : Int32) (σ : fd_St) : Option (Int64 × fd_St) := if z0 = 0 then (f_X11_shows_0_J69 N y1 y2 y3 σ) else (fd_bd (f_X11_isIn N y3 (σ.1 3) σ) (fun v26 σ27 => if v26 = 0 then (f_X11_shows_0_J69 N y1 y2 y3 σ27) else (f_X11_shows_0_J70 N y1 y2 y3 (0 : Int32) σ27)))
noncomputable def f_X11_shows_0_J41 (N : Nat) (y1 : Int32) (y2 : Int32) (y3 : Int32) (σ : fd_St) : Option (Int64 × fd_St) := f_X11_shows_0_J46 N y1 y2 y3 (1 : Int32) σ
noncomputable def f_X11_shows_0_J45 (N : Nat) (y1 : Int32) (y2 : Int32) (y3 : Int32) (σ : fd_St) : Option (Int64 × fd_St) := f_X11_shows_0_J46 N y1 y2 y3 (0 : Int32) σ
noncomputable def f_X11_shows_0_J30 (N : Nat) (y1 : Int32) (y2 : Int32) (y3 : Int32) (σ : fd_St) : Option (Int64 × fd_St) := fd_bd (f_X11_isIn N y2 (σ.1 5) σ) (fun v33 σ34 => if v33 = 0 then (f_X11_shows_0_J45 N y1 y2 y3 σ34) else (f_X11_shows_0_J41 N y1 y2 y3 σ34))
noncomputable def f_X11_shows_0_J20 (N : Nat) (y1 : Int32) (y2 : Int32) (y3 : Int32) (σ : fd_St) : Option (Int64 × fd_St) := if y1 = (2 : Int32) then (f_X11_shows_0_J30 N y1 y2 y3 σ) else (if y1 = (3 : Int32) then (f_X11_shows_0_J30 N y1 y2 y3 σ) else (f_X11_shows_0_J45 N y1 y2 y3 σ))
noncomputable def f_X11_shows_0_J9 (N : Nat) (y1 : Int32) (y2 : Int32) (y3 : Int32) (σ : fd_St) : Option (Int64 × fd_St) := fd_bd (f_X11_isIn N y2 (σ.1 1) σ) (fun v3 σ4 => if v3 = 0 then (f_X11_shows_0_J20 N y1 y2 y3 σ4) else (f_X11_shows_0_J41 N y1 y2 y3 σ4))
noncomputable def f_X11_shows_0 (N : Nat) (p1 : Int32) (p2 : Int32) (p3 : Int32) (σ : fd_St) : Option (Int64 × fd_St) := if p1 = 0 then (f_X11_shows_0_J9 N p1 p2 p3 σ) else (if p1 = (1 : Int32) then (f_X11_shows_0_J9 N p1 p2 p3 σ) else (f_X11_shows_0_J20 N p1 p2 p3 σ))
set_option maxHeartbeats 4000000 in
set_option maxRecDepth 100000 in
theorem m_X11_shows_0 (l : Launch) (D : va_G) (a : Nat → Nat) (k : Nat → ClassId) (sz : Nat) (hI : fd_I 29 a) (N : Nat) (p1 : Int32) (p2 : Int32) (p3 : Int32) (σ : fd_St) (r : Int64 × fd_St) (hf : f_X11_shows_0 N p1 p2 p3 σ = some r) : Met l yX11_shows wsX11_shows ({ frames := 4, cells := 0, slots := 0, locals := 101 }) (va_Pc [.ref (a 0), .int p1, .int p2, .int p3] (fd_PM D a k sz σ)) (va_Ql (fun v u => (v, u) = r) (fd_BM D a k) (fd_A 29 a sz)) 0 0 (fd_A 29 a sz) := by
  refine Met.ofW (cc := cX11_shows) (maxL := 5) (ret := (some .long)) (by decide) rfl ?_
  intro p e s m args below meth c s₁ B hml hv
  obtain ⟨rfl, hsz, hP, hK⟩ := hv
  have hx := B.exec
  have hb := B.bytes
  have hr := B.returns
  have hts := atoms_spec (ws := wsX11_shows) B.pre
  have hown : s.vm.findClass RX11 = some m.cls := findClass_of_methodNamed B.named
  have hlocks := B.notSynchronized
  subst hsz
  have hJ : ∀ i, i < 29 → fd_A 29 a s.heap.size (a i) := fun i hi => Or.inl ⟨i, hi, rfl⟩
  have hS : va_S (fd_A 29 a s.heap.size) s.heap s.heap [] := va_S.rf
  have hl := lv_entry ([.ref (a 0), .int p1, .int p2, .int p3]) (n := 5) (Nat.le_of_ble_eq_true rfl)
  rw [lg_entry_eq]
  generalize (lg_sl ([.ref (a 0), .int p1, .int p2, .int p3]) ++ List.replicate (5 - (lg_sl ([.ref (a 0), .int p1, .int p2, .int p3])).length) Slot.unset).toArray = ls at hl ⊢
  have hl : lv_has ls 5 [(0, .ref (a 0)), (1, .int p1), (2, .int p2), (3, .int p3)] := hl
  have h9X11 : ∀ w ∈ u_ws RX11 TX11 43, w ∈ wsX11_shows := fd_su [43, 44, 45, 46, 47, 48, 49, 50, 51, 52, 53, 54, 55, 56, 57, 58, 59, 60, 61, 62, 63, 64, 65, 66, 67, 68, 69, 70, 71, 72, 73, 74, 75, 76, 77, 78, 79, 80, 81, 82, 83, 84, 85] (by eq_refl)
  have hL70 : ∀ (y1 : Int32) (y2 : Int32) (y3 : Int32) (z1 : Int32) (σ : fd_St) (H : Heap) (locs : List Loc) (ls : Array Slot), va_P D vwCl (fd_WM a k σ) H → va_S (fd_A 29 a s.heap.size) s.heap H locs → lv_has ls 5 [(0, .ref (a 0)), (1, .int y1), (2, .int y2), (3, .int y3)] → f_X11_shows_0_J70 N y1 y2 y3 z1 σ = some r → W p l e ((headSpec wsX11_shows ({ frames := 4, cells := 0, slots := 0, locals := 101 })).room) s m ([.ref (a 0), .int p1, .int p2, .int p3].toArray) below meth c H locs 0 0 (MQ below (va_Ql (fun v u => (v, u) = r) (fd_BM D a k) (fd_A 29 a s.heap.size)) ([.ref (a 0), .int p1, .int p2, .int p3].toArray) s 0 0 (fd_A 29 a s.heap.size)) (F0 m 70 ls [.int z1, .ref (a 0)]) := by
    intro y1 y2 y3 z1 σ H locs ls hP hS hl hf
    unfold f_X11_shows_0_J70 at hf
    obtain ⟨σ9, eσ9, hf⟩ := fd_lts hf
    refine va_put (ci := 11) (v := .int z1) (ty := .int) (C := RX11) (T := TX11) (N := 43) hx hb hts h9X11 tyX11 tyX11_ok nmX11 hown hK hP (fd_DM hI hJ) hS 0 fd_WM_0 rfl 0 (by decide) (hts (.fieldLink RX11 99 "FailDiagnoseModel" "thrown" "I") (List.mem_of_getElem? (i := 4) (by eq_refl))) (fun _ h9 => h9) rfl (by decide +kernel) rfl rfl (Nat.le_of_ble_eq_true rfl) dX11_shows_70 (fun H locs hP _ hS => ?_)
    have hP : va_P D vwCl (fd_WM a k σ9) H := by rw [eσ9]; exact fd_sP fd_WMi_0 hP
    refine lv_aload_n hx hb dX11_shows_73 rfl (lv_at hl 0 rfl) ?_
    refine va_get (ci := 11) (v := .int (σ9.1 0)) (C := RX11) (T := TX11) (N := 43) hx hb hts h9X11 hown hK hP 0 fd_WM_0 rfl 0 (by decide) (hts (.fieldLink RX11 99 "FailDiagnoseModel" "thrown" "I") (List.mem_of_getElem? (i := 4) (by eq_refl))) (fun _ h9 => h9) rfl dX11_shows_74 ?_
    refine lv_if_le (tgt := 82) hx hb dX11_shows_77 (by decide) (fun c10 => ?_) (fun c10 => ?_)
    · have hf := fd_itp c10 hf
      refine lv_aload_n hx hb dX11_shows_82 rfl (lv_at hl 0 rfl) ?_
      obtain ⟨w14, τ15, hc11, hf⟩ := fd_bds hf
      refine va_callv (va_runV (As := []) (rest := []) ⟨hx, hb, hml, hown, hts⟩ (m_X11_workPlain_0 l D a k H.size hI N σ9 _ hc11) (cwV 0 hts gX11_shows_X11_workPlain rfl rfl rfl (by decide +kernel) ⟨Nat.le_of_ble_eq_true rfl, Nat.le_of_ble_eq_true rfl⟩) ⟨fd_blM, va_recv hK hP (ci := 11) (q0 := 0) rfl fd_WM_0, fd_prM hP hK⟩ rfl rfl hl.1 rfl (lv_room (Nat.le_of_ble_eq_true rfl)) dX11_shows_83 ⟨Nat.zero_le _, Nat.zero_le _⟩) hS (fun q _ h => fd_A_mono hS.1 h) (fun q h => fd_A_mono hS.1 h) (fun u t H1 locs ht hvm hw hB hz hk hS => ?_)
      obtain ⟨hP1, hK1⟩ := hB
      rw [ht] at hP1
      have e2 := (Prod.mk.inj hw).2
      subst e2
      obtain ⟨σ13, rfl⟩ : ∃ z, z = u := ⟨_, rfl⟩
      have hP := hP1
      generalize H1 = H at hP hS ⊢
      refine lv_aload_n hx hb dX11_shows_86 rfl (lv_at hl 0 rfl) ?_
      refine lv_iload_n hx hb dX11_shows_87 rfl (lv_at hl 1 rfl) ?_
      refine lv_iload_n hx hb dX11_shows_88 rfl (lv_at hl 2 rfl) ?_
      obtain ⟨w19, τ20, hc16, hf⟩ := fd_bds hf
      refine va_callv (va_runV (As := [.int y1, .int y2]) (rest := []) ⟨hx, hb, hml, hown, hts⟩ (m_X11_workFault_0 l D a k H.size hI N y1 y2 σ13 _ hc16) (cwV 2 hts gX11_shows_X11_workFault rfl rfl rfl (by decide +kernel) ⟨Nat.le_of_ble_eq_true rfl, Nat.le_of_ble_eq_true rfl⟩) ⟨fd_blM, va_recv hK hP (ci := 11) (q0 := 0) rfl fd_WM_0, fd_prM hP hK⟩ rfl rfl hl.1 rfl (lv_room (Nat.le_of_ble_eq_true rfl)) dX11_shows_89 ⟨Nat.zero_le _, Nat.zero_le _⟩) hS (fun q _ h => fd_A_mono hS.1 h) (fun q h => fd_A_mono hS.1 h) (fun u t H1 locs ht hvm hw hB hz hk hS => ?_)
      obtain ⟨hP1, hK1⟩ := hB
      rw [ht] at hP1
      have e2 := (Prod.mk.inj hw).2
      subst e2
      obtain ⟨σ18, rfl⟩ : ∃ z, z = u := ⟨_, rfl⟩
      have hP := hP1
      generalize H1 = H at hP hS ⊢
      refine lv_aload_n hx hb dX11_shows_92 rfl (lv_at hl 0 rfl) ?_
      refine va_get (ci := 11) (v := .ref (a 9)) (C := RX11) (T := TX11) (N := 43) hx hb hts h9X11 hown hK hP 0 fd_WM_0 rfl 14 (by decide) (hts (.fieldLink RX11 35 "FailDiagnoseModel" "plain" "[J") (List.mem_of_getElem? (i := 5) (by eq_refl))) (fun _ h9 => h9) rfl dX11_shows_93 ?_
      refine lv_aload_n hx hb dX11_shows_96 rfl (lv_at hl 0 rfl) ?_
      refine va_get (ci := 11) (v := .ref (a 5)) (C := RX11) (T := TX11) (N := 43) hx hb hts h9X11 hown hK hP 0 fd_WM_0 rfl 8 (by decide) (hts (.fieldLink RX11 23 "FailDiagnoseModel" "outputNets" "[I") (List.mem_of_getElem? (i := 6) (by eq_refl))) (fun _ h9 => h9) rfl dX11_shows_97 ?_
      refine lv_iload_n hx hb dX11_shows_100 rfl (lv_at hl 3 rfl) ?_
      obtain ⟨g21, hf⟩ := fd_gds hf
      refine va_iald hx hb hK hP 5 4 fd_WM_5 fd_tyM_5 g21 dX11_shows_101 ?_
      obtain ⟨g22, hf⟩ := fd_gds hf
      refine va_lald hx hb hK hP 9 8 fd_WM_9 fd_tyM_9 g22 dX11_shows_102 ?_
      refine lv_aload_n hx hb dX11_shows_103 rfl (lv_at hl 0 rfl) ?_
      refine va_get (ci := 11) (v := .ref (a 10)) (C := RX11) (T := TX11) (N := 43) hx hb hts h9X11 hown hK hP 0 fd_WM_0 rfl 15 (by decide) (hts (.fieldLink RX11 38 "FailDiagnoseModel" "faulty" "[J") (List.mem_of_getElem? (i := 7) (by eq_refl))) (fun _ h9 => h9) rfl dX11_shows_104 ?_
      refine lv_aload_n hx hb dX11_shows_107 rfl (lv_at hl 0 rfl) ?_
      refine va_get (ci := 11) (v := .ref (a 5)) (C := RX11) (T := TX11) (N := 43) hx hb hts h9X11 hown hK hP 0 fd_WM_0 rfl 8 (by decide) (hts (.fieldLink RX11 23 "FailDiagnoseModel" "outputNets" "[I") (List.mem_of_getElem? (i := 6) (by eq_refl))) (fun _ h9 => h9) rfl dX11_shows_108 ?_
      refine lv_iload_n hx hb dX11_shows_111 rfl (lv_at hl 3 rfl) ?_
      obtain ⟨g23, hf⟩ := fd_gds hf
      refine va_iald hx hb hK hP 5 4 fd_WM_5 fd_tyM_5 g23 dX11_shows_112 ?_
      obtain ⟨g24, hf⟩ := fd_gds hf
      refine va_lald hx hb hK hP 10 9 fd_WM_10 fd_tyM_10 g24 dX11_shows_113 ?_
      refine lv_lxor hx hb dX11_shows_114 ?_
      exact W.lret (v := ((σ18.2.2 9 (σ18.2.1 5 y3.toNatClampNeg).toNatClampNeg) ^^^ (σ18.2.2 10 (σ18.2.1 5 y3.toNatClampNeg).toNatClampNeg))) hx hb hr (fun t ht hW => ⟨⟨(σ18.2.2 9 (σ18.2.1 5 y3.toNatClampNeg).toNatClampNeg) ^^^ (σ18.2.2 10 (σ18.2.1 5 y3.toNatClampNeg).toNatClampNeg), σ18, rfl, Option.some.inj hf, by rw [ht]; exact hP, va_K.moved hW.alike hK⟩, hS.F ht⟩) hS.2.2 dX11_shows_115
    · have hf := fd_itn c10 hf
      refine lv_lconst (v := (0 : Int64)) hx hb dX11_shows_80 (by decide) ?_
      exact W.lret (v := (0 : Int64)) hx hb hr (fun t ht hW => ⟨⟨(0 : Int64), σ9, rfl, Option.some.inj hf, by rw [ht]; exact hP, va_K.moved hW.alike hK⟩, hS.F ht⟩) hS.2.2 dX11_shows_81
  have hL69 : ∀ (y1 : Int32) (y2 : Int32) (y3 : Int32) (σ : fd_St) (H : Heap) (locs : List Loc) (ls : Array Slot), va_P D vwCl (fd_WM a k σ) H → va_S (fd_A 29 a s.heap.size) s.heap H locs → lv_has ls 5 [(0, .ref (a 0)), (1, .int y1), (2, .int y2), (3, .int y3)] → f_X11_shows_0_J69 N y1 y2 y3 σ = some r → W p l e ((headSpec wsX11_shows ({ frames := 4, cells := 0, slots := 0, locals := 101 })).room) s m ([.ref (a 0), .int p1, .int p2, .int p3].toArray) below meth c H locs 0 0 (MQ below (va_Ql (fun v u => (v, u) = r) (fd_BM D a k) (fd_A 29 a s.heap.size)) ([.ref (a 0), .int p1, .int p2, .int p3].toArray) s 0 0 (fd_A 29 a s.heap.size)) (F0 m 69 ls [.ref (a 0)]) := by
    intro y1 y2 y3 σ H locs ls hP hS hl hf
    unfold f_X11_shows_0_J69 at hf
    refine lv_iconst (v := (1 : Int32)) hx hb dX11_shows_69 (by decide) ?_
    exact hL70 y1 y2 y3 (1 : Int32) σ _ _ _ hP hS (lv_sub hl [0, 1, 2, 3] rfl) hf
  have hL46 : ∀ (y1 : Int32) (y2 : Int32) (y3 : Int32) (z0 : Int32) (σ : fd_St) (H : Heap) (locs : List Loc) (ls : Array Slot), va_P D vwCl (fd_WM a k σ) H → va_S (fd_A 29 a s.heap.size) s.heap H locs → lv_has ls 5 [(0, .ref (a 0)), (1, .int y1), (2, .int y2), (3, .int y3)] → f_X11_shows_0_J46 N y1 y2 y3 z0 σ = some r → W p l e ((headSpec wsX11_shows ({ frames := 4, cells := 0, slots := 0, locals := 101 })).room) s m ([.ref (a 0), .int p1, .int p2, .int p3].toArray) below meth c H locs 0 0 (MQ below (va_Ql (fun v u => (v, u) = r) (fd_BM D a k) (fd_A 29 a s.heap.size)) ([.ref (a 0), .int p1, .int p2, .int p3].toArray) s 0 0 (fd_A 29 a s.heap.size)) (F0 m 46 ls [.int z0]) := by
    intro y1 y2 y3 z0 σ H locs ls hP hS hl hf
    unfold f_X11_shows_0_J46 at hf
    refine lv_istore (lv' := [(4, .int z0), (0, .ref (a 0)), (1, .int y1), (2, .int y2), (3, .int y3)]) hx hb dX11_shows_46 hl (by decide) rfl (fun ls hl => ?_)
    refine lv_aload_n hx hb dX11_shows_48 rfl (lv_at hl 1 rfl) ?_
    refine lv_iload hx hb dX11_shows_49 (lv_at hl 0 rfl) ?_
    refine lv_if_eq (tgt := 69) hx hb dX11_shows_51 (by decide) (fun c8 => ?_) (fun c8 => ?_)
    · have hf := fd_itp c8 hf
      exact hL69 y1 y2 y3 σ _ _ _ hP hS (lv_sub hl [1, 2, 3, 4] rfl) hf
    · have hf := fd_itn c8 hf
      refine lv_iload_n hx hb dX11_shows_54 rfl (lv_at hl 4 rfl) ?_
      refine lv_aload_n hx hb dX11_shows_55 rfl (lv_at hl 1 rfl) ?_
      refine va_get (ci := 11) (v := .int (σ.1 3)) (C := RX11) (T := TX11) (N := 43) hx hb hts h9X11 hown hK hP 0 fd_WM_0 rfl 7 (by decide) (hts (.fieldLink RX11 123 "FailDiagnoseModel" "outputs" "I") (List.mem_of_getElem? (i := 3) (by eq_refl))) (fun _ h9 => h9) rfl dX11_shows_56 ?_
      obtain ⟨w28, τ29, hc25, hf⟩ := fd_bds hf
      refine va_calli (va_runS (As := [.int y3, .int (σ.1 3)]) (rest := [.ref (a 0)]) ⟨hx, hb, hml, hown, hts⟩ (m_X11_isIn l D a k H.size hI N y3 (σ.1 3) σ _ hc25) (va_cwS 2 hts gX11_shows_X11_isIn rfl rfl rfl (by decide +kernel) ⟨Nat.le_of_ble_eq_true rfl, Nat.le_of_ble_eq_true rfl⟩) ⟨fd_blM, fd_prM hP hK⟩ rfl rfl hl.1 rfl (lv_room (Nat.le_of_ble_eq_true rfl)) dX11_shows_59 ⟨Nat.zero_le _, Nat.zero_le _⟩) hS (fun q _ h => fd_A_mono hS.1 h) (fun q h => fd_A_mono hS.1 h) (fun v26 u t H1 locs ht hvm hw hB hz hk hS => ?_)
      obtain ⟨hP1, hK1⟩ := hB
      rw [ht] at hP1
      obtain ⟨e1, e2⟩ := Prod.mk.inj hw
      subst e1
      subst e2
      obtain ⟨σ27, rfl⟩ : ∃ z, z = u := ⟨_, rfl⟩
      have hP := hP1
      generalize H1 = H at hP hS ⊢
      refine lv_if_eq (tgt := 69) hx hb dX11_shows_62 (by decide) (fun c30 => ?_) (fun c30 => ?_)
      · have hf := fd_itp c30 hf
        exact hL69 y1 y2 y3 σ27 _ _ _ hP hS (lv_sub hl [1, 2, 3, 4] rfl) hf
      · have hf := fd_itn c30 hf
        refine lv_iconst (v := (0 : Int32)) hx hb dX11_shows_65 (by decide) ?_
        refine lv_goto (tgt := 70) hx hb dX11_shows_66 (by decide) ?_
        exact hL70 y1 y2 y3 (0 : Int32) σ27 _ _ _ hP hS (lv_sub hl [1, 2, 3, 4] rfl) hf
  have hL41 : ∀ (y1 : Int32) (y2 : Int32) (y3 : Int32) (σ : fd_St) (H : Heap) (locs : List Loc) (ls : Array Slot), va_P D vwCl (fd_WM a k σ) H → va_S (fd_A 29 a s.heap.size) s.heap H locs → lv_has ls 5 [(0, .ref (a 0)), (1, .int y1), (2, .int y2), (3, .int y3)] → f_X11_shows_0_J41 N y1 y2 y3 σ = some r → W p l e ((headSpec wsX11_shows ({ frames := 4, cells := 0, slots := 0, locals := 101 })).room) s m ([.ref (a 0), .int p1, .int p2, .int p3].toArray) below meth c H locs 0 0 (MQ below (va_Ql (fun v u => (v, u) = r) (fd_BM D a k) (fd_A 29 a s.heap.size)) ([.ref (a 0), .int p1, .int p2, .int p3].toArray) s 0 0 (fd_A 29 a s.heap.size)) (F0 m 41 ls []) := by
    intro y1 y2 y3 σ H locs ls hP hS hl hf
    unfold f_X11_shows_0_J41 at hf
    refine lv_iconst (v := (1 : Int32)) hx hb dX11_shows_41 (by decide) ?_
    refine lv_goto (tgt := 46) hx hb dX11_shows_42 (by decide) ?_
    exact hL46 y1 y2 y3 (1 : Int32) σ _ _ _ hP hS (lv_sub hl [0, 1, 2, 3] rfl) hf
  have hL45 : ∀ (y1 : Int32) (y2 : Int32) (y3 : Int32) (σ : fd_St) (H : Heap) (locs : List Loc) (ls : Array Slot), va_P D vwCl (fd_WM a k σ) H → va_S (fd_A 29 a s.heap.size) s.heap H locs → lv_has ls 5 [(0, .ref (a 0)), (1, .int y1), (2, .int y2), (3, .int y3)] → f_X11_shows_0_J45 N y1 y2 y3 σ = some r → W p l e ((headSpec wsX11_shows ({ frames := 4, cells := 0, slots := 0, locals := 101 })).room) s m ([.ref (a 0), .int p1, .int p2, .int p3].toArray) below meth c H locs 0 0 (MQ below (va_Ql (fun v u => (v, u) = r) (fd_BM D a k) (fd_A 29 a s.heap.size)) ([.ref (a 0), .int p1, .int p2, .int p3].toArray) s 0 0 (fd_A 29 a s.heap.size)) (F0 m 45 ls []) := by
    intro y1 y2 y3 σ H locs ls hP hS hl hf
    unfold f_X11_shows_0_J45 at hf
    refine lv_iconst (v := (0 : Int32)) hx hb dX11_shows_45 (by decide) ?_
    exact hL46 y1 y2 y3 (0 : Int32) σ _ _ _ hP hS (lv_sub hl [0, 1, 2, 3] rfl) hf
  have hL30 : ∀ (y1 : Int32) (y2 : Int32) (y3 : Int32) (σ : fd_St) (H : Heap) (locs : List Loc) (ls : Array Slot), va_P D vwCl (fd_WM a k σ) H → va_S (fd_A 29 a s.heap.size) s.heap H locs → lv_has ls 5 [(0, .ref (a 0)), (1, .int y1), (2, .int y2), (3, .int y3)] → f_X11_shows_0_J30 N y1 y2 y3 σ = some r → W p l e ((headSpec wsX11_shows ({ frames := 4, cells := 0, slots := 0, locals := 101 })).room) s m ([.ref (a 0), .int p1, .int p2, .int p3].toArray) below meth c H locs 0 0 (MQ below (va_Ql (fun v u => (v, u) = r) (fd_BM D a k) (fd_A 29 a s.heap.size)) ([.ref (a 0), .int p1, .int p2, .int p3].toArray) s 0 0 (fd_A 29 a s.heap.size)) (F0 m 30 ls []) := by
    intro y1 y2 y3 σ H locs ls hP hS hl hf
    unfold f_X11_shows_0_J30 at hf
    refine lv_iload_n hx hb dX11_shows_30 rfl (lv_at hl 2 rfl) ?_
    refine lv_aload_n hx hb dX11_shows_31 rfl (lv_at hl 0 rfl) ?_
    refine va_get (ci := 11) (v := .int (σ.1 5)) (C := RX11) (T := TX11) (N := 43) hx hb hts h9X11 hown hK hP 0 fd_WM_0 rfl 11 (by decide) (hts (.fieldLink RX11 150 "FailDiagnoseModel" "pairs" "I") (List.mem_of_getElem? (i := 2) (by eq_refl))) (fun _ h9 => h9) rfl dX11_shows_32 ?_
    obtain ⟨w35, τ36, hc32, hf⟩ := fd_bds hf
    refine va_calli (va_runS (As := [.int y2, .int (σ.1 5)]) (rest := []) ⟨hx, hb, hml, hown, hts⟩ (m_X11_isIn l D a k H.size hI N y2 (σ.1 5) σ _ hc32) (va_cwS 2 hts gX11_shows_X11_isIn rfl rfl rfl (by decide +kernel) ⟨Nat.le_of_ble_eq_true rfl, Nat.le_of_ble_eq_true rfl⟩) ⟨fd_blM, fd_prM hP hK⟩ rfl rfl hl.1 rfl (lv_room (Nat.le_of_ble_eq_true rfl)) dX11_shows_35 ⟨Nat.zero_le _, Nat.zero_le _⟩) hS (fun q _ h => fd_A_mono hS.1 h) (fun q h => fd_A_mono hS.1 h) (fun v33 u t H1 locs ht hvm hw hB hz hk hS => ?_)
    obtain ⟨hP1, hK1⟩ := hB
    rw [ht] at hP1
    obtain ⟨e1, e2⟩ := Prod.mk.inj hw
    subst e1
    subst e2
    obtain ⟨σ34, rfl⟩ : ∃ z, z = u := ⟨_, rfl⟩
    have hP := hP1
    generalize H1 = H at hP hS ⊢
    refine lv_if_eq (tgt := 45) hx hb dX11_shows_38 (by decide) (fun c37 => ?_) (fun c37 => ?_)
    · have hf := fd_itp c37 hf
      exact hL45 y1 y2 y3 σ34 _ _ _ hP hS (lv_sub hl [0, 1, 2, 3] rfl) hf
    · have hf := fd_itn c37 hf
      exact hL41 y1 y2 y3 σ34 _ _ _ hP hS (lv_sub hl [0, 1, 2, 3] rfl) hf
  have hL20 : ∀ (y1 : Int32) (y2 : Int32) (y3 : Int32) (σ : fd_St) (H : Heap) (locs : List Loc) (ls : Array Slot), va_P D vwCl (fd_WM a k σ) H → va_S (fd_A 29 a s.heap.size) s.heap H locs → lv_has ls 5 [(0, .ref (a 0)), (1, .int y1), (2, .int y2), (3, .int y3)] → f_X11_shows_0_J20 N y1 y2 y3 σ = some r → W p l e ((headSpec wsX11_shows ({ frames := 4, cells := 0, slots := 0, locals := 101 })).room) s m ([.ref (a 0), .int p1, .int p2, .int p3].toArray) below meth c H locs 0 0 (MQ below (va_Ql (fun v u => (v, u) = r) (fd_BM D a k) (fd_A 29 a s.heap.size)) ([.ref (a 0), .int p1, .int p2, .int p3].toArray) s 0 0 (fd_A 29 a s.heap.size)) (F0 m 20 ls []) := by
    intro y1 y2 y3 σ H locs ls hP hS hl hf
    unfold f_X11_shows_0_J20 at hf
    refine lv_iload_n hx hb dX11_shows_20 rfl (lv_at hl 1 rfl) ?_
    refine lv_iconst (v := (2 : Int32)) hx hb dX11_shows_21 (by decide) ?_
    refine lv_icmp_eq (tgt := 30) hx hb dX11_shows_22 (by decide) (fun c31 => ?_) (fun c31 => ?_)
    · have hf := fd_itp c31 hf
      exact hL30 y1 y2 y3 σ _ _ _ hP hS (lv_sub hl [0, 1, 2, 3] rfl) hf
    · have hf := fd_itn c31 hf
      refine lv_iload_n hx hb dX11_shows_25 rfl (lv_at hl 1 rfl) ?_
      refine lv_iconst (v := (3 : Int32)) hx hb dX11_shows_26 (by decide) ?_
      refine lv_icmp_ne (tgt := 45) hx hb dX11_shows_27 (by decide) (fun c38 => ?_) (fun c38 => ?_)
      · have hf := fd_itn c38 hf
        exact hL45 y1 y2 y3 σ _ _ _ hP hS (lv_sub hl [0, 1, 2, 3] rfl) hf
      · have hf := fd_itp c38 hf
        exact hL30 y1 y2 y3 σ _ _ _ hP hS (lv_sub hl [0, 1, 2, 3] rfl) hf
  have hL9 : ∀ (y1 : Int32) (y2 : Int32) (y3 : Int32) (σ : fd_St) (H : Heap) (locs : List Loc) (ls : Array Slot), va_P D vwCl (fd_WM a k σ) H → va_S (fd_A 29 a s.heap.size) s.heap H locs → lv_has ls 5 [(0, .ref (a 0)), (1, .int y1), (2, .int y2), (3, .int y3)] → f_X11_shows_0_J9 N y1 y2 y3 σ = some r → W p l e ((headSpec wsX11_shows ({ frames := 4, cells := 0, slots := 0, locals := 101 })).room) s m ([.ref (a 0), .int p1, .int p2, .int p3].toArray) below meth c H locs 0 0 (MQ below (va_Ql (fun v u => (v, u) = r) (fd_BM D a k) (fd_A 29 a s.heap.size)) ([.ref (a 0), .int p1, .int p2, .int p3].toArray) s 0 0 (fd_A 29 a s.heap.size)) (F0 m 9 ls []) := by
    intro y1 y2 y3 σ H locs ls hP hS hl hf
    unfold f_X11_shows_0_J9 at hf
    refine lv_iload_n hx hb dX11_shows_9 rfl (lv_at hl 2 rfl) ?_
    refine lv_aload_n hx hb dX11_shows_10 rfl (lv_at hl 0 rfl) ?_
    refine va_get (ci := 11) (v := .int (σ.1 1)) (C := RX11) (T := TX11) (N := 43) hx hb hts h9X11 hown hK hP 0 fd_WM_0 rfl 1 (by decide) (hts (.fieldLink RX11 113 "FailDiagnoseModel" "nets" "I") (List.mem_of_getElem? (i := 1) (by eq_refl))) (fun _ h9 => h9) rfl dX11_shows_11 ?_
    obtain ⟨w5, τ6, hc2, hf⟩ := fd_bds hf
    refine va_calli (va_runS (As := [.int y2, .int (σ.1 1)]) (rest := []) ⟨hx, hb, hml, hown, hts⟩ (m_X11_isIn l D a k H.size hI N y2 (σ.1 1) σ _ hc2) (va_cwS 2 hts gX11_shows_X11_isIn rfl rfl rfl (by decide +kernel) ⟨Nat.le_of_ble_eq_true rfl, Nat.le_of_ble_eq_true rfl⟩) ⟨fd_blM, fd_prM hP hK⟩ rfl rfl hl.1 rfl (lv_room (Nat.le_of_ble_eq_true rfl)) dX11_shows_14 ⟨Nat.zero_le _, Nat.zero_le _⟩) hS (fun q _ h => fd_A_mono hS.1 h) (fun q h => fd_A_mono hS.1 h) (fun v3 u t H1 locs ht hvm hw hB hz hk hS => ?_)
    obtain ⟨hP1, hK1⟩ := hB
    rw [ht] at hP1
    obtain ⟨e1, e2⟩ := Prod.mk.inj hw
    subst e1
    subst e2
    obtain ⟨σ4, rfl⟩ : ∃ z, z = u := ⟨_, rfl⟩
    have hP := hP1
    generalize H1 = H at hP hS ⊢
    refine lv_if_ne (tgt := 41) hx hb dX11_shows_17 (by decide) (fun c7 => ?_) (fun c7 => ?_)
    · have hf := fd_itn c7 hf
      exact hL41 y1 y2 y3 σ4 _ _ _ hP hS (lv_sub hl [0, 1, 2, 3] rfl) hf
    · have hf := fd_itp c7 hf
      exact hL20 y1 y2 y3 σ4 _ _ _ hP hS (lv_sub hl [0, 1, 2, 3] rfl) hf
  unfold f_X11_shows_0 at hf
  refine lv_iload_n hx hb dX11_shows_0 rfl (lv_at hl 1 rfl) ?_
  refine lv_if_eq (tgt := 9) hx hb dX11_shows_1 (by decide) (fun c1 => ?_) (fun c1 => ?_)
  · have hf := fd_itp c1 hf
    exact hL9 p1 p2 p3 σ _ _ _ hP hS (lv_sub hl [0, 1, 2, 3] rfl) hf
  · have hf := fd_itn c1 hf
    refine lv_iload_n hx hb dX11_shows_4 rfl (lv_at hl 1 rfl) ?_
    refine lv_iconst (v := (1 : Int32)) hx hb dX11_shows_5 (by decide) ?_
    refine lv_icmp_ne (tgt := 20) hx hb dX11_shows_6 (by decide) (fun c39 => ?_) (fun c39 => ?_)
    · have hf := fd_itn c39 hf
      exact hL20 p1 p2 p3 σ _ _ _ hP hS (lv_sub hl [0, 1, 2, 3] rfl) hf
    · have hf := fd_itp c39 hf
      exact hL9 p1 p2 p3 σ _ _ _ hP hS (lv_sub hl [0, 1, 2, 3] rfl) hf
noncomputable def f_X8_reset_5 (N : Nat) (σ : fd_St) : Option (Unit × fd_St) := fd_lt (fd_sI 6 (0 : Int32) σ) (fun σ1 => some ((), σ1))
set_option maxHeartbeats 4000000 in
set_option maxRecDepth 100000 in
theorem m_X8_reset_5 (l : Launch) (D : va_G) (a : Nat → Nat) (k : Nat → ClassId) (sz : Nat) (hI : fd_I 39 a) (N : Nat) (σ : fd_St) (r : Unit × fd_St) (hf : f_X8_reset_5 N σ = some r) : Met l yX8_reset wsX8_reset ({ frames := 0, cells := 0, slots := 0, locals := 0 }) (va_Pc [.ref (a 5)] (fd_PC D a k sz σ)) (va_Qv (fun u => ((), u) = r) (fd_BC D a k) (fd_A 39 a sz)) 0 0 (fd_A 39 a sz) := by
  refine Met.ofW (cc := cX8_reset) (maxL := 1) (ret := none) (by decide) rfl ?_
  intro p e s m args below meth c s₁ B hml hv
  obtain ⟨rfl, hsz, hP, hK⟩ := hv
  have hx := B.exec
  have hb := B.bytes
  have hr := B.returns
  have hts := atoms_spec (ws := wsX8_reset) B.pre
  have hown : s.vm.findClass RX8 = some m.cls := findClass_of_methodNamed B.named
  have hlocks := B.notSynchronized
  subst hsz
  have hJ : ∀ i, i < 39 → fd_A 39 a s.heap.size (a i) := fun i hi => Or.inl ⟨i, hi, rfl⟩
  have hS : va_S (fd_A 39 a s.heap.size) s.heap s.heap [] := va_S.rf
  have hl := lv_entry ([.ref (a 5)]) (n := 1) (Nat.le_of_ble_eq_true rfl)
  rw [lg_entry_eq]
  generalize (lg_sl ([.ref (a 5)]) ++ List.replicate (1 - (lg_sl ([.ref (a 5)])).length) Slot.unset).toArray = ls at hl ⊢
  have hl : lv_has ls 1 [(0, .ref (a 5))] := hl
  have h9X8 : ∀ w ∈ u_ws RX8 TX8 7, w ∈ wsX8_reset := fd_su [2, 3, 4, 5, 6, 7, 8] (by eq_refl)
  unfold f_X8_reset_5 at hf
  refine lv_aload_n hx hb dX8_reset_0 rfl (lv_at hl 0 rfl) ?_
  refine lv_iconst (v := (0 : Int32)) hx hb dX8_reset_1 (by decide) ?_
  obtain ⟨σ1, eσ1, hf⟩ := fd_lts hf
  refine va_put (ci := 8) (v := .int (0 : Int32)) (ty := .int) (C := RX8) (T := TX8) (N := 7) hx hb hts h9X8 tyX8 tyX8_ok nmX8 hown hK hP (fd_DC hI hJ) hS 5 fd_WC_5 rfl 6 (by decide) (hts (.fieldLink RX8 30 "FailDiagnose$Suspects" "size" "I") (List.mem_of_getElem? (i := 1) (by eq_refl))) (fun _ h9 => h9) rfl (by decide +kernel) rfl rfl (Nat.le_of_ble_eq_true rfl) dX8_reset_2 (fun H locs hP _ hS => ?_)
  have hP : va_P D vwCl (fd_WC a k σ1) H := by rw [eσ1]; exact fd_sP fd_WCi_6 hP
  exact W.vret hx hb hr (fun t ht hW => ⟨⟨σ1, rfl, Option.some.inj hf, by rw [ht]; exact hP, va_K.moved hW.alike hK⟩, hS.F ht⟩) hS.2.2 dX8_reset_5
noncomputable def f_X9_reset_8 (N : Nat) (σ : fd_St) : Option (Unit × fd_St) := fd_lt (fd_sI 12 (0 : Int32) σ) (fun σ1 => fd_lt (fd_sI 13 (0 : Int32) σ1) (fun σ2 => fd_lt (fd_sI 14 (0 : Int32) σ2) (fun σ3 => some ((), σ3))))
set_option maxHeartbeats 4000000 in
set_option maxRecDepth 100000 in
theorem m_X9_reset_8 (l : Launch) (D : va_G) (a : Nat → Nat) (k : Nat → ClassId) (sz : Nat) (hI : fd_I 39 a) (N : Nat) (σ : fd_St) (r : Unit × fd_St) (hf : f_X9_reset_8 N σ = some r) : Met l yX9_reset wsX9_reset ({ frames := 0, cells := 0, slots := 0, locals := 0 }) (va_Pc [.ref (a 8)] (fd_PC D a k sz σ)) (va_Qv (fun u => ((), u) = r) (fd_BC D a k) (fd_A 39 a sz)) 0 0 (fd_A 39 a sz) := by
  refine Met.ofW (cc := cX9_reset) (maxL := 1) (ret := none) (by decide) rfl ?_
  intro p e s m args below meth c s₁ B hml hv
  obtain ⟨rfl, hsz, hP, hK⟩ := hv
  have hx := B.exec
  have hb := B.bytes
  have hr := B.returns
  have hts := atoms_spec (ws := wsX9_reset) B.pre
  have hown : s.vm.findClass RX9 = some m.cls := findClass_of_methodNamed B.named
  have hlocks := B.notSynchronized
  subst hsz
  have hJ : ∀ i, i < 39 → fd_A 39 a s.heap.size (a i) := fun i hi => Or.inl ⟨i, hi, rfl⟩
  have hS : va_S (fd_A 39 a s.heap.size) s.heap s.heap [] := va_S.rf
  have hl := lv_entry ([.ref (a 8)]) (n := 1) (Nat.le_of_ble_eq_true rfl)
  rw [lg_entry_eq]
  generalize (lg_sl ([.ref (a 8)]) ++ List.replicate (1 - (lg_sl ([.ref (a 8)])).length) Slot.unset).toArray = ls at hl ⊢
  have hl : lv_has ls 1 [(0, .ref (a 8))] := hl
  have h9X9 : ∀ w ∈ u_ws RX9 TX9 3, w ∈ wsX9_reset := fd_su [4, 5, 6] (by eq_refl)
  unfold f_X9_reset_8 at hf
  refine lv_aload_n hx hb dX9_reset_0 rfl (lv_at hl 0 rfl) ?_
  refine lv_iconst (v := (0 : Int32)) hx hb dX9_reset_1 (by decide) ?_
  obtain ⟨σ1, eσ1, hf⟩ := fd_lts hf
  refine va_put (ci := 9) (v := .int (0 : Int32)) (ty := .int) (C := RX9) (T := TX9) (N := 3) hx hb hts h9X9 tyX9 tyX9_ok nmX9 hown hK hP (fd_DC hI hJ) hS 8 fd_WC_8 rfl 0 (by decide) (hts (.fieldLink RX9 7 "FailDiagnose$Tally" "explained" "I") (List.mem_of_getElem? (i := 1) (by eq_refl))) (fun _ h9 => h9) rfl (by decide +kernel) rfl rfl (Nat.le_of_ble_eq_true rfl) dX9_reset_2 (fun H locs hP _ hS => ?_)
  have hP : va_P D vwCl (fd_WC a k σ1) H := by rw [eσ1]; exact fd_sP fd_WCi_12 hP
  refine lv_aload_n hx hb dX9_reset_5 rfl (lv_at hl 0 rfl) ?_
  refine lv_iconst (v := (0 : Int32)) hx hb dX9_reset_6 (by decide) ?_
  obtain ⟨σ2, eσ2, hf⟩ := fd_lts hf
  refine va_put (ci := 9) (v := .int (0 : Int32)) (ty := .int) (C := RX9) (T := TX9) (N := 3) hx hb hts h9X9 tyX9 tyX9_ok nmX9 hown hK hP (fd_DC hI hJ) hS 8 fd_WC_8 rfl 1 (by decide) (hts (.fieldLink RX9 13 "FailDiagnose$Tally" "missed" "I") (List.mem_of_getElem? (i := 2) (by eq_refl))) (fun _ h9 => h9) rfl (by decide +kernel) rfl rfl (Nat.le_of_ble_eq_true rfl) dX9_reset_7 (fun H locs hP _ hS => ?_)
  have hP : va_P D vwCl (fd_WC a k σ2) H := by rw [eσ2]; exact fd_sP fd_WCi_13 hP
  refine lv_aload_n hx hb dX9_reset_10 rfl (lv_at hl 0 rfl) ?_
  refine lv_iconst (v := (0 : Int32)) hx hb dX9_reset_11 (by decide) ?_
  obtain ⟨σ3, eσ3, hf⟩ := fd_lts hf
  refine va_put (ci := 9) (v := .int (0 : Int32)) (ty := .int) (C := RX9) (T := TX9) (N := 3) hx hb hts h9X9 tyX9 tyX9_ok nmX9 hown hK hP (fd_DC hI hJ) hS 8 fd_WC_8 rfl 2 (by decide) (hts (.fieldLink RX9 16 "FailDiagnose$Tally" "wrong" "I") (List.mem_of_getElem? (i := 3) (by eq_refl))) (fun _ h9 => h9) rfl (by decide +kernel) rfl rfl (Nat.le_of_ble_eq_true rfl) dX9_reset_12 (fun H locs hP _ hS => ?_)
  have hP : va_P D vwCl (fd_WC a k σ3) H := by rw [eσ3]; exact fd_sP fd_WCi_14 hP
  exact W.vret hx hb hr (fun t ht hW => ⟨⟨σ3, rfl, Option.some.inj hf, by rw [ht]; exact hP, va_K.moved hW.alike hK⟩, hS.F ht⟩) hS.2.2 dX9_reset_15
noncomputable def f_X5_fails_2 (N : Nat) (p1 : Int32) (σ : fd_St) : Option (Int64 × fd_St) := fd_gd (vp_in p1 32) (some (σ.2.2 19 p1.toNatClampNeg, σ))
set_option maxHeartbeats 4000000 in
set_option maxRecDepth 100000 in
theorem m_X5_fails_2 (l : Launch) (D : va_G) (a : Nat → Nat) (k : Nat → ClassId) (sz : Nat) (hI : fd_I 39 a) (N : Nat) (p1 : Int32) (σ : fd_St) (r : Int64 × fd_St) (hf : f_X5_fails_2 N p1 σ = some r) : Met l yX5_fails wsX5_fails ({ frames := 0, cells := 0, slots := 0, locals := 0 }) (va_Pc [.ref (a 2), .int p1] (fd_PC D a k sz σ)) (va_Ql (fun v u => (v, u) = r) (fd_BC D a k) (fd_A 39 a sz)) 0 0 (fd_A 39 a sz) := by
  refine Met.ofW (cc := cX5_fails) (maxL := 2) (ret := (some .long)) (by decide) rfl ?_
  intro p e s m args below meth c s₁ B hml hv
  obtain ⟨rfl, hsz, hP, hK⟩ := hv
  have hx := B.exec
  have hb := B.bytes
  have hr := B.returns
  have hts := atoms_spec (ws := wsX5_fails) B.pre
  have hown : s.vm.findClass RX5 = some m.cls := findClass_of_methodNamed B.named
  have hlocks := B.notSynchronized
  subst hsz
  have hJ : ∀ i, i < 39 → fd_A 39 a s.heap.size (a i) := fun i hi => Or.inl ⟨i, hi, rfl⟩
  have hS : va_S (fd_A 39 a s.heap.size) s.heap s.heap [] := va_S.rf
  have hl := lv_entry ([.ref (a 2), .int p1]) (n := 2) (Nat.le_of_ble_eq_true rfl)
  rw [lg_entry_eq]
  generalize (lg_sl ([.ref (a 2), .int p1]) ++ List.replicate (2 - (lg_sl ([.ref (a 2), .int p1])).length) Slot.unset).toArray = ls at hl ⊢
  have hl : lv_has ls 2 [(0, .ref (a 2)), (1, .int p1)] := hl
  have h9X5 : ∀ w ∈ u_ws RX5 TX5 3, w ∈ wsX5_fails := fd_su [2, 3, 4] (by eq_refl)
  unfold f_X5_fails_2 at hf
  refine lv_aload_n hx hb dX5_fails_0 rfl (lv_at hl 0 rfl) ?_
  refine va_get (ci := 5) (v := .ref (a 19)) (C := RX5) (T := TX5) (N := 3) hx hb hts h9X5 hown hK hP 2 fd_WC_2 rfl 1 (by decide) (hts (.fieldLink RX5 15 "FailDiagnose$Outputs" "fails" "[J") (List.mem_of_getElem? (i := 1) (by eq_refl))) (fun _ h9 => h9) rfl dX5_fails_1 ?_
  refine lv_iload_n hx hb dX5_fails_4 rfl (lv_at hl 1 rfl) ?_
  obtain ⟨g1, hf⟩ := fd_gds hf
  refine va_lald hx hb hK hP 19 7 fd_WC_19 fd_tyC_19 g1 dX5_fails_5 ?_
  exact W.lret (v := (σ.2.2 19 p1.toNatClampNeg)) hx hb hr (fun t ht hW => ⟨⟨σ.2.2 19 p1.toNatClampNeg, σ, rfl, Option.some.inj hf, by rw [ht]; exact hP, va_K.moved hW.alike hK⟩, hS.F ht⟩) hS.2.2 dX5_fails_6
noncomputable def f_J13_bitCount_95d88_C (N : Nat) (p0 : Int64) (σ : fd_St) : Option (Int32 × fd_St) := fd_lt (p0 - (((p0.toUInt64 >>> ((1 : Int32).toInt64.toUInt64 &&& Int64.toUInt64 63)).toInt64) &&& (6148914691236517205 : Int64))) (fun x1 => fd_lt ((x1 &&& (3689348814741910323 : Int64)) + (((x1.toUInt64 >>> ((2 : Int32).toInt64.toUInt64 &&& Int64.toUInt64 63)).toInt64) &&& (3689348814741910323 : Int64))) (fun x2 => fd_lt ((x2 + ((x2.toUInt64 >>> ((4 : Int32).toInt64.toUInt64 &&& Int64.toUInt64 63)).toInt64)) &&& (1085102592571150095 : Int64)) (fun x3 => fd_lt (x3 + ((x3.toUInt64 >>> ((8 : Int32).toInt64.toUInt64 &&& Int64.toUInt64 63)).toInt64)) (fun x4 => fd_lt (x4 + ((x4.toUInt64 >>> ((16 : Int32).toInt64.toUInt64 &&& Int64.toUInt64 63)).toInt64)) (fun x5 => fd_lt (x5 + ((x5.toUInt64 >>> ((32 : Int32).toInt64.toUInt64 &&& Int64.toUInt64 63)).toInt64)) (fun x6 => some (x6.toInt32 &&& (127 : Int32), σ)))))))
set_option maxHeartbeats 4000000 in
set_option maxRecDepth 100000 in
theorem m_J13_bitCount_95d88_C (l : Launch) (D : va_G) (a : Nat → Nat) (k : Nat → ClassId) (sz : Nat) (hI : fd_I 39 a) (N : Nat) (p0 : Int64) (σ : fd_St) (r : Int32 × fd_St) (hf : f_J13_bitCount_95d88_C N p0 σ = some r) : Met l yJ13_bitCount_95d88 wsJ13_bitCount_95d88 ({ frames := 0, cells := 0, slots := 0, locals := 0 }) (va_Pc [.long p0] (fd_PC D a k sz σ)) (va_Qi (fun v u => (v, u) = r) (fd_BC D a k) (fd_A 39 a sz)) 0 0 (fd_A 39 a sz) := by
  refine Met.ofW (cc := cJ13_bitCount_95d88) (maxL := 2) (ret := (some .int)) (by decide) rfl ?_
  intro p e s m args below meth c s₁ B hml hv
  obtain ⟨rfl, hsz, hP, hK⟩ := hv
  have hx := B.exec
  have hb := B.bytes
  have hr := B.returns
  have hts := atoms_spec (ws := wsJ13_bitCount_95d88) B.pre
  have hown : s.vm.findClass RJ13 = some m.cls := findClass_of_methodNamed B.named
  have hlocks := B.notSynchronized
  subst hsz
  have hJ : ∀ i, i < 39 → fd_A 39 a s.heap.size (a i) := fun i hi => Or.inl ⟨i, hi, rfl⟩
  have hS : va_S (fd_A 39 a s.heap.size) s.heap s.heap [] := va_S.rf
  have hl := lv_entry ([.long p0]) (n := 2) (Nat.le_of_ble_eq_true rfl)
  rw [lg_entry_eq]
  generalize (lg_sl ([.long p0]) ++ List.replicate (2 - (lg_sl ([.long p0])).length) Slot.unset).toArray = ls at hl ⊢
  have hl : lv_has ls 2 [(0, .long p0)] := hl
  unfold f_J13_bitCount_95d88_C at hf
  refine lv_lload_n hx hb dJ13_bitCount_95d88_0 rfl (lv_at hl 0 rfl) ?_
  refine lv_lload_n hx hb dJ13_bitCount_95d88_1 rfl (lv_at hl 0 rfl) ?_
  refine lv_iconst (v := (1 : Int32)) hx hb dJ13_bitCount_95d88_2 (by decide) ?_
  refine lv_lushr hx hb dJ13_bitCount_95d88_3 rfl ?_
  refine lv_ldc2 hx hb hown (hts (.constantLong RJ13 314 (6148914691236517205)) (List.mem_of_getElem? (i := 1) (by eq_refl))) dJ13_bitCount_95d88_4 ?_
  refine lv_land hx hb dJ13_bitCount_95d88_7 ?_
  refine lv_lsub hx hb dJ13_bitCount_95d88_8 ?_
  obtain ⟨x1, ex1, hf⟩ := fd_lts hf
  refine fd_nl ex1 ?_
  refine lv_lstore_n (lv' := [(0, .long x1)]) hx hb dJ13_bitCount_95d88_9 rfl hl (by decide) rfl (fun ls hl => ?_)
  refine lv_lload_n hx hb dJ13_bitCount_95d88_10 rfl (lv_at hl 0 rfl) ?_
  refine lv_ldc2 hx hb hown (hts (.constantLong RJ13 316 (3689348814741910323)) (List.mem_of_getElem? (i := 2) (by eq_refl))) dJ13_bitCount_95d88_11 ?_
  refine lv_land hx hb dJ13_bitCount_95d88_14 ?_
  refine lv_lload_n hx hb dJ13_bitCount_95d88_15 rfl (lv_at hl 0 rfl) ?_
  refine lv_iconst (v := (2 : Int32)) hx hb dJ13_bitCount_95d88_16 (by decide) ?_
  refine lv_lushr hx hb dJ13_bitCount_95d88_17 rfl ?_
  refine lv_ldc2 hx hb hown (hts (.constantLong RJ13 316 (3689348814741910323)) (List.mem_of_getElem? (i := 2) (by eq_refl))) dJ13_bitCount_95d88_18 ?_
  refine lv_land hx hb dJ13_bitCount_95d88_21 ?_
  refine lv_ladd hx hb dJ13_bitCount_95d88_22 ?_
  obtain ⟨x2, ex2, hf⟩ := fd_lts hf
  refine fd_nl ex2 ?_
  refine lv_lstore_n (lv' := [(0, .long x2)]) hx hb dJ13_bitCount_95d88_23 rfl hl (by decide) rfl (fun ls hl => ?_)
  refine lv_lload_n hx hb dJ13_bitCount_95d88_24 rfl (lv_at hl 0 rfl) ?_
  refine lv_lload_n hx hb dJ13_bitCount_95d88_25 rfl (lv_at hl 0 rfl) ?_
  refine lv_iconst (v := (4 : Int32)) hx hb dJ13_bitCount_95d88_26 (by decide) ?_
  refine lv_lushr hx hb dJ13_bitCount_95d88_27 rfl ?_
  refine lv_ladd hx hb dJ13_bitCount_95d88_28 ?_
  refine lv_ldc2 hx hb hown (hts (.constantLong RJ13 318 (1085102592571150095)) (List.mem_of_getElem? (i := 3) (by eq_refl))) dJ13_bitCount_95d88_29 ?_
  refine lv_land hx hb dJ13_bitCount_95d88_32 ?_
  obtain ⟨x3, ex3, hf⟩ := fd_lts hf
  refine fd_nl ex3 ?_
  refine lv_lstore_n (lv' := [(0, .long x3)]) hx hb dJ13_bitCount_95d88_33 rfl hl (by decide) rfl (fun ls hl => ?_)
  refine lv_lload_n hx hb dJ13_bitCount_95d88_34 rfl (lv_at hl 0 rfl) ?_
  refine lv_lload_n hx hb dJ13_bitCount_95d88_35 rfl (lv_at hl 0 rfl) ?_
  refine lv_bipush (v := (8 : Int32)) hx hb dJ13_bitCount_95d88_36 (by decide) ?_
  refine lv_lushr hx hb dJ13_bitCount_95d88_38 rfl ?_
  refine lv_ladd hx hb dJ13_bitCount_95d88_39 ?_
  obtain ⟨x4, ex4, hf⟩ := fd_lts hf
  refine fd_nl ex4 ?_
  refine lv_lstore_n (lv' := [(0, .long x4)]) hx hb dJ13_bitCount_95d88_40 rfl hl (by decide) rfl (fun ls hl => ?_)
  refine lv_lload_n hx hb dJ13_bitCount_95d88_41 rfl (lv_at hl 0 rfl) ?_
  refine lv_lload_n hx hb dJ13_bitCount_95d88_42 rfl (lv_at hl 0 rfl) ?_
  refine lv_bipush (v := (16 : Int32)) hx hb dJ13_bitCount_95d88_43 (by decide) ?_
  refine lv_lushr hx hb dJ13_bitCount_95d88_45 rfl ?_
  refine lv_ladd hx hb dJ13_bitCount_95d88_46 ?_
  obtain ⟨x5, ex5, hf⟩ := fd_lts hf
  refine fd_nl ex5 ?_
  refine lv_lstore_n (lv' := [(0, .long x5)]) hx hb dJ13_bitCount_95d88_47 rfl hl (by decide) rfl (fun ls hl => ?_)
  refine lv_lload_n hx hb dJ13_bitCount_95d88_48 rfl (lv_at hl 0 rfl) ?_
  refine lv_lload_n hx hb dJ13_bitCount_95d88_49 rfl (lv_at hl 0 rfl) ?_
  refine lv_bipush (v := (32 : Int32)) hx hb dJ13_bitCount_95d88_50 (by decide) ?_
  refine lv_lushr hx hb dJ13_bitCount_95d88_52 rfl ?_
  refine lv_ladd hx hb dJ13_bitCount_95d88_53 ?_
  obtain ⟨x6, ex6, hf⟩ := fd_lts hf
  refine fd_nl ex6 ?_
  refine lv_lstore_n (lv' := [(0, .long x6)]) hx hb dJ13_bitCount_95d88_54 rfl hl (by decide) rfl (fun ls hl => ?_)
  refine lv_lload_n hx hb dJ13_bitCount_95d88_55 rfl (lv_at hl 0 rfl) ?_
  refine lv_l2i hx hb dJ13_bitCount_95d88_56 rfl ?_
  refine lv_bipush (v := (127 : Int32)) hx hb dJ13_bitCount_95d88_57 (by decide) ?_
  refine lv_iand hx hb dJ13_bitCount_95d88_59 ?_
  exact W.iret (v := (x6.toInt32 &&& (127 : Int32))) hx hb hr (fun t ht hW => ⟨⟨x6.toInt32 &&& (127 : Int32), σ, rfl, Option.some.inj hf, by rw [ht]; exact hP, va_K.moved hW.alike hK⟩, hS.F ht⟩) hS.2.2 dJ13_bitCount_95d88_60
noncomputable def f_X9_add_8 (N : Nat) (p1 : Int64) (p3 : Int64) (σ : fd_St) : Option (Unit × fd_St) := fd_bd (f_J13_bitCount_95d88_C N (p1 &&& p3) σ) (fun v2 σ3 => fd_lt (fd_sI 12 ((σ.1 12) + v2) σ3) (fun σ6 => fd_bd (f_J13_bitCount_95d88_C N (p3 &&& (p1 ^^^ (-1 : Int64))) σ6) (fun v8 σ9 => fd_lt (fd_sI 13 ((σ6.1 13) + v8) σ9) (fun σ12 => fd_bd (f_J13_bitCount_95d88_C N (p1 &&& (p3 ^^^ (-1 : Int64))) σ12) (fun v14 σ15 => fd_lt (fd_sI 14 ((σ12.1 14) + v14) σ15) (fun σ18 => some ((), σ18)))))))
set_option maxHeartbeats 4000000 in
set_option maxRecDepth 100000 in
theorem m_X9_add_8 (l : Launch) (D : va_G) (a : Nat → Nat) (k : Nat → ClassId) (sz : Nat) (hI : fd_I 39 a) (N : Nat) (p1 : Int64) (p3 : Int64) (σ : fd_St) (r : Unit × fd_St) (hf : f_X9_add_8 N p1 p3 σ = some r) : Met l yX9_add wsX9_add ({ frames := 1, cells := 0, slots := 0, locals := 21 }) (va_Pc [.ref (a 8), .long p1, .long p3] (fd_PC D a k sz σ)) (va_Qv (fun u => ((), u) = r) (fd_BC D a k) (fd_A 39 a sz)) 0 0 (fd_A 39 a sz) := by
  refine Met.ofW (cc := cX9_add) (maxL := 5) (ret := none) (by decide) rfl ?_
  intro p e s m args below meth c s₁ B hml hv
  obtain ⟨rfl, hsz, hP, hK⟩ := hv
  have hx := B.exec
  have hb := B.bytes
  have hr := B.returns
  have hts := atoms_spec (ws := wsX9_add) B.pre
  have hown : s.vm.findClass RX9 = some m.cls := findClass_of_methodNamed B.named
  have hlocks := B.notSynchronized
  subst hsz
  have hJ : ∀ i, i < 39 → fd_A 39 a s.heap.size (a i) := fun i hi => Or.inl ⟨i, hi, rfl⟩
  have hS : va_S (fd_A 39 a s.heap.size) s.heap s.heap [] := va_S.rf
  have hl := lv_entry ([.ref (a 8), .long p1, .long p3]) (n := 5) (Nat.le_of_ble_eq_true rfl)
  rw [lg_entry_eq]
  generalize (lg_sl ([.ref (a 8), .long p1, .long p3]) ++ List.replicate (5 - (lg_sl ([.ref (a 8), .long p1, .long p3])).length) Slot.unset).toArray = ls at hl ⊢
  have hl : lv_has ls 5 [(0, .ref (a 8)), (1, .long p1), (3, .long p3)] := hl
  have h9X9 : ∀ w ∈ u_ws RX9 TX9 3, w ∈ wsX9_add := fd_su [12, 13, 14] (by eq_refl)
  unfold f_X9_add_8 at hf
  refine lv_aload_n hx hb dX9_add_0 rfl (lv_at hl 0 rfl) ?_
  refine lv_dup hx hb dX9_add_1 rfl ?_
  refine va_get (ci := 9) (v := .int (σ.1 12)) (C := RX9) (T := TX9) (N := 3) hx hb hts h9X9 hown hK hP 8 fd_WC_8 rfl 0 (by decide) (hts (.fieldLink RX9 7 "FailDiagnose$Tally" "explained" "I") (List.mem_of_getElem? (i := 1) (by eq_refl))) (fun _ h9 => h9) rfl dX9_add_2 ?_
  refine lv_lload_n hx hb dX9_add_5 rfl (lv_at hl 1 rfl) ?_
  refine lv_lload_n hx hb dX9_add_6 rfl (lv_at hl 2 rfl) ?_
  refine lv_land hx hb dX9_add_7 ?_
  obtain ⟨w4, τ5, hc1, hf⟩ := fd_bds hf
  refine va_calli (va_runS (As := [.long (p1 &&& p3)]) (rest := [.int (σ.1 12), .ref (a 8)]) ⟨hx, hb, hml, hown, hts⟩ (m_J13_bitCount_95d88_C l D a k s.heap.size hI N (p1 &&& p3) σ _ hc1) (va_cwS 1 hts gX9_add_J13_bitCount_95d88 rfl rfl rfl (by decide +kernel) ⟨Nat.le_of_ble_eq_true rfl, Nat.le_of_ble_eq_true rfl⟩) ⟨fd_blC, fd_prC hP hK⟩ rfl rfl hl.1 rfl (lv_room (Nat.le_of_ble_eq_true rfl)) dX9_add_8 ⟨Nat.zero_le _, Nat.zero_le _⟩) hS (fun q _ h => fd_A_mono hS.1 h) (fun q h => fd_A_mono hS.1 h) (fun v2 u t H1 locs ht hvm hw hB hz hk hS => ?_)
  obtain ⟨hP1, hK1⟩ := hB
  rw [ht] at hP1
  obtain ⟨e1, e2⟩ := Prod.mk.inj hw
  subst e1
  subst e2
  obtain ⟨σ3, rfl⟩ : ∃ z, z = u := ⟨_, rfl⟩
  have hP := hP1
  generalize H1 = H at hP hS ⊢
  refine lv_iadd hx hb dX9_add_11 ?_
  obtain ⟨σ6, eσ6, hf⟩ := fd_lts hf
  refine va_put (ci := 9) (v := .int ((σ.1 12) + v2)) (ty := .int) (C := RX9) (T := TX9) (N := 3) hx hb hts h9X9 tyX9 tyX9_ok nmX9 hown hK hP (fd_DC hI hJ) hS 8 fd_WC_8 rfl 0 (by decide) (hts (.fieldLink RX9 7 "FailDiagnose$Tally" "explained" "I") (List.mem_of_getElem? (i := 1) (by eq_refl))) (fun _ h9 => h9) rfl (by decide +kernel) rfl rfl (Nat.le_of_ble_eq_true rfl) dX9_add_12 (fun H locs hP _ hS => ?_)
  have hP : va_P D vwCl (fd_WC a k σ6) H := by rw [eσ6]; exact fd_sP fd_WCi_12 hP
  refine lv_aload_n hx hb dX9_add_15 rfl (lv_at hl 0 rfl) ?_
  refine lv_dup hx hb dX9_add_16 rfl ?_
  refine va_get (ci := 9) (v := .int (σ6.1 13)) (C := RX9) (T := TX9) (N := 3) hx hb hts h9X9 hown hK hP 8 fd_WC_8 rfl 1 (by decide) (hts (.fieldLink RX9 13 "FailDiagnose$Tally" "missed" "I") (List.mem_of_getElem? (i := 2) (by eq_refl))) (fun _ h9 => h9) rfl dX9_add_17 ?_
  refine lv_lload_n hx hb dX9_add_20 rfl (lv_at hl 2 rfl) ?_
  refine lv_lload_n hx hb dX9_add_21 rfl (lv_at hl 1 rfl) ?_
  refine lv_ldc2 hx hb hown (hts (.constantLong RX9 25 (-1)) (List.mem_of_getElem? (i := 3) (by eq_refl))) dX9_add_22 ?_
  refine lv_lxor hx hb dX9_add_25 ?_
  refine lv_land hx hb dX9_add_26 ?_
  obtain ⟨w10, τ11, hc7, hf⟩ := fd_bds hf
  refine va_calli (va_runS (As := [.long (p3 &&& (p1 ^^^ (-1 : Int64)))]) (rest := [.int (σ6.1 13), .ref (a 8)]) ⟨hx, hb, hml, hown, hts⟩ (m_J13_bitCount_95d88_C l D a k H.size hI N (p3 &&& (p1 ^^^ (-1 : Int64))) σ6 _ hc7) (va_cwS 1 hts gX9_add_J13_bitCount_95d88 rfl rfl rfl (by decide +kernel) ⟨Nat.le_of_ble_eq_true rfl, Nat.le_of_ble_eq_true rfl⟩) ⟨fd_blC, fd_prC hP hK⟩ rfl rfl hl.1 rfl (lv_room (Nat.le_of_ble_eq_true rfl)) dX9_add_27 ⟨Nat.zero_le _, Nat.zero_le _⟩) hS (fun q _ h => fd_A_mono hS.1 h) (fun q h => fd_A_mono hS.1 h) (fun v8 u t H1 locs ht hvm hw hB hz hk hS => ?_)
  obtain ⟨hP1, hK1⟩ := hB
  rw [ht] at hP1
  obtain ⟨e1, e2⟩ := Prod.mk.inj hw
  subst e1
  subst e2
  obtain ⟨σ9, rfl⟩ : ∃ z, z = u := ⟨_, rfl⟩
  have hP := hP1
  generalize H1 = H at hP hS ⊢
  refine lv_iadd hx hb dX9_add_30 ?_
  obtain ⟨σ12, eσ12, hf⟩ := fd_lts hf
  refine va_put (ci := 9) (v := .int ((σ6.1 13) + v8)) (ty := .int) (C := RX9) (T := TX9) (N := 3) hx hb hts h9X9 tyX9 tyX9_ok nmX9 hown hK hP (fd_DC hI hJ) hS 8 fd_WC_8 rfl 1 (by decide) (hts (.fieldLink RX9 13 "FailDiagnose$Tally" "missed" "I") (List.mem_of_getElem? (i := 2) (by eq_refl))) (fun _ h9 => h9) rfl (by decide +kernel) rfl rfl (Nat.le_of_ble_eq_true rfl) dX9_add_31 (fun H locs hP _ hS => ?_)
  have hP : va_P D vwCl (fd_WC a k σ12) H := by rw [eσ12]; exact fd_sP fd_WCi_13 hP
  refine lv_aload_n hx hb dX9_add_34 rfl (lv_at hl 0 rfl) ?_
  refine lv_dup hx hb dX9_add_35 rfl ?_
  refine va_get (ci := 9) (v := .int (σ12.1 14)) (C := RX9) (T := TX9) (N := 3) hx hb hts h9X9 hown hK hP 8 fd_WC_8 rfl 2 (by decide) (hts (.fieldLink RX9 16 "FailDiagnose$Tally" "wrong" "I") (List.mem_of_getElem? (i := 4) (by eq_refl))) (fun _ h9 => h9) rfl dX9_add_36 ?_
  refine lv_lload_n hx hb dX9_add_39 rfl (lv_at hl 1 rfl) ?_
  refine lv_lload_n hx hb dX9_add_40 rfl (lv_at hl 2 rfl) ?_
  refine lv_ldc2 hx hb hown (hts (.constantLong RX9 25 (-1)) (List.mem_of_getElem? (i := 3) (by eq_refl))) dX9_add_41 ?_
  refine lv_lxor hx hb dX9_add_44 ?_
  refine lv_land hx hb dX9_add_45 ?_
  obtain ⟨w16, τ17, hc13, hf⟩ := fd_bds hf
  refine va_calli (va_runS (As := [.long (p1 &&& (p3 ^^^ (-1 : Int64)))]) (rest := [.int (σ12.1 14), .ref (a 8)]) ⟨hx, hb, hml, hown, hts⟩ (m_J13_bitCount_95d88_C l D a k H.size hI N (p1 &&& (p3 ^^^ (-1 : Int64))) σ12 _ hc13) (va_cwS 1 hts gX9_add_J13_bitCount_95d88 rfl rfl rfl (by decide +kernel) ⟨Nat.le_of_ble_eq_true rfl, Nat.le_of_ble_eq_true rfl⟩) ⟨fd_blC, fd_prC hP hK⟩ rfl rfl hl.1 rfl (lv_room (Nat.le_of_ble_eq_true rfl)) dX9_add_46 ⟨Nat.zero_le _, Nat.zero_le _⟩) hS (fun q _ h => fd_A_mono hS.1 h) (fun q h => fd_A_mono hS.1 h) (fun v14 u t H1 locs ht hvm hw hB hz hk hS => ?_)
  obtain ⟨hP1, hK1⟩ := hB
  rw [ht] at hP1
  obtain ⟨e1, e2⟩ := Prod.mk.inj hw
  subst e1
  subst e2
  obtain ⟨σ15, rfl⟩ : ∃ z, z = u := ⟨_, rfl⟩
  have hP := hP1
  generalize H1 = H at hP hS ⊢
  refine lv_iadd hx hb dX9_add_49 ?_
  obtain ⟨σ18, eσ18, hf⟩ := fd_lts hf
  refine va_put (ci := 9) (v := .int ((σ12.1 14) + v14)) (ty := .int) (C := RX9) (T := TX9) (N := 3) hx hb hts h9X9 tyX9 tyX9_ok nmX9 hown hK hP (fd_DC hI hJ) hS 8 fd_WC_8 rfl 2 (by decide) (hts (.fieldLink RX9 16 "FailDiagnose$Tally" "wrong" "I") (List.mem_of_getElem? (i := 4) (by eq_refl))) (fun _ h9 => h9) rfl (by decide +kernel) rfl rfl (Nat.le_of_ble_eq_true rfl) dX9_add_50 (fun H locs hP _ hS => ?_)
  have hP : va_P D vwCl (fd_WC a k σ18) H := by rw [eσ18]; exact fd_sP fd_WCi_14 hP
  exact W.vret hx hb hr (fun t ht hW => ⟨⟨σ18, rfl, Option.some.inj hf, by rw [ht]; exact hP, va_K.moved hW.alike hK⟩, hS.F ht⟩) hS.2.2 dX9_add_53
noncomputable def f_X3_compareWithFails_4_L17 (N : Nat) : Nat → Int64 → Int32 → fd_St → Option (Unit × fd_St)
  | 0 => fun _ _ _ => none
  | n + 1 => fun y1 y3 σ => fd_bd (f_X5_size_2 N σ) (fun v12 σ13 => if v12 ≤ y3 then (some ((), σ13)) else (fd_bd (f_X5_net_2 N y3 σ13) (fun v18 σ19 => fd_bd (f_X2_changed_1 N v18 σ19) (fun v23 σ24 => fd_bd (f_X5_fails_2 N y3 σ24) (fun v28 σ29 => fd_bd (f_X9_add_8 N v23 (v28 &&& y1) σ29) (fun _ σ34 => fd_lt (y3 + (1 : Int32)) (fun x37 => (f_X3_compareWithFails_4_L17 N n) y1 x37 σ34)))))))
noncomputable def f_X3_compareWithFails_4 (N : Nat) (σ : fd_St) : Option (Unit × fd_St) := fd_bd (f_X2_counted_1 N σ) (fun v2 σ3 => fd_bd (f_X9_reset_8 N σ3) (fun _ σ8 => f_X3_compareWithFails_4_L17 N N v2 (0 : Int32) σ8))
set_option maxHeartbeats 4000000 in
set_option maxRecDepth 100000 in
theorem m_X3_compareWithFails_4 (l : Launch) (D : va_G) (a : Nat → Nat) (k : Nat → ClassId) (sz : Nat) (hI : fd_I 39 a) (N : Nat) (σ : fd_St) (r : Unit × fd_St) (hf : f_X3_compareWithFails_4 N σ = some r) : Met l yX3_compareWithFails wsX3_compareWithFails ({ frames := 2, cells := 0, slots := 0, locals := 45 }) (va_Pc [.ref (a 4)] (fd_PC D a k sz σ)) (va_Qv (fun u => ((), u) = r) (fd_BC D a k) (fd_A 39 a sz)) 0 0 (fd_A 39 a sz) := by
  refine Met.ofW (cc := cX3_compareWithFails) (maxL := 4) (ret := none) (by decide) rfl ?_
  intro p e s m args below meth c s₁ B hml hv
  obtain ⟨rfl, hsz, hP, hK⟩ := hv
  have hx := B.exec
  have hb := B.bytes
  have hr := B.returns
  have hts := atoms_spec (ws := wsX3_compareWithFails) B.pre
  have hown : s.vm.findClass RX3 = some m.cls := findClass_of_methodNamed B.named
  have hlocks := B.notSynchronized
  subst hsz
  have hJ : ∀ i, i < 39 → fd_A 39 a s.heap.size (a i) := fun i hi => Or.inl ⟨i, hi, rfl⟩
  have hS : va_S (fd_A 39 a s.heap.size) s.heap s.heap [] := va_S.rf
  have hl := lv_entry ([.ref (a 4)]) (n := 4) (Nat.le_of_ble_eq_true rfl)
  rw [lg_entry_eq]
  generalize (lg_sl ([.ref (a 4)]) ++ List.replicate (4 - (lg_sl ([.ref (a 4)])).length) Slot.unset).toArray = ls at hl ⊢
  have hl : lv_has ls 4 [(0, .ref (a 4))] := hl
  have h9X3 : ∀ w ∈ u_ws RX3 TX3 7, w ∈ wsX3_compareWithFails := fd_su [54, 55, 56, 57, 58, 59, 60] (by eq_refl)
  have hL17 : ∀ (n : Nat), ∀ (y1 : Int64) (y3 : Int32) (σ : fd_St) (H : Heap) (locs : List Loc) (ls : Array Slot), va_P D vwCl (fd_WC a k σ) H → va_S (fd_A 39 a s.heap.size) s.heap H locs → lv_has ls 4 [(0, .ref (a 4)), (1, .long y1), (3, .int y3)] → f_X3_compareWithFails_4_L17 N n y1 y3 σ = some r → W p l e ((headSpec wsX3_compareWithFails ({ frames := 2, cells := 0, slots := 0, locals := 45 })).room) s m ([.ref (a 4)].toArray) below meth c H locs 0 0 (MQ below (va_Qv (fun u => ((), u) = r) (fd_BC D a k) (fd_A 39 a s.heap.size)) ([.ref (a 4)].toArray) s 0 0 (fd_A 39 a s.heap.size)) (F0 m 17 ls []) := by
    intro n
    induction n with
    | zero =>
      intro _ _ _ _ _ _ _ _ _ hf
      cases hf
    | succ n ih =>
      intro y1 y3 σ H locs ls hP hS hl hf
      unfold f_X3_compareWithFails_4_L17 at hf
      refine lv_iload_n hx hb dX3_compareWithFails_17 rfl (lv_at hl 2 rfl) ?_
      refine lv_aload_n hx hb dX3_compareWithFails_18 rfl (lv_at hl 0 rfl) ?_
      refine va_get (ci := 3) (v := .ref (a 2)) (C := RX3) (T := TX3) (N := 7) hx hb hts h9X3 hown hK hP 4 fd_WC_4 rfl 1 (by decide) (hts (.fieldLink RX3 40 "FailDiagnose$Diagnosis" "outputs" "LFailDiagnose$Outputs;") (List.mem_of_getElem? (i := 3) (by eq_refl))) (fun _ h9 => h9) rfl dX3_compareWithFails_19 ?_
      obtain ⟨w14, τ15, hc11, hf⟩ := fd_bds hf
      refine va_calli (va_runV (As := []) (rest := [.int y3]) ⟨hx, hb, hml, hown, hts⟩ (m_X5_size_2 l D a k H.size hI N σ _ hc11) (cwV 0 hts gX3_compareWithFails_X5_size rfl rfl rfl (by decide +kernel) ⟨Nat.le_of_ble_eq_true rfl, Nat.le_of_ble_eq_true rfl⟩) ⟨fd_blC, va_recv hK hP (ci := 5) (q0 := 2) rfl fd_WC_2, fd_prC hP hK⟩ rfl rfl hl.1 rfl (lv_room (Nat.le_of_ble_eq_true rfl)) dX3_compareWithFails_22 ⟨Nat.zero_le _, Nat.zero_le _⟩) hS (fun q _ h => fd_A_mono hS.1 h) (fun q h => fd_A_mono hS.1 h) (fun v12 u t H1 locs ht hvm hw hB hz hk hS => ?_)
      obtain ⟨hP1, hK1⟩ := hB
      rw [ht] at hP1
      obtain ⟨e1, e2⟩ := Prod.mk.inj hw
      subst e1
      subst e2
      obtain ⟨σ13, rfl⟩ : ∃ z, z = u := ⟨_, rfl⟩
      have hP := hP1
      generalize H1 = H at hP hS ⊢
      refine lv_icmp_ge (tgt := 66) hx hb dX3_compareWithFails_25 (by decide) (fun c16 => ?_) (fun c16 => ?_)
      · have hf := fd_itp c16 hf
        exact W.vret hx hb hr (fun t ht hW => ⟨⟨σ13, rfl, Option.some.inj hf, by rw [ht]; exact hP, va_K.moved hW.alike hK⟩, hS.F ht⟩) hS.2.2 dX3_compareWithFails_66
      · have hf := fd_itn c16 hf
        refine lv_aload_n hx hb dX3_compareWithFails_28 rfl (lv_at hl 0 rfl) ?_
        refine va_get (ci := 3) (v := .ref (a 8)) (C := RX3) (T := TX3) (N := 7) hx hb hts h9X3 hown hK hP 4 fd_WC_4 rfl 5 (by decide) (hts (.fieldLink RX3 28 "FailDiagnose$Diagnosis" "tally" "LFailDiagnose$Tally;") (List.mem_of_getElem? (i := 2) (by eq_refl))) (fun _ h9 => h9) rfl dX3_compareWithFails_29 ?_
        refine lv_aload_n hx hb dX3_compareWithFails_32 rfl (lv_at hl 0 rfl) ?_
        refine va_get (ci := 3) (v := .ref (a 1)) (C := RX3) (T := TX3) (N := 7) hx hb hts h9X3 hown hK hP 4 fd_WC_4 rfl 0 (by decide) (hts (.fieldLink RX3 36 "FailDiagnose$Diagnosis" "circuit" "LFailDiagnose$Circuit;") (List.mem_of_getElem? (i := 1) (by eq_refl))) (fun _ h9 => h9) rfl dX3_compareWithFails_33 ?_
        refine lv_aload_n hx hb dX3_compareWithFails_36 rfl (lv_at hl 0 rfl) ?_
        refine va_get (ci := 3) (v := .ref (a 2)) (C := RX3) (T := TX3) (N := 7) hx hb hts h9X3 hown hK hP 4 fd_WC_4 rfl 1 (by decide) (hts (.fieldLink RX3 40 "FailDiagnose$Diagnosis" "outputs" "LFailDiagnose$Outputs;") (List.mem_of_getElem? (i := 3) (by eq_refl))) (fun _ h9 => h9) rfl dX3_compareWithFails_37 ?_
        refine lv_iload_n hx hb dX3_compareWithFails_40 rfl (lv_at hl 2 rfl) ?_
        obtain ⟨w20, τ21, hc17, hf⟩ := fd_bds hf
        refine va_calli (va_runV (As := [.int y3]) (rest := [.ref (a 1), .ref (a 8)]) ⟨hx, hb, hml, hown, hts⟩ (m_X5_net_2 l D a k H.size hI N y3 σ13 _ hc17) (cwV 1 hts gX3_compareWithFails_X5_net rfl rfl rfl (by decide +kernel) ⟨Nat.le_of_ble_eq_true rfl, Nat.le_of_ble_eq_true rfl⟩) ⟨fd_blC, va_recv hK hP (ci := 5) (q0 := 2) rfl fd_WC_2, fd_prC hP hK⟩ rfl rfl hl.1 rfl (lv_room (Nat.le_of_ble_eq_true rfl)) dX3_compareWithFails_41 ⟨Nat.zero_le _, Nat.zero_le _⟩) hS (fun q _ h => fd_A_mono hS.1 h) (fun q h => fd_A_mono hS.1 h) (fun v18 u t H1 locs ht hvm hw hB hz hk hS => ?_)
        obtain ⟨hP1, hK1⟩ := hB
        rw [ht] at hP1
        obtain ⟨e1, e2⟩ := Prod.mk.inj hw
        subst e1
        subst e2
        obtain ⟨σ19, rfl⟩ : ∃ z, z = u := ⟨_, rfl⟩
        have hP := hP1
        generalize H1 = H at hP hS ⊢
        obtain ⟨w25, τ26, hc22, hf⟩ := fd_bds hf
        refine va_calll (va_runV (As := [.int v18]) (rest := [.ref (a 8)]) ⟨hx, hb, hml, hown, hts⟩ (m_X2_changed_1 l D a k H.size hI N v18 σ19 _ hc22) (cwV 1 hts gX3_compareWithFails_X2_changed rfl rfl rfl (by decide +kernel) ⟨Nat.le_of_ble_eq_true rfl, Nat.le_of_ble_eq_true rfl⟩) ⟨fd_blC, va_recv hK hP (ci := 2) (q0 := 1) rfl fd_WC_1, fd_prC hP hK⟩ rfl rfl hl.1 rfl (lv_room (Nat.le_of_ble_eq_true rfl)) dX3_compareWithFails_44 ⟨Nat.zero_le _, Nat.zero_le _⟩) hS (fun q _ h => fd_A_mono hS.1 h) (fun q h => fd_A_mono hS.1 h) (fun v23 u t H1 locs ht hvm hw hB hz hk hS => ?_)
        obtain ⟨hP1, hK1⟩ := hB
        rw [ht] at hP1
        obtain ⟨e1, e2⟩ := Prod.mk.inj hw
        subst e1
        subst e2
        obtain ⟨σ24, rfl⟩ : ∃ z, z = u := ⟨_, rfl⟩
        have hP := hP1
        generalize H1 = H at hP hS ⊢
        refine lv_aload_n hx hb dX3_compareWithFails_47 rfl (lv_at hl 0 rfl) ?_
        refine va_get (ci := 3) (v := .ref (a 2)) (C := RX3) (T := TX3) (N := 7) hx hb hts h9X3 hown hK hP 4 fd_WC_4 rfl 1 (by decide) (hts (.fieldLink RX3 40 "FailDiagnose$Diagnosis" "outputs" "LFailDiagnose$Outputs;") (List.mem_of_getElem? (i := 3) (by eq_refl))) (fun _ h9 => h9) rfl dX3_compareWithFails_48 ?_
        refine lv_iload_n hx hb dX3_compareWithFails_51 rfl (lv_at hl 2 rfl) ?_
        obtain ⟨w30, τ31, hc27, hf⟩ := fd_bds hf
        refine va_calll (va_runV (As := [.int y3]) (rest := [.long v23, .ref (a 8)]) ⟨hx, hb, hml, hown, hts⟩ (m_X5_fails_2 l D a k H.size hI N y3 σ24 _ hc27) (cwV 1 hts gX3_compareWithFails_X5_fails rfl rfl rfl (by decide +kernel) ⟨Nat.le_of_ble_eq_true rfl, Nat.le_of_ble_eq_true rfl⟩) ⟨fd_blC, va_recv hK hP (ci := 5) (q0 := 2) rfl fd_WC_2, fd_prC hP hK⟩ rfl rfl hl.1 rfl (lv_room (Nat.le_of_ble_eq_true rfl)) dX3_compareWithFails_52 ⟨Nat.zero_le _, Nat.zero_le _⟩) hS (fun q _ h => fd_A_mono hS.1 h) (fun q h => fd_A_mono hS.1 h) (fun v28 u t H1 locs ht hvm hw hB hz hk hS => ?_)
        obtain ⟨hP1, hK1⟩ := hB
        rw [ht] at hP1
        obtain ⟨e1, e2⟩ := Prod.mk.inj hw
        subst e1
        subst e2
        obtain ⟨σ29, rfl⟩ : ∃ z, z = u := ⟨_, rfl⟩
        have hP := hP1
        generalize H1 = H at hP hS ⊢
        refine lv_lload_n hx hb dX3_compareWithFails_55 rfl (lv_at hl 1 rfl) ?_
        refine lv_land hx hb dX3_compareWithFails_56 ?_
        obtain ⟨w35, τ36, hc32, hf⟩ := fd_bds hf
        refine va_callv (va_runV (As := [.long v23, .long (v28 &&& y1)]) (rest := []) ⟨hx, hb, hml, hown, hts⟩ (m_X9_add_8 l D a k H.size hI N v23 (v28 &&& y1) σ29 _ hc32) (cwV 2 hts gX3_compareWithFails_X9_add rfl rfl rfl (by decide +kernel) ⟨Nat.le_of_ble_eq_true rfl, Nat.le_of_ble_eq_true rfl⟩) ⟨fd_blC, va_recv hK hP (ci := 9) (q0 := 8) rfl fd_WC_8, fd_prC hP hK⟩ rfl rfl hl.1 rfl (lv_room (Nat.le_of_ble_eq_true rfl)) dX3_compareWithFails_57 ⟨Nat.zero_le _, Nat.zero_le _⟩) hS (fun q _ h => fd_A_mono hS.1 h) (fun q h => fd_A_mono hS.1 h) (fun u t H1 locs ht hvm hw hB hz hk hS => ?_)
        obtain ⟨hP1, hK1⟩ := hB
        rw [ht] at hP1
        have e2 := (Prod.mk.inj hw).2
        subst e2
        obtain ⟨σ34, rfl⟩ : ∃ z, z = u := ⟨_, rfl⟩
        have hP := hP1
        generalize H1 = H at hP hS ⊢
        obtain ⟨x37, ex37, hf⟩ := fd_lts hf
        refine lv_iinc (v := x37) (lv' := [(3, .int x37), (0, .ref (a 4)), (1, .long y1)]) hx hb dX3_compareWithFails_60 hl (k := 2) rfl (by rw [ex37]; rfl) (by decide) rfl (fun ls hl => ?_)
        refine lv_goto (tgt := 17) hx hb dX3_compareWithFails_63 (by decide) ?_
        exact ih y1 x37 σ34 _ _ _ hP hS (lv_sub hl [1, 2, 0] rfl) hf
  unfold f_X3_compareWithFails_4 at hf
  refine lv_aload_n hx hb dX3_compareWithFails_0 rfl (lv_at hl 0 rfl) ?_
  refine va_get (ci := 3) (v := .ref (a 1)) (C := RX3) (T := TX3) (N := 7) hx hb hts h9X3 hown hK hP 4 fd_WC_4 rfl 0 (by decide) (hts (.fieldLink RX3 36 "FailDiagnose$Diagnosis" "circuit" "LFailDiagnose$Circuit;") (List.mem_of_getElem? (i := 1) (by eq_refl))) (fun _ h9 => h9) rfl dX3_compareWithFails_1 ?_
  obtain ⟨w4, τ5, hc1, hf⟩ := fd_bds hf
  refine va_calll (va_runV (As := []) (rest := []) ⟨hx, hb, hml, hown, hts⟩ (m_X2_counted_1 l D a k s.heap.size hI N σ _ hc1) (cwV 0 hts gX3_compareWithFails_X2_counted rfl rfl rfl (by decide +kernel) ⟨Nat.le_of_ble_eq_true rfl, Nat.le_of_ble_eq_true rfl⟩) ⟨fd_blC, va_recv hK hP (ci := 2) (q0 := 1) rfl fd_WC_1, fd_prC hP hK⟩ rfl rfl hl.1 rfl (lv_room (Nat.le_of_ble_eq_true rfl)) dX3_compareWithFails_4 ⟨Nat.zero_le _, Nat.zero_le _⟩) hS (fun q _ h => fd_A_mono hS.1 h) (fun q h => fd_A_mono hS.1 h) (fun v2 u t H1 locs ht hvm hw hB hz hk hS => ?_)
  obtain ⟨hP1, hK1⟩ := hB
  rw [ht] at hP1
  obtain ⟨e1, e2⟩ := Prod.mk.inj hw
  subst e1
  subst e2
  obtain ⟨σ3, rfl⟩ : ∃ z, z = u := ⟨_, rfl⟩
  have hP := hP1
  generalize H1 = H at hP hS ⊢
  refine lv_lstore_n (lv' := [(1, .long v2), (0, .ref (a 4))]) hx hb dX3_compareWithFails_7 rfl hl (by decide) rfl (fun ls hl => ?_)
  refine lv_aload_n hx hb dX3_compareWithFails_8 rfl (lv_at hl 1 rfl) ?_
  refine va_get (ci := 3) (v := .ref (a 8)) (C := RX3) (T := TX3) (N := 7) hx hb hts h9X3 hown hK hP 4 fd_WC_4 rfl 5 (by decide) (hts (.fieldLink RX3 28 "FailDiagnose$Diagnosis" "tally" "LFailDiagnose$Tally;") (List.mem_of_getElem? (i := 2) (by eq_refl))) (fun _ h9 => h9) rfl dX3_compareWithFails_9 ?_
  obtain ⟨w9, τ10, hc6, hf⟩ := fd_bds hf
  refine va_callv (va_runV (As := []) (rest := []) ⟨hx, hb, hml, hown, hts⟩ (m_X9_reset_8 l D a k H.size hI N σ3 _ hc6) (cwV 0 hts gX3_compareWithFails_X9_reset rfl rfl rfl (by decide +kernel) ⟨Nat.le_of_ble_eq_true rfl, Nat.le_of_ble_eq_true rfl⟩) ⟨fd_blC, va_recv hK hP (ci := 9) (q0 := 8) rfl fd_WC_8, fd_prC hP hK⟩ rfl rfl hl.1 rfl (lv_room (Nat.le_of_ble_eq_true rfl)) dX3_compareWithFails_12 ⟨Nat.zero_le _, Nat.zero_le _⟩) hS (fun q _ h => fd_A_mono hS.1 h) (fun q h => fd_A_mono hS.1 h) (fun u t H1 locs ht hvm hw hB hz hk hS => ?_)
  obtain ⟨hP1, hK1⟩ := hB
  rw [ht] at hP1
  have e2 := (Prod.mk.inj hw).2
  subst e2
  obtain ⟨σ8, rfl⟩ : ∃ z, z = u := ⟨_, rfl⟩
  have hP := hP1
  generalize H1 = H at hP hS ⊢
  refine lv_iconst (v := (0 : Int32)) hx hb dX3_compareWithFails_15 (by decide) ?_
  refine lv_istore_n (lv' := [(3, .int (0 : Int32)), (1, .long v2), (0, .ref (a 4))]) hx hb dX3_compareWithFails_16 rfl hl (by decide) rfl (fun ls hl => ?_)
  exact hL17 N v2 (0 : Int32) σ8 _ _ _ hP hS (lv_sub hl [2, 1, 0] rfl) hf
noncomputable def f_X9_explained_8 (N : Nat) (σ : fd_St) : Option (Int32 × fd_St) := some (σ.1 12, σ)
set_option maxHeartbeats 4000000 in
set_option maxRecDepth 100000 in
theorem m_X9_explained_8 (l : Launch) (D : va_G) (a : Nat → Nat) (k : Nat → ClassId) (sz : Nat) (hI : fd_I 39 a) (N : Nat) (σ : fd_St) (r : Int32 × fd_St) (hf : f_X9_explained_8 N σ = some r) : Met l yX9_explained wsX9_explained ({ frames := 0, cells := 0, slots := 0, locals := 0 }) (va_Pc [.ref (a 8)] (fd_PC D a k sz σ)) (va_Qi (fun v u => (v, u) = r) (fd_BC D a k) (fd_A 39 a sz)) 0 0 (fd_A 39 a sz) := by
  refine Met.ofW (cc := cX9_explained) (maxL := 1) (ret := (some .int)) (by decide) rfl ?_
  intro p e s m args below meth c s₁ B hml hv
  obtain ⟨rfl, hsz, hP, hK⟩ := hv
  have hx := B.exec
  have hb := B.bytes
  have hr := B.returns
  have hts := atoms_spec (ws := wsX9_explained) B.pre
  have hown : s.vm.findClass RX9 = some m.cls := findClass_of_methodNamed B.named
  have hlocks := B.notSynchronized
  subst hsz
  have hJ : ∀ i, i < 39 → fd_A 39 a s.heap.size (a i) := fun i hi => Or.inl ⟨i, hi, rfl⟩
  have hS : va_S (fd_A 39 a s.heap.size) s.heap s.heap [] := va_S.rf
  have hl := lv_entry ([.ref (a 8)]) (n := 1) (Nat.le_of_ble_eq_true rfl)
  rw [lg_entry_eq]
  generalize (lg_sl ([.ref (a 8)]) ++ List.replicate (1 - (lg_sl ([.ref (a 8)])).length) Slot.unset).toArray = ls at hl ⊢
  have hl : lv_has ls 1 [(0, .ref (a 8))] := hl
  have h9X9 : ∀ w ∈ u_ws RX9 TX9 3, w ∈ wsX9_explained := fd_su [2, 3, 4] (by eq_refl)
  unfold f_X9_explained_8 at hf
  refine lv_aload_n hx hb dX9_explained_0 rfl (lv_at hl 0 rfl) ?_
  refine va_get (ci := 9) (v := .int (σ.1 12)) (C := RX9) (T := TX9) (N := 3) hx hb hts h9X9 hown hK hP 8 fd_WC_8 rfl 0 (by decide) (hts (.fieldLink RX9 7 "FailDiagnose$Tally" "explained" "I") (List.mem_of_getElem? (i := 1) (by eq_refl))) (fun _ h9 => h9) rfl dX9_explained_1 ?_
  exact W.iret (v := (σ.1 12)) hx hb hr (fun t ht hW => ⟨⟨σ.1 12, σ, rfl, Option.some.inj hf, by rw [ht]; exact hP, va_K.moved hW.alike hK⟩, hS.F ht⟩) hS.2.2 dX9_explained_4
noncomputable def f_X9_missed_8 (N : Nat) (σ : fd_St) : Option (Int32 × fd_St) := some (σ.1 13, σ)
set_option maxHeartbeats 4000000 in
set_option maxRecDepth 100000 in
theorem m_X9_missed_8 (l : Launch) (D : va_G) (a : Nat → Nat) (k : Nat → ClassId) (sz : Nat) (hI : fd_I 39 a) (N : Nat) (σ : fd_St) (r : Int32 × fd_St) (hf : f_X9_missed_8 N σ = some r) : Met l yX9_missed wsX9_missed ({ frames := 0, cells := 0, slots := 0, locals := 0 }) (va_Pc [.ref (a 8)] (fd_PC D a k sz σ)) (va_Qi (fun v u => (v, u) = r) (fd_BC D a k) (fd_A 39 a sz)) 0 0 (fd_A 39 a sz) := by
  refine Met.ofW (cc := cX9_missed) (maxL := 1) (ret := (some .int)) (by decide) rfl ?_
  intro p e s m args below meth c s₁ B hml hv
  obtain ⟨rfl, hsz, hP, hK⟩ := hv
  have hx := B.exec
  have hb := B.bytes
  have hr := B.returns
  have hts := atoms_spec (ws := wsX9_missed) B.pre
  have hown : s.vm.findClass RX9 = some m.cls := findClass_of_methodNamed B.named
  have hlocks := B.notSynchronized
  subst hsz
  have hJ : ∀ i, i < 39 → fd_A 39 a s.heap.size (a i) := fun i hi => Or.inl ⟨i, hi, rfl⟩
  have hS : va_S (fd_A 39 a s.heap.size) s.heap s.heap [] := va_S.rf
  have hl := lv_entry ([.ref (a 8)]) (n := 1) (Nat.le_of_ble_eq_true rfl)
  rw [lg_entry_eq]
  generalize (lg_sl ([.ref (a 8)]) ++ List.replicate (1 - (lg_sl ([.ref (a 8)])).length) Slot.unset).toArray = ls at hl ⊢
  have hl : lv_has ls 1 [(0, .ref (a 8))] := hl
  have h9X9 : ∀ w ∈ u_ws RX9 TX9 3, w ∈ wsX9_missed := fd_su [2, 3, 4] (by eq_refl)
  unfold f_X9_missed_8 at hf
  refine lv_aload_n hx hb dX9_missed_0 rfl (lv_at hl 0 rfl) ?_
  refine va_get (ci := 9) (v := .int (σ.1 13)) (C := RX9) (T := TX9) (N := 3) hx hb hts h9X9 hown hK hP 8 fd_WC_8 rfl 1 (by decide) (hts (.fieldLink RX9 13 "FailDiagnose$Tally" "missed" "I") (List.mem_of_getElem? (i := 1) (by eq_refl))) (fun _ h9 => h9) rfl dX9_missed_1 ?_
  exact W.iret (v := (σ.1 13)) hx hb hr (fun t ht hW => ⟨⟨σ.1 13, σ, rfl, Option.some.inj hf, by rw [ht]; exact hP, va_K.moved hW.alike hK⟩, hS.F ht⟩) hS.2.2 dX9_missed_4
noncomputable def f_X9_wrong_8 (N : Nat) (σ : fd_St) : Option (Int32 × fd_St) := some (σ.1 14, σ)
set_option maxHeartbeats 4000000 in
set_option maxRecDepth 100000 in
theorem m_X9_wrong_8 (l : Launch) (D : va_G) (a : Nat → Nat) (k : Nat → ClassId) (sz : Nat) (hI : fd_I 39 a) (N : Nat) (σ : fd_St) (r : Int32 × fd_St) (hf : f_X9_wrong_8 N σ = some r) : Met l yX9_wrong wsX9_wrong ({ frames := 0, cells := 0, slots := 0, locals := 0 }) (va_Pc [.ref (a 8)] (fd_PC D a k sz σ)) (va_Qi (fun v u => (v, u) = r) (fd_BC D a k) (fd_A 39 a sz)) 0 0 (fd_A 39 a sz) := by
  refine Met.ofW (cc := cX9_wrong) (maxL := 1) (ret := (some .int)) (by decide) rfl ?_
  intro p e s m args below meth c s₁ B hml hv
  obtain ⟨rfl, hsz, hP, hK⟩ := hv
  have hx := B.exec
  have hb := B.bytes
  have hr := B.returns
  have hts := atoms_spec (ws := wsX9_wrong) B.pre
  have hown : s.vm.findClass RX9 = some m.cls := findClass_of_methodNamed B.named
  have hlocks := B.notSynchronized
  subst hsz
  have hJ : ∀ i, i < 39 → fd_A 39 a s.heap.size (a i) := fun i hi => Or.inl ⟨i, hi, rfl⟩
  have hS : va_S (fd_A 39 a s.heap.size) s.heap s.heap [] := va_S.rf
  have hl := lv_entry ([.ref (a 8)]) (n := 1) (Nat.le_of_ble_eq_true rfl)
  rw [lg_entry_eq]
  generalize (lg_sl ([.ref (a 8)]) ++ List.replicate (1 - (lg_sl ([.ref (a 8)])).length) Slot.unset).toArray = ls at hl ⊢
  have hl : lv_has ls 1 [(0, .ref (a 8))] := hl
  have h9X9 : ∀ w ∈ u_ws RX9 TX9 3, w ∈ wsX9_wrong := fd_su [2, 3, 4] (by eq_refl)
  unfold f_X9_wrong_8 at hf
  refine lv_aload_n hx hb dX9_wrong_0 rfl (lv_at hl 0 rfl) ?_
  refine va_get (ci := 9) (v := .int (σ.1 14)) (C := RX9) (T := TX9) (N := 3) hx hb hts h9X9 hown hK hP 8 fd_WC_8 rfl 2 (by decide) (hts (.fieldLink RX9 16 "FailDiagnose$Tally" "wrong" "I") (List.mem_of_getElem? (i := 1) (by eq_refl))) (fun _ h9 => h9) rfl dX9_wrong_1 ?_
  exact W.iret (v := (σ.1 14)) hx hb hr (fun t ht hW => ⟨⟨σ.1 14, σ, rfl, Option.some.inj hf, by rw [ht]; exact hP, va_K.moved hW.alike hK⟩, hS.F ht⟩) hS.2.2 dX9_wrong_4
noncomputable def f_X8_missed_5 (N : Nat) (p1 : Int32) (σ : fd_St) : Option (Int32 × fd_St) := fd_gd (vp_in p1 480) (fd_gd (vp_in (σ.2.1 28 p1.toNatClampNeg) 480) (some (σ.2.1 26 (σ.2.1 28 p1.toNatClampNeg).toNatClampNeg, σ)))
set_option maxHeartbeats 4000000 in
set_option maxRecDepth 100000 in
theorem m_X8_missed_5 (l : Launch) (D : va_G) (a : Nat → Nat) (k : Nat → ClassId) (sz : Nat) (hI : fd_I 39 a) (N : Nat) (p1 : Int32) (σ : fd_St) (r : Int32 × fd_St) (hf : f_X8_missed_5 N p1 σ = some r) : Met l yX8_missed wsX8_missed ({ frames := 0, cells := 0, slots := 0, locals := 0 }) (va_Pc [.ref (a 5), .int p1] (fd_PC D a k sz σ)) (va_Qi (fun v u => (v, u) = r) (fd_BC D a k) (fd_A 39 a sz)) 0 0 (fd_A 39 a sz) := by
  refine Met.ofW (cc := cX8_missed) (maxL := 2) (ret := (some .int)) (by decide) rfl ?_
  intro p e s m args below meth c s₁ B hml hv
  obtain ⟨rfl, hsz, hP, hK⟩ := hv
  have hx := B.exec
  have hb := B.bytes
  have hr := B.returns
  have hts := atoms_spec (ws := wsX8_missed) B.pre
  have hown : s.vm.findClass RX8 = some m.cls := findClass_of_methodNamed B.named
  have hlocks := B.notSynchronized
  subst hsz
  have hJ : ∀ i, i < 39 → fd_A 39 a s.heap.size (a i) := fun i hi => Or.inl ⟨i, hi, rfl⟩
  have hS : va_S (fd_A 39 a s.heap.size) s.heap s.heap [] := va_S.rf
  have hl := lv_entry ([.ref (a 5), .int p1]) (n := 2) (Nat.le_of_ble_eq_true rfl)
  rw [lg_entry_eq]
  generalize (lg_sl ([.ref (a 5), .int p1]) ++ List.replicate (2 - (lg_sl ([.ref (a 5), .int p1])).length) Slot.unset).toArray = ls at hl ⊢
  have hl : lv_has ls 2 [(0, .ref (a 5)), (1, .int p1)] := hl
  have h9X8 : ∀ w ∈ u_ws RX8 TX8 7, w ∈ wsX8_missed := fd_su [3, 4, 5, 6, 7, 8, 9] (by eq_refl)
  unfold f_X8_missed_5 at hf
  refine lv_aload_n hx hb dX8_missed_0 rfl (lv_at hl 0 rfl) ?_
  refine va_get (ci := 8) (v := .ref (a 26)) (C := RX8) (T := TX8) (N := 7) hx hb hts h9X8 hown hK hP 5 fd_WC_5 rfl 3 (by decide) (hts (.fieldLink RX8 21 "FailDiagnose$Suspects" "missed" "[I") (List.mem_of_getElem? (i := 1) (by eq_refl))) (fun _ h9 => h9) rfl dX8_missed_1 ?_
  refine lv_aload_n hx hb dX8_missed_4 rfl (lv_at hl 0 rfl) ?_
  refine va_get (ci := 8) (v := .ref (a 28)) (C := RX8) (T := TX8) (N := 7) hx hb hts h9X8 hown hK hP 5 fd_WC_5 rfl 5 (by decide) (hts (.fieldLink RX8 27 "FailDiagnose$Suspects" "order" "[I") (List.mem_of_getElem? (i := 2) (by eq_refl))) (fun _ h9 => h9) rfl dX8_missed_5 ?_
  refine lv_iload_n hx hb dX8_missed_8 rfl (lv_at hl 1 rfl) ?_
  obtain ⟨g1, hf⟩ := fd_gds hf
  refine va_iald hx hb hK hP 28 16 fd_WC_28 fd_tyC_28 g1 dX8_missed_9 ?_
  obtain ⟨g2, hf⟩ := fd_gds hf
  refine va_iald hx hb hK hP 26 14 fd_WC_26 fd_tyC_26 g2 dX8_missed_10 ?_
  exact W.iret (v := (σ.2.1 26 (σ.2.1 28 p1.toNatClampNeg).toNatClampNeg)) hx hb hr (fun t ht hW => ⟨⟨σ.2.1 26 (σ.2.1 28 p1.toNatClampNeg).toNatClampNeg, σ, rfl, Option.some.inj hf, by rw [ht]; exact hP, va_K.moved hW.alike hK⟩, hS.F ht⟩) hS.2.2 dX8_missed_11
noncomputable def f_X8_wrong_5 (N : Nat) (p1 : Int32) (σ : fd_St) : Option (Int32 × fd_St) := fd_gd (vp_in p1 480) (fd_gd (vp_in (σ.2.1 28 p1.toNatClampNeg) 480) (some (σ.2.1 27 (σ.2.1 28 p1.toNatClampNeg).toNatClampNeg, σ)))
set_option maxHeartbeats 4000000 in
set_option maxRecDepth 100000 in
theorem m_X8_wrong_5 (l : Launch) (D : va_G) (a : Nat → Nat) (k : Nat → ClassId) (sz : Nat) (hI : fd_I 39 a) (N : Nat) (p1 : Int32) (σ : fd_St) (r : Int32 × fd_St) (hf : f_X8_wrong_5 N p1 σ = some r) : Met l yX8_wrong wsX8_wrong ({ frames := 0, cells := 0, slots := 0, locals := 0 }) (va_Pc [.ref (a 5), .int p1] (fd_PC D a k sz σ)) (va_Qi (fun v u => (v, u) = r) (fd_BC D a k) (fd_A 39 a sz)) 0 0 (fd_A 39 a sz) := by
  refine Met.ofW (cc := cX8_wrong) (maxL := 2) (ret := (some .int)) (by decide) rfl ?_
  intro p e s m args below meth c s₁ B hml hv
  obtain ⟨rfl, hsz, hP, hK⟩ := hv
  have hx := B.exec
  have hb := B.bytes
  have hr := B.returns
  have hts := atoms_spec (ws := wsX8_wrong) B.pre
  have hown : s.vm.findClass RX8 = some m.cls := findClass_of_methodNamed B.named
  have hlocks := B.notSynchronized
  subst hsz
  have hJ : ∀ i, i < 39 → fd_A 39 a s.heap.size (a i) := fun i hi => Or.inl ⟨i, hi, rfl⟩
  have hS : va_S (fd_A 39 a s.heap.size) s.heap s.heap [] := va_S.rf
  have hl := lv_entry ([.ref (a 5), .int p1]) (n := 2) (Nat.le_of_ble_eq_true rfl)
  rw [lg_entry_eq]
  generalize (lg_sl ([.ref (a 5), .int p1]) ++ List.replicate (2 - (lg_sl ([.ref (a 5), .int p1])).length) Slot.unset).toArray = ls at hl ⊢
  have hl : lv_has ls 2 [(0, .ref (a 5)), (1, .int p1)] := hl
  have h9X8 : ∀ w ∈ u_ws RX8 TX8 7, w ∈ wsX8_wrong := fd_su [3, 4, 5, 6, 7, 8, 9] (by eq_refl)
  unfold f_X8_wrong_5 at hf
  refine lv_aload_n hx hb dX8_wrong_0 rfl (lv_at hl 0 rfl) ?_
  refine va_get (ci := 8) (v := .ref (a 27)) (C := RX8) (T := TX8) (N := 7) hx hb hts h9X8 hown hK hP 5 fd_WC_5 rfl 4 (by decide) (hts (.fieldLink RX8 24 "FailDiagnose$Suspects" "wrong" "[I") (List.mem_of_getElem? (i := 1) (by eq_refl))) (fun _ h9 => h9) rfl dX8_wrong_1 ?_
  refine lv_aload_n hx hb dX8_wrong_4 rfl (lv_at hl 0 rfl) ?_
  refine va_get (ci := 8) (v := .ref (a 28)) (C := RX8) (T := TX8) (N := 7) hx hb hts h9X8 hown hK hP 5 fd_WC_5 rfl 5 (by decide) (hts (.fieldLink RX8 27 "FailDiagnose$Suspects" "order" "[I") (List.mem_of_getElem? (i := 2) (by eq_refl))) (fun _ h9 => h9) rfl dX8_wrong_5 ?_
  refine lv_iload_n hx hb dX8_wrong_8 rfl (lv_at hl 1 rfl) ?_
  obtain ⟨g1, hf⟩ := fd_gds hf
  refine va_iald hx hb hK hP 28 16 fd_WC_28 fd_tyC_28 g1 dX8_wrong_9 ?_
  obtain ⟨g2, hf⟩ := fd_gds hf
  refine va_iald hx hb hK hP 27 15 fd_WC_27 fd_tyC_27 g2 dX8_wrong_10 ?_
  exact W.iret (v := (σ.2.1 27 (σ.2.1 28 p1.toNatClampNeg).toNatClampNeg)) hx hb hr (fun t ht hW => ⟨⟨σ.2.1 27 (σ.2.1 28 p1.toNatClampNeg).toNatClampNeg, σ, rfl, Option.some.inj hf, by rw [ht]; exact hP, va_K.moved hW.alike hK⟩, hS.F ht⟩) hS.2.2 dX8_wrong_11
noncomputable def f_X8_sum_5 (N : Nat) (p1 : Int32) (σ : fd_St) : Option (Int32 × fd_St) := fd_bd (f_X8_missed_5 N p1 σ) (fun v2 σ3 => fd_bd (f_X8_wrong_5 N p1 σ3) (fun v7 σ8 => some (((2 : Int32) * v2) + v7, σ8)))
set_option maxHeartbeats 4000000 in
set_option maxRecDepth 100000 in
theorem m_X8_sum_5 (l : Launch) (D : va_G) (a : Nat → Nat) (k : Nat → ClassId) (sz : Nat) (hI : fd_I 39 a) (N : Nat) (p1 : Int32) (σ : fd_St) (r : Int32 × fd_St) (hf : f_X8_sum_5 N p1 σ = some r) : Met l yX8_sum wsX8_sum ({ frames := 1, cells := 0, slots := 0, locals := 21 }) (va_Pc [.ref (a 5), .int p1] (fd_PC D a k sz σ)) (va_Qi (fun v u => (v, u) = r) (fd_BC D a k) (fd_A 39 a sz)) 0 0 (fd_A 39 a sz) := by
  refine Met.ofW (cc := cX8_sum) (maxL := 2) (ret := (some .int)) (by decide) rfl ?_
  intro p e s m args below meth c s₁ B hml hv
  obtain ⟨rfl, hsz, hP, hK⟩ := hv
  have hx := B.exec
  have hb := B.bytes
  have hr := B.returns
  have hts := atoms_spec (ws := wsX8_sum) B.pre
  have hown : s.vm.findClass RX8 = some m.cls := findClass_of_methodNamed B.named
  have hlocks := B.notSynchronized
  subst hsz
  have hJ : ∀ i, i < 39 → fd_A 39 a s.heap.size (a i) := fun i hi => Or.inl ⟨i, hi, rfl⟩
  have hS : va_S (fd_A 39 a s.heap.size) s.heap s.heap [] := va_S.rf
  have hl := lv_entry ([.ref (a 5), .int p1]) (n := 2) (Nat.le_of_ble_eq_true rfl)
  rw [lg_entry_eq]
  generalize (lg_sl ([.ref (a 5), .int p1]) ++ List.replicate (2 - (lg_sl ([.ref (a 5), .int p1])).length) Slot.unset).toArray = ls at hl ⊢
  have hl : lv_has ls 2 [(0, .ref (a 5)), (1, .int p1)] := hl
  unfold f_X8_sum_5 at hf
  refine lv_iconst (v := (2 : Int32)) hx hb dX8_sum_0 (by decide) ?_
  refine lv_aload_n hx hb dX8_sum_1 rfl (lv_at hl 0 rfl) ?_
  refine lv_iload_n hx hb dX8_sum_2 rfl (lv_at hl 1 rfl) ?_
  obtain ⟨w4, τ5, hc1, hf⟩ := fd_bds hf
  refine va_calli (va_runV (As := [.int p1]) (rest := [.int (2 : Int32)]) ⟨hx, hb, hml, hown, hts⟩ (m_X8_missed_5 l D a k s.heap.size hI N p1 σ _ hc1) (cwV 1 hts gX8_sum_X8_missed rfl rfl rfl (by decide +kernel) ⟨Nat.le_of_ble_eq_true rfl, Nat.le_of_ble_eq_true rfl⟩) ⟨fd_blC, va_recv hK hP (ci := 8) (q0 := 5) rfl fd_WC_5, fd_prC hP hK⟩ rfl rfl hl.1 rfl (lv_room (Nat.le_of_ble_eq_true rfl)) dX8_sum_3 ⟨Nat.zero_le _, Nat.zero_le _⟩) hS (fun q _ h => fd_A_mono hS.1 h) (fun q h => fd_A_mono hS.1 h) (fun v2 u t H1 locs ht hvm hw hB hz hk hS => ?_)
  obtain ⟨hP1, hK1⟩ := hB
  rw [ht] at hP1
  obtain ⟨e1, e2⟩ := Prod.mk.inj hw
  subst e1
  subst e2
  obtain ⟨σ3, rfl⟩ : ∃ z, z = u := ⟨_, rfl⟩
  have hP := hP1
  generalize H1 = H at hP hS ⊢
  refine lv_imul hx hb dX8_sum_6 ?_
  refine lv_aload_n hx hb dX8_sum_7 rfl (lv_at hl 0 rfl) ?_
  refine lv_iload_n hx hb dX8_sum_8 rfl (lv_at hl 1 rfl) ?_
  obtain ⟨w9, τ10, hc6, hf⟩ := fd_bds hf
  refine va_calli (va_runV (As := [.int p1]) (rest := [.int ((2 : Int32) * v2)]) ⟨hx, hb, hml, hown, hts⟩ (m_X8_wrong_5 l D a k H.size hI N p1 σ3 _ hc6) (cwV 1 hts gX8_sum_X8_wrong rfl rfl rfl (by decide +kernel) ⟨Nat.le_of_ble_eq_true rfl, Nat.le_of_ble_eq_true rfl⟩) ⟨fd_blC, va_recv hK hP (ci := 8) (q0 := 5) rfl fd_WC_5, fd_prC hP hK⟩ rfl rfl hl.1 rfl (lv_room (Nat.le_of_ble_eq_true rfl)) dX8_sum_9 ⟨Nat.zero_le _, Nat.zero_le _⟩) hS (fun q _ h => fd_A_mono hS.1 h) (fun q h => fd_A_mono hS.1 h) (fun v7 u t H1 locs ht hvm hw hB hz hk hS => ?_)
  obtain ⟨hP1, hK1⟩ := hB
  rw [ht] at hP1
  obtain ⟨e1, e2⟩ := Prod.mk.inj hw
  subst e1
  subst e2
  obtain ⟨σ8, rfl⟩ : ∃ z, z = u := ⟨_, rfl⟩
  have hP := hP1
  generalize H1 = H at hP hS ⊢
  refine lv_iadd hx hb dX8_sum_12 ?_
  exact W.iret (v := (((2 : Int32) * v2) + v7)) hx hb hr (fun t ht hW => ⟨⟨((2 : Int32) * v2) + v7, σ8, rfl, Option.some.inj hf, by rw [ht]; exact hP, va_K.moved hW.alike hK⟩, hS.F ht⟩) hS.2.2 dX8_sum_13
