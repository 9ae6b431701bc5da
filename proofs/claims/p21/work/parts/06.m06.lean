noncomputable def f_X9_wrong_7 (N : Nat) (σ : fd_St) : Option (Int32 × fd_St) := some (σ.1 11, σ)
set_option maxHeartbeats 4000000 in
set_option maxRecDepth 100000 in
theorem m_X9_wrong_7 (l : Launch) (D : va_G) (a : Nat → Nat) (k : Nat → ClassId) (sz : Nat) (hI : fd_I 39 a) (N : Nat) (σ : fd_St) (r : Int32 × fd_St) (hf : f_X9_wrong_7 N σ = some r) : Met l yX9_wrong wsX9_wrong ({ frames := 0, cells := 0, slots := 0, locals := 0 }) (va_Pc [.ref (a 7)] (fd_PC D a k sz σ)) (va_Qi (fun v u => (v, u) = r) (fd_BC D a k) (fd_A 39 a sz)) 0 0 (fd_A 39 a sz) := by
  refine Met.ofW (cc := cX9_wrong) (maxL := 1) (ret := (some .int)) (by decide) rfl ?_
  intro p e s m args below meth c s₁ B hml hv
  obtain ⟨rfl, hsz, hP, hK⟩ := hv
  have hx := B.exec
  have hb := B.bytes
  have hr := B.returns
  have hts := atoms_spec (ws := wsX9_wrong) B.pre
  have hown : s.vm.findClass RX9 = some m.cls := findClass_of_methodNamed B.named
  have hlocks := B.notSynchronized
  subst hsz
  have hJ : ∀ i, i < 39 → fd_A 39 a s.heap.size (a i) := fun i hi => Or.inl ⟨i, hi, rfl⟩
  have hS : va_S (fd_A 39 a s.heap.size) s.heap s.heap [] := va_S.rf
  have hl := lv_entry ([.ref (a 7)]) (n := 1) (Nat.le_of_ble_eq_true rfl)
  rw [lg_entry_eq]
  generalize (lg_sl ([.ref (a 7)]) ++ List.replicate (1 - (lg_sl ([.ref (a 7)])).length) Slot.unset).toArray = ls at hl ⊢
  have hl : lv_has ls 1 [(0, .ref (a 7))] := hl
  have h9X9 : ∀ w ∈ u_ws RX9 TX9 3, w ∈ wsX9_wrong := fd_su [2, 3, 4] (by eq_refl)
  unfold f_X9_wrong_7 at hf
  refine lv_aload_n hx hb dX9_wrong_0 rfl (lv_at hl 0 rfl) ?_
  refine va_get (ci := 9) (v := .int (σ.1 11)) (C := RX9) (T := TX9) (N := 3) hx hb hts h9X9 hown hK hP 7 fd_WC_7 rfl 2 (by decide) (hts (.fieldLink RX9 16 "FailDiagnose$Tally" "wrong" "I") (List.mem_of_getElem? (i := 1) (by eq_refl))) (fun _ h9 => h9) rfl dX9_wrong_1 ?_
  exact W.iret (v := (σ.1 11)) hx hb hr (fun t ht hW => ⟨⟨σ.1 11, σ, rfl, Option.some.inj hf, by rw [ht]; exact hP, va_K.moved hW.alike hK⟩, hS.F ht⟩) hS.2.2 dX9_wrong_4
noncomputable def f_X10_ofBestPair_0 (N : Nat) (p1 : Int32) (σ : fd_St) : Option (Int32 × fd_St) := fd_bd (f_X3_bestPair_4 N σ) (fun _ σ3 => if p1 = (0 : Int32) then (fd_bd (f_X0_first_6 N σ3) (fun v8 σ9 => some (v8, σ9))) else (if p1 = (1 : Int32) then (fd_bd (f_X0_second_6 N σ3) (fun v14 σ15 => some (v14, σ15))) else (if p1 = (2 : Int32) then (fd_bd (f_X0_tally_6 N σ3) (fun _ σ21 => fd_bd (f_X9_sum_7 N σ21) (fun v25 σ26 => some (v25, σ26)))) else (if p1 = (3 : Int32) then (fd_bd (f_X0_tally_6 N σ3) (fun _ σ32 => fd_bd (f_X9_explained_7 N σ32) (fun v36 σ37 => some (v36, σ37)))) else (if p1 = (4 : Int32) then (fd_bd (f_X0_tally_6 N σ3) (fun _ σ43 => fd_bd (f_X9_missed_7 N σ43) (fun v47 σ48 => some (v47, σ48)))) else (fd_bd (f_X0_tally_6 N σ3) (fun _ σ53 => fd_bd (f_X9_wrong_7 N σ53) (fun v57 σ58 => some (v57, σ58)))))))))
set_option maxHeartbeats 4000000 in
set_option maxRecDepth 100000 in
theorem m_X10_ofBestPair_0 (l : Launch) (D : va_G) (a : Nat → Nat) (k : Nat → ClassId) (sz : Nat) (hI : fd_I 39 a) (N : Nat) (p1 : Int32) (σ : fd_St) (r : Int32 × fd_St) (hf : f_X10_ofBestPair_0 N p1 σ = some r) : Met l yX10_ofBestPair wsX10_ofBestPair ({ frames := 1, cells := 0, slots := 0, locals := 20 }) (va_Pc [.ref (a 0), .int p1] (fd_PC D a k sz σ)) (va_Qi (fun v u => (v, u) = r) (fd_BC D a k) (fd_A 39 a sz)) 0 0 (fd_A 39 a sz) := by
  refine Met.ofW (cc := cX10_ofBestPair) (maxL := 3) (ret := (some .int)) (by decide) rfl ?_
  intro p e s m args below meth c s₁ B hml hv
  obtain ⟨rfl, hsz, hP, hK⟩ := hv
  have hx := B.exec
  have hb := B.bytes
  have hr := B.returns
  have hts := atoms_spec (ws := wsX10_ofBestPair) B.pre
  have hown : s.vm.findClass RX10 = some m.cls := findClass_of_methodNamed B.named
  have hlocks := B.notSynchronized
  subst hsz
  have hJ : ∀ i, i < 39 → fd_A 39 a s.heap.size (a i) := fun i hi => Or.inl ⟨i, hi, rfl⟩
  have hS : va_S (fd_A 39 a s.heap.size) s.heap s.heap [] := va_S.rf
  have hl := lv_entry ([.ref (a 0), .int p1]) (n := 3) (Nat.le_of_ble_eq_true rfl)
  rw [lg_entry_eq]
  generalize (lg_sl ([.ref (a 0), .int p1]) ++ List.replicate (3 - (lg_sl ([.ref (a 0), .int p1])).length) Slot.unset).toArray = ls at hl ⊢
  have hl : lv_has ls 3 [(0, .ref (a 0)), (1, .int p1)] := hl
  have h9X10 : ∀ w ∈ u_ws RX10 TX10 8, w ∈ wsX10_ofBestPair := fd_su [44, 45, 46, 47, 48, 49, 50, 51] (by eq_refl)
  unfold f_X10_ofBestPair_0 at hf
  refine lv_aload_n hx hb dX10_ofBestPair_0 rfl (lv_at hl 0 rfl) ?_
  refine va_get (ci := 10) (v := .ref (a 4)) (C := RX10) (T := TX10) (N := 8) hx hb hts h9X10 hown hK hP 0 fd_WC_0 rfl 3 (by decide) (hts (.fieldLink RX10 35 "FailDiagnose" "diagnosis" "LFailDiagnose$Diagnosis;") (List.mem_of_getElem? (i := 1) (by eq_refl))) (fun _ h9 => h9) rfl dX10_ofBestPair_1 ?_
  obtain ⟨w4, τ5, hc1, hf⟩ := fd_bds hf
  refine va_callr (va_runV (As := []) (rest := []) ⟨hx, hb, hml, hown, hts⟩ (m_X3_bestPair_4 l D a k s.heap.size hI N σ _ hc1) (cwV 0 hts gX10_ofBestPair_X3_bestPair rfl rfl rfl (by decide +kernel) ⟨Nat.le_of_ble_eq_true rfl, Nat.le_of_ble_eq_true rfl⟩) ⟨fd_blC, va_recv hK hP (ci := 3) (q0 := 4) rfl fd_WC_4, fd_prC hP hK⟩ rfl rfl hl.1 rfl (lv_room (Nat.le_of_ble_eq_true rfl)) dX10_ofBestPair_4 ⟨Nat.zero_le _, Nat.zero_le _⟩) hS (fun q _ h => fd_A_mono hS.1 h) (fun q h => fd_A_mono hS.1 h) (fun u x t H1 locs ht hvm hw hB hz hk hS => ?_)
  obtain ⟨rfl, hP1, hK1⟩ := hB
  rw [ht] at hP1
  have e2 := (Prod.mk.inj hw).2
  subst e2
  obtain ⟨σ3, rfl⟩ : ∃ z, z = u := ⟨_, rfl⟩
  have hP := hP1
  generalize H1 = H at hP hS ⊢
  refine lv_astore_n (lv' := [(2, .ref (a 6)), (0, .ref (a 0)), (1, .int p1)]) hx hb dX10_ofBestPair_7 rfl hl (by decide) rfl (fun ls hl => ?_)
  refine lv_iload_n hx hb dX10_ofBestPair_8 rfl (lv_at hl 2 rfl) ?_
  by_cases c6 : p1 = (0 : Int32)
  · have hf := fd_itp c6 hf
    refine lv_tableIn (off := 35) (tgt := 44) hx hb dX10_ofBestPair_9 (by rw [c6]; decide) (by rw [c6]; decide) (by rw [c6]; decide) (by decide) ?_
    refine lv_aload_n hx hb dX10_ofBestPair_44 rfl (lv_at hl 0 rfl) ?_
    obtain ⟨w10, τ11, hc7, hf⟩ := fd_bds hf
    refine va_calli (va_runV (As := []) (rest := []) ⟨hx, hb, hml, hown, hts⟩ (m_X0_first_6 l D a k H.size hI N σ3 _ hc7) (cwV 0 hts gX10_ofBestPair_X0_first rfl rfl rfl (by decide +kernel) ⟨Nat.le_of_ble_eq_true rfl, Nat.le_of_ble_eq_true rfl⟩) ⟨fd_blC, va_recv hK hP (ci := 0) (q0 := 6) rfl fd_WC_6, fd_prC hP hK⟩ rfl rfl hl.1 rfl (lv_room (Nat.le_of_ble_eq_true rfl)) dX10_ofBestPair_45 ⟨Nat.zero_le _, Nat.zero_le _⟩) hS (fun q _ h => fd_A_mono hS.1 h) (fun q h => fd_A_mono hS.1 h) (fun v8 u t H1 locs ht hvm hw hB hz hk hS => ?_)
    obtain ⟨hP1, hK1⟩ := hB
    rw [ht] at hP1
    obtain ⟨e1, e2⟩ := Prod.mk.inj hw
    subst e1
    subst e2
    obtain ⟨σ9, rfl⟩ : ∃ z, z = u := ⟨_, rfl⟩
    have hP := hP1
    generalize H1 = H at hP hS ⊢
    exact W.iret (v := v8) hx hb hr (fun t ht hW => ⟨⟨v8, σ9, rfl, Option.some.inj hf, by rw [ht]; exact hP, va_K.moved hW.alike hK⟩, hS.F ht⟩) hS.2.2 dX10_ofBestPair_48
  have hf := fd_itn c6 hf
  by_cases c12 : p1 = (1 : Int32)
  · have hf := fd_itp c12 hf
    refine lv_tableIn (off := 40) (tgt := 49) hx hb dX10_ofBestPair_9 (by rw [c12]; decide) (by rw [c12]; decide) (by rw [c12]; decide) (by decide) ?_
    refine lv_aload_n hx hb dX10_ofBestPair_49 rfl (lv_at hl 0 rfl) ?_
    obtain ⟨w16, τ17, hc13, hf⟩ := fd_bds hf
    refine va_calli (va_runV (As := []) (rest := []) ⟨hx, hb, hml, hown, hts⟩ (m_X0_second_6 l D a k H.size hI N σ3 _ hc13) (cwV 0 hts gX10_ofBestPair_X0_second rfl rfl rfl (by decide +kernel) ⟨Nat.le_of_ble_eq_true rfl, Nat.le_of_ble_eq_true rfl⟩) ⟨fd_blC, va_recv hK hP (ci := 0) (q0 := 6) rfl fd_WC_6, fd_prC hP hK⟩ rfl rfl hl.1 rfl (lv_room (Nat.le_of_ble_eq_true rfl)) dX10_ofBestPair_50 ⟨Nat.zero_le _, Nat.zero_le _⟩) hS (fun q _ h => fd_A_mono hS.1 h) (fun q h => fd_A_mono hS.1 h) (fun v14 u t H1 locs ht hvm hw hB hz hk hS => ?_)
    obtain ⟨hP1, hK1⟩ := hB
    rw [ht] at hP1
    obtain ⟨e1, e2⟩ := Prod.mk.inj hw
    subst e1
    subst e2
    obtain ⟨σ15, rfl⟩ : ∃ z, z = u := ⟨_, rfl⟩
    have hP := hP1
    generalize H1 = H at hP hS ⊢
    exact W.iret (v := v14) hx hb hr (fun t ht hW => ⟨⟨v14, σ15, rfl, Option.some.inj hf, by rw [ht]; exact hP, va_K.moved hW.alike hK⟩, hS.F ht⟩) hS.2.2 dX10_ofBestPair_53
  have hf := fd_itn c12 hf
  by_cases c18 : p1 = (2 : Int32)
  · have hf := fd_itp c18 hf
    refine lv_tableIn (off := 45) (tgt := 54) hx hb dX10_ofBestPair_9 (by rw [c18]; decide) (by rw [c18]; decide) (by rw [c18]; decide) (by decide) ?_
    refine lv_aload_n hx hb dX10_ofBestPair_54 rfl (lv_at hl 0 rfl) ?_
    obtain ⟨w22, τ23, hc19, hf⟩ := fd_bds hf
    refine va_callr (va_runV (As := []) (rest := []) ⟨hx, hb, hml, hown, hts⟩ (m_X0_tally_6 l D a k H.size hI N σ3 _ hc19) (cwV 0 hts gX10_ofBestPair_X0_tally rfl rfl rfl (by decide +kernel) ⟨Nat.le_of_ble_eq_true rfl, Nat.le_of_ble_eq_true rfl⟩) ⟨fd_blC, va_recv hK hP (ci := 0) (q0 := 6) rfl fd_WC_6, fd_prC hP hK⟩ rfl rfl hl.1 rfl (lv_room (Nat.le_of_ble_eq_true rfl)) dX10_ofBestPair_55 ⟨Nat.zero_le _, Nat.zero_le _⟩) hS (fun q _ h => fd_A_mono hS.1 h) (fun q h => fd_A_mono hS.1 h) (fun u x t H1 locs ht hvm hw hB hz hk hS => ?_)
    obtain ⟨rfl, hP1, hK1⟩ := hB
    rw [ht] at hP1
    have e2 := (Prod.mk.inj hw).2
    subst e2
    obtain ⟨σ21, rfl⟩ : ∃ z, z = u := ⟨_, rfl⟩
    have hP := hP1
    generalize H1 = H at hP hS ⊢
    obtain ⟨w27, τ28, hc24, hf⟩ := fd_bds hf
    refine va_calli (va_runV (As := []) (rest := []) ⟨hx, hb, hml, hown, hts⟩ (m_X9_sum_7 l D a k H.size hI N σ21 _ hc24) (cwV 0 hts gX10_ofBestPair_X9_sum rfl rfl rfl (by decide +kernel) ⟨Nat.le_of_ble_eq_true rfl, Nat.le_of_ble_eq_true rfl⟩) ⟨fd_blC, va_recv hK hP (ci := 9) (q0 := 7) rfl fd_WC_7, fd_prC hP hK⟩ rfl rfl hl.1 rfl (lv_room (Nat.le_of_ble_eq_true rfl)) dX10_ofBestPair_58 ⟨Nat.zero_le _, Nat.zero_le _⟩) hS (fun q _ h => fd_A_mono hS.1 h) (fun q h => fd_A_mono hS.1 h) (fun v25 u t H1 locs ht hvm hw hB hz hk hS => ?_)
    obtain ⟨hP1, hK1⟩ := hB
    rw [ht] at hP1
    obtain ⟨e1, e2⟩ := Prod.mk.inj hw
    subst e1
    subst e2
    obtain ⟨σ26, rfl⟩ : ∃ z, z = u := ⟨_, rfl⟩
    have hP := hP1
    generalize H1 = H at hP hS ⊢
    exact W.iret (v := v25) hx hb hr (fun t ht hW => ⟨⟨v25, σ26, rfl, Option.some.inj hf, by rw [ht]; exact hP, va_K.moved hW.alike hK⟩, hS.F ht⟩) hS.2.2 dX10_ofBestPair_61
  have hf := fd_itn c18 hf
  by_cases c29 : p1 = (3 : Int32)
  · have hf := fd_itp c29 hf
    refine lv_tableIn (off := 53) (tgt := 62) hx hb dX10_ofBestPair_9 (by rw [c29]; decide) (by rw [c29]; decide) (by rw [c29]; decide) (by decide) ?_
    refine lv_aload_n hx hb dX10_ofBestPair_62 rfl (lv_at hl 0 rfl) ?_
    obtain ⟨w33, τ34, hc30, hf⟩ := fd_bds hf
    refine va_callr (va_runV (As := []) (rest := []) ⟨hx, hb, hml, hown, hts⟩ (m_X0_tally_6 l D a k H.size hI N σ3 _ hc30) (cwV 0 hts gX10_ofBestPair_X0_tally rfl rfl rfl (by decide +kernel) ⟨Nat.le_of_ble_eq_true rfl, Nat.le_of_ble_eq_true rfl⟩) ⟨fd_blC, va_recv hK hP (ci := 0) (q0 := 6) rfl fd_WC_6, fd_prC hP hK⟩ rfl rfl hl.1 rfl (lv_room (Nat.le_of_ble_eq_true rfl)) dX10_ofBestPair_63 ⟨Nat.zero_le _, Nat.zero_le _⟩) hS (fun q _ h => fd_A_mono hS.1 h) (fun q h => fd_A_mono hS.1 h) (fun u x t H1 locs ht hvm hw hB hz hk hS => ?_)
    obtain ⟨rfl, hP1, hK1⟩ := hB
    rw [ht] at hP1
    have e2 := (Prod.mk.inj hw).2
    subst e2
    obtain ⟨σ32, rfl⟩ : ∃ z, z = u := ⟨_, rfl⟩
    have hP := hP1
    generalize H1 = H at hP hS ⊢
    obtain ⟨w38, τ39, hc35, hf⟩ := fd_bds hf
    refine va_calli (va_runV (As := []) (rest := []) ⟨hx, hb, hml, hown, hts⟩ (m_X9_explained_7 l D a k H.size hI N σ32 _ hc35) (cwV 0 hts gX10_ofBestPair_X9_explained rfl rfl rfl (by decide +kernel) ⟨Nat.le_of_ble_eq_true rfl, Nat.le_of_ble_eq_true rfl⟩) ⟨fd_blC, va_recv hK hP (ci := 9) (q0 := 7) rfl fd_WC_7, fd_prC hP hK⟩ rfl rfl hl.1 rfl (lv_room (Nat.le_of_ble_eq_true rfl)) dX10_ofBestPair_66 ⟨Nat.zero_le _, Nat.zero_le _⟩) hS (fun q _ h => fd_A_mono hS.1 h) (fun q h => fd_A_mono hS.1 h) (fun v36 u t H1 locs ht hvm hw hB hz hk hS => ?_)
    obtain ⟨hP1, hK1⟩ := hB
    rw [ht] at hP1
    obtain ⟨e1, e2⟩ := Prod.mk.inj hw
    subst e1
    subst e2
    obtain ⟨σ37, rfl⟩ : ∃ z, z = u := ⟨_, rfl⟩
    have hP := hP1
    generalize H1 = H at hP hS ⊢
    exact W.iret (v := v36) hx hb hr (fun t ht hW => ⟨⟨v36, σ37, rfl, Option.some.inj hf, by rw [ht]; exact hP, va_K.moved hW.alike hK⟩, hS.F ht⟩) hS.2.2 dX10_ofBestPair_69
  have hf := fd_itn c29 hf
  by_cases c40 : p1 = (4 : Int32)
  · have hf := fd_itp c40 hf
    refine lv_tableIn (off := 61) (tgt := 70) hx hb dX10_ofBestPair_9 (by rw [c40]; decide) (by rw [c40]; decide) (by rw [c40]; decide) (by decide) ?_
    refine lv_aload_n hx hb dX10_ofBestPair_70 rfl (lv_at hl 0 rfl) ?_
    obtain ⟨w44, τ45, hc41, hf⟩ := fd_bds hf
    refine va_callr (va_runV (As := []) (rest := []) ⟨hx, hb, hml, hown, hts⟩ (m_X0_tally_6 l D a k H.size hI N σ3 _ hc41) (cwV 0 hts gX10_ofBestPair_X0_tally rfl rfl rfl (by decide +kernel) ⟨Nat.le_of_ble_eq_true rfl, Nat.le_of_ble_eq_true rfl⟩) ⟨fd_blC, va_recv hK hP (ci := 0) (q0 := 6) rfl fd_WC_6, fd_prC hP hK⟩ rfl rfl hl.1 rfl (lv_room (Nat.le_of_ble_eq_true rfl)) dX10_ofBestPair_71 ⟨Nat.zero_le _, Nat.zero_le _⟩) hS (fun q _ h => fd_A_mono hS.1 h) (fun q h => fd_A_mono hS.1 h) (fun u x t H1 locs ht hvm hw hB hz hk hS => ?_)
    obtain ⟨rfl, hP1, hK1⟩ := hB
    rw [ht] at hP1
    have e2 := (Prod.mk.inj hw).2
    subst e2
    obtain ⟨σ43, rfl⟩ : ∃ z, z = u := ⟨_, rfl⟩
    have hP := hP1
    generalize H1 = H at hP hS ⊢
    obtain ⟨w49, τ50, hc46, hf⟩ := fd_bds hf
    refine va_calli (va_runV (As := []) (rest := []) ⟨hx, hb, hml, hown, hts⟩ (m_X9_missed_7 l D a k H.size hI N σ43 _ hc46) (cwV 0 hts gX10_ofBestPair_X9_missed rfl rfl rfl (by decide +kernel) ⟨Nat.le_of_ble_eq_true rfl, Nat.le_of_ble_eq_true rfl⟩) ⟨fd_blC, va_recv hK hP (ci := 9) (q0 := 7) rfl fd_WC_7, fd_prC hP hK⟩ rfl rfl hl.1 rfl (lv_room (Nat.le_of_ble_eq_true rfl)) dX10_ofBestPair_74 ⟨Nat.zero_le _, Nat.zero_le _⟩) hS (fun q _ h => fd_A_mono hS.1 h) (fun q h => fd_A_mono hS.1 h) (fun v47 u t H1 locs ht hvm hw hB hz hk hS => ?_)
    obtain ⟨hP1, hK1⟩ := hB
    rw [ht] at hP1
    obtain ⟨e1, e2⟩ := Prod.mk.inj hw
    subst e1
    subst e2
    obtain ⟨σ48, rfl⟩ : ∃ z, z = u := ⟨_, rfl⟩
    have hP := hP1
    generalize H1 = H at hP hS ⊢
    exact W.iret (v := v47) hx hb hr (fun t ht hW => ⟨⟨v47, σ48, rfl, Option.some.inj hf, by rw [ht]; exact hP, va_K.moved hW.alike hK⟩, hS.F ht⟩) hS.2.2 dX10_ofBestPair_77
  have hf := fd_itn c40 hf
  have nc6 := lv_neT c6 (a := 0) (by decide)
  have nc12 := lv_neT c12 (a := 1) (by decide)
  have nc18 := lv_neT c18 (a := 2) (by decide)
  have nc29 := lv_neT c29 (a := 3) (by decide)
  have nc40 := lv_neT c40 (a := 4) (by decide)
  refine lv_tableOut (tgt := 78) hx hb dX10_ofBestPair_9 (by omega) (by decide) ?_
  refine lv_aload_n hx hb dX10_ofBestPair_78 rfl (lv_at hl 0 rfl) ?_
  obtain ⟨w54, τ55, hc51, hf⟩ := fd_bds hf
  refine va_callr (va_runV (As := []) (rest := []) ⟨hx, hb, hml, hown, hts⟩ (m_X0_tally_6 l D a k H.size hI N σ3 _ hc51) (cwV 0 hts gX10_ofBestPair_X0_tally rfl rfl rfl (by decide +kernel) ⟨Nat.le_of_ble_eq_true rfl, Nat.le_of_ble_eq_true rfl⟩) ⟨fd_blC, va_recv hK hP (ci := 0) (q0 := 6) rfl fd_WC_6, fd_prC hP hK⟩ rfl rfl hl.1 rfl (lv_room (Nat.le_of_ble_eq_true rfl)) dX10_ofBestPair_79 ⟨Nat.zero_le _, Nat.zero_le _⟩) hS (fun q _ h => fd_A_mono hS.1 h) (fun q h => fd_A_mono hS.1 h) (fun u x t H1 locs ht hvm hw hB hz hk hS => ?_)
  obtain ⟨rfl, hP1, hK1⟩ := hB
  rw [ht] at hP1
  have e2 := (Prod.mk.inj hw).2
  subst e2
  obtain ⟨σ53, rfl⟩ : ∃ z, z = u := ⟨_, rfl⟩
  have hP := hP1
  generalize H1 = H at hP hS ⊢
  obtain ⟨w59, τ60, hc56, hf⟩ := fd_bds hf
  refine va_calli (va_runV (As := []) (rest := []) ⟨hx, hb, hml, hown, hts⟩ (m_X9_wrong_7 l D a k H.size hI N σ53 _ hc56) (cwV 0 hts gX10_ofBestPair_X9_wrong rfl rfl rfl (by decide +kernel) ⟨Nat.le_of_ble_eq_true rfl, Nat.le_of_ble_eq_true rfl⟩) ⟨fd_blC, va_recv hK hP (ci := 9) (q0 := 7) rfl fd_WC_7, fd_prC hP hK⟩ rfl rfl hl.1 rfl (lv_room (Nat.le_of_ble_eq_true rfl)) dX10_ofBestPair_82 ⟨Nat.zero_le _, Nat.zero_le _⟩) hS (fun q _ h => fd_A_mono hS.1 h) (fun q h => fd_A_mono hS.1 h) (fun v57 u t H1 locs ht hvm hw hB hz hk hS => ?_)
  obtain ⟨hP1, hK1⟩ := hB
  rw [ht] at hP1
  obtain ⟨e1, e2⟩ := Prod.mk.inj hw
  subst e1
  subst e2
  obtain ⟨σ58, rfl⟩ : ∃ z, z = u := ⟨_, rfl⟩
  have hP := hP1
  generalize H1 = H at hP hS ⊢
  exact W.iret (v := v57) hx hb hr (fun t ht hW => ⟨⟨v57, σ58, rfl, Option.some.inj hf, by rw [ht]; exact hP, va_K.moved hW.alike hK⟩, hS.F ht⟩) hS.2.2 dX10_ofBestPair_85
noncomputable def f_X10_pair_0_J9 (N : Nat) (σ : fd_St) : Option ((Int32 ⊕ String) × fd_St) := some (.inr "java/lang/IndexOutOfBoundsException", σ)
noncomputable def f_X10_pair_0 (N : Nat) (p1 : Int32) (σ : fd_St) : Option ((Int32 ⊕ String) × fd_St) := if p1 < 0 then (f_X10_pair_0_J9 N σ) else (if p1 ≤ (5 : Int32) then (fd_bx (f_X10_needTold_0 N σ) (fun _ σ6 => fd_bd (f_X10_ofBestPair_0 N p1 σ6) (fun v11 σ12 => some (.inl v11, σ12))) (fun E τ => some (.inr E, τ))) else (f_X10_pair_0_J9 N σ))
set_option maxHeartbeats 4000000 in
set_option maxRecDepth 100000 in
theorem m_X10_pair_0 (l : Launch) (hl9 : l.stackTraces = false) (D : va_G) (a : Nat → Nat) (k : Nat → ClassId) (sz : Nat) (hI : fd_I 39 a) (N : Nat) (p1 : Int32) (σ : fd_St) (r : (Int32 ⊕ String) × fd_St) (hf : f_X10_pair_0 N p1 σ = some r) : vx_Met l yX10_pair wsX10_pair ({ frames := 7, cells := fd_mc r, slots := fd_ms r, locals := 110 }) (va_Pc [.ref (a 0), .int p1] (fd_PZ D a k sz σ)) (va_Qi (fun v u => (Sum.inl v, u) = r) (fd_BC D a k) (fd_A 39 a sz)) (fd_X D a k (fd_A 39 a sz) r) (fd_mc r) (fd_ms r) (fd_A 39 a sz) := by
  refine vx_ofW (cc := cX10_pair) (maxL := 2) (ret := (some .int)) (by decide) rfl ?_
  intro p e s m args below meth c s₁ B hml hex hv
  obtain ⟨rfl, ⟨hsz, hP, hK⟩, hZ⟩ := hv
  have hx := B.exec
  have hb := B.bytes
  have hr := B.returns
  have hts := atoms_spec (ws := wsX10_pair) B.pre
  have hown : s.vm.findClass RX10 = some m.cls := findClass_of_methodNamed B.named
  have hlocks := B.notSynchronized
  subst hsz
  have hJ : ∀ i, i < 39 → fd_A 39 a s.heap.size (a i) := fun i hi => Or.inl ⟨i, hi, rfl⟩
  have hS : va_S (fd_A 39 a s.heap.size) s.heap s.heap [] := va_S.rf
  have hl := lv_entry ([.ref (a 0), .int p1]) (n := 2) (Nat.le_of_ble_eq_true rfl)
  rw [lg_entry_eq]
  generalize (lg_sl ([.ref (a 0), .int p1]) ++ List.replicate (2 - (lg_sl ([.ref (a 0), .int p1])).length) Slot.unset).toArray = ls at hl ⊢
  have hl : lv_has ls 2 [(0, .ref (a 0)), (1, .int p1)] := hl
  have hL9 : ∀ (σ : fd_St) (H : Heap) (locs : List Loc) (ls : Array Slot), va_P D vwCl (fd_WC a k σ) H → va_S (fd_A 39 a s.heap.size) s.heap H locs → lv_has ls 2 [] → f_X10_pair_0_J9 N σ = some r → W p l e ((headSpec wsX10_pair ({ frames := 7, cells := fd_mc r, slots := fd_ms r, locals := 110 })).room) s m ([.ref (a 0), .int p1].toArray) below meth c H locs 0 0 (vx_MQ below (va_Qi (fun v u => (Sum.inl v, u) = r) (fd_BC D a k) (fd_A 39 a s.heap.size)) (fd_X D a k (fd_A 39 a s.heap.size) r) ([.ref (a 0), .int p1].toArray) s (fd_mc r) (fd_ms r) (fd_A 39 a s.heap.size)) (F0 m 9 ls []) := by
    intro σ H locs ls hP hS hl hf
    unfold f_X10_pair_0_J9 at hf
    have e2 := Option.some.inj hf
    subst e2
    obtain ⟨sa, hsa⟩ := hZ.str 175 "of the best pair there is 0 to 5" (by decide +kernel)
    exact vx_throwS (own := RX10) (cls := "java/lang/IndexOutOfBoundsException") (names := ["java/lang/RuntimeException", "java/lang/Exception"]) hx hb hl9 hown fd_ex_114_118_f fd_ex_n (hts (.classLink RX10 114 "java/lang/IndexOutOfBoundsException") (List.mem_of_getElem? (i := 1) (by eq_refl))) (hts (.initialized "java/lang/IndexOutOfBoundsException") (List.mem_of_getElem? (i := 2) (by eq_refl))) hsa (vx_hat (L := vx_atS RX10 118 "java/lang/IndexOutOfBoundsException" ["java/lang/RuntimeException", "java/lang/Exception"]) (B := fd_bad "java/lang/IndexOutOfBoundsException") (fun w hw => hts w ((fun w h => List.mem_cons_of_mem _ (List.mem_append_left _ (List.mem_append_right _ h)) : ∀ w ∈ (vx_atS RX10 118 "java/lang/IndexOutOfBoundsException" ["java/lang/RuntimeException", "java/lang/Exception"]).filter goodWord, w ∈ wsX10_pair) w hw)) fd_ex_114_118_b (hZ.bad "java/lang/IndexOutOfBoundsException" fd_ex_114_118_e)) fd_ex_114_118_g hZ.un hZ.su hS (hl.1.trans hml.symm) dX10_pair_9 dX10_pair_12 dX10_pair_13 dX10_pair_15 dX10_pair_18 (fun x hx => (hex x hx).elim) (Nat.le_of_ble_eq_true rfl) (Nat.le_of_ble_eq_true rfl) (Nat.le_of_ble_eq_true rfl) (Nat.le_of_ble_eq_true rfl) hlocks (fun t ha hsz hk => ⟨σ, trivial, ⟨rfl, hP.kept (fun k q hq => hk q.1 (hP k q hq).lt), va_K.moved ha hK⟩, Nat.le_trans hS.1 hsz, fun q h1 h2 => (hk q (Nat.lt_of_lt_of_le h1 hS.1)).trans (hS.2.1 q h1 h2)⟩) hS.2.2 (Nat.le_of_ble_eq_true rfl) (Nat.le_of_ble_eq_true rfl)
  unfold f_X10_pair_0 at hf
  refine lv_iload_n hx hb dX10_pair_0 rfl (lv_at hl 1 rfl) ?_
  refine lv_if_lt (tgt := 9) hx hb dX10_pair_1 (by decide) (fun c1 => ?_) (fun c1 => ?_)
  · have hf := fd_itp c1 hf
    exact hL9 σ _ _ _ hP hS (lv_sub hl [] rfl) hf
  · have hf := fd_itn c1 hf
    refine lv_iload_n hx hb dX10_pair_4 rfl (lv_at hl 1 rfl) ?_
    refine lv_iconst (v := (5 : Int32)) hx hb dX10_pair_5 (by decide) ?_
    refine lv_icmp_le (tgt := 19) hx hb dX10_pair_6 (by decide) (fun c3 => ?_) (fun c3 => ?_)
    · have hf := fd_itp c3 hf
      refine lv_aload_n hx hb dX10_pair_19 rfl (lv_at hl 0 rfl) ?_
      rcases fd_bxs hf with ⟨w7, τ8, hc4, hf⟩ | ⟨E9, τ8, hc4, hf⟩
      · refine vx_callv (vx_runV (As := []) (rest := []) ⟨hx, hb, hml, hown, hts⟩ (m_X10_needTold_0 l hl9 D a k s.heap.size hI N σ _ hc4) (cwV 0 hts gX10_pair_X10_needTold rfl rfl rfl (by decide +kernel) ⟨Nat.le_of_ble_eq_true rfl, Nat.le_of_ble_eq_true rfl⟩) ⟨fd_blZ, va_recv hK hP (ci := 10) (q0 := 0) rfl fd_WC_0, fd_prZ hP hK hZ hS⟩ rfl rfl hl.1 rfl (lv_room (Nat.le_of_ble_eq_true rfl)) dX10_pair_20 ⟨Nat.zero_le _, Nat.zero_le _⟩) hS (fun q _ h => fd_A_mono hS.1 h) (fun q h => fd_A_mono hS.1 h) (fun q _ h => fd_A_mono hS.1 h) (fun E ce q9 u t H1 locs1 ht hvm hp hB => ?_) (fun u t H1 locs ht hvm hw hB hz hk hS => ?_)
        · exact absurd hB.1 (by simp)
        obtain ⟨hP1, hK1⟩ := hB
        rw [ht] at hP1
        have e2 := (Prod.mk.inj hw).2
        subst e2
        obtain ⟨σ6, rfl⟩ : ∃ z, z = u := ⟨_, rfl⟩
        have hP := hP1
        generalize H1 = H at hP hS ⊢
        refine W.cs (cells' := 0) (slots' := 0) rfl rfl ?_
        refine lv_aload_n hx hb dX10_pair_23 rfl (lv_at hl 0 rfl) ?_
        refine lv_iload_n hx hb dX10_pair_24 rfl (lv_at hl 1 rfl) ?_
        obtain ⟨w13, τ14, hc10, hf⟩ := fd_bds hf
        refine va_calli (va_runV (As := [.int p1]) (rest := []) ⟨hx, hb, hml, hown, hts⟩ (m_X10_ofBestPair_0 l D a k H.size hI N p1 σ6 _ hc10) (cwV 1 hts gX10_pair_X10_ofBestPair rfl rfl rfl (by decide +kernel) ⟨Nat.le_of_ble_eq_true rfl, Nat.le_of_ble_eq_true rfl⟩) ⟨fd_blC, va_recv hK hP (ci := 10) (q0 := 0) rfl fd_WC_0, fd_prC hP hK⟩ rfl rfl hl.1 rfl (lv_room (Nat.le_of_ble_eq_true rfl)) dX10_pair_25 ⟨Nat.zero_le _, Nat.zero_le _⟩) hS (fun q _ h => fd_A_mono hS.1 h) (fun q h => fd_A_mono hS.1 h) (fun v11 u t H1 locs ht hvm hw hB hz hk hS => ?_)
        obtain ⟨hP1, hK1⟩ := hB
        rw [ht] at hP1
        obtain ⟨e1, e2⟩ := Prod.mk.inj hw
        subst e1
        subst e2
        obtain ⟨σ12, rfl⟩ : ∃ z, z = u := ⟨_, rfl⟩
        have hP := hP1
        generalize H1 = H at hP hS ⊢
        refine vx_ret (W.widen (k := fd_mc r) (n := fd_ms r) (Nat.zero_le _) (Nat.zero_le _) ?_)
        exact W.iret (v := v11) hx hb hr (fun t ht hW => ⟨⟨v11, σ12, rfl, Option.some.inj hf, by rw [ht]; exact hP, va_K.moved hW.alike hK⟩, hS.F ht⟩) hS.2.2 dX10_pair_28
      · have er := Option.some.inj hf
        subst er
        refine vx_callv (vx_runV (As := []) (rest := []) ⟨hx, hb, hml, hown, hts⟩ (m_X10_needTold_0 l hl9 D a k s.heap.size hI N σ _ hc4) (cwV 0 hts gX10_pair_X10_needTold rfl rfl rfl (by decide +kernel) ⟨Nat.le_of_ble_eq_true rfl, Nat.le_of_ble_eq_true rfl⟩) ⟨fd_blZ, va_recv hK hP (ci := 10) (q0 := 0) rfl fd_WC_0, fd_prZ hP hK hZ hS⟩ rfl rfl hl.1 rfl (lv_room (Nat.le_of_ble_eq_true rfl)) dX10_pair_20 ⟨Nat.le_of_ble_eq_true rfl, Nat.le_of_ble_eq_true rfl⟩) hS (fun q _ h => fd_A_mono hS.1 h) (fun q h => fd_A_mono hS.1 h) (fun q _ h => fd_A_mono hS.1 h) (fun E ce q9 u t H1 locs1 ht hvm hp hB hz hk hS hce hcv hcl => ?_) (fun u t H1 locs ht hvm hw hB hz hk hS => ?_)
        · obtain ⟨hB0, hP1, hK1⟩ := hB
          rw [ht] at hP1
          exact vx_out (E := E) (fun x hx => (hex x hx).elim) hlocks hce hcv hcl (fun t ht ha => ⟨u, trivial, ⟨fd_inr hB0, by rw [ht]; exact hP1, va_K.moved ha hK⟩, hS.F ht⟩) hS.2.2 (Nat.le_of_ble_eq_true rfl) (Nat.le_of_ble_eq_true rfl)
        · exact absurd hw (by simp)
    · have hf := fd_itn c3 hf
      exact hL9 σ _ _ _ hP hS (lv_sub hl [] rfl) hf
noncomputable def f_L_pair_0_39 (N : Nat) (p1 : Int32) (σ : fd_St) : Option (Int32 × fd_St) := fd_bx (f_X10_pair_0 N p1 σ) (fun v2 τ => fd_lt (fd_mix τ σ) (fun σ6 => fd_gd (vp_in (0 : Int32) 1) (fd_lt (fd_sL 39 (0 : Int32) v2.toInt64 σ6) (fun σ9 => some ((0 : Int32), σ9))))) (fun E τ => if E = "java/lang/IndexOutOfBoundsException" then (fd_lt (fd_mix τ σ) (fun σ11 => some ((1 : Int32), σ11))) else (if E = "java/lang/IllegalStateException" then (fd_lt (fd_mix τ σ) (fun σ13 => some ((2 : Int32), σ13))) else (none)))
set_option maxHeartbeats 4000000 in
set_option maxRecDepth 100000 in
theorem m_L_pair_0_39 (l : Launch) (hl9 : l.stackTraces = false) (D : va_G) (a : Nat → Nat) (k : Nat → ClassId) (sz : Nat) (hI : fd_I 40 a) (N : Nat) (p1 : Int32) (σ : fd_St) (r : Int32 × fd_St) (hf : f_L_pair_0_39 N p1 σ = some r) : Met l yL_pair wsL_pair ({ frames := 8, cells := 1, slots := 6, locals := 131 }) (va_Pc [.ref (a 0), .int p1, .ref (a 39)] (fd_PH D a k sz σ)) (va_Qi (fun v u => (v, u) = r) (fd_BH D a k) (fd_A 40 a sz)) 1 6 (fd_A 40 a sz) := by
  refine fd_ofWT (cc := cL_pair) (maxL := 4) (ret := (some .int)) (by decide) rfl ?_
  intro p e s m args below meth c s₁ B hml hTab hv
  obtain ⟨rfl, hsz, hP, hK, hZ⟩ := hv
  have hx := B.exec
  have hb := B.bytes
  have hr := B.returns
  have hts := atoms_spec (ws := wsL_pair) B.pre
  have hown : s.vm.findClass RL = some m.cls := findClass_of_methodNamed B.named
  have hlocks := B.notSynchronized
  subst hsz
  have hJ : ∀ i, i < 40 → fd_A 40 a s.heap.size (a i) := fun i hi => Or.inl ⟨i, hi, rfl⟩
  have hS : va_S (fd_A 40 a s.heap.size) s.heap s.heap [] := va_S.rf
  have hl := lv_entry ([.ref (a 0), .int p1, .ref (a 39)]) (n := 4) (Nat.le_of_ble_eq_true rfl)
  rw [lg_entry_eq]
  generalize (lg_sl ([.ref (a 0), .int p1, .ref (a 39)]) ++ List.replicate (4 - (lg_sl ([.ref (a 0), .int p1, .ref (a 39)])).length) Slot.unset).toArray = ls at hl ⊢
  have hl : lv_has ls 4 [(0, .ref (a 0)), (1, .int p1), (2, .ref (a 39))] := hl
  unfold f_L_pair_0_39 at hf
  refine lv_aload_n hx hb dL_pair_0 rfl (lv_at hl 2 rfl) ?_
  refine lv_iconst (v := (0 : Int32)) hx hb dL_pair_1 (by decide) ?_
  refine lv_aload_n hx hb dL_pair_2 rfl (lv_at hl 0 rfl) ?_
  refine lv_iload_n hx hb dL_pair_3 rfl (lv_at hl 1 rfl) ?_
  rcases fd_bxs hf with ⟨w3, τ4, hc1, hf⟩ | ⟨E5, τ4, hc1, hf⟩
  · refine vx_calli (vx_runV (As := [.int p1]) (rest := [.int (0 : Int32), .ref (a 39)]) ⟨hx, hb, hml, hown, hts⟩ (m_X10_pair_0 l hl9 D a k s.heap.size (fd_I40 hI) N p1 σ _ hc1) (cwV 1 hts gL_pair_X10_pair rfl rfl rfl (by decide +kernel) ⟨Nat.le_of_ble_eq_true rfl, Nat.le_of_ble_eq_true rfl⟩) ⟨fd_blZ, va_recv (fd_HK hK) (fd_HC hP) (ci := 10) (q0 := 0) rfl fd_WC_0, fd_prHZ hP hK hZ hS⟩ rfl rfl hl.1 rfl (lv_room (Nat.le_of_ble_eq_true rfl)) dL_pair_4 ⟨(Nat.zero_le _), (Nat.zero_le _)⟩) hS (fun q _ h => fd_A_sub hS.1 h) (fun q h => fd_A_sub hS.1 h) (fun q _ h => fd_A_sub hS.1 h) (fun E ce q9 u t H1 locs1 ht hvm hp hB => ?_) (fun v2 u t H1 locs ht hvm hw hB hz hk hS => ?_)
    · exact absurd hB.1 (by simp)
    obtain ⟨hP1, hK1⟩ := hB
    rw [ht] at hP1
    obtain ⟨e1, e2⟩ := Prod.mk.inj hw
    obtain e1 := Sum.inl.inj e1
    subst e1
    subst e2
    obtain ⟨σ6, eσ6, hf⟩ := fd_lts hf
    have hP : va_P D vwCl (fd_WH a k σ6) H1 := by rw [eσ6]; exact fd_HJ hI hP hP1 hk
    generalize H1 = H at hP hS ⊢
    refine W.cs (cells' := 0) (slots' := 0) rfl rfl ?_
    refine lv_i2l hx hb dL_pair_7 rfl ?_
    obtain ⟨g8, hf⟩ := fd_gds hf
    obtain ⟨σ9, eσ9, hf⟩ := fd_lts hf
    refine va_last hx hb hK hP (fd_DH hI hJ) hS 39 27 fd_WH_39 fd_tyH_39 g8 dL_pair_8 (fun H locs hP _ hS => ?_)
    have hP : va_P D vwCl (fd_WH a k σ9) H := by rw [eσ9]; exact fd_sP fd_WHa_39 hP
    refine lv_goto (tgt := 18) hx hb dL_pair_9 (by decide) ?_
    refine lv_iconst (v := (0 : Int32)) hx hb dL_pair_18 (by decide) ?_
    refine W.widen (k := 1) (n := 6) (Nat.le_of_ble_eq_true rfl) (Nat.le_of_ble_eq_true rfl) ?_
    exact W.iret (v := (0 : Int32)) hx hb hr (fun t ht hW => ⟨⟨(0 : Int32), σ9, rfl, Option.some.inj hf, by rw [ht]; exact hP, va_K.moved hW.alike hK⟩, hS.F ht⟩) hS.2.2 dL_pair_19
  · have hE := hf
    by_cases c10 : E5 = "java/lang/IndexOutOfBoundsException"
    · subst c10
      have hf := fd_itp rfl hf
      refine vx_calli (vx_runV (As := [.int p1]) (rest := [.int (0 : Int32), .ref (a 39)]) ⟨hx, hb, hml, hown, hts⟩ (m_X10_pair_0 l hl9 D a k s.heap.size (fd_I40 hI) N p1 σ _ hc1) (cwV 1 hts gL_pair_X10_pair rfl rfl rfl (by decide +kernel) ⟨Nat.le_of_ble_eq_true rfl, Nat.le_of_ble_eq_true rfl⟩) ⟨fd_blZ, va_recv (fd_HK hK) (fd_HC hP) (ci := 10) (q0 := 0) rfl fd_WC_0, fd_prHZ hP hK hZ hS⟩ rfl rfl hl.1 rfl (lv_room (Nat.le_of_ble_eq_true rfl)) dL_pair_4 ⟨Nat.le_of_ble_eq_true rfl, Nat.le_of_ble_eq_true rfl⟩) hS (fun q _ h => fd_A_sub hS.1 h) (fun q h => fd_A_sub hS.1 h) (fun q _ h => fd_A_sub hS.1 h) (fun E ce q9 u t H1 locs1 ht hvm hp hB hz hk hS hce hcv hcl => ?_) (fun v2 u t H1 locs ht hvm hw hB hz hk hS => ?_)
      · obtain ⟨hB0, hP1, hK1⟩ := hB
        rw [ht] at hP1
        obtain ⟨e1, e2⟩ := Prod.mk.inj hB0
        obtain e1 := Sum.inr.inj e1
        subst e1
        subst e2
        obtain ⟨σ11, eσ11, hf⟩ := fd_lts hf
        have hP : va_P D vwCl (fd_WH a k σ11) H1 := by rw [eσ11]; exact fd_HJ hI hP hP1 hk
        refine fd_catch (own := RL) (name := "java/lang/IndexOutOfBoundsException") (E := "java/lang/IndexOutOfBoundsException") hown [] ⟨0, 9, 12, 19⟩ [⟨0, 9, 15, 13⟩] (by rw [hTab]; rfl) (fun z hz => nomatch hz) (by decide) (by decide) (hts (.classLink RL 19 "java/lang/IndexOutOfBoundsException") (List.mem_of_getElem? (i := 1) (by eq_refl))) (hZ.cast "java/lang/IndexOutOfBoundsException" (by decide +kernel)) hce hcv hcl ?_
        refine W.cs (cells' := 1) (slots' := 6) rfl rfl ?_
        refine lv_astore_n (lv' := [(3, .ref q9), (0, .ref (a 0)), (1, .int p1), (2, .ref (a 39))]) hx hb dL_pair_12 rfl hl (by decide) rfl (fun ls hl => ?_)
        refine lv_iconst (v := (1 : Int32)) hx hb dL_pair_13 (by decide) ?_
        refine W.widen (k := 1) (n := 6) (Nat.le_of_ble_eq_true rfl) (Nat.le_of_ble_eq_true rfl) ?_
        exact W.iret (v := (1 : Int32)) hx hb hr (fun t ht hW => ⟨⟨(1 : Int32), σ11, rfl, Option.some.inj hf, by rw [ht]; exact hP, va_K.moved hW.alike hK⟩, hS.F ht⟩) hS.2.2 dL_pair_14
      · exact absurd hw (by simp)
    have hf := fd_itn c10 hf
    by_cases c12 : E5 = "java/lang/IllegalStateException"
    · subst c12
      have hf := fd_itp rfl hf
      refine vx_calli (vx_runV (As := [.int p1]) (rest := [.int (0 : Int32), .ref (a 39)]) ⟨hx, hb, hml, hown, hts⟩ (m_X10_pair_0 l hl9 D a k s.heap.size (fd_I40 hI) N p1 σ _ hc1) (cwV 1 hts gL_pair_X10_pair rfl rfl rfl (by decide +kernel) ⟨Nat.le_of_ble_eq_true rfl, Nat.le_of_ble_eq_true rfl⟩) ⟨fd_blZ, va_recv (fd_HK hK) (fd_HC hP) (ci := 10) (q0 := 0) rfl fd_WC_0, fd_prHZ hP hK hZ hS⟩ rfl rfl hl.1 rfl (lv_room (Nat.le_of_ble_eq_true rfl)) dL_pair_4 ⟨Nat.le_of_ble_eq_true rfl, Nat.le_of_ble_eq_true rfl⟩) hS (fun q _ h => fd_A_sub hS.1 h) (fun q h => fd_A_sub hS.1 h) (fun q _ h => fd_A_sub hS.1 h) (fun E ce q9 u t H1 locs1 ht hvm hp hB hz hk hS hce hcv hcl => ?_) (fun v2 u t H1 locs ht hvm hw hB hz hk hS => ?_)
      · obtain ⟨hB0, hP1, hK1⟩ := hB
        rw [ht] at hP1
        obtain ⟨e1, e2⟩ := Prod.mk.inj hB0
        obtain e1 := Sum.inr.inj e1
        subst e1
        subst e2
        obtain ⟨σ13, eσ13, hf⟩ := fd_lts hf
        have hP : va_P D vwCl (fd_WH a k σ13) H1 := by rw [eσ13]; exact fd_HJ hI hP hP1 hk
        refine fd_catch (own := RL) (name := "java/lang/IllegalStateException") (E := "java/lang/IllegalStateException") hown [⟨0, 9, 12, 19⟩] ⟨0, 9, 15, 13⟩ [] (by rw [hTab]; rfl) (fun z hz => by
            rcases List.mem_cons.mp hz with rfl | hz
            · exact ⟨by decide, by decide, "java/lang/IndexOutOfBoundsException", hts (.classLink RL 19 "java/lang/IndexOutOfBoundsException") (by decide +kernel), hZ.nc "java/lang/IllegalStateException" "java/lang/IndexOutOfBoundsException" (by decide +kernel)⟩
            cases hz) (by decide) (by decide) (hts (.classLink RL 13 "java/lang/IllegalStateException") (List.mem_of_getElem? (i := 2) (by eq_refl))) (hZ.cast "java/lang/IllegalStateException" (by decide +kernel)) hce hcv hcl ?_
        refine W.cs (cells' := 1) (slots' := 6) rfl rfl ?_
        refine lv_astore_n (lv' := [(3, .ref q9), (0, .ref (a 0)), (1, .int p1), (2, .ref (a 39))]) hx hb dL_pair_15 rfl hl (by decide) rfl (fun ls hl => ?_)
        refine lv_iconst (v := (2 : Int32)) hx hb dL_pair_16 (by decide) ?_
        refine W.widen (k := 1) (n := 6) (Nat.le_of_ble_eq_true rfl) (Nat.le_of_ble_eq_true rfl) ?_
        exact W.iret (v := (2 : Int32)) hx hb hr (fun t ht hW => ⟨⟨(2 : Int32), σ13, rfl, Option.some.inj hf, by rw [ht]; exact hP, va_K.moved hW.alike hK⟩, hS.F ht⟩) hS.2.2 dL_pair_17
      · exact absurd hw (by simp)
    have hf := fd_itn c12 hf
    cases hf
noncomputable def f_X11_pair_0_J26 (N : Nat) (y1 : Int32) (z1 : Int32) (σ : fd_St) : Option (Int32 × fd_St) := fd_lt (fd_sI 0 z1 σ) (fun σ8 => if (σ8.1 0) ≤ 0 then (fd_gd (vp_in y1 6) (some (σ8.2.1 18 y1.toNatClampNeg, σ8))) else (some ((0 : Int32), σ8)))
noncomputable def f_X11_pair_0 (N : Nat) (p1 : Int32) (σ : fd_St) : Option (Int32 × fd_St) := fd_bd (f_X11_isIn N p1 (6 : Int32) σ) (fun v2 σ3 => if v2 = 0 then (f_X11_pair_0_J26 N p1 (1 : Int32) σ3) else (if (σ3.1 6) = 0 then (f_X11_pair_0_J26 N p1 (2 : Int32) σ3) else (f_X11_pair_0_J26 N p1 (0 : Int32) σ3)))
set_option maxHeartbeats 4000000 in
set_option maxRecDepth 100000 in
theorem m_X11_pair_0 (l : Launch) (D : va_G) (a : Nat → Nat) (k : Nat → ClassId) (sz : Nat) (hI : fd_I 29 a) (N : Nat) (p1 : Int32) (σ : fd_St) (r : Int32 × fd_St) (hf : f_X11_pair_0 N p1 σ = some r) : Met l yX11_pair wsX11_pair ({ frames := 1, cells := 0, slots := 0, locals := 21 }) (va_Pc [.ref (a 0), .int p1] (fd_PM D a k sz σ)) (va_Qi (fun v u => (v, u) = r) (fd_BM D a k) (fd_A 29 a sz)) 0 0 (fd_A 29 a sz) := by
  refine Met.ofW (cc := cX11_pair) (maxL := 2) (ret := (some .int)) (by decide) rfl ?_
  intro p e s m args below meth c s₁ B hml hv
  obtain ⟨rfl, hsz, hP, hK⟩ := hv
  have hx := B.exec
  have hb := B.bytes
  have hr := B.returns
  have hts := atoms_spec (ws := wsX11_pair) B.pre
  have hown : s.vm.findClass RX11 = some m.cls := findClass_of_methodNamed B.named
  have hlocks := B.notSynchronized
  subst hsz
  have hJ : ∀ i, i < 29 → fd_A 29 a s.heap.size (a i) := fun i hi => Or.inl ⟨i, hi, rfl⟩
  have hS : va_S (fd_A 29 a s.heap.size) s.heap s.heap [] := va_S.rf
  have hl := lv_entry ([.ref (a 0), .int p1]) (n := 2) (Nat.le_of_ble_eq_true rfl)
  rw [lg_entry_eq]
  generalize (lg_sl ([.ref (a 0), .int p1]) ++ List.replicate (2 - (lg_sl ([.ref (a 0), .int p1])).length) Slot.unset).toArray = ls at hl ⊢
  have hl : lv_has ls 2 [(0, .ref (a 0)), (1, .int p1)] := hl
  have h9X11 : ∀ w ∈ u_ws RX11 TX11 43, w ∈ wsX11_pair := fd_su [8, 9, 10, 11, 12, 13, 14, 15, 16, 17, 18, 19, 20, 21, 22, 23, 24, 25, 26, 27, 28, 29, 30, 31, 32, 33, 34, 35, 36, 37, 38, 39, 40, 41, 42, 43, 44, 45, 46, 47, 48, 49, 50] (by eq_refl)
  have hL26 : ∀ (y1 : Int32) (z1 : Int32) (σ : fd_St) (H : Heap) (locs : List Loc) (ls : Array Slot), va_P D vwCl (fd_WM a k σ) H → va_S (fd_A 29 a s.heap.size) s.heap H locs → lv_has ls 2 [(0, .ref (a 0)), (1, .int y1)] → f_X11_pair_0_J26 N y1 z1 σ = some r → W p l e ((headSpec wsX11_pair ({ frames := 1, cells := 0, slots := 0, locals := 21 })).room) s m ([.ref (a 0), .int p1].toArray) below meth c H locs 0 0 (MQ below (va_Qi (fun v u => (v, u) = r) (fd_BM D a k) (fd_A 29 a s.heap.size)) ([.ref (a 0), .int p1].toArray) s 0 0 (fd_A 29 a s.heap.size)) (F0 m 26 ls [.int z1, .ref (a 0)]) := by
    intro y1 z1 σ H locs ls hP hS hl hf
    unfold f_X11_pair_0_J26 at hf
    obtain ⟨σ8, eσ8, hf⟩ := fd_lts hf
    refine va_put (ci := 11) (v := .int z1) (ty := .int) (C := RX11) (T := TX11) (N := 43) hx hb hts h9X11 tyX11 tyX11_ok nmX11 hown hK hP (fd_DM hI hJ) hS 0 fd_WM_0 rfl 0 (by decide) (hts (.fieldLink RX11 99 "FailDiagnoseModel" "thrown" "I") (List.mem_of_getElem? (i := 2) (by eq_refl))) (fun _ h9 => h9) rfl (by decide +kernel) rfl rfl (Nat.le_of_ble_eq_true rfl) dX11_pair_26 (fun H locs hP _ hS => ?_)
    have hP : va_P D vwCl (fd_WM a k σ8) H := by rw [eσ8]; exact fd_sP fd_WMi_0 hP
    refine lv_aload_n hx hb dX11_pair_29 rfl (lv_at hl 0 rfl) ?_
    refine va_get (ci := 11) (v := .int (σ8.1 0)) (C := RX11) (T := TX11) (N := 43) hx hb hts h9X11 hown hK hP 0 fd_WM_0 rfl 0 (by decide) (hts (.fieldLink RX11 99 "FailDiagnoseModel" "thrown" "I") (List.mem_of_getElem? (i := 2) (by eq_refl))) (fun _ h9 => h9) rfl dX11_pair_30 ?_
    refine lv_if_le (tgt := 40) hx hb dX11_pair_33 (by decide) (fun c9 => ?_) (fun c9 => ?_)
    · have hf := fd_itp c9 hf
      refine lv_aload_n hx hb dX11_pair_40 rfl (lv_at hl 0 rfl) ?_
      refine va_get (ci := 11) (v := .ref (a 18)) (C := RX11) (T := TX11) (N := 43) hx hb hts h9X11 hown hK hP 0 fd_WM_0 rfl 25 (by decide) (hts (.fieldLink RX11 63 "FailDiagnoseModel" "best" "[I") (List.mem_of_getElem? (i := 3) (by eq_refl))) (fun _ h9 => h9) rfl dX11_pair_41 ?_
      refine lv_iload_n hx hb dX11_pair_44 rfl (lv_at hl 1 rfl) ?_
      obtain ⟨g10, hf⟩ := fd_gds hf
      refine va_iald hx hb hK hP 18 17 fd_WM_18 fd_tyM_18 g10 dX11_pair_45 ?_
      exact W.iret (v := (σ8.2.1 18 y1.toNatClampNeg)) hx hb hr (fun t ht hW => ⟨⟨σ8.2.1 18 y1.toNatClampNeg, σ8, rfl, Option.some.inj hf, by rw [ht]; exact hP, va_K.moved hW.alike hK⟩, hS.F ht⟩) hS.2.2 dX11_pair_46
    · have hf := fd_itn c9 hf
      refine lv_iconst (v := (0 : Int32)) hx hb dX11_pair_36 (by decide) ?_
      refine lv_goto (tgt := 46) hx hb dX11_pair_37 (by decide) ?_
      exact W.iret (v := (0 : Int32)) hx hb hr (fun t ht hW => ⟨⟨(0 : Int32), σ8, rfl, Option.some.inj hf, by rw [ht]; exact hP, va_K.moved hW.alike hK⟩, hS.F ht⟩) hS.2.2 dX11_pair_46
  unfold f_X11_pair_0 at hf
  refine lv_aload_n hx hb dX11_pair_0 rfl (lv_at hl 0 rfl) ?_
  refine lv_iload_n hx hb dX11_pair_1 rfl (lv_at hl 1 rfl) ?_
  refine lv_bipush (v := (6 : Int32)) hx hb dX11_pair_2 (by decide) ?_
  obtain ⟨w4, τ5, hc1, hf⟩ := fd_bds hf
  refine va_calli (va_runS (As := [.int p1, .int (6 : Int32)]) (rest := [.ref (a 0)]) ⟨hx, hb, hml, hown, hts⟩ (m_X11_isIn l D a k s.heap.size hI N p1 (6 : Int32) σ _ hc1) (va_cwS 2 hts gX11_pair_X11_isIn rfl rfl rfl (by decide +kernel) ⟨Nat.le_of_ble_eq_true rfl, Nat.le_of_ble_eq_true rfl⟩) ⟨fd_blM, fd_prM hP hK⟩ rfl rfl hl.1 rfl (lv_room (Nat.le_of_ble_eq_true rfl)) dX11_pair_4 ⟨Nat.zero_le _, Nat.zero_le _⟩) hS (fun q _ h => fd_A_mono hS.1 h) (fun q h => fd_A_mono hS.1 h) (fun v2 u t H1 locs ht hvm hw hB hz hk hS => ?_)
  obtain ⟨hP1, hK1⟩ := hB
  rw [ht] at hP1
  obtain ⟨e1, e2⟩ := Prod.mk.inj hw
  subst e1
  subst e2
  obtain ⟨σ3, rfl⟩ : ∃ z, z = u := ⟨_, rfl⟩
  have hP := hP1
  generalize H1 = H at hP hS ⊢
  refine lv_if_ne (tgt := 14) hx hb dX11_pair_7 (by decide) (fun c6 => ?_) (fun c6 => ?_)
  · have hf := fd_itn c6 hf
    refine lv_aload_n hx hb dX11_pair_14 rfl (lv_at hl 0 rfl) ?_
    refine va_get (ci := 11) (v := .int (σ3.1 6)) (C := RX11) (T := TX11) (N := 43) hx hb hts h9X11 hown hK hP 0 fd_WM_0 rfl 17 (by decide) (hts (.fieldLink RX11 103 "FailDiagnoseModel" "told" "Z") (List.mem_of_getElem? (i := 1) (by eq_refl))) (fun _ h9 => h9) rfl dX11_pair_15 ?_
    refine lv_if_ne (tgt := 25) hx hb dX11_pair_18 (by decide) (fun c7 => ?_) (fun c7 => ?_)
    · have hf := fd_itn c7 hf
      refine lv_iconst (v := (0 : Int32)) hx hb dX11_pair_25 (by decide) ?_
      exact hL26 p1 (0 : Int32) σ3 _ _ _ hP hS (lv_sub hl [0, 1] rfl) hf
    · have hf := fd_itp c7 hf
      refine lv_iconst (v := (2 : Int32)) hx hb dX11_pair_21 (by decide) ?_
      refine lv_goto (tgt := 26) hx hb dX11_pair_22 (by decide) ?_
      exact hL26 p1 (2 : Int32) σ3 _ _ _ hP hS (lv_sub hl [0, 1] rfl) hf
  · have hf := fd_itp c6 hf
    refine lv_iconst (v := (1 : Int32)) hx hb dX11_pair_10 (by decide) ?_
    refine lv_goto (tgt := 26) hx hb dX11_pair_11 (by decide) ?_
    exact hL26 p1 (1 : Int32) σ3 _ _ _ hP hS (lv_sub hl [0, 1] rfl) hf
noncomputable def f_X8_withLeastSum_5_L2 (N : Nat) : Nat → Int32 → fd_St → Option (Int32 × fd_St)
  | 0 => fun _ _ => none
  | n + 1 => fun y1 σ => if (σ.1 6) ≤ y1 then (some (y1, σ)) else (fd_bd (f_X8_sum_5 N y1 σ) (fun v3 σ4 => fd_bd (f_X8_sum_5 N (0 : Int32) σ4) (fun v8 σ9 => if v3 = v8 then (fd_lt (y1 + (1 : Int32)) (fun x13 => (f_X8_withLeastSum_5_L2 N n) x13 σ9)) else (some (y1, σ9)))))
noncomputable def f_X8_withLeastSum_5 (N : Nat) (σ : fd_St) : Option (Int32 × fd_St) := f_X8_withLeastSum_5_L2 N N (0 : Int32) σ
set_option maxHeartbeats 4000000 in
set_option maxRecDepth 100000 in
theorem m_X8_withLeastSum_5 (l : Launch) (D : va_G) (a : Nat → Nat) (k : Nat → ClassId) (sz : Nat) (hI : fd_I 39 a) (N : Nat) (σ : fd_St) (r : Int32 × fd_St) (hf : f_X8_withLeastSum_5 N σ = some r) : Met l yX8_withLeastSum wsX8_withLeastSum ({ frames := 2, cells := 0, slots := 0, locals := 42 }) (va_Pc [.ref (a 5)] (fd_PC D a k sz σ)) (va_Qi (fun v u => (v, u) = r) (fd_BC D a k) (fd_A 39 a sz)) 0 0 (fd_A 39 a sz) := by
  refine Met.ofW (cc := cX8_withLeastSum) (maxL := 2) (ret := (some .int)) (by decide) rfl ?_
  intro p e s m args below meth c s₁ B hml hv
  obtain ⟨rfl, hsz, hP, hK⟩ := hv
  have hx := B.exec
  have hb := B.bytes
  have hr := B.returns
  have hts := atoms_spec (ws := wsX8_withLeastSum) B.pre
  have hown : s.vm.findClass RX8 = some m.cls := findClass_of_methodNamed B.named
  have hlocks := B.notSynchronized
  subst hsz
  have hJ : ∀ i, i < 39 → fd_A 39 a s.heap.size (a i) := fun i hi => Or.inl ⟨i, hi, rfl⟩
  have hS : va_S (fd_A 39 a s.heap.size) s.heap s.heap [] := va_S.rf
  have hl := lv_entry ([.ref (a 5)]) (n := 2) (Nat.le_of_ble_eq_true rfl)
  rw [lg_entry_eq]
  generalize (lg_sl ([.ref (a 5)]) ++ List.replicate (2 - (lg_sl ([.ref (a 5)])).length) Slot.unset).toArray = ls at hl ⊢
  have hl : lv_has ls 2 [(0, .ref (a 5))] := hl
  have h9X8 : ∀ w ∈ u_ws RX8 TX8 7, w ∈ wsX8_withLeastSum := fd_su [18, 19, 20, 21, 22, 23, 24] (by eq_refl)
  have hL2 : ∀ (n : Nat), ∀ (y1 : Int32) (σ : fd_St) (H : Heap) (locs : List Loc) (ls : Array Slot), va_P D vwCl (fd_WC a k σ) H → va_S (fd_A 39 a s.heap.size) s.heap H locs → lv_has ls 2 [(0, .ref (a 5)), (1, .int y1)] → f_X8_withLeastSum_5_L2 N n y1 σ = some r → W p l e ((headSpec wsX8_withLeastSum ({ frames := 2, cells := 0, slots := 0, locals := 42 })).room) s m ([.ref (a 5)].toArray) below meth c H locs 0 0 (MQ below (va_Qi (fun v u => (v, u) = r) (fd_BC D a k) (fd_A 39 a s.heap.size)) ([.ref (a 5)].toArray) s 0 0 (fd_A 39 a s.heap.size)) (F0 m 2 ls []) := by
    intro n
    induction n with
    | zero =>
      intro _ _ _ _ _ _ _ _ hf
      cases hf
    | succ n ih =>
      intro y1 σ H locs ls hP hS hl hf
      unfold f_X8_withLeastSum_5_L2 at hf
      refine lv_iload_n hx hb dX8_withLeastSum_2 rfl (lv_at hl 1 rfl) ?_
      refine lv_aload_n hx hb dX8_withLeastSum_3 rfl (lv_at hl 0 rfl) ?_
      refine va_get (ci := 8) (v := .int (σ.1 6)) (C := RX8) (T := TX8) (N := 7) hx hb hts h9X8 hown hK hP 5 fd_WC_5 rfl 6 (by decide) (hts (.fieldLink RX8 30 "FailDiagnose$Suspects" "size" "I") (List.mem_of_getElem? (i := 1) (by eq_refl))) (fun _ h9 => h9) rfl dX8_withLeastSum_4 ?_
      refine lv_icmp_ge (tgt := 29) hx hb dX8_withLeastSum_7 (by decide) (fun c1 => ?_) (fun c1 => ?_)
      · have hf := fd_itp c1 hf
        refine lv_iload_n hx hb dX8_withLeastSum_29 rfl (lv_at hl 1 rfl) ?_
        exact W.iret (v := y1) hx hb hr (fun t ht hW => ⟨⟨y1, σ, rfl, Option.some.inj hf, by rw [ht]; exact hP, va_K.moved hW.alike hK⟩, hS.F ht⟩) hS.2.2 dX8_withLeastSum_30
      · have hf := fd_itn c1 hf
        refine lv_aload_n hx hb dX8_withLeastSum_10 rfl (lv_at hl 0 rfl) ?_
        refine lv_iload_n hx hb dX8_withLeastSum_11 rfl (lv_at hl 1 rfl) ?_
        obtain ⟨w5, τ6, hc2, hf⟩ := fd_bds hf
        refine va_calli (va_runV (As := [.int y1]) (rest := []) ⟨hx, hb, hml, hown, hts⟩ (m_X8_sum_5 l D a k H.size hI N y1 σ _ hc2) (cwV 1 hts gX8_withLeastSum_X8_sum rfl rfl rfl (by decide +kernel) ⟨Nat.le_of_ble_eq_true rfl, Nat.le_of_ble_eq_true rfl⟩) ⟨fd_blC, va_recv hK hP (ci := 8) (q0 := 5) rfl fd_WC_5, fd_prC hP hK⟩ rfl rfl hl.1 rfl (lv_room (Nat.le_of_ble_eq_true rfl)) dX8_withLeastSum_12 ⟨Nat.zero_le _, Nat.zero_le _⟩) hS (fun q _ h => fd_A_mono hS.1 h) (fun q h => fd_A_mono hS.1 h) (fun v3 u t H1 locs ht hvm hw hB hz hk hS => ?_)
        obtain ⟨hP1, hK1⟩ := hB
        rw [ht] at hP1
        obtain ⟨e1, e2⟩ := Prod.mk.inj hw
        subst e1
        subst e2
        obtain ⟨σ4, rfl⟩ : ∃ z, z = u := ⟨_, rfl⟩
        have hP := hP1
        generalize H1 = H at hP hS ⊢
        refine lv_aload_n hx hb dX8_withLeastSum_15 rfl (lv_at hl 0 rfl) ?_
        refine lv_iconst (v := (0 : Int32)) hx hb dX8_withLeastSum_16 (by decide) ?_
        obtain ⟨w10, τ11, hc7, hf⟩ := fd_bds hf
        refine va_calli (va_runV (As := [.int (0 : Int32)]) (rest := [.int v3]) ⟨hx, hb, hml, hown, hts⟩ (m_X8_sum_5 l D a k H.size hI N (0 : Int32) σ4 _ hc7) (cwV 1 hts gX8_withLeastSum_X8_sum rfl rfl rfl (by decide +kernel) ⟨Nat.le_of_ble_eq_true rfl, Nat.le_of_ble_eq_true rfl⟩) ⟨fd_blC, va_recv hK hP (ci := 8) (q0 := 5) rfl fd_WC_5, fd_prC hP hK⟩ rfl rfl hl.1 rfl (lv_room (Nat.le_of_ble_eq_true rfl)) dX8_withLeastSum_17 ⟨Nat.zero_le _, Nat.zero_le _⟩) hS (fun q _ h => fd_A_mono hS.1 h) (fun q h => fd_A_mono hS.1 h) (fun v8 u t H1 locs ht hvm hw hB hz hk hS => ?_)
        obtain ⟨hP1, hK1⟩ := hB
        rw [ht] at hP1
        obtain ⟨e1, e2⟩ := Prod.mk.inj hw
        subst e1
        subst e2
        obtain ⟨σ9, rfl⟩ : ∃ z, z = u := ⟨_, rfl⟩
        have hP := hP1
        generalize H1 = H at hP hS ⊢
        refine lv_icmp_ne (tgt := 29) hx hb dX8_withLeastSum_20 (by decide) (fun c12 => ?_) (fun c12 => ?_)
        · have hf := fd_itn c12 hf
          refine lv_iload_n hx hb dX8_withLeastSum_29 rfl (lv_at hl 1 rfl) ?_
          exact W.iret (v := y1) hx hb hr (fun t ht hW => ⟨⟨y1, σ9, rfl, Option.some.inj hf, by rw [ht]; exact hP, va_K.moved hW.alike hK⟩, hS.F ht⟩) hS.2.2 dX8_withLeastSum_30
        · have hf := fd_itp c12 hf
          obtain ⟨x13, ex13, hf⟩ := fd_lts hf
          refine lv_iinc (v := x13) (lv' := [(1, .int x13), (0, .ref (a 5))]) hx hb dX8_withLeastSum_23 hl (k := 1) rfl (by rw [ex13]; rfl) (by decide) rfl (fun ls hl => ?_)
          refine lv_goto (tgt := 2) hx hb dX8_withLeastSum_26 (by decide) ?_
          exact ih x13 σ9 _ _ _ hP hS (lv_sub hl [1, 0] rfl) hf
  unfold f_X8_withLeastSum_5 at hf
  refine lv_iconst (v := (0 : Int32)) hx hb dX8_withLeastSum_0 (by decide) ?_
  refine lv_istore_n (lv' := [(1, .int (0 : Int32)), (0, .ref (a 5))]) hx hb dX8_withLeastSum_1 rfl hl (by decide) rfl (fun ls hl => ?_)
  exact hL2 N (0 : Int32) σ _ _ _ hP hS (lv_sub hl [1, 0] rfl) hf
noncomputable def f_X7_countChip_9 (N : Nat) (σ : fd_St) : Option (Unit × fd_St) := fd_lt (fd_sI 15 ((σ.1 15) + (1 : Int32)) σ) (fun σ1 => some ((), σ1))
set_option maxHeartbeats 4000000 in
set_option maxRecDepth 100000 in
theorem m_X7_countChip_9 (l : Launch) (D : va_G) (a : Nat → Nat) (k : Nat → ClassId) (sz : Nat) (hI : fd_I 39 a) (N : Nat) (σ : fd_St) (r : Unit × fd_St) (hf : f_X7_countChip_9 N σ = some r) : Met l yX7_countChip wsX7_countChip ({ frames := 0, cells := 0, slots := 0, locals := 0 }) (va_Pc [.ref (a 9)] (fd_PC D a k sz σ)) (va_Qv (fun u => ((), u) = r) (fd_BC D a k) (fd_A 39 a sz)) 0 0 (fd_A 39 a sz) := by
  refine Met.ofW (cc := cX7_countChip) (maxL := 1) (ret := none) (by decide) rfl ?_
  intro p e s m args below meth c s₁ B hml hv
  obtain ⟨rfl, hsz, hP, hK⟩ := hv
  have hx := B.exec
  have hb := B.bytes
  have hr := B.returns
  have hts := atoms_spec (ws := wsX7_countChip) B.pre
  have hown : s.vm.findClass RX7 = some m.cls := findClass_of_methodNamed B.named
  have hlocks := B.notSynchronized
  subst hsz
  have hJ : ∀ i, i < 39 → fd_A 39 a s.heap.size (a i) := fun i hi => Or.inl ⟨i, hi, rfl⟩
  have hS : va_S (fd_A 39 a s.heap.size) s.heap s.heap [] := va_S.rf
  have hl := lv_entry ([.ref (a 9)]) (n := 1) (Nat.le_of_ble_eq_true rfl)
  rw [lg_entry_eq]
  generalize (lg_sl ([.ref (a 9)]) ++ List.replicate (1 - (lg_sl ([.ref (a 9)])).length) Slot.unset).toArray = ls at hl ⊢
  have hl : lv_has ls 1 [(0, .ref (a 9))] := hl
  have h9X7 : ∀ w ∈ u_ws RX7 TX7 2, w ∈ wsX7_countChip := fd_su [2, 3] (by eq_refl)
  unfold f_X7_countChip_9 at hf
  refine lv_aload_n hx hb dX7_countChip_0 rfl (lv_at hl 0 rfl) ?_
  refine lv_dup hx hb dX7_countChip_1 rfl ?_
  refine va_get (ci := 7) (v := .int (σ.1 15)) (C := RX7) (T := TX7) (N := 2) hx hb hts h9X7 hown hK hP 9 fd_WC_9 rfl 1 (by decide) (hts (.fieldLink RX7 15 "FailDiagnose$Shares" "chips" "I") (List.mem_of_getElem? (i := 1) (by eq_refl))) (fun _ h9 => h9) rfl dX7_countChip_2 ?_
  refine lv_iconst (v := (1 : Int32)) hx hb dX7_countChip_5 (by decide) ?_
  refine lv_iadd hx hb dX7_countChip_6 ?_
  obtain ⟨σ1, eσ1, hf⟩ := fd_lts hf
  refine va_put (ci := 7) (v := .int ((σ.1 15) + (1 : Int32))) (ty := .int) (C := RX7) (T := TX7) (N := 2) hx hb hts h9X7 tyX7 tyX7_ok nmX7 hown hK hP (fd_DC hI hJ) hS 9 fd_WC_9 rfl 1 (by decide) (hts (.fieldLink RX7 15 "FailDiagnose$Shares" "chips" "I") (List.mem_of_getElem? (i := 1) (by eq_refl))) (fun _ h9 => h9) rfl (by decide +kernel) rfl rfl (Nat.le_of_ble_eq_true rfl) dX7_countChip_7 (fun H locs hP _ hS => ?_)
  have hP : va_P D vwCl (fd_WC a k σ1) H := by rw [eσ1]; exact fd_sP fd_WCi_15 hP
  exact W.vret hx hb hr (fun t ht hW => ⟨⟨σ1, rfl, Option.some.inj hf, by rw [ht]; exact hP, va_K.moved hW.alike hK⟩, hS.F ht⟩) hS.2.2 dX7_countChip_10
noncomputable def f_X7_give_9 (N : Nat) (p1 : Int32) (p2 : Int32) (σ : fd_St) : Option (Unit × fd_St) := fd_gd (vp_in p1 200) (fd_gd (vp_in p1 200) (fd_lt (fd_sA 29 p1 ((σ.2.1 29 p1.toNatClampNeg) + p2) σ) (fun σ3 => some ((), σ3))))
set_option maxHeartbeats 4000000 in
set_option maxRecDepth 100000 in
theorem m_X7_give_9 (l : Launch) (D : va_G) (a : Nat → Nat) (k : Nat → ClassId) (sz : Nat) (hI : fd_I 39 a) (N : Nat) (p1 : Int32) (p2 : Int32) (σ : fd_St) (r : Unit × fd_St) (hf : f_X7_give_9 N p1 p2 σ = some r) : Met l yX7_give wsX7_give ({ frames := 0, cells := 0, slots := 0, locals := 0 }) (va_Pc [.ref (a 9), .int p1, .int p2] (fd_PC D a k sz σ)) (va_Qv (fun u => ((), u) = r) (fd_BC D a k) (fd_A 39 a sz)) 0 0 (fd_A 39 a sz) := by
  refine Met.ofW (cc := cX7_give) (maxL := 3) (ret := none) (by decide) rfl ?_
  intro p e s m args below meth c s₁ B hml hv
  obtain ⟨rfl, hsz, hP, hK⟩ := hv
  have hx := B.exec
  have hb := B.bytes
  have hr := B.returns
  have hts := atoms_spec (ws := wsX7_give) B.pre
  have hown : s.vm.findClass RX7 = some m.cls := findClass_of_methodNamed B.named
  have hlocks := B.notSynchronized
  subst hsz
  have hJ : ∀ i, i < 39 → fd_A 39 a s.heap.size (a i) := fun i hi => Or.inl ⟨i, hi, rfl⟩
  have hS : va_S (fd_A 39 a s.heap.size) s.heap s.heap [] := va_S.rf
  have hl := lv_entry ([.ref (a 9), .int p1, .int p2]) (n := 3) (Nat.le_of_ble_eq_true rfl)
  rw [lg_entry_eq]
  generalize (lg_sl ([.ref (a 9), .int p1, .int p2]) ++ List.replicate (3 - (lg_sl ([.ref (a 9), .int p1, .int p2])).length) Slot.unset).toArray = ls at hl ⊢
  have hl : lv_has ls 3 [(0, .ref (a 9)), (1, .int p1), (2, .int p2)] := hl
  have h9X7 : ∀ w ∈ u_ws RX7 TX7 2, w ∈ wsX7_give := fd_su [2, 3] (by eq_refl)
  unfold f_X7_give_9 at hf
  refine lv_aload_n hx hb dX7_give_0 rfl (lv_at hl 0 rfl) ?_
  refine va_get (ci := 7) (v := .ref (a 29)) (C := RX7) (T := TX7) (N := 2) hx hb hts h9X7 hown hK hP 9 fd_WC_9 rfl 0 (by decide) (hts (.fieldLink RX7 9 "FailDiagnose$Shares" "given" "[I") (List.mem_of_getElem? (i := 1) (by eq_refl))) (fun _ h9 => h9) rfl dX7_give_1 ?_
  refine lv_iload_n hx hb dX7_give_4 rfl (lv_at hl 1 rfl) ?_
  refine lv_dup2_11 hx hb dX7_give_5 rfl rfl ?_
  obtain ⟨g1, hf⟩ := fd_gds hf
  refine va_iald hx hb hK hP 29 17 fd_WC_29 fd_tyC_29 g1 dX7_give_6 ?_
  refine lv_iload_n hx hb dX7_give_7 rfl (lv_at hl 2 rfl) ?_
  refine lv_iadd hx hb dX7_give_8 ?_
  obtain ⟨g2, hf⟩ := fd_gds hf
  obtain ⟨σ3, eσ3, hf⟩ := fd_lts hf
  refine va_iast hx hb hK hP (fd_DC hI hJ) hS 29 17 fd_WC_29 fd_tyC_29 g2 dX7_give_9 (fun H locs hP _ hS => ?_)
  have hP : va_P D vwCl (fd_WC a k σ3) H := by rw [eσ3]; exact fd_sP fd_WCa_29 hP
  exact W.vret hx hb hr (fun t ht hW => ⟨⟨σ3, rfl, Option.some.inj hf, by rw [ht]; exact hP, va_K.moved hW.alike hK⟩, hS.F ht⟩) hS.2.2 dX7_give_10
noncomputable def f_X10_giveShares_0_J51 (N : Nat) (k2 : Int32 → Int32 → Int32 → fd_St → Option (Unit × fd_St)) (y1 : Int32) (y2 : Int32) (y3 : Int32) (σ : fd_St) : Option (Unit × fd_St) := fd_lt (y3 + (1 : Int32)) (fun x18 => k2 y1 y2 x18 σ)
noncomputable def f_X10_giveShares_0_L2 (N : Nat) : Nat → Int32 → Int32 → Int32 → fd_St → Option (Unit × fd_St)
  | 0 => fun _ _ _ _ => none
  | n + 1 => fun y1 y2 y3 σ => if y1 ≤ y3 then (some ((), σ)) else (fd_bd (f_X3_firstNet_4 N y3 σ) (fun v3 σ4 => fd_bd (f_X7_give_9 N v3 y2 σ4) (fun _ σ9 => fd_bd (f_X3_secondNet_4 N y3 σ9) (fun v13 σ14 => if v13 = (-1 : Int32) then (f_X10_giveShares_0_J51 N (f_X10_giveShares_0_L2 N n) y1 y2 y3 σ14) else (fd_bd (f_X3_secondNet_4 N y3 σ14) (fun v20 σ21 => fd_bd (f_X7_give_9 N v20 y2 σ21) (fun _ σ26 => f_X10_giveShares_0_J51 N (f_X10_giveShares_0_L2 N n) y1 y2 y3 σ26)))))))
noncomputable def f_X10_giveShares_0 (N : Nat) (p1 : Int32) (p2 : Int32) (σ : fd_St) : Option (Unit × fd_St) := f_X10_giveShares_0_L2 N N p1 p2 (0 : Int32) σ
set_option maxHeartbeats 4000000 in
set_option maxRecDepth 100000 in
theorem m_X10_giveShares_0 (l : Launch) (D : va_G) (a : Nat → Nat) (k : Nat → ClassId) (sz : Nat) (hI : fd_I 39 a) (N : Nat) (p1 : Int32) (p2 : Int32) (σ : fd_St) (r : Unit × fd_St) (hf : f_X10_giveShares_0 N p1 p2 σ = some r) : Met l yX10_giveShares wsX10_giveShares ({ frames := 3, cells := 0, slots := 0, locals := 64 }) (va_Pc [.ref (a 0), .int p1, .int p2] (fd_PC D a k sz σ)) (va_Qv (fun u => ((), u) = r) (fd_BC D a k) (fd_A 39 a sz)) 0 0 (fd_A 39 a sz) := by
  refine Met.ofW (cc := cX10_giveShares) (maxL := 4) (ret := none) (by decide) rfl ?_
  intro p e s m args below meth c s₁ B hml hv
  obtain ⟨rfl, hsz, hP, hK⟩ := hv
  have hx := B.exec
  have hb := B.bytes
  have hr := B.returns
  have hts := atoms_spec (ws := wsX10_giveShares) B.pre
  have hown : s.vm.findClass RX10 = some m.cls := findClass_of_methodNamed B.named
  have hlocks := B.notSynchronized
  subst hsz
  have hJ : ∀ i, i < 39 → fd_A 39 a s.heap.size (a i) := fun i hi => Or.inl ⟨i, hi, rfl⟩
  have hS : va_S (fd_A 39 a s.heap.size) s.heap s.heap [] := va_S.rf
  have hl := lv_entry ([.ref (a 0), .int p1, .int p2]) (n := 4) (Nat.le_of_ble_eq_true rfl)
  rw [lg_entry_eq]
  generalize (lg_sl ([.ref (a 0), .int p1, .int p2]) ++ List.replicate (4 - (lg_sl ([.ref (a 0), .int p1, .int p2])).length) Slot.unset).toArray = ls at hl ⊢
  have hl : lv_has ls 4 [(0, .ref (a 0)), (1, .int p1), (2, .int p2)] := hl
  have h9X10 : ∀ w ∈ u_ws RX10 TX10 8, w ∈ wsX10_giveShares := fd_su [47, 48, 49, 50, 51, 52, 53, 54] (by eq_refl)
  have hL51 : ∀ (k2 : Int32 → Int32 → Int32 → fd_St → Option (Unit × fd_St)) (hk2 : ∀ (y1 : Int32) (y2 : Int32) (y3 : Int32) (σ : fd_St) (H : Heap) (locs : List Loc) (ls : Array Slot), va_P D vwCl (fd_WC a k σ) H → va_S (fd_A 39 a s.heap.size) s.heap H locs → lv_has ls 4 [(0, .ref (a 0)), (1, .int y1), (2, .int y2), (3, .int y3)] → k2 y1 y2 y3 σ = some r → W p l e ((headSpec wsX10_giveShares ({ frames := 3, cells := 0, slots := 0, locals := 64 })).room) s m ([.ref (a 0), .int p1, .int p2].toArray) below meth c H locs 0 0 (MQ below (va_Qv (fun u => ((), u) = r) (fd_BC D a k) (fd_A 39 a s.heap.size)) ([.ref (a 0), .int p1, .int p2].toArray) s 0 0 (fd_A 39 a s.heap.size)) (F0 m 2 ls [])), ∀ (y1 : Int32) (y2 : Int32) (y3 : Int32) (σ : fd_St) (H : Heap) (locs : List Loc) (ls : Array Slot), va_P D vwCl (fd_WC a k σ) H → va_S (fd_A 39 a s.heap.size) s.heap H locs → lv_has ls 4 [(0, .ref (a 0)), (1, .int y1), (2, .int y2), (3, .int y3)] → f_X10_giveShares_0_J51 N k2 y1 y2 y3 σ = some r → W p l e ((headSpec wsX10_giveShares ({ frames := 3, cells := 0, slots := 0, locals := 64 })).room) s m ([.ref (a 0), .int p1, .int p2].toArray) below meth c H locs 0 0 (MQ below (va_Qv (fun u => ((), u) = r) (fd_BC D a k) (fd_A 39 a s.heap.size)) ([.ref (a 0), .int p1, .int p2].toArray) s 0 0 (fd_A 39 a s.heap.size)) (F0 m 51 ls []) := by
    intro k2 hk2 y1 y2 y3 σ H locs ls hP hS hl hf
    unfold f_X10_giveShares_0_J51 at hf
    obtain ⟨x18, ex18, hf⟩ := fd_lts hf
    refine lv_iinc (v := x18) (lv' := [(3, .int x18), (0, .ref (a 0)), (1, .int y1), (2, .int y2)]) hx hb dX10_giveShares_51 hl (k := 3) rfl (by rw [ex18]; rfl) (by decide) rfl (fun ls hl => ?_)
    refine lv_goto (tgt := 2) hx hb dX10_giveShares_54 (by decide) ?_
    exact hk2 y1 y2 x18 σ _ _ _ hP hS (lv_sub hl [1, 2, 3, 0] rfl) hf
  have hL2 : ∀ (n : Nat), ∀ (y1 : Int32) (y2 : Int32) (y3 : Int32) (σ : fd_St) (H : Heap) (locs : List Loc) (ls : Array Slot), va_P D vwCl (fd_WC a k σ) H → va_S (fd_A 39 a s.heap.size) s.heap H locs → lv_has ls 4 [(0, .ref (a 0)), (1, .int y1), (2, .int y2), (3, .int y3)] → f_X10_giveShares_0_L2 N n y1 y2 y3 σ = some r → W p l e ((headSpec wsX10_giveShares ({ frames := 3, cells := 0, slots := 0, locals := 64 })).room) s m ([.ref (a 0), .int p1, .int p2].toArray) below meth c H locs 0 0 (MQ below (va_Qv (fun u => ((), u) = r) (fd_BC D a k) (fd_A 39 a s.heap.size)) ([.ref (a 0), .int p1, .int p2].toArray) s 0 0 (fd_A 39 a s.heap.size)) (F0 m 2 ls []) := by
    intro n
    induction n with
    | zero =>
      intro _ _ _ _ _ _ _ _ _ _ hf
      cases hf
    | succ n ih =>
      intro y1 y2 y3 σ H locs ls hP hS hl hf
      unfold f_X10_giveShares_0_L2 at hf
      refine lv_iload_n hx hb dX10_giveShares_2 rfl (lv_at hl 3 rfl) ?_
      refine lv_iload_n hx hb dX10_giveShares_3 rfl (lv_at hl 1 rfl) ?_
      refine lv_icmp_ge (tgt := 57) hx hb dX10_giveShares_4 (by decide) (fun c1 => ?_) (fun c1 => ?_)
      · have hf := fd_itp c1 hf
        exact W.vret hx hb hr (fun t ht hW => ⟨⟨σ, rfl, Option.some.inj hf, by rw [ht]; exact hP, va_K.moved hW.alike hK⟩, hS.F ht⟩) hS.2.2 dX10_giveShares_57
      · have hf := fd_itn c1 hf
        refine lv_aload_n hx hb dX10_giveShares_7 rfl (lv_at hl 0 rfl) ?_
        refine va_get (ci := 10) (v := .ref (a 9)) (C := RX10) (T := TX10) (N := 8) hx hb hts h9X10 hown hK hP 0 fd_WC_0 rfl 4 (by decide) (hts (.fieldLink RX10 42 "FailDiagnose" "shares" "LFailDiagnose$Shares;") (List.mem_of_getElem? (i := 1) (by eq_refl))) (fun _ h9 => h9) rfl dX10_giveShares_8 ?_
        refine lv_aload_n hx hb dX10_giveShares_11 rfl (lv_at hl 0 rfl) ?_
        refine va_get (ci := 10) (v := .ref (a 4)) (C := RX10) (T := TX10) (N := 8) hx hb hts h9X10 hown hK hP 0 fd_WC_0 rfl 3 (by decide) (hts (.fieldLink RX10 35 "FailDiagnose" "diagnosis" "LFailDiagnose$Diagnosis;") (List.mem_of_getElem? (i := 2) (by eq_refl))) (fun _ h9 => h9) rfl dX10_giveShares_12 ?_
        refine lv_iload_n hx hb dX10_giveShares_15 rfl (lv_at hl 3 rfl) ?_
        obtain ⟨w5, τ6, hc2, hf⟩ := fd_bds hf
        refine va_calli (va_runV (As := [.int y3]) (rest := [.ref (a 9)]) ⟨hx, hb, hml, hown, hts⟩ (m_X3_firstNet_4 l D a k H.size hI N y3 σ _ hc2) (cwV 1 hts gX10_giveShares_X3_firstNet rfl rfl rfl (by decide +kernel) ⟨Nat.le_of_ble_eq_true rfl, Nat.le_of_ble_eq_true rfl⟩) ⟨fd_blC, va_recv hK hP (ci := 3) (q0 := 4) rfl fd_WC_4, fd_prC hP hK⟩ rfl rfl hl.1 rfl (lv_room (Nat.le_of_ble_eq_true rfl)) dX10_giveShares_16 ⟨Nat.zero_le _, Nat.zero_le _⟩) hS (fun q _ h => fd_A_mono hS.1 h) (fun q h => fd_A_mono hS.1 h) (fun v3 u t H1 locs ht hvm hw hB hz hk hS => ?_)
        obtain ⟨hP1, hK1⟩ := hB
        rw [ht] at hP1
        obtain ⟨e1, e2⟩ := Prod.mk.inj hw
        subst e1
        subst e2
        obtain ⟨σ4, rfl⟩ : ∃ z, z = u := ⟨_, rfl⟩
        have hP := hP1
        generalize H1 = H at hP hS ⊢
        refine lv_iload_n hx hb dX10_giveShares_19 rfl (lv_at hl 2 rfl) ?_
        obtain ⟨w10, τ11, hc7, hf⟩ := fd_bds hf
        refine va_callv (va_runV (As := [.int v3, .int y2]) (rest := []) ⟨hx, hb, hml, hown, hts⟩ (m_X7_give_9 l D a k H.size hI N v3 y2 σ4 _ hc7) (cwV 2 hts gX10_giveShares_X7_give rfl rfl rfl (by decide +kernel) ⟨Nat.le_of_ble_eq_true rfl, Nat.le_of_ble_eq_true rfl⟩) ⟨fd_blC, va_recv hK hP (ci := 7) (q0 := 9) rfl fd_WC_9, fd_prC hP hK⟩ rfl rfl hl.1 rfl (lv_room (Nat.le_of_ble_eq_true rfl)) dX10_giveShares_20 ⟨Nat.zero_le _, Nat.zero_le _⟩) hS (fun q _ h => fd_A_mono hS.1 h) (fun q h => fd_A_mono hS.1 h) (fun u t H1 locs ht hvm hw hB hz hk hS => ?_)
        obtain ⟨hP1, hK1⟩ := hB
        rw [ht] at hP1
        have e2 := (Prod.mk.inj hw).2
        subst e2
        obtain ⟨σ9, rfl⟩ : ∃ z, z = u := ⟨_, rfl⟩
        have hP := hP1
        generalize H1 = H at hP hS ⊢
        refine lv_aload_n hx hb dX10_giveShares_23 rfl (lv_at hl 0 rfl) ?_
        refine va_get (ci := 10) (v := .ref (a 4)) (C := RX10) (T := TX10) (N := 8) hx hb hts h9X10 hown hK hP 0 fd_WC_0 rfl 3 (by decide) (hts (.fieldLink RX10 35 "FailDiagnose" "diagnosis" "LFailDiagnose$Diagnosis;") (List.mem_of_getElem? (i := 2) (by eq_refl))) (fun _ h9 => h9) rfl dX10_giveShares_24 ?_
        refine lv_iload_n hx hb dX10_giveShares_27 rfl (lv_at hl 3 rfl) ?_
        obtain ⟨w15, τ16, hc12, hf⟩ := fd_bds hf
        refine va_calli (va_runV (As := [.int y3]) (rest := []) ⟨hx, hb, hml, hown, hts⟩ (m_X3_secondNet_4 l D a k H.size hI N y3 σ9 _ hc12) (cwV 1 hts gX10_giveShares_X3_secondNet rfl rfl rfl (by decide +kernel) ⟨Nat.le_of_ble_eq_true rfl, Nat.le_of_ble_eq_true rfl⟩) ⟨fd_blC, va_recv hK hP (ci := 3) (q0 := 4) rfl fd_WC_4, fd_prC hP hK⟩ rfl rfl hl.1 rfl (lv_room (Nat.le_of_ble_eq_true rfl)) dX10_giveShares_28 ⟨Nat.zero_le _, Nat.zero_le _⟩) hS (fun q _ h => fd_A_mono hS.1 h) (fun q h => fd_A_mono hS.1 h) (fun v13 u t H1 locs ht hvm hw hB hz hk hS => ?_)
        obtain ⟨hP1, hK1⟩ := hB
        rw [ht] at hP1
        obtain ⟨e1, e2⟩ := Prod.mk.inj hw
        subst e1
        subst e2
        obtain ⟨σ14, rfl⟩ : ∃ z, z = u := ⟨_, rfl⟩
        have hP := hP1
        generalize H1 = H at hP hS ⊢
        refine lv_iconst (v := (-1 : Int32)) hx hb dX10_giveShares_31 (by decide) ?_
        refine lv_icmp_eq (tgt := 51) hx hb dX10_giveShares_32 (by decide) (fun c17 => ?_) (fun c17 => ?_)
        · have hf := fd_itp c17 hf
          exact hL51 (f_X10_giveShares_0_L2 N n) ih y1 y2 y3 σ14 _ _ _ hP hS (lv_sub hl [0, 1, 2, 3] rfl) hf
        · have hf := fd_itn c17 hf
          refine lv_aload_n hx hb dX10_giveShares_35 rfl (lv_at hl 0 rfl) ?_
          refine va_get (ci := 10) (v := .ref (a 9)) (C := RX10) (T := TX10) (N := 8) hx hb hts h9X10 hown hK hP 0 fd_WC_0 rfl 4 (by decide) (hts (.fieldLink RX10 42 "FailDiagnose" "shares" "LFailDiagnose$Shares;") (List.mem_of_getElem? (i := 1) (by eq_refl))) (fun _ h9 => h9) rfl dX10_giveShares_36 ?_
          refine lv_aload_n hx hb dX10_giveShares_39 rfl (lv_at hl 0 rfl) ?_
          refine va_get (ci := 10) (v := .ref (a 4)) (C := RX10) (T := TX10) (N := 8) hx hb hts h9X10 hown hK hP 0 fd_WC_0 rfl 3 (by decide) (hts (.fieldLink RX10 35 "FailDiagnose" "diagnosis" "LFailDiagnose$Diagnosis;") (List.mem_of_getElem? (i := 2) (by eq_refl))) (fun _ h9 => h9) rfl dX10_giveShares_40 ?_
          refine lv_iload_n hx hb dX10_giveShares_43 rfl (lv_at hl 3 rfl) ?_
          obtain ⟨w22, τ23, hc19, hf⟩ := fd_bds hf
          refine va_calli (va_runV (As := [.int y3]) (rest := [.ref (a 9)]) ⟨hx, hb, hml, hown, hts⟩ (m_X3_secondNet_4 l D a k H.size hI N y3 σ14 _ hc19) (cwV 1 hts gX10_giveShares_X3_secondNet rfl rfl rfl (by decide +kernel) ⟨Nat.le_of_ble_eq_true rfl, Nat.le_of_ble_eq_true rfl⟩) ⟨fd_blC, va_recv hK hP (ci := 3) (q0 := 4) rfl fd_WC_4, fd_prC hP hK⟩ rfl rfl hl.1 rfl (lv_room (Nat.le_of_ble_eq_true rfl)) dX10_giveShares_44 ⟨Nat.zero_le _, Nat.zero_le _⟩) hS (fun q _ h => fd_A_mono hS.1 h) (fun q h => fd_A_mono hS.1 h) (fun v20 u t H1 locs ht hvm hw hB hz hk hS => ?_)
          obtain ⟨hP1, hK1⟩ := hB
          rw [ht] at hP1
          obtain ⟨e1, e2⟩ := Prod.mk.inj hw
          subst e1
          subst e2
          obtain ⟨σ21, rfl⟩ : ∃ z, z = u := ⟨_, rfl⟩
          have hP := hP1
          generalize H1 = H at hP hS ⊢
          refine lv_iload_n hx hb dX10_giveShares_47 rfl (lv_at hl 2 rfl) ?_
          obtain ⟨w27, τ28, hc24, hf⟩ := fd_bds hf
          refine va_callv (va_runV (As := [.int v20, .int y2]) (rest := []) ⟨hx, hb, hml, hown, hts⟩ (m_X7_give_9 l D a k H.size hI N v20 y2 σ21 _ hc24) (cwV 2 hts gX10_giveShares_X7_give rfl rfl rfl (by decide +kernel) ⟨Nat.le_of_ble_eq_true rfl, Nat.le_of_ble_eq_true rfl⟩) ⟨fd_blC, va_recv hK hP (ci := 7) (q0 := 9) rfl fd_WC_9, fd_prC hP hK⟩ rfl rfl hl.1 rfl (lv_room (Nat.le_of_ble_eq_true rfl)) dX10_giveShares_48 ⟨Nat.zero_le _, Nat.zero_le _⟩) hS (fun q _ h => fd_A_mono hS.1 h) (fun q h => fd_A_mono hS.1 h) (fun u t H1 locs ht hvm hw hB hz hk hS => ?_)
          obtain ⟨hP1, hK1⟩ := hB
          rw [ht] at hP1
          have e2 := (Prod.mk.inj hw).2
          subst e2
          obtain ⟨σ26, rfl⟩ : ∃ z, z = u := ⟨_, rfl⟩
          have hP := hP1
          generalize H1 = H at hP hS ⊢
          exact hL51 (f_X10_giveShares_0_L2 N n) ih y1 y2 y3 σ26 _ _ _ hP hS (lv_sub hl [0, 1, 2, 3] rfl) hf
  unfold f_X10_giveShares_0 at hf
  refine lv_iconst (v := (0 : Int32)) hx hb dX10_giveShares_0 (by decide) ?_
  refine lv_istore_n (lv' := [(3, .int (0 : Int32)), (0, .ref (a 0)), (1, .int p1), (2, .int p2)]) hx hb dX10_giveShares_1 rfl hl (by decide) rfl (fun ls hl => ?_)
  exact hL2 N p1 p2 (0 : Int32) σ _ _ _ hP hS (lv_sub hl [1, 2, 3, 0] rfl) hf
noncomputable def f_X10_join_0 (N : Nat) (σ : fd_St) : Option ((Int32 ⊕ String) × fd_St) := fd_bx (f_X10_needTold_0 N σ) (fun _ σ3 => fd_bd (f_X3_suspects_4 N σ3) (fun _ σ9 => fd_bd (f_X8_withLeastSum_5 N σ9) (fun v13 σ14 => fd_bd (f_X7_countChip_9 N σ14) (fun _ σ19 => if v13 ≤ 0 then (some (.inl v13, σ19)) else (if (10 : Int32) < v13 then (some (.inl v13, σ19)) else (fd_gd (¬ v13 = 0) (fd_bd (f_X10_giveShares_0 N v13 ((2520 : Int32) / v13) σ19) (fun _ σ27 => some (.inl v13, σ27))))))))) (fun E τ => some (.inr E, τ))
set_option maxHeartbeats 4000000 in
set_option maxRecDepth 100000 in
theorem m_X10_join_0 (l : Launch) (hl9 : l.stackTraces = false) (D : va_G) (a : Nat → Nat) (k : Nat → ClassId) (sz : Nat) (hI : fd_I 39 a) (N : Nat) (σ : fd_St) (r : (Int32 ⊕ String) × fd_St) (hf : f_X10_join_0 N σ = some r) : vx_Met l yX10_join wsX10_join ({ frames := 7, cells := fd_mc r, slots := fd_ms r, locals := 110 }) (va_Pc [.ref (a 0)] (fd_PZ D a k sz σ)) (va_Qi (fun v u => (Sum.inl v, u) = r) (fd_BC D a k) (fd_A 39 a sz)) (fd_X D a k (fd_A 39 a sz) r) (fd_mc r) (fd_ms r) (fd_A 39 a sz) := by
  refine vx_ofW (cc := cX10_join) (maxL := 2) (ret := (some .int)) (by decide) rfl ?_
  intro p e s m args below meth c s₁ B hml hex hv
  obtain ⟨rfl, ⟨hsz, hP, hK⟩, hZ⟩ := hv
  have hx := B.exec
  have hb := B.bytes
  have hr := B.returns
  have hts := atoms_spec (ws := wsX10_join) B.pre
  have hown : s.vm.findClass RX10 = some m.cls := findClass_of_methodNamed B.named
  have hlocks := B.notSynchronized
  subst hsz
  have hJ : ∀ i, i < 39 → fd_A 39 a s.heap.size (a i) := fun i hi => Or.inl ⟨i, hi, rfl⟩
  have hS : va_S (fd_A 39 a s.heap.size) s.heap s.heap [] := va_S.rf
  have hl := lv_entry ([.ref (a 0)]) (n := 2) (Nat.le_of_ble_eq_true rfl)
  rw [lg_entry_eq]
  generalize (lg_sl ([.ref (a 0)]) ++ List.replicate (2 - (lg_sl ([.ref (a 0)])).length) Slot.unset).toArray = ls at hl ⊢
  have hl : lv_has ls 2 [(0, .ref (a 0))] := hl
  have h9X10 : ∀ w ∈ u_ws RX10 TX10 8, w ∈ wsX10_join := fd_su [87, 88, 89, 90, 91, 92, 93, 94] (by eq_refl)
  unfold f_X10_join_0 at hf
  refine lv_aload_n hx hb dX10_join_0 rfl (lv_at hl 0 rfl) ?_
  rcases fd_bxs hf with ⟨w4, τ5, hc1, hf⟩ | ⟨E6, τ5, hc1, hf⟩
  · refine vx_callv (vx_runV (As := []) (rest := []) ⟨hx, hb, hml, hown, hts⟩ (m_X10_needTold_0 l hl9 D a k s.heap.size hI N σ _ hc1) (cwV 0 hts gX10_join_X10_needTold rfl rfl rfl (by decide +kernel) ⟨Nat.le_of_ble_eq_true rfl, Nat.le_of_ble_eq_true rfl⟩) ⟨fd_blZ, va_recv hK hP (ci := 10) (q0 := 0) rfl fd_WC_0, fd_prZ hP hK hZ hS⟩ rfl rfl hl.1 rfl (lv_room (Nat.le_of_ble_eq_true rfl)) dX10_join_1 ⟨Nat.zero_le _, Nat.zero_le _⟩) hS (fun q _ h => fd_A_mono hS.1 h) (fun q h => fd_A_mono hS.1 h) (fun q _ h => fd_A_mono hS.1 h) (fun E ce q9 u t H1 locs1 ht hvm hp hB => ?_) (fun u t H1 locs ht hvm hw hB hz hk hS => ?_)
    · exact absurd hB.1 (by simp)
    obtain ⟨hP1, hK1⟩ := hB
    rw [ht] at hP1
    have e2 := (Prod.mk.inj hw).2
    subst e2
    obtain ⟨σ3, rfl⟩ : ∃ z, z = u := ⟨_, rfl⟩
    have hP := hP1
    generalize H1 = H at hP hS ⊢
    refine W.cs (cells' := 0) (slots' := 0) rfl rfl ?_
    refine lv_aload_n hx hb dX10_join_4 rfl (lv_at hl 0 rfl) ?_
    refine va_get (ci := 10) (v := .ref (a 4)) (C := RX10) (T := TX10) (N := 8) hx hb hts h9X10 hown hK hP 0 fd_WC_0 rfl 3 (by decide) (hts (.fieldLink RX10 35 "FailDiagnose" "diagnosis" "LFailDiagnose$Diagnosis;") (List.mem_of_getElem? (i := 1) (by eq_refl))) (fun _ h9 => h9) rfl dX10_join_5 ?_
    obtain ⟨w10, τ11, hc7, hf⟩ := fd_bds hf
    refine va_callr (va_runV (As := []) (rest := []) ⟨hx, hb, hml, hown, hts⟩ (m_X3_suspects_4 l D a k H.size hI N σ3 _ hc7) (cwV 0 hts gX10_join_X3_suspects rfl rfl rfl (by decide +kernel) ⟨Nat.le_of_ble_eq_true rfl, Nat.le_of_ble_eq_true rfl⟩) ⟨fd_blC, va_recv hK hP (ci := 3) (q0 := 4) rfl fd_WC_4, fd_prC hP hK⟩ rfl rfl hl.1 rfl (lv_room (Nat.le_of_ble_eq_true rfl)) dX10_join_8 ⟨Nat.zero_le _, Nat.zero_le _⟩) hS (fun q _ h => fd_A_mono hS.1 h) (fun q h => fd_A_mono hS.1 h) (fun u x t H1 locs ht hvm hw hB hz hk hS => ?_)
    obtain ⟨rfl, hP1, hK1⟩ := hB
    rw [ht] at hP1
    have e2 := (Prod.mk.inj hw).2
    subst e2
    obtain ⟨σ9, rfl⟩ : ∃ z, z = u := ⟨_, rfl⟩
    have hP := hP1
    generalize H1 = H at hP hS ⊢
    obtain ⟨w15, τ16, hc12, hf⟩ := fd_bds hf
    refine va_calli (va_runV (As := []) (rest := []) ⟨hx, hb, hml, hown, hts⟩ (m_X8_withLeastSum_5 l D a k H.size hI N σ9 _ hc12) (cwV 0 hts gX10_join_X8_withLeastSum rfl rfl rfl (by decide +kernel) ⟨Nat.le_of_ble_eq_true rfl, Nat.le_of_ble_eq_true rfl⟩) ⟨fd_blC, va_recv hK hP (ci := 8) (q0 := 5) rfl fd_WC_5, fd_prC hP hK⟩ rfl rfl hl.1 rfl (lv_room (Nat.le_of_ble_eq_true rfl)) dX10_join_11 ⟨Nat.zero_le _, Nat.zero_le _⟩) hS (fun q _ h => fd_A_mono hS.1 h) (fun q h => fd_A_mono hS.1 h) (fun v13 u t H1 locs ht hvm hw hB hz hk hS => ?_)
    obtain ⟨hP1, hK1⟩ := hB
    rw [ht] at hP1
    obtain ⟨e1, e2⟩ := Prod.mk.inj hw
    subst e1
    subst e2
    obtain ⟨σ14, rfl⟩ : ∃ z, z = u := ⟨_, rfl⟩
    have hP := hP1
    generalize H1 = H at hP hS ⊢
    refine lv_istore_n (lv' := [(1, .int v13), (0, .ref (a 0))]) hx hb dX10_join_14 rfl hl (by decide) rfl (fun ls hl => ?_)
    refine lv_aload_n hx hb dX10_join_15 rfl (lv_at hl 1 rfl) ?_
    refine va_get (ci := 10) (v := .ref (a 9)) (C := RX10) (T := TX10) (N := 8) hx hb hts h9X10 hown hK hP 0 fd_WC_0 rfl 4 (by decide) (hts (.fieldLink RX10 42 "FailDiagnose" "shares" "LFailDiagnose$Shares;") (List.mem_of_getElem? (i := 2) (by eq_refl))) (fun _ h9 => h9) rfl dX10_join_16 ?_
    obtain ⟨w20, τ21, hc17, hf⟩ := fd_bds hf
    refine va_callv (va_runV (As := []) (rest := []) ⟨hx, hb, hml, hown, hts⟩ (m_X7_countChip_9 l D a k H.size hI N σ14 _ hc17) (cwV 0 hts gX10_join_X7_countChip rfl rfl rfl (by decide +kernel) ⟨Nat.le_of_ble_eq_true rfl, Nat.le_of_ble_eq_true rfl⟩) ⟨fd_blC, va_recv hK hP (ci := 7) (q0 := 9) rfl fd_WC_9, fd_prC hP hK⟩ rfl rfl hl.1 rfl (lv_room (Nat.le_of_ble_eq_true rfl)) dX10_join_19 ⟨Nat.zero_le _, Nat.zero_le _⟩) hS (fun q _ h => fd_A_mono hS.1 h) (fun q h => fd_A_mono hS.1 h) (fun u t H1 locs ht hvm hw hB hz hk hS => ?_)
    obtain ⟨hP1, hK1⟩ := hB
    rw [ht] at hP1
    have e2 := (Prod.mk.inj hw).2
    subst e2
    obtain ⟨σ19, rfl⟩ : ∃ z, z = u := ⟨_, rfl⟩
    have hP := hP1
    generalize H1 = H at hP hS ⊢
    refine lv_iload_n hx hb dX10_join_22 rfl (lv_at hl 0 rfl) ?_
    refine lv_if_le (tgt := 42) hx hb dX10_join_23 (by decide) (fun c22 => ?_) (fun c22 => ?_)
    · have hf := fd_itp c22 hf
      refine lv_iload_n hx hb dX10_join_42 rfl (lv_at hl 0 rfl) ?_
      refine vx_ret (W.widen (k := fd_mc r) (n := fd_ms r) (Nat.zero_le _) (Nat.zero_le _) ?_)
      exact W.iret (v := v13) hx hb hr (fun t ht hW => ⟨⟨v13, σ19, rfl, Option.some.inj hf, by rw [ht]; exact hP, va_K.moved hW.alike hK⟩, hS.F ht⟩) hS.2.2 dX10_join_43
    · have hf := fd_itn c22 hf
      refine lv_iload_n hx hb dX10_join_26 rfl (lv_at hl 0 rfl) ?_
      refine lv_bipush (v := (10 : Int32)) hx hb dX10_join_27 (by decide) ?_
      refine lv_icmp_gt (tgt := 42) hx hb dX10_join_29 (by decide) (fun c23 => ?_) (fun c23 => ?_)
      · have hf := fd_itp c23 hf
        refine lv_iload_n hx hb dX10_join_42 rfl (lv_at hl 0 rfl) ?_
        refine vx_ret (W.widen (k := fd_mc r) (n := fd_ms r) (Nat.zero_le _) (Nat.zero_le _) ?_)
        exact W.iret (v := v13) hx hb hr (fun t ht hW => ⟨⟨v13, σ19, rfl, Option.some.inj hf, by rw [ht]; exact hP, va_K.moved hW.alike hK⟩, hS.F ht⟩) hS.2.2 dX10_join_43
      · have hf := fd_itn c23 hf
        refine lv_aload_n hx hb dX10_join_32 rfl (lv_at hl 1 rfl) ?_
        refine lv_iload_n hx hb dX10_join_33 rfl (lv_at hl 0 rfl) ?_
        refine lv_sipush (v := (2520 : Int32)) hx hb dX10_join_34 (by decide) ?_
        refine lv_iload_n hx hb dX10_join_37 rfl (lv_at hl 0 rfl) ?_
        obtain ⟨g24, hf⟩ := fd_gds hf
        refine lv_idiv hx hb dX10_join_38 g24 ?_
        obtain ⟨w28, τ29, hc25, hf⟩ := fd_bds hf
        refine va_callv (va_runV (As := [.int v13, .int ((2520 : Int32) / v13)]) (rest := []) ⟨hx, hb, hml, hown, hts⟩ (m_X10_giveShares_0 l D a k H.size hI N v13 ((2520 : Int32) / v13) σ19 _ hc25) (cwV 2 hts gX10_join_X10_giveShares rfl rfl rfl (by decide +kernel) ⟨Nat.le_of_ble_eq_true rfl, Nat.le_of_ble_eq_true rfl⟩) ⟨fd_blC, va_recv hK hP (ci := 10) (q0 := 0) rfl fd_WC_0, fd_prC hP hK⟩ rfl rfl hl.1 rfl (lv_room (Nat.le_of_ble_eq_true rfl)) dX10_join_39 ⟨Nat.zero_le _, Nat.zero_le _⟩) hS (fun q _ h => fd_A_mono hS.1 h) (fun q h => fd_A_mono hS.1 h) (fun u t H1 locs ht hvm hw hB hz hk hS => ?_)
        obtain ⟨hP1, hK1⟩ := hB
        rw [ht] at hP1
        have e2 := (Prod.mk.inj hw).2
        subst e2
        obtain ⟨σ27, rfl⟩ : ∃ z, z = u := ⟨_, rfl⟩
        have hP := hP1
        generalize H1 = H at hP hS ⊢
        refine lv_iload_n hx hb dX10_join_42 rfl (lv_at hl 0 rfl) ?_
        refine vx_ret (W.widen (k := fd_mc r) (n := fd_ms r) (Nat.zero_le _) (Nat.zero_le _) ?_)
        exact W.iret (v := v13) hx hb hr (fun t ht hW => ⟨⟨v13, σ27, rfl, Option.some.inj hf, by rw [ht]; exact hP, va_K.moved hW.alike hK⟩, hS.F ht⟩) hS.2.2 dX10_join_43
  · have er := Option.some.inj hf
    subst er
    refine vx_callv (vx_runV (As := []) (rest := []) ⟨hx, hb, hml, hown, hts⟩ (m_X10_needTold_0 l hl9 D a k s.heap.size hI N σ _ hc1) (cwV 0 hts gX10_join_X10_needTold rfl rfl rfl (by decide +kernel) ⟨Nat.le_of_ble_eq_true rfl, Nat.le_of_ble_eq_true rfl⟩) ⟨fd_blZ, va_recv hK hP (ci := 10) (q0 := 0) rfl fd_WC_0, fd_prZ hP hK hZ hS⟩ rfl rfl hl.1 rfl (lv_room (Nat.le_of_ble_eq_true rfl)) dX10_join_1 ⟨Nat.le_of_ble_eq_true rfl, Nat.le_of_ble_eq_true rfl⟩) hS (fun q _ h => fd_A_mono hS.1 h) (fun q h => fd_A_mono hS.1 h) (fun q _ h => fd_A_mono hS.1 h) (fun E ce q9 u t H1 locs1 ht hvm hp hB hz hk hS hce hcv hcl => ?_) (fun u t H1 locs ht hvm hw hB hz hk hS => ?_)
    · obtain ⟨hB0, hP1, hK1⟩ := hB
      rw [ht] at hP1
      exact vx_out (E := E) (fun x hx => (hex x hx).elim) hlocks hce hcv hcl (fun t ht ha => ⟨u, trivial, ⟨fd_inr hB0, by rw [ht]; exact hP1, va_K.moved ha hK⟩, hS.F ht⟩) hS.2.2 (Nat.le_of_ble_eq_true rfl) (Nat.le_of_ble_eq_true rfl)
    · exact absurd hw (by simp)
noncomputable def f_L_join_0_39 (N : Nat) (σ : fd_St) : Option (Int32 × fd_St) := fd_bx (f_X10_join_0 N σ) (fun v2 τ => fd_lt (fd_mix τ σ) (fun σ6 => fd_gd (vp_in (0 : Int32) 1) (fd_lt (fd_sL 39 (0 : Int32) v2.toInt64 σ6) (fun σ9 => some ((0 : Int32), σ9))))) (fun E τ => if E = "java/lang/IllegalStateException" then (fd_lt (fd_mix τ σ) (fun σ11 => some ((1 : Int32), σ11))) else (none))
set_option maxHeartbeats 4000000 in
set_option maxRecDepth 100000 in
theorem m_L_join_0_39 (l : Launch) (hl9 : l.stackTraces = false) (D : va_G) (a : Nat → Nat) (k : Nat → ClassId) (sz : Nat) (hI : fd_I 40 a) (N : Nat) (σ : fd_St) (r : Int32 × fd_St) (hf : f_L_join_0_39 N σ = some r) : Met l yL_join wsL_join ({ frames := 8, cells := 1, slots := 6, locals := 131 }) (va_Pc [.ref (a 0), .ref (a 39)] (fd_PH D a k sz σ)) (va_Qi (fun v u => (v, u) = r) (fd_BH D a k) (fd_A 40 a sz)) 1 6 (fd_A 40 a sz) := by
  refine fd_ofWT (cc := cL_join) (maxL := 3) (ret := (some .int)) (by decide) rfl ?_
  intro p e s m args below meth c s₁ B hml hTab hv
  obtain ⟨rfl, hsz, hP, hK, hZ⟩ := hv
  have hx := B.exec
  have hb := B.bytes
  have hr := B.returns
  have hts := atoms_spec (ws := wsL_join) B.pre
  have hown : s.vm.findClass RL = some m.cls := findClass_of_methodNamed B.named
  have hlocks := B.notSynchronized
  subst hsz
  have hJ : ∀ i, i < 40 → fd_A 40 a s.heap.size (a i) := fun i hi => Or.inl ⟨i, hi, rfl⟩
  have hS : va_S (fd_A 40 a s.heap.size) s.heap s.heap [] := va_S.rf
  have hl := lv_entry ([.ref (a 0), .ref (a 39)]) (n := 3) (Nat.le_of_ble_eq_true rfl)
  rw [lg_entry_eq]
  generalize (lg_sl ([.ref (a 0), .ref (a 39)]) ++ List.replicate (3 - (lg_sl ([.ref (a 0), .ref (a 39)])).length) Slot.unset).toArray = ls at hl ⊢
  have hl : lv_has ls 3 [(0, .ref (a 0)), (1, .ref (a 39))] := hl
  unfold f_L_join_0_39 at hf
  refine lv_aload_n hx hb dL_join_0 rfl (lv_at hl 1 rfl) ?_
  refine lv_iconst (v := (0 : Int32)) hx hb dL_join_1 (by decide) ?_
  refine lv_aload_n hx hb dL_join_2 rfl (lv_at hl 0 rfl) ?_
  rcases fd_bxs hf with ⟨w3, τ4, hc1, hf⟩ | ⟨E5, τ4, hc1, hf⟩
  · refine vx_calli (vx_runV (As := []) (rest := [.int (0 : Int32), .ref (a 39)]) ⟨hx, hb, hml, hown, hts⟩ (m_X10_join_0 l hl9 D a k s.heap.size (fd_I40 hI) N σ _ hc1) (cwV 0 hts gL_join_X10_join rfl rfl rfl (by decide +kernel) ⟨Nat.le_of_ble_eq_true rfl, Nat.le_of_ble_eq_true rfl⟩) ⟨fd_blZ, va_recv (fd_HK hK) (fd_HC hP) (ci := 10) (q0 := 0) rfl fd_WC_0, fd_prHZ hP hK hZ hS⟩ rfl rfl hl.1 rfl (lv_room (Nat.le_of_ble_eq_true rfl)) dL_join_3 ⟨(Nat.zero_le _), (Nat.zero_le _)⟩) hS (fun q _ h => fd_A_sub hS.1 h) (fun q h => fd_A_sub hS.1 h) (fun q _ h => fd_A_sub hS.1 h) (fun E ce q9 u t H1 locs1 ht hvm hp hB => ?_) (fun v2 u t H1 locs ht hvm hw hB hz hk hS => ?_)
    · exact absurd hB.1 (by simp)
    obtain ⟨hP1, hK1⟩ := hB
    rw [ht] at hP1
    obtain ⟨e1, e2⟩ := Prod.mk.inj hw
    obtain e1 := Sum.inl.inj e1
    subst e1
    subst e2
    obtain ⟨σ6, eσ6, hf⟩ := fd_lts hf
    have hP : va_P D vwCl (fd_WH a k σ6) H1 := by rw [eσ6]; exact fd_HJ hI hP hP1 hk
    generalize H1 = H at hP hS ⊢
    refine W.cs (cells' := 0) (slots' := 0) rfl rfl ?_
    refine lv_i2l hx hb dL_join_6 rfl ?_
    obtain ⟨g8, hf⟩ := fd_gds hf
    obtain ⟨σ9, eσ9, hf⟩ := fd_lts hf
    refine va_last hx hb hK hP (fd_DH hI hJ) hS 39 27 fd_WH_39 fd_tyH_39 g8 dL_join_7 (fun H locs hP _ hS => ?_)
    have hP : va_P D vwCl (fd_WH a k σ9) H := by rw [eσ9]; exact fd_sP fd_WHa_39 hP
    refine lv_goto (tgt := 14) hx hb dL_join_8 (by decide) ?_
    refine lv_iconst (v := (0 : Int32)) hx hb dL_join_14 (by decide) ?_
    refine W.widen (k := 1) (n := 6) (Nat.le_of_ble_eq_true rfl) (Nat.le_of_ble_eq_true rfl) ?_
    exact W.iret (v := (0 : Int32)) hx hb hr (fun t ht hW => ⟨⟨(0 : Int32), σ9, rfl, Option.some.inj hf, by rw [ht]; exact hP, va_K.moved hW.alike hK⟩, hS.F ht⟩) hS.2.2 dL_join_15
  · have hE := hf
    by_cases c10 : E5 = "java/lang/IllegalStateException"
    · subst c10
      have hf := fd_itp rfl hf
      refine vx_calli (vx_runV (As := []) (rest := [.int (0 : Int32), .ref (a 39)]) ⟨hx, hb, hml, hown, hts⟩ (m_X10_join_0 l hl9 D a k s.heap.size (fd_I40 hI) N σ _ hc1) (cwV 0 hts gL_join_X10_join rfl rfl rfl (by decide +kernel) ⟨Nat.le_of_ble_eq_true rfl, Nat.le_of_ble_eq_true rfl⟩) ⟨fd_blZ, va_recv (fd_HK hK) (fd_HC hP) (ci := 10) (q0 := 0) rfl fd_WC_0, fd_prHZ hP hK hZ hS⟩ rfl rfl hl.1 rfl (lv_room (Nat.le_of_ble_eq_true rfl)) dL_join_3 ⟨Nat.le_of_ble_eq_true rfl, Nat.le_of_ble_eq_true rfl⟩) hS (fun q _ h => fd_A_sub hS.1 h) (fun q h => fd_A_sub hS.1 h) (fun q _ h => fd_A_sub hS.1 h) (fun E ce q9 u t H1 locs1 ht hvm hp hB hz hk hS hce hcv hcl => ?_) (fun v2 u t H1 locs ht hvm hw hB hz hk hS => ?_)
      · obtain ⟨hB0, hP1, hK1⟩ := hB
        rw [ht] at hP1
        obtain ⟨e1, e2⟩ := Prod.mk.inj hB0
        obtain e1 := Sum.inr.inj e1
        subst e1
        subst e2
        obtain ⟨σ11, eσ11, hf⟩ := fd_lts hf
        have hP : va_P D vwCl (fd_WH a k σ11) H1 := by rw [eσ11]; exact fd_HJ hI hP hP1 hk
        refine fd_catch (own := RL) (name := "java/lang/IllegalStateException") (E := "java/lang/IllegalStateException") hown [] ⟨0, 8, 11, 13⟩ [] (by rw [hTab]; rfl) (fun z hz => nomatch hz) (by decide) (by decide) (hts (.classLink RL 13 "java/lang/IllegalStateException") (List.mem_of_getElem? (i := 1) (by eq_refl))) (hZ.cast "java/lang/IllegalStateException" (by decide +kernel)) hce hcv hcl ?_
        refine W.cs (cells' := 1) (slots' := 6) rfl rfl ?_
        refine lv_astore_n (lv' := [(2, .ref q9), (0, .ref (a 0)), (1, .ref (a 39))]) hx hb dL_join_11 rfl hl (by decide) rfl (fun ls hl => ?_)
        refine lv_iconst (v := (1 : Int32)) hx hb dL_join_12 (by decide) ?_
        refine W.widen (k := 1) (n := 6) (Nat.le_of_ble_eq_true rfl) (Nat.le_of_ble_eq_true rfl) ?_
        exact W.iret (v := (1 : Int32)) hx hb hr (fun t ht hW => ⟨⟨(1 : Int32), σ11, rfl, Option.some.inj hf, by rw [ht]; exact hP, va_K.moved hW.alike hK⟩, hS.F ht⟩) hS.2.2 dL_join_13
      · exact absurd hw (by simp)
    have hf := fd_itn c10 hf
    cases hf
noncomputable def f_X11_join_0_J151 (N : Nat) (y1 : Int32) (σ : fd_St) : Option (Int32 × fd_St) := fd_lt (fd_sI 11 ((σ.1 11) + (1 : Int32)) σ) (fun σ6 => some (y1, σ6))
noncomputable def f_X11_join_0_J145 (N : Nat) (k58 : Int32 → Int32 → fd_St → Option (Int32 × fd_St)) (y1 : Int32) (y2 : Int32) (σ : fd_St) : Option (Int32 × fd_St) := fd_lt (y2 + (1 : Int32)) (fun x19 => k58 y1 x19 σ)
noncomputable def f_X11_join_0_J112 (N : Nat) (k58 : Int32 → Int32 → fd_St → Option (Int32 × fd_St)) (y1 : Int32) (y2 : Int32) (y3 : Int32) (y4 : Int32) (z1 : Int32) (σ : fd_St) : Option (Int32 × fd_St) := fd_gd (vp_in z1 200) (fd_gd (¬ y1 = 0) (fd_gd (vp_in z1 200) (fd_lt (fd_sA 19 z1 ((σ.2.1 19 z1.toNatClampNeg) + ((2520 : Int32) / y1)) σ) (fun σ17 => if y4 = 0 then (fd_gd (vp_in y3 40) (fd_lt (σ17.2.1 8 y3.toNatClampNeg) (fun x21 => fd_gd (vp_in x21 200) (fd_gd (¬ y1 = 0) (fd_gd (vp_in x21 200) (fd_lt (fd_sA 19 x21 ((σ17.2.1 19 x21.toNatClampNeg) + ((2520 : Int32) / y1)) σ17) (fun σ25 => f_X11_join_0_J145 N k58 y1 y2 σ25))))))) else (f_X11_join_0_J145 N k58 y1 y2 σ17)))))
noncomputable def f_X11_join_0_J91 (N : Nat) (k58 : Int32 → Int32 → fd_St → Option (Int32 × fd_St)) (y1 : Int32) (y2 : Int32) (y3 : Int32) (z0 : Int32) (σ : fd_St) : Option (Int32 × fd_St) := if z0 = 0 then (fd_gd (vp_in y3 40) (f_X11_join_0_J112 N k58 y1 y2 y3 z0 (σ.2.1 7 y3.toNatClampNeg) σ)) else (f_X11_join_0_J112 N k58 y1 y2 y3 z0 y3 σ)
noncomputable def f_X11_join_0_L58 (N : Nat) : Nat → Int32 → Int32 → fd_St → Option (Int32 × fd_St)
  | 0 => fun _ _ _ => none
  | n + 1 => fun y1 y2 σ => if y1 ≤ y2 then (f_X11_join_0_J151 N y1 σ) else (if (10 : Int32) < y1 then (f_X11_join_0_J151 N y1 σ) else (fd_gd (vp_in y2 480) (fd_lt (σ.2.1 13 y2.toNatClampNeg) (fun x9 => fd_gd (vp_in y2 480) (if (2 : Int32) ≤ (σ.2.1 12 y2.toNatClampNeg) then (f_X11_join_0_J91 N (f_X11_join_0_L58 N n) y1 y2 x9 (0 : Int32) σ) else (f_X11_join_0_J91 N (f_X11_join_0_L58 N n) y1 y2 x9 (1 : Int32) σ))))))
noncomputable def f_X11_join_0_J56 (N : Nat) (y1 : Int32) (σ : fd_St) : Option (Int32 × fd_St) := f_X11_join_0_L58 N N y1 (0 : Int32) σ
noncomputable def f_X11_join_0_L27 (N : Nat) : Nat → Int32 → fd_St → Option (Int32 × fd_St)
  | 0 => fun _ _ => none
  | n + 1 => fun y1 σ => if (σ.1 7) ≤ y1 then (f_X11_join_0_J56 N y1 σ) else (fd_gd (vp_in y1 480) (fd_gd (vp_in (0 : Int32) 480) (if (σ.2.1 14 y1.toNatClampNeg) = (σ.2.1 14 (0 : Int32).toNatClampNeg) then (fd_lt (y1 + (1 : Int32)) (fun x29 => (f_X11_join_0_L27 N n) x29 σ)) else (f_X11_join_0_J56 N y1 σ))))
noncomputable def f_X11_join_0_J13 (N : Nat) (z1 : Int32) (σ : fd_St) : Option (Int32 × fd_St) := fd_lt (fd_sI 0 z1 σ) (fun σ2 => if (σ2.1 0) ≤ 0 then (f_X11_join_0_L27 N N (0 : Int32) σ2) else (some ((0 : Int32), σ2)))
noncomputable def f_X11_join_0 (N : Nat) (σ : fd_St) : Option (Int32 × fd_St) := if (σ.1 6) = 0 then (f_X11_join_0_J13 N (1 : Int32) σ) else (f_X11_join_0_J13 N (0 : Int32) σ)
set_option maxHeartbeats 4000000 in
set_option maxRecDepth 100000 in
theorem m_X11_join_0 (l : Launch) (D : va_G) (a : Nat → Nat) (k : Nat → ClassId) (sz : Nat) (hI : fd_I 29 a) (N : Nat) (σ : fd_St) (r : Int32 × fd_St) (hf : f_X11_join_0 N σ = some r) : Met l yX11_join wsX11_join ({ frames := 0, cells := 0, slots := 0, locals := 0 }) (va_Pc [.ref (a 0)] (fd_PM D a k sz σ)) (va_Qi (fun v u => (v, u) = r) (fd_BM D a k) (fd_A 29 a sz)) 0 0 (fd_A 29 a sz) := by
  refine Met.ofW (cc := cX11_join) (maxL := 5) (ret := (some .int)) (by decide) rfl ?_
  intro p e s m args below meth c s₁ B hml hv
  obtain ⟨rfl, hsz, hP, hK⟩ := hv
  have hx := B.exec
  have hb := B.bytes
  have hr := B.returns
  have hts := atoms_spec (ws := wsX11_join) B.pre
  have hown : s.vm.findClass RX11 = some m.cls := findClass_of_methodNamed B.named
  have hlocks := B.notSynchronized
  subst hsz
  have hJ : ∀ i, i < 29 → fd_A 29 a s.heap.size (a i) := fun i hi => Or.inl ⟨i, hi, rfl⟩
  have hS : va_S (fd_A 29 a s.heap.size) s.heap s.heap [] := va_S.rf
  have hl := lv_entry ([.ref (a 0)]) (n := 5) (Nat.le_of_ble_eq_true rfl)
  rw [lg_entry_eq]
  generalize (lg_sl ([.ref (a 0)]) ++ List.replicate (5 - (lg_sl ([.ref (a 0)])).length) Slot.unset).toArray = ls at hl ⊢
  have hl : lv_has ls 5 [(0, .ref (a 0))] := hl
  have h9X11 : ∀ w ∈ u_ws RX11 TX11 43, w ∈ wsX11_join := fd_su [11, 12, 13, 14, 15, 16, 17, 18, 19, 20, 21, 22, 23, 24, 25, 26, 27, 28, 29, 30, 31, 32, 33, 34, 35, 36, 37, 38, 39, 40, 41, 42, 43, 44, 45, 46, 47, 48, 49, 50, 51, 52, 53] (by eq_refl)
  have hL151 : ∀ (y1 : Int32) (σ : fd_St) (H : Heap) (locs : List Loc) (ls : Array Slot), va_P D vwCl (fd_WM a k σ) H → va_S (fd_A 29 a s.heap.size) s.heap H locs → lv_has ls 5 [(0, .ref (a 0)), (1, .int y1)] → f_X11_join_0_J151 N y1 σ = some r → W p l e ((headSpec wsX11_join ({ frames := 0, cells := 0, slots := 0, locals := 0 })).room) s m ([.ref (a 0)].toArray) below meth c H locs 0 0 (MQ below (va_Qi (fun v u => (v, u) = r) (fd_BM D a k) (fd_A 29 a s.heap.size)) ([.ref (a 0)].toArray) s 0 0 (fd_A 29 a s.heap.size)) (F0 m 151 ls []) := by
    intro y1 σ H locs ls hP hS hl hf
    unfold f_X11_join_0_J151 at hf
    refine lv_aload_n hx hb dX11_join_151 rfl (lv_at hl 0 rfl) ?_
    refine lv_dup hx hb dX11_join_152 rfl ?_
    refine va_get (ci := 11) (v := .int (σ.1 11)) (C := RX11) (T := TX11) (N := 43) hx hb hts h9X11 hown hK hP 0 fd_WM_0 rfl 29 (by decide) (hts (.fieldLink RX11 185 "FailDiagnoseModel" "chips" "I") (List.mem_of_getElem? (i := 10) (by eq_refl))) (fun _ h9 => h9) rfl dX11_join_153 ?_
    refine lv_iconst (v := (1 : Int32)) hx hb dX11_join_156 (by decide) ?_
    refine lv_iadd hx hb dX11_join_157 ?_
    obtain ⟨σ6, eσ6, hf⟩ := fd_lts hf
    refine va_put (ci := 11) (v := .int ((σ.1 11) + (1 : Int32))) (ty := .int) (C := RX11) (T := TX11) (N := 43) hx hb hts h9X11 tyX11 tyX11_ok nmX11 hown hK hP (fd_DM hI hJ) hS 0 fd_WM_0 rfl 29 (by decide) (hts (.fieldLink RX11 185 "FailDiagnoseModel" "chips" "I") (List.mem_of_getElem? (i := 10) (by eq_refl))) (fun _ h9 => h9) rfl (by decide +kernel) rfl rfl (Nat.le_of_ble_eq_true rfl) dX11_join_158 (fun H locs hP _ hS => ?_)
    have hP : va_P D vwCl (fd_WM a k σ6) H := by rw [eσ6]; exact fd_sP fd_WMi_11 hP
    refine lv_iload_n hx hb dX11_join_161 rfl (lv_at hl 1 rfl) ?_
    exact W.iret (v := y1) hx hb hr (fun t ht hW => ⟨⟨y1, σ6, rfl, Option.some.inj hf, by rw [ht]; exact hP, va_K.moved hW.alike hK⟩, hS.F ht⟩) hS.2.2 dX11_join_162
  have hL145 : ∀ (k58 : Int32 → Int32 → fd_St → Option (Int32 × fd_St)) (hk58 : ∀ (y1 : Int32) (y2 : Int32) (σ : fd_St) (H : Heap) (locs : List Loc) (ls : Array Slot), va_P D vwCl (fd_WM a k σ) H → va_S (fd_A 29 a s.heap.size) s.heap H locs → lv_has ls 5 [(0, .ref (a 0)), (1, .int y1), (2, .int y2)] → k58 y1 y2 σ = some r → W p l e ((headSpec wsX11_join ({ frames := 0, cells := 0, slots := 0, locals := 0 })).room) s m ([.ref (a 0)].toArray) below meth c H locs 0 0 (MQ below (va_Qi (fun v u => (v, u) = r) (fd_BM D a k) (fd_A 29 a s.heap.size)) ([.ref (a 0)].toArray) s 0 0 (fd_A 29 a s.heap.size)) (F0 m 58 ls [])), ∀ (y1 : Int32) (y2 : Int32) (σ : fd_St) (H : Heap) (locs : List Loc) (ls : Array Slot), va_P D vwCl (fd_WM a k σ) H → va_S (fd_A 29 a s.heap.size) s.heap H locs → lv_has ls 5 [(0, .ref (a 0)), (1, .int y1), (2, .int y2)] → f_X11_join_0_J145 N k58 y1 y2 σ = some r → W p l e ((headSpec wsX11_join ({ frames := 0, cells := 0, slots := 0, locals := 0 })).room) s m ([.ref (a 0)].toArray) below meth c H locs 0 0 (MQ below (va_Qi (fun v u => (v, u) = r) (fd_BM D a k) (fd_A 29 a s.heap.size)) ([.ref (a 0)].toArray) s 0 0 (fd_A 29 a s.heap.size)) (F0 m 145 ls []) := by
    intro k58 hk58 y1 y2 σ H locs ls hP hS hl hf
    unfold f_X11_join_0_J145 at hf
    obtain ⟨x19, ex19, hf⟩ := fd_lts hf
    refine lv_iinc (v := x19) (lv' := [(2, .int x19), (0, .ref (a 0)), (1, .int y1)]) hx hb dX11_join_145 hl (k := 2) rfl (by rw [ex19]; rfl) (by decide) rfl (fun ls hl => ?_)
    refine lv_goto (tgt := 58) hx hb dX11_join_148 (by decide) ?_
    exact hk58 y1 x19 σ _ _ _ hP hS (lv_sub hl [1, 2, 0] rfl) hf
  have hL112 : ∀ (k58 : Int32 → Int32 → fd_St → Option (Int32 × fd_St)) (hk58 : ∀ (y1 : Int32) (y2 : Int32) (σ : fd_St) (H : Heap) (locs : List Loc) (ls : Array Slot), va_P D vwCl (fd_WM a k σ) H → va_S (fd_A 29 a s.heap.size) s.heap H locs → lv_has ls 5 [(0, .ref (a 0)), (1, .int y1), (2, .int y2)] → k58 y1 y2 σ = some r → W p l e ((headSpec wsX11_join ({ frames := 0, cells := 0, slots := 0, locals := 0 })).room) s m ([.ref (a 0)].toArray) below meth c H locs 0 0 (MQ below (va_Qi (fun v u => (v, u) = r) (fd_BM D a k) (fd_A 29 a s.heap.size)) ([.ref (a 0)].toArray) s 0 0 (fd_A 29 a s.heap.size)) (F0 m 58 ls [])), ∀ (y1 : Int32) (y2 : Int32) (y3 : Int32) (y4 : Int32) (z1 : Int32) (σ : fd_St) (H : Heap) (locs : List Loc) (ls : Array Slot), va_P D vwCl (fd_WM a k σ) H → va_S (fd_A 29 a s.heap.size) s.heap H locs → lv_has ls 5 [(0, .ref (a 0)), (1, .int y1), (2, .int y2), (3, .int y3), (4, .int y4)] → f_X11_join_0_J112 N k58 y1 y2 y3 y4 z1 σ = some r → W p l e ((headSpec wsX11_join ({ frames := 0, cells := 0, slots := 0, locals := 0 })).room) s m ([.ref (a 0)].toArray) below meth c H locs 0 0 (MQ below (va_Qi (fun v u => (v, u) = r) (fd_BM D a k) (fd_A 29 a s.heap.size)) ([.ref (a 0)].toArray) s 0 0 (fd_A 29 a s.heap.size)) (F0 m 112 ls [.int z1, .ref (a 19)]) := by
    intro k58 hk58 y1 y2 y3 y4 z1 σ H locs ls hP hS hl hf
    unfold f_X11_join_0_J112 at hf
    refine lv_dup2_11 hx hb dX11_join_112 rfl rfl ?_
    obtain ⟨g14, hf⟩ := fd_gds hf
    refine va_iald hx hb hK hP 19 18 fd_WM_19 fd_tyM_19 g14 dX11_join_113 ?_
    refine lv_sipush (v := (2520 : Int32)) hx hb dX11_join_114 (by decide) ?_
    refine lv_iload_n hx hb dX11_join_117 rfl (lv_at hl 1 rfl) ?_
    obtain ⟨g15, hf⟩ := fd_gds hf
    refine lv_idiv hx hb dX11_join_118 g15 ?_
    refine lv_iadd hx hb dX11_join_119 ?_
    obtain ⟨g16, hf⟩ := fd_gds hf
    obtain ⟨σ17, eσ17, hf⟩ := fd_lts hf
    refine va_iast hx hb hK hP (fd_DM hI hJ) hS 19 18 fd_WM_19 fd_tyM_19 g16 dX11_join_120 (fun H locs hP _ hS => ?_)
    have hP : va_P D vwCl (fd_WM a k σ17) H := by rw [eσ17]; exact fd_sP fd_WMa_19 hP
    refine lv_iload hx hb dX11_join_121 (lv_at hl 4 rfl) ?_
    refine lv_if_ne (tgt := 145) hx hb dX11_join_123 (by decide) (fun c18 => ?_) (fun c18 => ?_)
    · have hf := fd_itn c18 hf
      exact hL145 k58 hk58 y1 y2 σ17 _ _ _ hP hS (lv_sub hl [0, 1, 2] rfl) hf
    · have hf := fd_itp c18 hf
      refine lv_aload_n hx hb dX11_join_126 rfl (lv_at hl 0 rfl) ?_
      refine va_get (ci := 11) (v := .ref (a 19)) (C := RX11) (T := TX11) (N := 43) hx hb hts h9X11 hown hK hP 0 fd_WM_0 rfl 30 (by decide) (hts (.fieldLink RX11 66 "FailDiagnoseModel" "shares" "[I") (List.mem_of_getElem? (i := 7) (by eq_refl))) (fun _ h9 => h9) rfl dX11_join_127 ?_
      refine lv_aload_n hx hb dX11_join_130 rfl (lv_at hl 0 rfl) ?_
      refine va_get (ci := 11) (v := .ref (a 8)) (C := RX11) (T := TX11) (N := 43) hx hb hts h9X11 hown hK hP 0 fd_WM_0 rfl 13 (by decide) (hts (.fieldLink RX11 32 "FailDiagnoseModel" "pairB" "[I") (List.mem_of_getElem? (i := 9) (by eq_refl))) (fun _ h9 => h9) rfl dX11_join_131 ?_
      refine lv_iload_n hx hb dX11_join_134 rfl (lv_at hl 3 rfl) ?_
      obtain ⟨g20, hf⟩ := fd_gds hf
      refine va_iald hx hb hK hP 8 7 fd_WM_8 fd_tyM_8 g20 dX11_join_135 ?_
      obtain ⟨x21, ex21, hf⟩ := fd_lts hf
      refine fd_ni ex21 ?_
      refine lv_dup2_11 hx hb dX11_join_136 rfl rfl ?_
      obtain ⟨g22, hf⟩ := fd_gds hf
      refine va_iald hx hb hK hP 19 18 fd_WM_19 fd_tyM_19 g22 dX11_join_137 ?_
      refine lv_sipush (v := (2520 : Int32)) hx hb dX11_join_138 (by decide) ?_
      refine lv_iload_n hx hb dX11_join_141 rfl (lv_at hl 1 rfl) ?_
      obtain ⟨g23, hf⟩ := fd_gds hf
      refine lv_idiv hx hb dX11_join_142 g23 ?_
      refine lv_iadd hx hb dX11_join_143 ?_
      obtain ⟨g24, hf⟩ := fd_gds hf
      obtain ⟨σ25, eσ25, hf⟩ := fd_lts hf
      refine va_iast hx hb hK hP (fd_DM hI hJ) hS 19 18 fd_WM_19 fd_tyM_19 g24 dX11_join_144 (fun H locs hP _ hS => ?_)
      have hP : va_P D vwCl (fd_WM a k σ25) H := by rw [eσ25]; exact fd_sP fd_WMa_19 hP
      exact hL145 k58 hk58 y1 y2 σ25 _ _ _ hP hS (lv_sub hl [0, 1, 2] rfl) hf
  have hL91 : ∀ (k58 : Int32 → Int32 → fd_St → Option (Int32 × fd_St)) (hk58 : ∀ (y1 : Int32) (y2 : Int32) (σ : fd_St) (H : Heap) (locs : List Loc) (ls : Array Slot), va_P D vwCl (fd_WM a k σ) H → va_S (fd_A 29 a s.heap.size) s.heap H locs → lv_has ls 5 [(0, .ref (a 0)), (1, .int y1), (2, .int y2)] → k58 y1 y2 σ = some r → W p l e ((headSpec wsX11_join ({ frames := 0, cells := 0, slots := 0, locals := 0 })).room) s m ([.ref (a 0)].toArray) below meth c H locs 0 0 (MQ below (va_Qi (fun v u => (v, u) = r) (fd_BM D a k) (fd_A 29 a s.heap.size)) ([.ref (a 0)].toArray) s 0 0 (fd_A 29 a s.heap.size)) (F0 m 58 ls [])), ∀ (y1 : Int32) (y2 : Int32) (y3 : Int32) (z0 : Int32) (σ : fd_St) (H : Heap) (locs : List Loc) (ls : Array Slot), va_P D vwCl (fd_WM a k σ) H → va_S (fd_A 29 a s.heap.size) s.heap H locs → lv_has ls 5 [(0, .ref (a 0)), (1, .int y1), (2, .int y2), (3, .int y3)] → f_X11_join_0_J91 N k58 y1 y2 y3 z0 σ = some r → W p l e ((headSpec wsX11_join ({ frames := 0, cells := 0, slots := 0, locals := 0 })).room) s m ([.ref (a 0)].toArray) below meth c H locs 0 0 (MQ below (va_Qi (fun v u => (v, u) = r) (fd_BM D a k) (fd_A 29 a s.heap.size)) ([.ref (a 0)].toArray) s 0 0 (fd_A 29 a s.heap.size)) (F0 m 91 ls [.int z0]) := by
    intro k58 hk58 y1 y2 y3 z0 σ H locs ls hP hS hl hf
    unfold f_X11_join_0_J91 at hf
    refine lv_istore (lv' := [(4, .int z0), (0, .ref (a 0)), (1, .int y1), (2, .int y2), (3, .int y3)]) hx hb dX11_join_91 hl (by decide) rfl (fun ls hl => ?_)
    refine lv_aload_n hx hb dX11_join_93 rfl (lv_at hl 1 rfl) ?_
    refine va_get (ci := 11) (v := .ref (a 19)) (C := RX11) (T := TX11) (N := 43) hx hb hts h9X11 hown hK hP 0 fd_WM_0 rfl 30 (by decide) (hts (.fieldLink RX11 66 "FailDiagnoseModel" "shares" "[I") (List.mem_of_getElem? (i := 7) (by eq_refl))) (fun _ h9 => h9) rfl dX11_join_94 ?_
    refine lv_iload hx hb dX11_join_97 (lv_at hl 0 rfl) ?_
    refine lv_if_eq (tgt := 106) hx hb dX11_join_99 (by decide) (fun c12 => ?_) (fun c12 => ?_)
    · have hf := fd_itp c12 hf
      refine lv_aload_n hx hb dX11_join_106 rfl (lv_at hl 1 rfl) ?_
      refine va_get (ci := 11) (v := .ref (a 7)) (C := RX11) (T := TX11) (N := 43) hx hb hts h9X11 hown hK hP 0 fd_WM_0 rfl 12 (by decide) (hts (.fieldLink RX11 29 "FailDiagnoseModel" "pairA" "[I") (List.mem_of_getElem? (i := 8) (by eq_refl))) (fun _ h9 => h9) rfl dX11_join_107 ?_
      refine lv_iload_n hx hb dX11_join_110 rfl (lv_at hl 4 rfl) ?_
      obtain ⟨g13, hf⟩ := fd_gds hf
      refine va_iald hx hb hK hP 7 6 fd_WM_7 fd_tyM_7 g13 dX11_join_111 ?_
      exact hL112 k58 hk58 y1 y2 y3 z0 (σ.2.1 7 y3.toNatClampNeg) σ _ _ _ hP hS (lv_sub hl [1, 2, 3, 4, 0] rfl) hf
    · have hf := fd_itn c12 hf
      refine lv_iload_n hx hb dX11_join_102 rfl (lv_at hl 4 rfl) ?_
      refine lv_goto (tgt := 112) hx hb dX11_join_103 (by decide) ?_
      exact hL112 k58 hk58 y1 y2 y3 z0 y3 σ _ _ _ hP hS (lv_sub hl [1, 2, 3, 4, 0] rfl) hf
  have hL58 : ∀ (n : Nat), ∀ (y1 : Int32) (y2 : Int32) (σ : fd_St) (H : Heap) (locs : List Loc) (ls : Array Slot), va_P D vwCl (fd_WM a k σ) H → va_S (fd_A 29 a s.heap.size) s.heap H locs → lv_has ls 5 [(0, .ref (a 0)), (1, .int y1), (2, .int y2)] → f_X11_join_0_L58 N n y1 y2 σ = some r → W p l e ((headSpec wsX11_join ({ frames := 0, cells := 0, slots := 0, locals := 0 })).room) s m ([.ref (a 0)].toArray) below meth c H locs 0 0 (MQ below (va_Qi (fun v u => (v, u) = r) (fd_BM D a k) (fd_A 29 a s.heap.size)) ([.ref (a 0)].toArray) s 0 0 (fd_A 29 a s.heap.size)) (F0 m 58 ls []) := by
    intro n
    induction n with
    | zero =>
      intro _ _ _ _ _ _ _ _ _ hf
      cases hf
    | succ n ih =>
      intro y1 y2 σ H locs ls hP hS hl hf
      unfold f_X11_join_0_L58 at hf
      refine lv_iload_n hx hb dX11_join_58 rfl (lv_at hl 2 rfl) ?_
      refine lv_iload_n hx hb dX11_join_59 rfl (lv_at hl 1 rfl) ?_
      refine lv_icmp_ge (tgt := 151) hx hb dX11_join_60 (by decide) (fun c5 => ?_) (fun c5 => ?_)
      · have hf := fd_itp c5 hf
        exact hL151 y1 σ _ _ _ hP hS (lv_sub hl [0, 1] rfl) hf
      · have hf := fd_itn c5 hf
        refine lv_iload_n hx hb dX11_join_63 rfl (lv_at hl 1 rfl) ?_
        refine lv_bipush (v := (10 : Int32)) hx hb dX11_join_64 (by decide) ?_
        refine lv_icmp_gt (tgt := 151) hx hb dX11_join_66 (by decide) (fun c7 => ?_) (fun c7 => ?_)
        · have hf := fd_itp c7 hf
          exact hL151 y1 σ _ _ _ hP hS (lv_sub hl [0, 1] rfl) hf
        · have hf := fd_itn c7 hf
          refine lv_aload_n hx hb dX11_join_69 rfl (lv_at hl 0 rfl) ?_
          refine va_get (ci := 11) (v := .ref (a 13)) (C := RX11) (T := TX11) (N := 43) hx hb hts h9X11 hown hK hP 0 fd_WM_0 rfl 20 (by decide) (hts (.fieldLink RX11 48 "FailDiagnoseModel" "suspectOf" "[I") (List.mem_of_getElem? (i := 5) (by eq_refl))) (fun _ h9 => h9) rfl dX11_join_70 ?_
          refine lv_iload_n hx hb dX11_join_73 rfl (lv_at hl 2 rfl) ?_
          obtain ⟨g8, hf⟩ := fd_gds hf
          refine va_iald hx hb hK hP 13 12 fd_WM_13 fd_tyM_13 g8 dX11_join_74 ?_
          obtain ⟨x9, ex9, hf⟩ := fd_lts hf
          refine fd_ni ex9 ?_
          refine lv_istore_n (lv' := [(3, .int x9), (0, .ref (a 0)), (1, .int y1), (2, .int y2)]) hx hb dX11_join_75 rfl hl (by decide) rfl (fun ls hl => ?_)
          refine lv_aload_n hx hb dX11_join_76 rfl (lv_at hl 1 rfl) ?_
          refine va_get (ci := 11) (v := .ref (a 12)) (C := RX11) (T := TX11) (N := 43) hx hb hts h9X11 hown hK hP 0 fd_WM_0 rfl 19 (by decide) (hts (.fieldLink RX11 45 "FailDiagnoseModel" "suspectKind" "[I") (List.mem_of_getElem? (i := 6) (by eq_refl))) (fun _ h9 => h9) rfl dX11_join_77 ?_
          refine lv_iload_n hx hb dX11_join_80 rfl (lv_at hl 3 rfl) ?_
          obtain ⟨g10, hf⟩ := fd_gds hf
          refine va_iald hx hb hK hP 12 11 fd_WM_12 fd_tyM_12 g10 dX11_join_81 ?_
          refine lv_iconst (v := (2 : Int32)) hx hb dX11_join_82 (by decide) ?_
          refine lv_icmp_ge (tgt := 90) hx hb dX11_join_83 (by decide) (fun c11 => ?_) (fun c11 => ?_)
          · have hf := fd_itp c11 hf
            refine lv_iconst (v := (0 : Int32)) hx hb dX11_join_90 (by decide) ?_
            exact hL91 (f_X11_join_0_L58 N n) ih y1 y2 x9 (0 : Int32) σ _ _ _ hP hS (lv_sub hl [1, 2, 3, 0] rfl) hf
          · have hf := fd_itn c11 hf
            refine lv_iconst (v := (1 : Int32)) hx hb dX11_join_86 (by decide) ?_
            refine lv_goto (tgt := 91) hx hb dX11_join_87 (by decide) ?_
            exact hL91 (f_X11_join_0_L58 N n) ih y1 y2 x9 (1 : Int32) σ _ _ _ hP hS (lv_sub hl [1, 2, 3, 0] rfl) hf
  have hL56 : ∀ (y1 : Int32) (σ : fd_St) (H : Heap) (locs : List Loc) (ls : Array Slot), va_P D vwCl (fd_WM a k σ) H → va_S (fd_A 29 a s.heap.size) s.heap H locs → lv_has ls 5 [(0, .ref (a 0)), (1, .int y1)] → f_X11_join_0_J56 N y1 σ = some r → W p l e ((headSpec wsX11_join ({ frames := 0, cells := 0, slots := 0, locals := 0 })).room) s m ([.ref (a 0)].toArray) below meth c H locs 0 0 (MQ below (va_Qi (fun v u => (v, u) = r) (fd_BM D a k) (fd_A 29 a s.heap.size)) ([.ref (a 0)].toArray) s 0 0 (fd_A 29 a s.heap.size)) (F0 m 56 ls []) := by
    intro y1 σ H locs ls hP hS hl hf
    unfold f_X11_join_0_J56 at hf
    refine lv_iconst (v := (0 : Int32)) hx hb dX11_join_56 (by decide) ?_
    refine lv_istore_n (lv' := [(2, .int (0 : Int32)), (0, .ref (a 0)), (1, .int y1)]) hx hb dX11_join_57 rfl hl (by decide) rfl (fun ls hl => ?_)
    exact hL58 N y1 (0 : Int32) σ _ _ _ hP hS (lv_sub hl [1, 2, 0] rfl) hf
  have hL27 : ∀ (n : Nat), ∀ (y1 : Int32) (σ : fd_St) (H : Heap) (locs : List Loc) (ls : Array Slot), va_P D vwCl (fd_WM a k σ) H → va_S (fd_A 29 a s.heap.size) s.heap H locs → lv_has ls 5 [(0, .ref (a 0)), (1, .int y1)] → f_X11_join_0_L27 N n y1 σ = some r → W p l e ((headSpec wsX11_join ({ frames := 0, cells := 0, slots := 0, locals := 0 })).room) s m ([.ref (a 0)].toArray) below meth c H locs 0 0 (MQ below (va_Qi (fun v u => (v, u) = r) (fd_BM D a k) (fd_A 29 a s.heap.size)) ([.ref (a 0)].toArray) s 0 0 (fd_A 29 a s.heap.size)) (F0 m 27 ls []) := by
    intro n
    induction n with
    | zero =>
      intro _ _ _ _ _ _ _ _ hf
      cases hf
    | succ n ih =>
      intro y1 σ H locs ls hP hS hl hf
      unfold f_X11_join_0_L27 at hf
      refine lv_iload_n hx hb dX11_join_27 rfl (lv_at hl 1 rfl) ?_
      refine lv_aload_n hx hb dX11_join_28 rfl (lv_at hl 0 rfl) ?_
      refine va_get (ci := 11) (v := .int (σ.1 7)) (C := RX11) (T := TX11) (N := 43) hx hb hts h9X11 hown hK hP 0 fd_WM_0 rfl 18 (by decide) (hts (.fieldLink RX11 107 "FailDiagnoseModel" "suspects" "I") (List.mem_of_getElem? (i := 3) (by eq_refl))) (fun _ h9 => h9) rfl dX11_join_29 ?_
      refine lv_icmp_ge (tgt := 56) hx hb dX11_join_32 (by decide) (fun c4 => ?_) (fun c4 => ?_)
      · have hf := fd_itp c4 hf
        exact hL56 y1 σ _ _ _ hP hS (lv_sub hl [0, 1] rfl) hf
      · have hf := fd_itn c4 hf
        refine lv_aload_n hx hb dX11_join_35 rfl (lv_at hl 0 rfl) ?_
        refine va_get (ci := 11) (v := .ref (a 14)) (C := RX11) (T := TX11) (N := 43) hx hb hts h9X11 hown hK hP 0 fd_WM_0 rfl 21 (by decide) (hts (.fieldLink RX11 51 "FailDiagnoseModel" "suspectSum" "[I") (List.mem_of_getElem? (i := 4) (by eq_refl))) (fun _ h9 => h9) rfl dX11_join_36 ?_
        refine lv_iload_n hx hb dX11_join_39 rfl (lv_at hl 1 rfl) ?_
        obtain ⟨g26, hf⟩ := fd_gds hf
        refine va_iald hx hb hK hP 14 13 fd_WM_14 fd_tyM_14 g26 dX11_join_40 ?_
        refine lv_aload_n hx hb dX11_join_41 rfl (lv_at hl 0 rfl) ?_
        refine va_get (ci := 11) (v := .ref (a 14)) (C := RX11) (T := TX11) (N := 43) hx hb hts h9X11 hown hK hP 0 fd_WM_0 rfl 21 (by decide) (hts (.fieldLink RX11 51 "FailDiagnoseModel" "suspectSum" "[I") (List.mem_of_getElem? (i := 4) (by eq_refl))) (fun _ h9 => h9) rfl dX11_join_42 ?_
        refine lv_iconst (v := (0 : Int32)) hx hb dX11_join_45 (by decide) ?_
        obtain ⟨g27, hf⟩ := fd_gds hf
        refine va_iald hx hb hK hP 14 13 fd_WM_14 fd_tyM_14 g27 dX11_join_46 ?_
        refine lv_icmp_ne (tgt := 56) hx hb dX11_join_47 (by decide) (fun c28 => ?_) (fun c28 => ?_)
        · have hf := fd_itn c28 hf
          exact hL56 y1 σ _ _ _ hP hS (lv_sub hl [0, 1] rfl) hf
        · have hf := fd_itp c28 hf
          obtain ⟨x29, ex29, hf⟩ := fd_lts hf
          refine lv_iinc (v := x29) (lv' := [(1, .int x29), (0, .ref (a 0))]) hx hb dX11_join_50 hl (k := 1) rfl (by rw [ex29]; rfl) (by decide) rfl (fun ls hl => ?_)
          refine lv_goto (tgt := 27) hx hb dX11_join_53 (by decide) ?_
          exact ih x29 σ _ _ _ hP hS (lv_sub hl [1, 0] rfl) hf
  have hL13 : ∀ (z1 : Int32) (σ : fd_St) (H : Heap) (locs : List Loc) (ls : Array Slot), va_P D vwCl (fd_WM a k σ) H → va_S (fd_A 29 a s.heap.size) s.heap H locs → lv_has ls 5 [(0, .ref (a 0))] → f_X11_join_0_J13 N z1 σ = some r → W p l e ((headSpec wsX11_join ({ frames := 0, cells := 0, slots := 0, locals := 0 })).room) s m ([.ref (a 0)].toArray) below meth c H locs 0 0 (MQ below (va_Qi (fun v u => (v, u) = r) (fd_BM D a k) (fd_A 29 a s.heap.size)) ([.ref (a 0)].toArray) s 0 0 (fd_A 29 a s.heap.size)) (F0 m 13 ls [.int z1, .ref (a 0)]) := by
    intro z1 σ H locs ls hP hS hl hf
    unfold f_X11_join_0_J13 at hf
    obtain ⟨σ2, eσ2, hf⟩ := fd_lts hf
    refine va_put (ci := 11) (v := .int z1) (ty := .int) (C := RX11) (T := TX11) (N := 43) hx hb hts h9X11 tyX11 tyX11_ok nmX11 hown hK hP (fd_DM hI hJ) hS 0 fd_WM_0 rfl 0 (by decide) (hts (.fieldLink RX11 99 "FailDiagnoseModel" "thrown" "I") (List.mem_of_getElem? (i := 2) (by eq_refl))) (fun _ h9 => h9) rfl (by decide +kernel) rfl rfl (Nat.le_of_ble_eq_true rfl) dX11_join_13 (fun H locs hP _ hS => ?_)
    have hP : va_P D vwCl (fd_WM a k σ2) H := by rw [eσ2]; exact fd_sP fd_WMi_0 hP
    refine lv_aload_n hx hb dX11_join_16 rfl (lv_at hl 0 rfl) ?_
    refine va_get (ci := 11) (v := .int (σ2.1 0)) (C := RX11) (T := TX11) (N := 43) hx hb hts h9X11 hown hK hP 0 fd_WM_0 rfl 0 (by decide) (hts (.fieldLink RX11 99 "FailDiagnoseModel" "thrown" "I") (List.mem_of_getElem? (i := 2) (by eq_refl))) (fun _ h9 => h9) rfl dX11_join_17 ?_
    refine lv_if_le (tgt := 25) hx hb dX11_join_20 (by decide) (fun c3 => ?_) (fun c3 => ?_)
    · have hf := fd_itp c3 hf
      refine lv_iconst (v := (0 : Int32)) hx hb dX11_join_25 (by decide) ?_
      refine lv_istore_n (lv' := [(1, .int (0 : Int32)), (0, .ref (a 0))]) hx hb dX11_join_26 rfl hl (by decide) rfl (fun ls hl => ?_)
      exact hL27 N (0 : Int32) σ2 _ _ _ hP hS (lv_sub hl [1, 0] rfl) hf
    · have hf := fd_itn c3 hf
      refine lv_iconst (v := (0 : Int32)) hx hb dX11_join_23 (by decide) ?_
      exact W.iret (v := (0 : Int32)) hx hb hr (fun t ht hW => ⟨⟨(0 : Int32), σ2, rfl, Option.some.inj hf, by rw [ht]; exact hP, va_K.moved hW.alike hK⟩, hS.F ht⟩) hS.2.2 dX11_join_24
  unfold f_X11_join_0 at hf
  refine lv_aload_n hx hb dX11_join_0 rfl (lv_at hl 0 rfl) ?_
  refine lv_aload_n hx hb dX11_join_1 rfl (lv_at hl 0 rfl) ?_
  refine va_get (ci := 11) (v := .int (σ.1 6)) (C := RX11) (T := TX11) (N := 43) hx hb hts h9X11 hown hK hP 0 fd_WM_0 rfl 17 (by decide) (hts (.fieldLink RX11 103 "FailDiagnoseModel" "told" "Z") (List.mem_of_getElem? (i := 1) (by eq_refl))) (fun _ h9 => h9) rfl dX11_join_2 ?_
  refine lv_if_eq (tgt := 12) hx hb dX11_join_5 (by decide) (fun c1 => ?_) (fun c1 => ?_)
  · have hf := fd_itp c1 hf
    refine lv_iconst (v := (1 : Int32)) hx hb dX11_join_12 (by decide) ?_
    exact hL13 (1 : Int32) σ _ _ _ hP hS (lv_sub hl [0] rfl) hf
  · have hf := fd_itn c1 hf
    refine lv_iconst (v := (0 : Int32)) hx hb dX11_join_8 (by decide) ?_
    refine lv_goto (tgt := 13) hx hb dX11_join_9 (by decide) ?_
    exact hL13 (0 : Int32) σ _ _ _ hP hS (lv_sub hl [0] rfl) hf
noncomputable def f_X7_of_9 (N : Nat) (p1 : Int32) (σ : fd_St) : Option (Int32 × fd_St) := fd_gd (vp_in p1 200) (some (σ.2.1 29 p1.toNatClampNeg, σ))
set_option maxHeartbeats 4000000 in
set_option maxRecDepth 100000 in
theorem m_X7_of_9 (l : Launch) (D : va_G) (a : Nat → Nat) (k : Nat → ClassId) (sz : Nat) (hI : fd_I 39 a) (N : Nat) (p1 : Int32) (σ : fd_St) (r : Int32 × fd_St) (hf : f_X7_of_9 N p1 σ = some r) : Met l yX7_of wsX7_of ({ frames := 0, cells := 0, slots := 0, locals := 0 }) (va_Pc [.ref (a 9), .int p1] (fd_PC D a k sz σ)) (va_Qi (fun v u => (v, u) = r) (fd_BC D a k) (fd_A 39 a sz)) 0 0 (fd_A 39 a sz) := by
  refine Met.ofW (cc := cX7_of) (maxL := 2) (ret := (some .int)) (by decide) rfl ?_
  intro p e s m args below meth c s₁ B hml hv
  obtain ⟨rfl, hsz, hP, hK⟩ := hv
  have hx := B.exec
  have hb := B.bytes
  have hr := B.returns
  have hts := atoms_spec (ws := wsX7_of) B.pre
  have hown : s.vm.findClass RX7 = some m.cls := findClass_of_methodNamed B.named
  have hlocks := B.notSynchronized
  subst hsz
  have hJ : ∀ i, i < 39 → fd_A 39 a s.heap.size (a i) := fun i hi => Or.inl ⟨i, hi, rfl⟩
  have hS : va_S (fd_A 39 a s.heap.size) s.heap s.heap [] := va_S.rf
  have hl := lv_entry ([.ref (a 9), .int p1]) (n := 2) (Nat.le_of_ble_eq_true rfl)
  rw [lg_entry_eq]
  generalize (lg_sl ([.ref (a 9), .int p1]) ++ List.replicate (2 - (lg_sl ([.ref (a 9), .int p1])).length) Slot.unset).toArray = ls at hl ⊢
  have hl : lv_has ls 2 [(0, .ref (a 9)), (1, .int p1)] := hl
  have h9X7 : ∀ w ∈ u_ws RX7 TX7 2, w ∈ wsX7_of := fd_su [2, 3] (by eq_refl)
  unfold f_X7_of_9 at hf
  refine lv_aload_n hx hb dX7_of_0 rfl (lv_at hl 0 rfl) ?_
  refine va_get (ci := 7) (v := .ref (a 29)) (C := RX7) (T := TX7) (N := 2) hx hb hts h9X7 hown hK hP 9 fd_WC_9 rfl 0 (by decide) (hts (.fieldLink RX7 9 "FailDiagnose$Shares" "given" "[I") (List.mem_of_getElem? (i := 1) (by eq_refl))) (fun _ h9 => h9) rfl dX7_of_1 ?_
  refine lv_iload_n hx hb dX7_of_4 rfl (lv_at hl 1 rfl) ?_
  obtain ⟨g1, hf⟩ := fd_gds hf
  refine va_iald hx hb hK hP 29 17 fd_WC_29 fd_tyC_29 g1 dX7_of_5 ?_
  exact W.iret (v := (σ.2.1 29 p1.toNatClampNeg)) hx hb hr (fun t ht hW => ⟨⟨σ.2.1 29 p1.toNatClampNeg, σ, rfl, Option.some.inj hf, by rw [ht]; exact hP, va_K.moved hW.alike hK⟩, hS.F ht⟩) hS.2.2 dX7_of_6
noncomputable def f_X10_share_0 (N : Nat) (p1 : Int32) (σ : fd_St) : Option ((Int32 ⊕ String) × fd_St) := fd_bx (f_X10_needNet_0 N p1 σ) (fun _ σ3 => fd_bd (f_X7_of_9 N p1 σ3) (fun v8 σ9 => some (.inl v8, σ9))) (fun E τ => some (.inr E, τ))
set_option maxHeartbeats 4000000 in
set_option maxRecDepth 100000 in
theorem m_X10_share_0 (l : Launch) (hl9 : l.stackTraces = false) (D : va_G) (a : Nat → Nat) (k : Nat → ClassId) (sz : Nat) (hI : fd_I 39 a) (N : Nat) (p1 : Int32) (σ : fd_St) (r : (Int32 ⊕ String) × fd_St) (hf : f_X10_share_0 N p1 σ = some r) : vx_Met l yX10_share wsX10_share ({ frames := 7, cells := fd_mc r, slots := fd_ms r, locals := 111 }) (va_Pc [.ref (a 0), .int p1] (fd_PZ D a k sz σ)) (va_Qi (fun v u => (Sum.inl v, u) = r) (fd_BC D a k) (fd_A 39 a sz)) (fd_X D a k (fd_A 39 a sz) r) (fd_mc r) (fd_ms r) (fd_A 39 a sz) := by
  refine vx_ofW (cc := cX10_share) (maxL := 2) (ret := (some .int)) (by decide) rfl ?_
  intro p e s m args below meth c s₁ B hml hex hv
  obtain ⟨rfl, ⟨hsz, hP, hK⟩, hZ⟩ := hv
  have hx := B.exec
  have hb := B.bytes
  have hr := B.returns
  have hts := atoms_spec (ws := wsX10_share) B.pre
  have hown : s.vm.findClass RX10 = some m.cls := findClass_of_methodNamed B.named
  have hlocks := B.notSynchronized
  subst hsz
  have hJ : ∀ i, i < 39 → fd_A 39 a s.heap.size (a i) := fun i hi => Or.inl ⟨i, hi, rfl⟩
  have hS : va_S (fd_A 39 a s.heap.size) s.heap s.heap [] := va_S.rf
  have hl := lv_entry ([.ref (a 0), .int p1]) (n := 2) (Nat.le_of_ble_eq_true rfl)
  rw [lg_entry_eq]
  generalize (lg_sl ([.ref (a 0), .int p1]) ++ List.replicate (2 - (lg_sl ([.ref (a 0), .int p1])).length) Slot.unset).toArray = ls at hl ⊢
  have hl : lv_has ls 2 [(0, .ref (a 0)), (1, .int p1)] := hl
  have h9X10 : ∀ w ∈ u_ws RX10 TX10 8, w ∈ wsX10_share := fd_su [22, 23, 24, 25, 26, 27, 28, 29] (by eq_refl)
  unfold f_X10_share_0 at hf
  refine lv_aload_n hx hb dX10_share_0 rfl (lv_at hl 0 rfl) ?_
  refine lv_iload_n hx hb dX10_share_1 rfl (lv_at hl 1 rfl) ?_
  rcases fd_bxs hf with ⟨w4, τ5, hc1, hf⟩ | ⟨E6, τ5, hc1, hf⟩
  · refine vx_callv (vx_runV (As := [.int p1]) (rest := []) ⟨hx, hb, hml, hown, hts⟩ (m_X10_needNet_0 l hl9 D a k s.heap.size hI N p1 σ _ hc1) (cwV 1 hts gX10_share_X10_needNet rfl rfl rfl (by decide +kernel) ⟨Nat.le_of_ble_eq_true rfl, Nat.le_of_ble_eq_true rfl⟩) ⟨fd_blZ, va_recv hK hP (ci := 10) (q0 := 0) rfl fd_WC_0, fd_prZ hP hK hZ hS⟩ rfl rfl hl.1 rfl (lv_room (Nat.le_of_ble_eq_true rfl)) dX10_share_2 ⟨Nat.zero_le _, Nat.zero_le _⟩) hS (fun q _ h => fd_A_mono hS.1 h) (fun q h => fd_A_mono hS.1 h) (fun q _ h => fd_A_mono hS.1 h) (fun E ce q9 u t H1 locs1 ht hvm hp hB => ?_) (fun u t H1 locs ht hvm hw hB hz hk hS => ?_)
    · exact absurd hB.1 (by simp)
    obtain ⟨hP1, hK1⟩ := hB
    rw [ht] at hP1
    have e2 := (Prod.mk.inj hw).2
    subst e2
    obtain ⟨σ3, rfl⟩ : ∃ z, z = u := ⟨_, rfl⟩
    have hP := hP1
    generalize H1 = H at hP hS ⊢
    refine W.cs (cells' := 0) (slots' := 0) rfl rfl ?_
    refine lv_aload_n hx hb dX10_share_5 rfl (lv_at hl 0 rfl) ?_
    refine va_get (ci := 10) (v := .ref (a 9)) (C := RX10) (T := TX10) (N := 8) hx hb hts h9X10 hown hK hP 0 fd_WC_0 rfl 4 (by decide) (hts (.fieldLink RX10 42 "FailDiagnose" "shares" "LFailDiagnose$Shares;") (List.mem_of_getElem? (i := 1) (by eq_refl))) (fun _ h9 => h9) rfl dX10_share_6 ?_
    refine lv_iload_n hx hb dX10_share_9 rfl (lv_at hl 1 rfl) ?_
    obtain ⟨w10, τ11, hc7, hf⟩ := fd_bds hf
    refine va_calli (va_runV (As := [.int p1]) (rest := []) ⟨hx, hb, hml, hown, hts⟩ (m_X7_of_9 l D a k H.size hI N p1 σ3 _ hc7) (cwV 1 hts gX10_share_X7_of rfl rfl rfl (by decide +kernel) ⟨Nat.le_of_ble_eq_true rfl, Nat.le_of_ble_eq_true rfl⟩) ⟨fd_blC, va_recv hK hP (ci := 7) (q0 := 9) rfl fd_WC_9, fd_prC hP hK⟩ rfl rfl hl.1 rfl (lv_room (Nat.le_of_ble_eq_true rfl)) dX10_share_10 ⟨Nat.zero_le _, Nat.zero_le _⟩) hS (fun q _ h => fd_A_mono hS.1 h) (fun q h => fd_A_mono hS.1 h) (fun v8 u t H1 locs ht hvm hw hB hz hk hS => ?_)
    obtain ⟨hP1, hK1⟩ := hB
    rw [ht] at hP1
    obtain ⟨e1, e2⟩ := Prod.mk.inj hw
    subst e1
    subst e2
    obtain ⟨σ9, rfl⟩ : ∃ z, z = u := ⟨_, rfl⟩
    have hP := hP1
    generalize H1 = H at hP hS ⊢
    refine vx_ret (W.widen (k := fd_mc r) (n := fd_ms r) (Nat.zero_le _) (Nat.zero_le _) ?_)
    exact W.iret (v := v8) hx hb hr (fun t ht hW => ⟨⟨v8, σ9, rfl, Option.some.inj hf, by rw [ht]; exact hP, va_K.moved hW.alike hK⟩, hS.F ht⟩) hS.2.2 dX10_share_13
  · have er := Option.some.inj hf
    subst er
    refine vx_callv (vx_runV (As := [.int p1]) (rest := []) ⟨hx, hb, hml, hown, hts⟩ (m_X10_needNet_0 l hl9 D a k s.heap.size hI N p1 σ _ hc1) (cwV 1 hts gX10_share_X10_needNet rfl rfl rfl (by decide +kernel) ⟨Nat.le_of_ble_eq_true rfl, Nat.le_of_ble_eq_true rfl⟩) ⟨fd_blZ, va_recv hK hP (ci := 10) (q0 := 0) rfl fd_WC_0, fd_prZ hP hK hZ hS⟩ rfl rfl hl.1 rfl (lv_room (Nat.le_of_ble_eq_true rfl)) dX10_share_2 ⟨Nat.le_of_ble_eq_true rfl, Nat.le_of_ble_eq_true rfl⟩) hS (fun q _ h => fd_A_mono hS.1 h) (fun q h => fd_A_mono hS.1 h) (fun q _ h => fd_A_mono hS.1 h) (fun E ce q9 u t H1 locs1 ht hvm hp hB hz hk hS hce hcv hcl => ?_) (fun u t H1 locs ht hvm hw hB hz hk hS => ?_)
    · obtain ⟨hB0, hP1, hK1⟩ := hB
      rw [ht] at hP1
      exact vx_out (E := E) (fun x hx => (hex x hx).elim) hlocks hce hcv hcl (fun t ht ha => ⟨u, trivial, ⟨fd_inr hB0, by rw [ht]; exact hP1, va_K.moved ha hK⟩, hS.F ht⟩) hS.2.2 (Nat.le_of_ble_eq_true rfl) (Nat.le_of_ble_eq_true rfl)
    · exact absurd hw (by simp)
noncomputable def f_L_share_0_39 (N : Nat) (p1 : Int32) (σ : fd_St) : Option (Int32 × fd_St) := fd_bx (f_X10_share_0 N p1 σ) (fun v2 τ => fd_lt (fd_mix τ σ) (fun σ6 => fd_gd (vp_in (0 : Int32) 1) (fd_lt (fd_sL 39 (0 : Int32) v2.toInt64 σ6) (fun σ9 => some ((0 : Int32), σ9))))) (fun E τ => if E = "java/lang/IndexOutOfBoundsException" then (fd_lt (fd_mix τ σ) (fun σ11 => some ((1 : Int32), σ11))) else (none))
set_option maxHeartbeats 4000000 in
set_option maxRecDepth 100000 in
theorem m_L_share_0_39 (l : Launch) (hl9 : l.stackTraces = false) (D : va_G) (a : Nat → Nat) (k : Nat → ClassId) (sz : Nat) (hI : fd_I 40 a) (N : Nat) (p1 : Int32) (σ : fd_St) (r : Int32 × fd_St) (hf : f_L_share_0_39 N p1 σ = some r) : Met l yL_share wsL_share ({ frames := 8, cells := 1, slots := 6, locals := 132 }) (va_Pc [.ref (a 0), .int p1, .ref (a 39)] (fd_PH D a k sz σ)) (va_Qi (fun v u => (v, u) = r) (fd_BH D a k) (fd_A 40 a sz)) 1 6 (fd_A 40 a sz) := by
  refine fd_ofWT (cc := cL_share) (maxL := 4) (ret := (some .int)) (by decide) rfl ?_
  intro p e s m args below meth c s₁ B hml hTab hv
  obtain ⟨rfl, hsz, hP, hK, hZ⟩ := hv
  have hx := B.exec
  have hb := B.bytes
  have hr := B.returns
  have hts := atoms_spec (ws := wsL_share) B.pre
  have hown : s.vm.findClass RL = some m.cls := findClass_of_methodNamed B.named
  have hlocks := B.notSynchronized
  subst hsz
  have hJ : ∀ i, i < 40 → fd_A 40 a s.heap.size (a i) := fun i hi => Or.inl ⟨i, hi, rfl⟩
  have hS : va_S (fd_A 40 a s.heap.size) s.heap s.heap [] := va_S.rf
  have hl := lv_entry ([.ref (a 0), .int p1, .ref (a 39)]) (n := 4) (Nat.le_of_ble_eq_true rfl)
  rw [lg_entry_eq]
  generalize (lg_sl ([.ref (a 0), .int p1, .ref (a 39)]) ++ List.replicate (4 - (lg_sl ([.ref (a 0), .int p1, .ref (a 39)])).length) Slot.unset).toArray = ls at hl ⊢
  have hl : lv_has ls 4 [(0, .ref (a 0)), (1, .int p1), (2, .ref (a 39))] := hl
  unfold f_L_share_0_39 at hf
  refine lv_aload_n hx hb dL_share_0 rfl (lv_at hl 2 rfl) ?_
  refine lv_iconst (v := (0 : Int32)) hx hb dL_share_1 (by decide) ?_
  refine lv_aload_n hx hb dL_share_2 rfl (lv_at hl 0 rfl) ?_
  refine lv_iload_n hx hb dL_share_3 rfl (lv_at hl 1 rfl) ?_
  rcases fd_bxs hf with ⟨w3, τ4, hc1, hf⟩ | ⟨E5, τ4, hc1, hf⟩
  · refine vx_calli (vx_runV (As := [.int p1]) (rest := [.int (0 : Int32), .ref (a 39)]) ⟨hx, hb, hml, hown, hts⟩ (m_X10_share_0 l hl9 D a k s.heap.size (fd_I40 hI) N p1 σ _ hc1) (cwV 1 hts gL_share_X10_share rfl rfl rfl (by decide +kernel) ⟨Nat.le_of_ble_eq_true rfl, Nat.le_of_ble_eq_true rfl⟩) ⟨fd_blZ, va_recv (fd_HK hK) (fd_HC hP) (ci := 10) (q0 := 0) rfl fd_WC_0, fd_prHZ hP hK hZ hS⟩ rfl rfl hl.1 rfl (lv_room (Nat.le_of_ble_eq_true rfl)) dL_share_4 ⟨(Nat.zero_le _), (Nat.zero_le _)⟩) hS (fun q _ h => fd_A_sub hS.1 h) (fun q h => fd_A_sub hS.1 h) (fun q _ h => fd_A_sub hS.1 h) (fun E ce q9 u t H1 locs1 ht hvm hp hB => ?_) (fun v2 u t H1 locs ht hvm hw hB hz hk hS => ?_)
    · exact absurd hB.1 (by simp)
    obtain ⟨hP1, hK1⟩ := hB
    rw [ht] at hP1
    obtain ⟨e1, e2⟩ := Prod.mk.inj hw
    obtain e1 := Sum.inl.inj e1
    subst e1
    subst e2
    obtain ⟨σ6, eσ6, hf⟩ := fd_lts hf
    have hP : va_P D vwCl (fd_WH a k σ6) H1 := by rw [eσ6]; exact fd_HJ hI hP hP1 hk
    generalize H1 = H at hP hS ⊢
    refine W.cs (cells' := 0) (slots' := 0) rfl rfl ?_
    refine lv_i2l hx hb dL_share_7 rfl ?_
    obtain ⟨g8, hf⟩ := fd_gds hf
    obtain ⟨σ9, eσ9, hf⟩ := fd_lts hf
    refine va_last hx hb hK hP (fd_DH hI hJ) hS 39 27 fd_WH_39 fd_tyH_39 g8 dL_share_8 (fun H locs hP _ hS => ?_)
    have hP : va_P D vwCl (fd_WH a k σ9) H := by rw [eσ9]; exact fd_sP fd_WHa_39 hP
    refine lv_goto (tgt := 15) hx hb dL_share_9 (by decide) ?_
    refine lv_iconst (v := (0 : Int32)) hx hb dL_share_15 (by decide) ?_
    refine W.widen (k := 1) (n := 6) (Nat.le_of_ble_eq_true rfl) (Nat.le_of_ble_eq_true rfl) ?_
    exact W.iret (v := (0 : Int32)) hx hb hr (fun t ht hW => ⟨⟨(0 : Int32), σ9, rfl, Option.some.inj hf, by rw [ht]; exact hP, va_K.moved hW.alike hK⟩, hS.F ht⟩) hS.2.2 dL_share_16
  · have hE := hf
    by_cases c10 : E5 = "java/lang/IndexOutOfBoundsException"
    · subst c10
      have hf := fd_itp rfl hf
      refine vx_calli (vx_runV (As := [.int p1]) (rest := [.int (0 : Int32), .ref (a 39)]) ⟨hx, hb, hml, hown, hts⟩ (m_X10_share_0 l hl9 D a k s.heap.size (fd_I40 hI) N p1 σ _ hc1) (cwV 1 hts gL_share_X10_share rfl rfl rfl (by decide +kernel) ⟨Nat.le_of_ble_eq_true rfl, Nat.le_of_ble_eq_true rfl⟩) ⟨fd_blZ, va_recv (fd_HK hK) (fd_HC hP) (ci := 10) (q0 := 0) rfl fd_WC_0, fd_prHZ hP hK hZ hS⟩ rfl rfl hl.1 rfl (lv_room (Nat.le_of_ble_eq_true rfl)) dL_share_4 ⟨Nat.le_of_ble_eq_true rfl, Nat.le_of_ble_eq_true rfl⟩) hS (fun q _ h => fd_A_sub hS.1 h) (fun q h => fd_A_sub hS.1 h) (fun q _ h => fd_A_sub hS.1 h) (fun E ce q9 u t H1 locs1 ht hvm hp hB hz hk hS hce hcv hcl => ?_) (fun v2 u t H1 locs ht hvm hw hB hz hk hS => ?_)
      · obtain ⟨hB0, hP1, hK1⟩ := hB
        rw [ht] at hP1
        obtain ⟨e1, e2⟩ := Prod.mk.inj hB0
        obtain e1 := Sum.inr.inj e1
        subst e1
        subst e2
        obtain ⟨σ11, eσ11, hf⟩ := fd_lts hf
        have hP : va_P D vwCl (fd_WH a k σ11) H1 := by rw [eσ11]; exact fd_HJ hI hP hP1 hk
        refine fd_catch (own := RL) (name := "java/lang/IndexOutOfBoundsException") (E := "java/lang/IndexOutOfBoundsException") hown [] ⟨0, 9, 12, 19⟩ [] (by rw [hTab]; rfl) (fun z hz => nomatch hz) (by decide) (by decide) (hts (.classLink RL 19 "java/lang/IndexOutOfBoundsException") (List.mem_of_getElem? (i := 1) (by eq_refl))) (hZ.cast "java/lang/IndexOutOfBoundsException" (by decide +kernel)) hce hcv hcl ?_
        refine W.cs (cells' := 1) (slots' := 6) rfl rfl ?_
        refine lv_astore_n (lv' := [(3, .ref q9), (0, .ref (a 0)), (1, .int p1), (2, .ref (a 39))]) hx hb dL_share_12 rfl hl (by decide) rfl (fun ls hl => ?_)
        refine lv_iconst (v := (1 : Int32)) hx hb dL_share_13 (by decide) ?_
        refine W.widen (k := 1) (n := 6) (Nat.le_of_ble_eq_true rfl) (Nat.le_of_ble_eq_true rfl) ?_
        exact W.iret (v := (1 : Int32)) hx hb hr (fun t ht hW => ⟨⟨(1 : Int32), σ11, rfl, Option.some.inj hf, by rw [ht]; exact hP, va_K.moved hW.alike hK⟩, hS.F ht⟩) hS.2.2 dL_share_14
      · exact absurd hw (by simp)
    have hf := fd_itn c10 hf
    cases hf
noncomputable def f_X11_share_0_J17 (N : Nat) (y1 : Int32) (z1 : Int32) (σ : fd_St) : Option (Int32 × fd_St) := fd_lt (fd_sI 0 z1 σ) (fun σ7 => if (σ7.1 0) ≤ 0 then (fd_gd (vp_in y1 200) (some (σ7.2.1 19 y1.toNatClampNeg, σ7))) else (some ((0 : Int32), σ7)))
noncomputable def f_X11_share_0 (N : Nat) (p1 : Int32) (σ : fd_St) : Option (Int32 × fd_St) := fd_bd (f_X11_isIn N p1 (σ.1 1) σ) (fun v2 σ3 => if v2 = 0 then (f_X11_share_0_J17 N p1 (1 : Int32) σ3) else (f_X11_share_0_J17 N p1 (0 : Int32) σ3))
set_option maxHeartbeats 4000000 in
set_option maxRecDepth 100000 in
theorem m_X11_share_0 (l : Launch) (D : va_G) (a : Nat → Nat) (k : Nat → ClassId) (sz : Nat) (hI : fd_I 29 a) (N : Nat) (p1 : Int32) (σ : fd_St) (r : Int32 × fd_St) (hf : f_X11_share_0 N p1 σ = some r) : Met l yX11_share wsX11_share ({ frames := 1, cells := 0, slots := 0, locals := 21 }) (va_Pc [.ref (a 0), .int p1] (fd_PM D a k sz σ)) (va_Qi (fun v u => (v, u) = r) (fd_BM D a k) (fd_A 29 a sz)) 0 0 (fd_A 29 a sz) := by
  refine Met.ofW (cc := cX11_share) (maxL := 2) (ret := (some .int)) (by decide) rfl ?_
  intro p e s m args below meth c s₁ B hml hv
  obtain ⟨rfl, hsz, hP, hK⟩ := hv
  have hx := B.exec
  have hb := B.bytes
  have hr := B.returns
  have hts := atoms_spec (ws := wsX11_share) B.pre
  have hown : s.vm.findClass RX11 = some m.cls := findClass_of_methodNamed B.named
  have hlocks := B.notSynchronized
  subst hsz
  have hJ : ∀ i, i < 29 → fd_A 29 a s.heap.size (a i) := fun i hi => Or.inl ⟨i, hi, rfl⟩
  have hS : va_S (fd_A 29 a s.heap.size) s.heap s.heap [] := va_S.rf
  have hl := lv_entry ([.ref (a 0), .int p1]) (n := 2) (Nat.le_of_ble_eq_true rfl)
  rw [lg_entry_eq]
  generalize (lg_sl ([.ref (a 0), .int p1]) ++ List.replicate (2 - (lg_sl ([.ref (a 0), .int p1])).length) Slot.unset).toArray = ls at hl ⊢
  have hl : lv_has ls 2 [(0, .ref (a 0)), (1, .int p1)] := hl
  have h9X11 : ∀ w ∈ u_ws RX11 TX11 43, w ∈ wsX11_share := fd_su [8, 9, 10, 11, 12, 13, 14, 15, 16, 17, 18, 19, 20, 21, 22, 23, 24, 25, 26, 27, 28, 29, 30, 31, 32, 33, 34, 35, 36, 37, 38, 39, 40, 41, 42, 43, 44, 45, 46, 47, 48, 49, 50] (by eq_refl)
  have hL17 : ∀ (y1 : Int32) (z1 : Int32) (σ : fd_St) (H : Heap) (locs : List Loc) (ls : Array Slot), va_P D vwCl (fd_WM a k σ) H → va_S (fd_A 29 a s.heap.size) s.heap H locs → lv_has ls 2 [(0, .ref (a 0)), (1, .int y1)] → f_X11_share_0_J17 N y1 z1 σ = some r → W p l e ((headSpec wsX11_share ({ frames := 1, cells := 0, slots := 0, locals := 21 })).room) s m ([.ref (a 0), .int p1].toArray) below meth c H locs 0 0 (MQ below (va_Qi (fun v u => (v, u) = r) (fd_BM D a k) (fd_A 29 a s.heap.size)) ([.ref (a 0), .int p1].toArray) s 0 0 (fd_A 29 a s.heap.size)) (F0 m 17 ls [.int z1, .ref (a 0)]) := by
    intro y1 z1 σ H locs ls hP hS hl hf
    unfold f_X11_share_0_J17 at hf
    obtain ⟨σ7, eσ7, hf⟩ := fd_lts hf
    refine va_put (ci := 11) (v := .int z1) (ty := .int) (C := RX11) (T := TX11) (N := 43) hx hb hts h9X11 tyX11 tyX11_ok nmX11 hown hK hP (fd_DM hI hJ) hS 0 fd_WM_0 rfl 0 (by decide) (hts (.fieldLink RX11 99 "FailDiagnoseModel" "thrown" "I") (List.mem_of_getElem? (i := 2) (by eq_refl))) (fun _ h9 => h9) rfl (by decide +kernel) rfl rfl (Nat.le_of_ble_eq_true rfl) dX11_share_17 (fun H locs hP _ hS => ?_)
    have hP : va_P D vwCl (fd_WM a k σ7) H := by rw [eσ7]; exact fd_sP fd_WMi_0 hP
    refine lv_aload_n hx hb dX11_share_20 rfl (lv_at hl 0 rfl) ?_
    refine va_get (ci := 11) (v := .int (σ7.1 0)) (C := RX11) (T := TX11) (N := 43) hx hb hts h9X11 hown hK hP 0 fd_WM_0 rfl 0 (by decide) (hts (.fieldLink RX11 99 "FailDiagnoseModel" "thrown" "I") (List.mem_of_getElem? (i := 2) (by eq_refl))) (fun _ h9 => h9) rfl dX11_share_21 ?_
    refine lv_if_le (tgt := 31) hx hb dX11_share_24 (by decide) (fun c8 => ?_) (fun c8 => ?_)
    · have hf := fd_itp c8 hf
      refine lv_aload_n hx hb dX11_share_31 rfl (lv_at hl 0 rfl) ?_
      refine va_get (ci := 11) (v := .ref (a 19)) (C := RX11) (T := TX11) (N := 43) hx hb hts h9X11 hown hK hP 0 fd_WM_0 rfl 30 (by decide) (hts (.fieldLink RX11 66 "FailDiagnoseModel" "shares" "[I") (List.mem_of_getElem? (i := 3) (by eq_refl))) (fun _ h9 => h9) rfl dX11_share_32 ?_
      refine lv_iload_n hx hb dX11_share_35 rfl (lv_at hl 1 rfl) ?_
      obtain ⟨g9, hf⟩ := fd_gds hf
      refine va_iald hx hb hK hP 19 18 fd_WM_19 fd_tyM_19 g9 dX11_share_36 ?_
      exact W.iret (v := (σ7.2.1 19 y1.toNatClampNeg)) hx hb hr (fun t ht hW => ⟨⟨σ7.2.1 19 y1.toNatClampNeg, σ7, rfl, Option.some.inj hf, by rw [ht]; exact hP, va_K.moved hW.alike hK⟩, hS.F ht⟩) hS.2.2 dX11_share_37
    · have hf := fd_itn c8 hf
      refine lv_iconst (v := (0 : Int32)) hx hb dX11_share_27 (by decide) ?_
      refine lv_goto (tgt := 37) hx hb dX11_share_28 (by decide) ?_
      exact W.iret (v := (0 : Int32)) hx hb hr (fun t ht hW => ⟨⟨(0 : Int32), σ7, rfl, Option.some.inj hf, by rw [ht]; exact hP, va_K.moved hW.alike hK⟩, hS.F ht⟩) hS.2.2 dX11_share_37
  unfold f_X11_share_0 at hf
  refine lv_aload_n hx hb dX11_share_0 rfl (lv_at hl 0 rfl) ?_
  refine lv_iload_n hx hb dX11_share_1 rfl (lv_at hl 1 rfl) ?_
  refine lv_aload_n hx hb dX11_share_2 rfl (lv_at hl 0 rfl) ?_
  refine va_get (ci := 11) (v := .int (σ.1 1)) (C := RX11) (T := TX11) (N := 43) hx hb hts h9X11 hown hK hP 0 fd_WM_0 rfl 1 (by decide) (hts (.fieldLink RX11 113 "FailDiagnoseModel" "nets" "I") (List.mem_of_getElem? (i := 1) (by eq_refl))) (fun _ h9 => h9) rfl dX11_share_3 ?_
  obtain ⟨w4, τ5, hc1, hf⟩ := fd_bds hf
  refine va_calli (va_runS (As := [.int p1, .int (σ.1 1)]) (rest := [.ref (a 0)]) ⟨hx, hb, hml, hown, hts⟩ (m_X11_isIn l D a k s.heap.size hI N p1 (σ.1 1) σ _ hc1) (va_cwS 2 hts gX11_share_X11_isIn rfl rfl rfl (by decide +kernel) ⟨Nat.le_of_ble_eq_true rfl, Nat.le_of_ble_eq_true rfl⟩) ⟨fd_blM, fd_prM hP hK⟩ rfl rfl hl.1 rfl (lv_room (Nat.le_of_ble_eq_true rfl)) dX11_share_6 ⟨Nat.zero_le _, Nat.zero_le _⟩) hS (fun q _ h => fd_A_mono hS.1 h) (fun q h => fd_A_mono hS.1 h) (fun v2 u t H1 locs ht hvm hw hB hz hk hS => ?_)
  obtain ⟨hP1, hK1⟩ := hB
  rw [ht] at hP1
  obtain ⟨e1, e2⟩ := Prod.mk.inj hw
  subst e1
  subst e2
  obtain ⟨σ3, rfl⟩ : ∃ z, z = u := ⟨_, rfl⟩
  have hP := hP1
  generalize H1 = H at hP hS ⊢
  refine lv_if_eq (tgt := 16) hx hb dX11_share_9 (by decide) (fun c6 => ?_) (fun c6 => ?_)
  · have hf := fd_itp c6 hf
    refine lv_iconst (v := (1 : Int32)) hx hb dX11_share_16 (by decide) ?_
    exact hL17 p1 (1 : Int32) σ3 _ _ _ hP hS (lv_sub hl [0, 1] rfl) hf
  · have hf := fd_itn c6 hf
    refine lv_iconst (v := (0 : Int32)) hx hb dX11_share_12 (by decide) ?_
    refine lv_goto (tgt := 17) hx hb dX11_share_13 (by decide) ?_
    exact hL17 p1 (0 : Int32) σ3 _ _ _ hP hS (lv_sub hl [0, 1] rfl) hf
noncomputable def f_X1_begin_10 (N : Nat) (p1 : Int32) (σ : fd_St) : Option (Unit × fd_St) := fd_lt (fd_sI 16 p1 σ) (fun σ1 => fd_lt (fd_sI 17 (0 : Int32) σ1) (fun σ2 => some ((), σ2)))
set_option maxHeartbeats 4000000 in
set_option maxRecDepth 100000 in
theorem m_X1_begin_10 (l : Launch) (D : va_G) (a : Nat → Nat) (k : Nat → ClassId) (sz : Nat) (hI : fd_I 39 a) (N : Nat) (p1 : Int32) (σ : fd_St) (r : Unit × fd_St) (hf : f_X1_begin_10 N p1 σ = some r) : Met l yX1_begin wsX1_begin ({ frames := 0, cells := 0, slots := 0, locals := 0 }) (va_Pc [.ref (a 10), .int p1] (fd_PC D a k sz σ)) (va_Qv (fun u => ((), u) = r) (fd_BC D a k) (fd_A 39 a sz)) 0 0 (fd_A 39 a sz) := by
  refine Met.ofW (cc := cX1_begin) (maxL := 2) (ret := none) (by decide) rfl ?_
  intro p e s m args below meth c s₁ B hml hv
  obtain ⟨rfl, hsz, hP, hK⟩ := hv
  have hx := B.exec
  have hb := B.bytes
  have hr := B.returns
  have hts := atoms_spec (ws := wsX1_begin) B.pre
  have hown : s.vm.findClass RX1 = some m.cls := findClass_of_methodNamed B.named
  have hlocks := B.notSynchronized
  subst hsz
  have hJ : ∀ i, i < 39 → fd_A 39 a s.heap.size (a i) := fun i hi => Or.inl ⟨i, hi, rfl⟩
  have hS : va_S (fd_A 39 a s.heap.size) s.heap s.heap [] := va_S.rf
  have hl := lv_entry ([.ref (a 10), .int p1]) (n := 2) (Nat.le_of_ble_eq_true rfl)
  rw [lg_entry_eq]
  generalize (lg_sl ([.ref (a 10), .int p1]) ++ List.replicate (2 - (lg_sl ([.ref (a 10), .int p1])).length) Slot.unset).toArray = ls at hl ⊢
  have hl : lv_has ls 2 [(0, .ref (a 10)), (1, .int p1)] := hl
  have h9X1 : ∀ w ∈ u_ws RX1 TX1 4, w ∈ wsX1_begin := fd_su [3, 4, 5, 6] (by eq_refl)
  unfold f_X1_begin_10 at hf
  refine lv_aload_n hx hb dX1_begin_0 rfl (lv_at hl 0 rfl) ?_
  refine lv_iload_n hx hb dX1_begin_1 rfl (lv_at hl 1 rfl) ?_
  obtain ⟨σ1, eσ1, hf⟩ := fd_lts hf
  refine va_put (ci := 1) (v := .int p1) (ty := .int) (C := RX1) (T := TX1) (N := 4) hx hb hts h9X1 tyX1 tyX1_ok nmX1 hown hK hP (fd_DC hI hJ) hS 10 fd_WC_10 rfl 2 (by decide) (hts (.fieldLink RX1 18 "FailDiagnose$Chain" "size" "I") (List.mem_of_getElem? (i := 1) (by eq_refl))) (fun _ h9 => h9) rfl (by decide +kernel) rfl rfl (Nat.le_of_ble_eq_true rfl) dX1_begin_2 (fun H locs hP _ hS => ?_)
  have hP : va_P D vwCl (fd_WC a k σ1) H := by rw [eσ1]; exact fd_sP fd_WCi_16 hP
  refine lv_aload_n hx hb dX1_begin_5 rfl (lv_at hl 0 rfl) ?_
  refine lv_iconst (v := (0 : Int32)) hx hb dX1_begin_6 (by decide) ?_
  obtain ⟨σ2, eσ2, hf⟩ := fd_lts hf
  refine va_put (ci := 1) (v := .int (0 : Int32)) (ty := .int) (C := RX1) (T := TX1) (N := 4) hx hb hts h9X1 tyX1 tyX1_ok nmX1 hown hK hP (fd_DC hI hJ) hS 10 fd_WC_10 rfl 3 (by decide) (hts (.fieldLink RX1 22 "FailDiagnose$Chain" "rows" "I") (List.mem_of_getElem? (i := 2) (by eq_refl))) (fun _ h9 => h9) rfl (by decide +kernel) rfl rfl (Nat.le_of_ble_eq_true rfl) dX1_begin_7 (fun H locs hP _ hS => ?_)
  have hP : va_P D vwCl (fd_WC a k σ2) H := by rw [eσ2]; exact fd_sP fd_WCi_17 hP
  exact W.vret hx hb hr (fun t ht hW => ⟨⟨σ2, rfl, Option.some.inj hf, by rw [ht]; exact hP, va_K.moved hW.alike hK⟩, hS.F ht⟩) hS.2.2 dX1_begin_10
noncomputable def f_X10_chain_0_J11 (N : Nat) (σ : fd_St) : Option ((Unit ⊕ String) × fd_St) := some (.inr "java/lang/IllegalArgumentException", σ)
noncomputable def f_X10_chain_0 (N : Nat) (p1 : Int32) (σ : fd_St) : Option ((Unit ⊕ String) × fd_St) := if p1 < (1 : Int32) then (f_X10_chain_0_J11 N σ) else (if p1 ≤ (64 : Int32) then (fd_bd (f_X1_begin_10 N p1 σ) (fun _ σ6 => some (.inl (), σ6))) else (f_X10_chain_0_J11 N σ))
set_option maxHeartbeats 4000000 in
set_option maxRecDepth 100000 in
theorem m_X10_chain_0 (l : Launch) (hl9 : l.stackTraces = false) (D : va_G) (a : Nat → Nat) (k : Nat → ClassId) (sz : Nat) (hI : fd_I 39 a) (N : Nat) (p1 : Int32) (σ : fd_St) (r : (Unit ⊕ String) × fd_St) (hf : f_X10_chain_0 N p1 σ = some r) : vx_Met l yX10_chain wsX10_chain ({ frames := 6, cells := fd_mc r, slots := fd_ms r, locals := 90 }) (va_Pc [.ref (a 0), .int p1] (fd_PZ D a k sz σ)) (va_Qv (fun u => (Sum.inl (), u) = r) (fd_BC D a k) (fd_A 39 a sz)) (fd_X D a k (fd_A 39 a sz) r) (fd_mc r) (fd_ms r) (fd_A 39 a sz) := by
  refine vx_ofW (cc := cX10_chain) (maxL := 2) (ret := none) (by decide) rfl ?_
  intro p e s m args below meth c s₁ B hml hex hv
  obtain ⟨rfl, ⟨hsz, hP, hK⟩, hZ⟩ := hv
  have hx := B.exec
  have hb := B.bytes
  have hr := B.returns
  have hts := atoms_spec (ws := wsX10_chain) B.pre
  have hown : s.vm.findClass RX10 = some m.cls := findClass_of_methodNamed B.named
  have hlocks := B.notSynchronized
  subst hsz
  have hJ : ∀ i, i < 39 → fd_A 39 a s.heap.size (a i) := fun i hi => Or.inl ⟨i, hi, rfl⟩
  have hS : va_S (fd_A 39 a s.heap.size) s.heap s.heap [] := va_S.rf
  have hl := lv_entry ([.ref (a 0), .int p1]) (n := 2) (Nat.le_of_ble_eq_true rfl)
  rw [lg_entry_eq]
  generalize (lg_sl ([.ref (a 0), .int p1]) ++ List.replicate (2 - (lg_sl ([.ref (a 0), .int p1])).length) Slot.unset).toArray = ls at hl ⊢
  have hl : lv_has ls 2 [(0, .ref (a 0)), (1, .int p1)] := hl
  have h9X10 : ∀ w ∈ u_ws RX10 TX10 8, w ∈ wsX10_chain := fd_su [11, 12, 13, 14, 15, 16, 17, 18] (by eq_refl)
  have hL11 : ∀ (σ : fd_St) (H : Heap) (locs : List Loc) (ls : Array Slot), va_P D vwCl (fd_WC a k σ) H → va_S (fd_A 39 a s.heap.size) s.heap H locs → lv_has ls 2 [] → f_X10_chain_0_J11 N σ = some r → W p l e ((headSpec wsX10_chain ({ frames := 6, cells := fd_mc r, slots := fd_ms r, locals := 90 })).room) s m ([.ref (a 0), .int p1].toArray) below meth c H locs 0 0 (vx_MQ below (va_Qv (fun u => (Sum.inl (), u) = r) (fd_BC D a k) (fd_A 39 a s.heap.size)) (fd_X D a k (fd_A 39 a s.heap.size) r) ([.ref (a 0), .int p1].toArray) s (fd_mc r) (fd_ms r) (fd_A 39 a s.heap.size)) (F0 m 11 ls []) := by
    intro σ H locs ls hP hS hl hf
    unfold f_X10_chain_0_J11 at hf
    have e2 := Option.some.inj hf
    subst e2
    obtain ⟨sa, hsa⟩ := hZ.str 193 "cells are 1 to 64" (by decide +kernel)
    exact vx_throwS (own := RX10) (cls := "java/lang/IllegalArgumentException") (names := ["java/lang/RuntimeException", "java/lang/Exception"]) hx hb hl9 hown fd_ex_87_91_f fd_ex_n (hts (.classLink RX10 87 "java/lang/IllegalArgumentException") (List.mem_of_getElem? (i := 1) (by eq_refl))) (hts (.initialized "java/lang/IllegalArgumentException") (List.mem_of_getElem? (i := 2) (by eq_refl))) hsa (vx_hat (L := vx_atS RX10 91 "java/lang/IllegalArgumentException" ["java/lang/RuntimeException", "java/lang/Exception"]) (B := fd_bad "java/lang/IllegalArgumentException") (fun w hw => hts w ((fun w h => List.mem_cons_of_mem _ (List.mem_append_right _ h) : ∀ w ∈ (vx_atS RX10 91 "java/lang/IllegalArgumentException" ["java/lang/RuntimeException", "java/lang/Exception"]).filter goodWord, w ∈ wsX10_chain) w hw)) fd_ex_87_91_b (hZ.bad "java/lang/IllegalArgumentException" fd_ex_87_91_e)) fd_ex_87_91_g hZ.un hZ.su hS (hl.1.trans hml.symm) dX10_chain_11 dX10_chain_14 dX10_chain_15 dX10_chain_17 dX10_chain_20 (fun x hx => (hex x hx).elim) (Nat.le_of_ble_eq_true rfl) (Nat.le_of_ble_eq_true rfl) (Nat.le_of_ble_eq_true rfl) (Nat.le_of_ble_eq_true rfl) hlocks (fun t ha hsz hk => ⟨σ, trivial, ⟨rfl, hP.kept (fun k q hq => hk q.1 (hP k q hq).lt), va_K.moved ha hK⟩, Nat.le_trans hS.1 hsz, fun q h1 h2 => (hk q (Nat.lt_of_lt_of_le h1 hS.1)).trans (hS.2.1 q h1 h2)⟩) hS.2.2 (Nat.le_of_ble_eq_true rfl) (Nat.le_of_ble_eq_true rfl)
  unfold f_X10_chain_0 at hf
  refine lv_iload_n hx hb dX10_chain_0 rfl (lv_at hl 1 rfl) ?_
  refine lv_iconst (v := (1 : Int32)) hx hb dX10_chain_1 (by decide) ?_
  refine lv_icmp_lt (tgt := 11) hx hb dX10_chain_2 (by decide) (fun c1 => ?_) (fun c1 => ?_)
  · have hf := fd_itp c1 hf
    exact hL11 σ _ _ _ hP hS (lv_sub hl [] rfl) hf
  · have hf := fd_itn c1 hf
    refine lv_iload_n hx hb dX10_chain_5 rfl (lv_at hl 1 rfl) ?_
    refine lv_bipush (v := (64 : Int32)) hx hb dX10_chain_6 (by decide) ?_
    refine lv_icmp_le (tgt := 21) hx hb dX10_chain_8 (by decide) (fun c3 => ?_) (fun c3 => ?_)
    · have hf := fd_itp c3 hf
      refine lv_aload_n hx hb dX10_chain_21 rfl (lv_at hl 0 rfl) ?_
      refine va_get (ci := 10) (v := .ref (a 10)) (C := RX10) (T := TX10) (N := 8) hx hb hts h9X10 hown hK hP 0 fd_WC_0 rfl 5 (by decide) (hts (.fieldLink RX10 49 "FailDiagnose" "cells" "LFailDiagnose$Chain;") (List.mem_of_getElem? (i := 3) (by eq_refl))) (fun _ h9 => h9) rfl dX10_chain_22 ?_
      refine lv_iload_n hx hb dX10_chain_25 rfl (lv_at hl 1 rfl) ?_
      obtain ⟨w7, τ8, hc4, hf⟩ := fd_bds hf
      refine va_callv (va_runV (As := [.int p1]) (rest := []) ⟨hx, hb, hml, hown, hts⟩ (m_X1_begin_10 l D a k s.heap.size hI N p1 σ _ hc4) (cwV 1 hts gX10_chain_X1_begin rfl rfl rfl (by decide +kernel) ⟨Nat.le_of_ble_eq_true rfl, Nat.le_of_ble_eq_true rfl⟩) ⟨fd_blC, va_recv hK hP (ci := 1) (q0 := 10) rfl fd_WC_10, fd_prC hP hK⟩ rfl rfl hl.1 rfl (lv_room (Nat.le_of_ble_eq_true rfl)) dX10_chain_26 ⟨Nat.zero_le _, Nat.zero_le _⟩) hS (fun q _ h => fd_A_mono hS.1 h) (fun q h => fd_A_mono hS.1 h) (fun u t H1 locs ht hvm hw hB hz hk hS => ?_)
      obtain ⟨hP1, hK1⟩ := hB
      rw [ht] at hP1
      have e2 := (Prod.mk.inj hw).2
      subst e2
      obtain ⟨σ6, rfl⟩ : ∃ z, z = u := ⟨_, rfl⟩
      have hP := hP1
      generalize H1 = H at hP hS ⊢
      refine vx_ret (W.widen (k := fd_mc r) (n := fd_ms r) (Nat.zero_le _) (Nat.zero_le _) ?_)
      exact W.vret hx hb hr (fun t ht hW => ⟨⟨σ6, rfl, Option.some.inj hf, by rw [ht]; exact hP, va_K.moved hW.alike hK⟩, hS.F ht⟩) hS.2.2 dX10_chain_29
    · have hf := fd_itn c3 hf
      exact hL11 σ _ _ _ hP hS (lv_sub hl [] rfl) hf
noncomputable def f_L_chain_0 (N : Nat) (p1 : Int32) (σ : fd_St) : Option (Int32 × fd_St) := fd_bx (f_X10_chain_0 N p1 σ) (fun _ τ => fd_lt (fd_mix τ σ) (fun σ6 => some ((0 : Int32), σ6))) (fun E τ => if E = "java/lang/IllegalArgumentException" then (fd_lt (fd_mix τ σ) (fun σ9 => some ((1 : Int32), σ9))) else (none))
set_option maxHeartbeats 4000000 in
set_option maxRecDepth 100000 in
theorem m_L_chain_0 (l : Launch) (hl9 : l.stackTraces = false) (D : va_G) (a : Nat → Nat) (k : Nat → ClassId) (sz : Nat) (hI : fd_I 40 a) (N : Nat) (p1 : Int32) (σ : fd_St) (r : Int32 × fd_St) (hf : f_L_chain_0 N p1 σ = some r) : Met l yL_chain wsL_chain ({ frames := 7, cells := 1, slots := 6, locals := 111 }) (va_Pc [.ref (a 0), .int p1] (fd_PH D a k sz σ)) (va_Qi (fun v u => (v, u) = r) (fd_BH D a k) (fd_A 40 a sz)) 1 6 (fd_A 40 a sz) := by
  refine fd_ofWT (cc := cL_chain) (maxL := 3) (ret := (some .int)) (by decide) rfl ?_
  intro p e s m args below meth c s₁ B hml hTab hv
  obtain ⟨rfl, hsz, hP, hK, hZ⟩ := hv
  have hx := B.exec
  have hb := B.bytes
  have hr := B.returns
  have hts := atoms_spec (ws := wsL_chain) B.pre
  have hown : s.vm.findClass RL = some m.cls := findClass_of_methodNamed B.named
  have hlocks := B.notSynchronized
  subst hsz
  have hJ : ∀ i, i < 40 → fd_A 40 a s.heap.size (a i) := fun i hi => Or.inl ⟨i, hi, rfl⟩
  have hS : va_S (fd_A 40 a s.heap.size) s.heap s.heap [] := va_S.rf
  have hl := lv_entry ([.ref (a 0), .int p1]) (n := 3) (Nat.le_of_ble_eq_true rfl)
  rw [lg_entry_eq]
  generalize (lg_sl ([.ref (a 0), .int p1]) ++ List.replicate (3 - (lg_sl ([.ref (a 0), .int p1])).length) Slot.unset).toArray = ls at hl ⊢
  have hl : lv_has ls 3 [(0, .ref (a 0)), (1, .int p1)] := hl
  unfold f_L_chain_0 at hf
  refine lv_aload_n hx hb dL_chain_0 rfl (lv_at hl 0 rfl) ?_
  refine lv_iload_n hx hb dL_chain_1 rfl (lv_at hl 1 rfl) ?_
  rcases fd_bxs hf with ⟨w3, τ4, hc1, hf⟩ | ⟨E5, τ4, hc1, hf⟩
  · refine vx_callv (vx_runV (As := [.int p1]) (rest := []) ⟨hx, hb, hml, hown, hts⟩ (m_X10_chain_0 l hl9 D a k s.heap.size (fd_I40 hI) N p1 σ _ hc1) (cwV 1 hts gL_chain_X10_chain rfl rfl rfl (by decide +kernel) ⟨Nat.le_of_ble_eq_true rfl, Nat.le_of_ble_eq_true rfl⟩) ⟨fd_blZ, va_recv (fd_HK hK) (fd_HC hP) (ci := 10) (q0 := 0) rfl fd_WC_0, fd_prHZ hP hK hZ hS⟩ rfl rfl hl.1 rfl (lv_room (Nat.le_of_ble_eq_true rfl)) dL_chain_2 ⟨(Nat.zero_le _), (Nat.zero_le _)⟩) hS (fun q _ h => fd_A_sub hS.1 h) (fun q h => fd_A_sub hS.1 h) (fun q _ h => fd_A_sub hS.1 h) (fun E ce q9 u t H1 locs1 ht hvm hp hB => ?_) (fun u t H1 locs ht hvm hw hB hz hk hS => ?_)
    · exact absurd hB.1 (by simp)
    obtain ⟨hP1, hK1⟩ := hB
    rw [ht] at hP1
    have e2 := (Prod.mk.inj hw).2
    subst e2
    obtain ⟨σ6, eσ6, hf⟩ := fd_lts hf
    have hP : va_P D vwCl (fd_WH a k σ6) H1 := by rw [eσ6]; exact fd_HJ hI hP hP1 hk
    generalize H1 = H at hP hS ⊢
    refine W.cs (cells' := 0) (slots' := 0) rfl rfl ?_
    refine lv_goto (tgt := 11) hx hb dL_chain_5 (by decide) ?_
    refine lv_iconst (v := (0 : Int32)) hx hb dL_chain_11 (by decide) ?_
    refine W.widen (k := 1) (n := 6) (Nat.le_of_ble_eq_true rfl) (Nat.le_of_ble_eq_true rfl) ?_
    exact W.iret (v := (0 : Int32)) hx hb hr (fun t ht hW => ⟨⟨(0 : Int32), σ6, rfl, Option.some.inj hf, by rw [ht]; exact hP, va_K.moved hW.alike hK⟩, hS.F ht⟩) hS.2.2 dL_chain_12
  · have hE := hf
    by_cases c8 : E5 = "java/lang/IllegalArgumentException"
    · subst c8
      have hf := fd_itp rfl hf
      refine vx_callv (vx_runV (As := [.int p1]) (rest := []) ⟨hx, hb, hml, hown, hts⟩ (m_X10_chain_0 l hl9 D a k s.heap.size (fd_I40 hI) N p1 σ _ hc1) (cwV 1 hts gL_chain_X10_chain rfl rfl rfl (by decide +kernel) ⟨Nat.le_of_ble_eq_true rfl, Nat.le_of_ble_eq_true rfl⟩) ⟨fd_blZ, va_recv (fd_HK hK) (fd_HC hP) (ci := 10) (q0 := 0) rfl fd_WC_0, fd_prHZ hP hK hZ hS⟩ rfl rfl hl.1 rfl (lv_room (Nat.le_of_ble_eq_true rfl)) dL_chain_2 ⟨Nat.le_of_ble_eq_true rfl, Nat.le_of_ble_eq_true rfl⟩) hS (fun q _ h => fd_A_sub hS.1 h) (fun q h => fd_A_sub hS.1 h) (fun q _ h => fd_A_sub hS.1 h) (fun E ce q9 u t H1 locs1 ht hvm hp hB hz hk hS hce hcv hcl => ?_) (fun u t H1 locs ht hvm hw hB hz hk hS => ?_)
      · obtain ⟨hB0, hP1, hK1⟩ := hB
        rw [ht] at hP1
        obtain ⟨e1, e2⟩ := Prod.mk.inj hB0
        obtain e1 := Sum.inr.inj e1
        subst e1
        subst e2
        obtain ⟨σ9, eσ9, hf⟩ := fd_lts hf
        have hP : va_P D vwCl (fd_WH a k σ9) H1 := by rw [eσ9]; exact fd_HJ hI hP hP1 hk
        refine fd_catch (own := RL) (name := "java/lang/IllegalArgumentException") (E := "java/lang/IllegalArgumentException") hown [] ⟨0, 5, 8, 21⟩ [] (by rw [hTab]; rfl) (fun z hz => nomatch hz) (by decide) (by decide) (hts (.classLink RL 21 "java/lang/IllegalArgumentException") (List.mem_of_getElem? (i := 1) (by eq_refl))) (hZ.cast "java/lang/IllegalArgumentException" (by decide +kernel)) hce hcv hcl ?_
        refine W.cs (cells' := 1) (slots' := 6) rfl rfl ?_
        refine lv_astore_n (lv' := [(2, .ref q9), (0, .ref (a 0)), (1, .int p1)]) hx hb dL_chain_8 rfl hl (by decide) rfl (fun ls hl => ?_)
        refine lv_iconst (v := (1 : Int32)) hx hb dL_chain_9 (by decide) ?_
        refine W.widen (k := 1) (n := 6) (Nat.le_of_ble_eq_true rfl) (Nat.le_of_ble_eq_true rfl) ?_
        exact W.iret (v := (1 : Int32)) hx hb hr (fun t ht hW => ⟨⟨(1 : Int32), σ9, rfl, Option.some.inj hf, by rw [ht]; exact hP, va_K.moved hW.alike hK⟩, hS.F ht⟩) hS.2.2 dL_chain_10
      · exact absurd hw (by simp)
    have hf := fd_itn c8 hf
    cases hf
noncomputable def f_X11_chain_0_J17 (N : Nat) (y1 : Int32) (z1 : Int32) (σ : fd_St) : Option (Unit × fd_St) := fd_lt (fd_sI 0 z1 σ) (fun σ2 => if (σ2.1 0) = 0 then (fd_lt (fd_sI 12 y1 σ2) (fun σ4 => fd_lt (fd_sI 13 (0 : Int32) σ4) (fun σ5 => some ((), σ5)))) else (some ((), σ2)))
noncomputable def f_X11_chain_0_J16 (N : Nat) (y1 : Int32) (σ : fd_St) : Option (Unit × fd_St) := f_X11_chain_0_J17 N y1 (1 : Int32) σ
noncomputable def f_X11_chain_0 (N : Nat) (p1 : Int32) (σ : fd_St) : Option (Unit × fd_St) := if p1 < (1 : Int32) then (f_X11_chain_0_J16 N p1 σ) else (if (64 : Int32) < p1 then (f_X11_chain_0_J16 N p1 σ) else (f_X11_chain_0_J17 N p1 (0 : Int32) σ))
set_option maxHeartbeats 4000000 in
set_option maxRecDepth 100000 in
theorem m_X11_chain_0 (l : Launch) (D : va_G) (a : Nat → Nat) (k : Nat → ClassId) (sz : Nat) (hI : fd_I 29 a) (N : Nat) (p1 : Int32) (σ : fd_St) (r : Unit × fd_St) (hf : f_X11_chain_0 N p1 σ = some r) : Met l yX11_chain wsX11_chain ({ frames := 0, cells := 0, slots := 0, locals := 0 }) (va_Pc [.ref (a 0), .int p1] (fd_PM D a k sz σ)) (va_Qv (fun u => ((), u) = r) (fd_BM D a k) (fd_A 29 a sz)) 0 0 (fd_A 29 a sz) := by
  refine Met.ofW (cc := cX11_chain) (maxL := 2) (ret := none) (by decide) rfl ?_
  intro p e s m args below meth c s₁ B hml hv
  obtain ⟨rfl, hsz, hP, hK⟩ := hv
  have hx := B.exec
  have hb := B.bytes
  have hr := B.returns
  have hts := atoms_spec (ws := wsX11_chain) B.pre
  have hown : s.vm.findClass RX11 = some m.cls := findClass_of_methodNamed B.named
  have hlocks := B.notSynchronized
  subst hsz
  have hJ : ∀ i, i < 29 → fd_A 29 a s.heap.size (a i) := fun i hi => Or.inl ⟨i, hi, rfl⟩
  have hS : va_S (fd_A 29 a s.heap.size) s.heap s.heap [] := va_S.rf
  have hl := lv_entry ([.ref (a 0), .int p1]) (n := 2) (Nat.le_of_ble_eq_true rfl)
  rw [lg_entry_eq]
  generalize (lg_sl ([.ref (a 0), .int p1]) ++ List.replicate (2 - (lg_sl ([.ref (a 0), .int p1])).length) Slot.unset).toArray = ls at hl ⊢
  have hl : lv_has ls 2 [(0, .ref (a 0)), (1, .int p1)] := hl
  have h9X11 : ∀ w ∈ u_ws RX11 TX11 43, w ∈ wsX11_chain := fd_su [4, 5, 6, 7, 8, 9, 10, 11, 12, 13, 14, 15, 16, 17, 18, 19, 20, 21, 22, 23, 24, 25, 26, 27, 28, 29, 30, 31, 32, 33, 34, 35, 36, 37, 38, 39, 40, 41, 42, 43, 44, 45, 46] (by eq_refl)
  have hL17 : ∀ (y1 : Int32) (z1 : Int32) (σ : fd_St) (H : Heap) (locs : List Loc) (ls : Array Slot), va_P D vwCl (fd_WM a k σ) H → va_S (fd_A 29 a s.heap.size) s.heap H locs → lv_has ls 2 [(0, .ref (a 0)), (1, .int y1)] → f_X11_chain_0_J17 N y1 z1 σ = some r → W p l e ((headSpec wsX11_chain ({ frames := 0, cells := 0, slots := 0, locals := 0 })).room) s m ([.ref (a 0), .int p1].toArray) below meth c H locs 0 0 (MQ below (va_Qv (fun u => ((), u) = r) (fd_BM D a k) (fd_A 29 a s.heap.size)) ([.ref (a 0), .int p1].toArray) s 0 0 (fd_A 29 a s.heap.size)) (F0 m 17 ls [.int z1, .ref (a 0)]) := by
    intro y1 z1 σ H locs ls hP hS hl hf
    unfold f_X11_chain_0_J17 at hf
    obtain ⟨σ2, eσ2, hf⟩ := fd_lts hf
    refine va_put (ci := 11) (v := .int z1) (ty := .int) (C := RX11) (T := TX11) (N := 43) hx hb hts h9X11 tyX11 tyX11_ok nmX11 hown hK hP (fd_DM hI hJ) hS 0 fd_WM_0 rfl 0 (by decide) (hts (.fieldLink RX11 99 "FailDiagnoseModel" "thrown" "I") (List.mem_of_getElem? (i := 1) (by eq_refl))) (fun _ h9 => h9) rfl (by decide +kernel) rfl rfl (Nat.le_of_ble_eq_true rfl) dX11_chain_17 (fun H locs hP _ hS => ?_)
    have hP : va_P D vwCl (fd_WM a k σ2) H := by rw [eσ2]; exact fd_sP fd_WMi_0 hP
    refine lv_aload_n hx hb dX11_chain_20 rfl (lv_at hl 0 rfl) ?_
    refine va_get (ci := 11) (v := .int (σ2.1 0)) (C := RX11) (T := TX11) (N := 43) hx hb hts h9X11 hown hK hP 0 fd_WM_0 rfl 0 (by decide) (hts (.fieldLink RX11 99 "FailDiagnoseModel" "thrown" "I") (List.mem_of_getElem? (i := 1) (by eq_refl))) (fun _ h9 => h9) rfl dX11_chain_21 ?_
    refine lv_if_ne (tgt := 37) hx hb dX11_chain_24 (by decide) (fun c3 => ?_) (fun c3 => ?_)
    · have hf := fd_itn c3 hf
      exact W.vret hx hb hr (fun t ht hW => ⟨⟨σ2, rfl, Option.some.inj hf, by rw [ht]; exact hP, va_K.moved hW.alike hK⟩, hS.F ht⟩) hS.2.2 dX11_chain_37
    · have hf := fd_itp c3 hf
      refine lv_aload_n hx hb dX11_chain_27 rfl (lv_at hl 0 rfl) ?_
      refine lv_iload_n hx hb dX11_chain_28 rfl (lv_at hl 1 rfl) ?_
      obtain ⟨σ4, eσ4, hf⟩ := fd_lts hf
      refine va_put (ci := 11) (v := .int y1) (ty := .int) (C := RX11) (T := TX11) (N := 43) hx hb hts h9X11 tyX11 tyX11_ok nmX11 hown hK hP (fd_DM hI hJ) hS 0 fd_WM_0 rfl 31 (by decide) (hts (.fieldLink RX11 188 "FailDiagnoseModel" "cells" "I") (List.mem_of_getElem? (i := 2) (by eq_refl))) (fun _ h9 => h9) rfl (by decide +kernel) rfl rfl (Nat.le_of_ble_eq_true rfl) dX11_chain_29 (fun H locs hP _ hS => ?_)
      have hP : va_P D vwCl (fd_WM a k σ4) H := by rw [eσ4]; exact fd_sP fd_WMi_12 hP
      refine lv_aload_n hx hb dX11_chain_32 rfl (lv_at hl 0 rfl) ?_
      refine lv_iconst (v := (0 : Int32)) hx hb dX11_chain_33 (by decide) ?_
      obtain ⟨σ5, eσ5, hf⟩ := fd_lts hf
      refine va_put (ci := 11) (v := .int (0 : Int32)) (ty := .int) (C := RX11) (T := TX11) (N := 43) hx hb hts h9X11 tyX11 tyX11_ok nmX11 hown hK hP (fd_DM hI hJ) hS 0 fd_WM_0 rfl 32 (by decide) (hts (.fieldLink RX11 191 "FailDiagnoseModel" "rows" "I") (List.mem_of_getElem? (i := 3) (by eq_refl))) (fun _ h9 => h9) rfl (by decide +kernel) rfl rfl (Nat.le_of_ble_eq_true rfl) dX11_chain_34 (fun H locs hP _ hS => ?_)
      have hP : va_P D vwCl (fd_WM a k σ5) H := by rw [eσ5]; exact fd_sP fd_WMi_13 hP
      exact W.vret hx hb hr (fun t ht hW => ⟨⟨σ5, rfl, Option.some.inj hf, by rw [ht]; exact hP, va_K.moved hW.alike hK⟩, hS.F ht⟩) hS.2.2 dX11_chain_37
  have hL16 : ∀ (y1 : Int32) (σ : fd_St) (H : Heap) (locs : List Loc) (ls : Array Slot), va_P D vwCl (fd_WM a k σ) H → va_S (fd_A 29 a s.heap.size) s.heap H locs → lv_has ls 2 [(0, .ref (a 0)), (1, .int y1)] → f_X11_chain_0_J16 N y1 σ = some r → W p l e ((headSpec wsX11_chain ({ frames := 0, cells := 0, slots := 0, locals := 0 })).room) s m ([.ref (a 0), .int p1].toArray) below meth c H locs 0 0 (MQ below (va_Qv (fun u => ((), u) = r) (fd_BM D a k) (fd_A 29 a s.heap.size)) ([.ref (a 0), .int p1].toArray) s 0 0 (fd_A 29 a s.heap.size)) (F0 m 16 ls [.ref (a 0)]) := by
    intro y1 σ H locs ls hP hS hl hf
    unfold f_X11_chain_0_J16 at hf
    refine lv_iconst (v := (1 : Int32)) hx hb dX11_chain_16 (by decide) ?_
    exact hL17 y1 (1 : Int32) σ _ _ _ hP hS (lv_sub hl [0, 1] rfl) hf
  unfold f_X11_chain_0 at hf
  refine lv_aload_n hx hb dX11_chain_0 rfl (lv_at hl 0 rfl) ?_
  refine lv_iload_n hx hb dX11_chain_1 rfl (lv_at hl 1 rfl) ?_
  refine lv_iconst (v := (1 : Int32)) hx hb dX11_chain_2 (by decide) ?_
  refine lv_icmp_lt (tgt := 16) hx hb dX11_chain_3 (by decide) (fun c1 => ?_) (fun c1 => ?_)
  · have hf := fd_itp c1 hf
    exact hL16 p1 σ _ _ _ hP hS (lv_sub hl [0, 1] rfl) hf
  · have hf := fd_itn c1 hf
    refine lv_iload_n hx hb dX11_chain_6 rfl (lv_at hl 1 rfl) ?_
    refine lv_bipush (v := (64 : Int32)) hx hb dX11_chain_7 (by decide) ?_
    refine lv_icmp_gt (tgt := 16) hx hb dX11_chain_9 (by decide) (fun c6 => ?_) (fun c6 => ?_)
    · have hf := fd_itp c6 hf
      exact hL16 p1 σ _ _ _ hP hS (lv_sub hl [0, 1] rfl) hf
    · have hf := fd_itn c6 hf
      refine lv_iconst (v := (0 : Int32)) hx hb dX11_chain_12 (by decide) ?_
      refine lv_goto (tgt := 17) hx hb dX11_chain_13 (by decide) ?_
      exact hL17 p1 (0 : Int32) σ _ _ _ hP hS (lv_sub hl [0, 1] rfl) hf
