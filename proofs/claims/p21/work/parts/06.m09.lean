noncomputable def f_X11_area_0_J31 (N : Nat) (y1 : Int32) (y2 : Int32) (z1 : Int32) (σ : fd_St) : Option (Int32 × fd_St) := fd_lt (fd_sI 0 z1 σ) (fun σ8 => if (σ8.1 0) ≤ 0 then (fd_bd (f_X11_areaOf_0 N y1 y1 y2 σ8) (fun v11 σ12 => some (v11, σ12))) else (some ((0 : Int32), σ8)))
noncomputable def f_X11_area_0_J26 (N : Nat) (y1 : Int32) (y2 : Int32) (σ : fd_St) : Option (Int32 × fd_St) := f_X11_area_0_J31 N y1 y2 (2 : Int32) σ
noncomputable def f_X11_area_0 (N : Nat) (p1 : Int32) (p2 : Int32) (σ : fd_St) : Option (Int32 × fd_St) := fd_bd (f_X11_isIn N p1 (σ.1 1) σ) (fun v2 σ3 => if v2 = 0 then (f_X11_area_0_J31 N p1 p2 (1 : Int32) σ3) else (if p2 < 0 then (f_X11_area_0_J26 N p1 p2 σ3) else (if p2 ≤ (100 : Int32) then (f_X11_area_0_J31 N p1 p2 (0 : Int32) σ3) else (f_X11_area_0_J26 N p1 p2 σ3))))
set_option maxHeartbeats 4000000 in
set_option maxRecDepth 100000 in
theorem m_X11_area_0 (l : Launch) (D : va_G) (a : Nat → Nat) (k : Nat → ClassId) (sz : Nat) (hI : fd_I 29 a) (N : Nat) (p1 : Int32) (p2 : Int32) (σ : fd_St) (r : Int32 × fd_St) (hf : f_X11_area_0 N p1 p2 σ = some r) : Met l yX11_area wsX11_area ({ frames := 2, cells := 0, slots := 0, locals := 53 }) (va_Pc [.ref (a 0), .int p1, .int p2] (fd_PM D a k sz σ)) (va_Qi (fun v u => (v, u) = r) (fd_BM D a k) (fd_A 29 a sz)) 0 0 (fd_A 29 a sz) := by
  refine Met.ofW (cc := cX11_area) (maxL := 3) (ret := (some .int)) (by decide) rfl ?_
  intro p e s m args below meth c s₁ B hml hv
  obtain ⟨rfl, hsz, hP, hK⟩ := hv
  have hx := B.exec
  have hb := B.bytes
  have hr := B.returns
  have hts := atoms_spec (ws := wsX11_area) B.pre
  have hown : s.vm.findClass RX11 = some m.cls := findClass_of_methodNamed B.named
  have hlocks := B.notSynchronized
  subst hsz
  have hJ : ∀ i, i < 29 → fd_A 29 a s.heap.size (a i) := fun i hi => Or.inl ⟨i, hi, rfl⟩
  have hS : va_S (fd_A 29 a s.heap.size) s.heap s.heap [] := va_S.rf
  have hl := lv_entry ([.ref (a 0), .int p1, .int p2]) (n := 3) (Nat.le_of_ble_eq_true rfl)
  rw [lg_entry_eq]
  generalize (lg_sl ([.ref (a 0), .int p1, .int p2]) ++ List.replicate (3 - (lg_sl ([.ref (a 0), .int p1, .int p2])).length) Slot.unset).toArray = ls at hl ⊢
  have hl : lv_has ls 3 [(0, .ref (a 0)), (1, .int p1), (2, .int p2)] := hl
  have h9X11 : ∀ w ∈ u_ws RX11 TX11 43, w ∈ wsX11_area := fd_su [26, 27, 28, 29, 30, 31, 32, 33, 34, 35, 36, 37, 38, 39, 40, 41, 42, 43, 44, 45, 46, 47, 48, 49, 50, 51, 52, 53, 54, 55, 56, 57, 58, 59, 60, 61, 62, 63, 64, 65, 66, 67, 68] (by eq_refl)
  have hL31 : ∀ (y1 : Int32) (y2 : Int32) (z1 : Int32) (σ : fd_St) (H : Heap) (locs : List Loc) (ls : Array Slot), va_P D vwCl (fd_WM a k σ) H → va_S (fd_A 29 a s.heap.size) s.heap H locs → lv_has ls 3 [(0, .ref (a 0)), (1, .int y1), (2, .int y2)] → f_X11_area_0_J31 N y1 y2 z1 σ = some r → W p l e ((headSpec wsX11_area ({ frames := 2, cells := 0, slots := 0, locals := 53 })).room) s m ([.ref (a 0), .int p1, .int p2].toArray) below meth c H locs 0 0 (MQ below (va_Qi (fun v u => (v, u) = r) (fd_BM D a k) (fd_A 29 a s.heap.size)) ([.ref (a 0), .int p1, .int p2].toArray) s 0 0 (fd_A 29 a s.heap.size)) (F0 m 31 ls [.int z1, .ref (a 0)]) := by
    intro y1 y2 z1 σ H locs ls hP hS hl hf
    unfold f_X11_area_0_J31 at hf
    obtain ⟨σ8, eσ8, hf⟩ := fd_lts hf
    refine va_put (ci := 11) (v := .int z1) (ty := .int) (C := RX11) (T := TX11) (N := 43) hx hb hts h9X11 tyX11 tyX11_ok nmX11 hown hK hP (fd_DM hI hJ) hS 0 fd_WM_0 rfl 0 (by decide) (hts (.fieldLink RX11 99 "FailDiagnoseModel" "thrown" "I") (List.mem_of_getElem? (i := 2) (by eq_refl))) (fun _ h9 => h9) rfl (by decide +kernel) rfl rfl (Nat.le_of_ble_eq_true rfl) dX11_area_31 (fun H locs hP _ hS => ?_)
    have hP : va_P D vwCl (fd_WM a k σ8) H := by rw [eσ8]; exact fd_sP fd_WMi_0 hP
    refine lv_aload_n hx hb dX11_area_34 rfl (lv_at hl 0 rfl) ?_
    refine va_get (ci := 11) (v := .int (σ8.1 0)) (C := RX11) (T := TX11) (N := 43) hx hb hts h9X11 hown hK hP 0 fd_WM_0 rfl 0 (by decide) (hts (.fieldLink RX11 99 "FailDiagnoseModel" "thrown" "I") (List.mem_of_getElem? (i := 2) (by eq_refl))) (fun _ h9 => h9) rfl dX11_area_35 ?_
    refine lv_if_le (tgt := 45) hx hb dX11_area_38 (by decide) (fun c9 => ?_) (fun c9 => ?_)
    · have hf := fd_itp c9 hf
      refine lv_aload_n hx hb dX11_area_45 rfl (lv_at hl 0 rfl) ?_
      refine lv_iload_n hx hb dX11_area_46 rfl (lv_at hl 1 rfl) ?_
      refine lv_iload_n hx hb dX11_area_47 rfl (lv_at hl 1 rfl) ?_
      refine lv_iload_n hx hb dX11_area_48 rfl (lv_at hl 2 rfl) ?_
      obtain ⟨w13, τ14, hc10, hf⟩ := fd_bds hf
      refine va_calli (va_runV (As := [.int y1, .int y1, .int y2]) (rest := []) ⟨hx, hb, hml, hown, hts⟩ (m_X11_areaOf_0 l D a k H.size hI N y1 y1 y2 σ8 _ hc10) (cwV 3 hts gX11_area_X11_areaOf rfl rfl rfl (by decide +kernel) ⟨Nat.le_of_ble_eq_true rfl, Nat.le_of_ble_eq_true rfl⟩) ⟨fd_blM, va_recv hK hP (ci := 11) (q0 := 0) rfl fd_WM_0, fd_prM hP hK⟩ rfl rfl hl.1 rfl (lv_room (Nat.le_of_ble_eq_true rfl)) dX11_area_49 ⟨Nat.zero_le _, Nat.zero_le _⟩) hS (fun q _ h => fd_A_mono hS.1 h) (fun q h => fd_A_mono hS.1 h) (fun v11 u t H1 locs ht hvm hw hB hz hk hS => ?_)
      obtain ⟨hP1, hK1⟩ := hB
      rw [ht] at hP1
      obtain ⟨e1, e2⟩ := Prod.mk.inj hw
      subst e1
      subst e2
      obtain ⟨σ12, rfl⟩ : ∃ z, z = u := ⟨_, rfl⟩
      have hP := hP1
      generalize H1 = H at hP hS ⊢
      exact W.iret (v := v11) hx hb hr (fun t ht hW => ⟨⟨v11, σ12, rfl, Option.some.inj hf, by rw [ht]; exact hP, va_K.moved hW.alike hK⟩, hS.F ht⟩) hS.2.2 dX11_area_52
    · have hf := fd_itn c9 hf
      refine lv_iconst (v := (0 : Int32)) hx hb dX11_area_41 (by decide) ?_
      refine lv_goto (tgt := 52) hx hb dX11_area_42 (by decide) ?_
      exact W.iret (v := (0 : Int32)) hx hb hr (fun t ht hW => ⟨⟨(0 : Int32), σ8, rfl, Option.some.inj hf, by rw [ht]; exact hP, va_K.moved hW.alike hK⟩, hS.F ht⟩) hS.2.2 dX11_area_52
  have hL26 : ∀ (y1 : Int32) (y2 : Int32) (σ : fd_St) (H : Heap) (locs : List Loc) (ls : Array Slot), va_P D vwCl (fd_WM a k σ) H → va_S (fd_A 29 a s.heap.size) s.heap H locs → lv_has ls 3 [(0, .ref (a 0)), (1, .int y1), (2, .int y2)] → f_X11_area_0_J26 N y1 y2 σ = some r → W p l e ((headSpec wsX11_area ({ frames := 2, cells := 0, slots := 0, locals := 53 })).room) s m ([.ref (a 0), .int p1, .int p2].toArray) below meth c H locs 0 0 (MQ below (va_Qi (fun v u => (v, u) = r) (fd_BM D a k) (fd_A 29 a s.heap.size)) ([.ref (a 0), .int p1, .int p2].toArray) s 0 0 (fd_A 29 a s.heap.size)) (F0 m 26 ls [.ref (a 0)]) := by
    intro y1 y2 σ H locs ls hP hS hl hf
    unfold f_X11_area_0_J26 at hf
    refine lv_iconst (v := (2 : Int32)) hx hb dX11_area_26 (by decide) ?_
    refine lv_goto (tgt := 31) hx hb dX11_area_27 (by decide) ?_
    exact hL31 y1 y2 (2 : Int32) σ _ _ _ hP hS (lv_sub hl [0, 1, 2] rfl) hf
  unfold f_X11_area_0 at hf
  refine lv_aload_n hx hb dX11_area_0 rfl (lv_at hl 0 rfl) ?_
  refine lv_iload_n hx hb dX11_area_1 rfl (lv_at hl 1 rfl) ?_
  refine lv_aload_n hx hb dX11_area_2 rfl (lv_at hl 0 rfl) ?_
  refine va_get (ci := 11) (v := .int (σ.1 1)) (C := RX11) (T := TX11) (N := 43) hx hb hts h9X11 hown hK hP 0 fd_WM_0 rfl 1 (by decide) (hts (.fieldLink RX11 113 "FailDiagnoseModel" "nets" "I") (List.mem_of_getElem? (i := 1) (by eq_refl))) (fun _ h9 => h9) rfl dX11_area_3 ?_
  obtain ⟨w4, τ5, hc1, hf⟩ := fd_bds hf
  refine va_calli (va_runS (As := [.int p1, .int (σ.1 1)]) (rest := [.ref (a 0)]) ⟨hx, hb, hml, hown, hts⟩ (m_X11_isIn l D a k s.heap.size hI N p1 (σ.1 1) σ _ hc1) (va_cwS 2 hts gX11_area_X11_isIn rfl rfl rfl (by decide +kernel) ⟨Nat.le_of_ble_eq_true rfl, Nat.le_of_ble_eq_true rfl⟩) ⟨fd_blM, fd_prM hP hK⟩ rfl rfl hl.1 rfl (lv_room (Nat.le_of_ble_eq_true rfl)) dX11_area_6 ⟨Nat.zero_le _, Nat.zero_le _⟩) hS (fun q _ h => fd_A_mono hS.1 h) (fun q h => fd_A_mono hS.1 h) (fun v2 u t H1 locs ht hvm hw hB hz hk hS => ?_)
  obtain ⟨hP1, hK1⟩ := hB
  rw [ht] at hP1
  obtain ⟨e1, e2⟩ := Prod.mk.inj hw
  subst e1
  subst e2
  obtain ⟨σ3, rfl⟩ : ∃ z, z = u := ⟨_, rfl⟩
  have hP := hP1
  generalize H1 = H at hP hS ⊢
  refine lv_if_ne (tgt := 16) hx hb dX11_area_9 (by decide) (fun c6 => ?_) (fun c6 => ?_)
  · have hf := fd_itn c6 hf
    refine lv_iload_n hx hb dX11_area_16 rfl (lv_at hl 2 rfl) ?_
    refine lv_if_lt (tgt := 26) hx hb dX11_area_17 (by decide) (fun c7 => ?_) (fun c7 => ?_)
    · have hf := fd_itp c7 hf
      exact hL26 p1 p2 σ3 _ _ _ hP hS (lv_sub hl [0, 1, 2] rfl) hf
    · have hf := fd_itn c7 hf
      refine lv_iload_n hx hb dX11_area_20 rfl (lv_at hl 2 rfl) ?_
      refine lv_bipush (v := (100 : Int32)) hx hb dX11_area_21 (by decide) ?_
      refine lv_icmp_le (tgt := 30) hx hb dX11_area_23 (by decide) (fun c15 => ?_) (fun c15 => ?_)
      · have hf := fd_itp c15 hf
        refine lv_iconst (v := (0 : Int32)) hx hb dX11_area_30 (by decide) ?_
        exact hL31 p1 p2 (0 : Int32) σ3 _ _ _ hP hS (lv_sub hl [0, 1, 2] rfl) hf
      · have hf := fd_itn c15 hf
        exact hL26 p1 p2 σ3 _ _ _ hP hS (lv_sub hl [0, 1, 2] rfl) hf
  · have hf := fd_itp c6 hf
    refine lv_iconst (v := (1 : Int32)) hx hb dX11_area_12 (by decide) ?_
    refine lv_goto (tgt := 31) hx hb dX11_area_13 (by decide) ?_
    exact hL31 p1 p2 (1 : Int32) σ3 _ _ _ hP hS (lv_sub hl [0, 1, 2] rfl) hf
noncomputable def f_X6_coveredByBoth_11 (N : Nat) (p1 : Int32) (p2 : Int32) (p3 : Int32) (σ : fd_St) : Option (Int32 × fd_St) := fd_bd (f_X6_coveredByEither_11 N p1 p1 p3 σ) (fun v2 σ3 => fd_bd (f_X6_coveredByEither_11 N p2 p2 p3 σ3) (fun v7 σ8 => fd_bd (f_X6_coveredByEither_11 N p1 p2 p3 σ8) (fun v12 σ13 => some ((v2 + v7) - v12, σ13))))
set_option maxHeartbeats 4000000 in
set_option maxRecDepth 100000 in
theorem m_X6_coveredByBoth_11 (l : Launch) (D : va_G) (a : Nat → Nat) (k : Nat → ClassId) (sz : Nat) (hI : fd_I 39 a) (N : Nat) (p1 : Int32) (p2 : Int32) (p3 : Int32) (σ : fd_St) (r : Int32 × fd_St) (hf : f_X6_coveredByBoth_11 N p1 p2 p3 σ = some r) : Met l yX6_coveredByBoth wsX6_coveredByBoth ({ frames := 3, cells := 0, slots := 0, locals := 75 }) (va_Pc [.ref (a 11), .int p1, .int p2, .int p3] (fd_PC D a k sz σ)) (va_Qi (fun v u => (v, u) = r) (fd_BC D a k) (fd_A 39 a sz)) 0 0 (fd_A 39 a sz) := by
  refine Met.ofW (cc := cX6_coveredByBoth) (maxL := 4) (ret := (some .int)) (by decide) rfl ?_
  intro p e s m args below meth c s₁ B hml hv
  obtain ⟨rfl, hsz, hP, hK⟩ := hv
  have hx := B.exec
  have hb := B.bytes
  have hr := B.returns
  have hts := atoms_spec (ws := wsX6_coveredByBoth) B.pre
  have hown : s.vm.findClass RX6 = some m.cls := findClass_of_methodNamed B.named
  have hlocks := B.notSynchronized
  subst hsz
  have hJ : ∀ i, i < 39 → fd_A 39 a s.heap.size (a i) := fun i hi => Or.inl ⟨i, hi, rfl⟩
  have hS : va_S (fd_A 39 a s.heap.size) s.heap s.heap [] := va_S.rf
  have hl := lv_entry ([.ref (a 11), .int p1, .int p2, .int p3]) (n := 4) (Nat.le_of_ble_eq_true rfl)
  rw [lg_entry_eq]
  generalize (lg_sl ([.ref (a 11), .int p1, .int p2, .int p3]) ++ List.replicate (4 - (lg_sl ([.ref (a 11), .int p1, .int p2, .int p3])).length) Slot.unset).toArray = ls at hl ⊢
  have hl : lv_has ls 4 [(0, .ref (a 11)), (1, .int p1), (2, .int p2), (3, .int p3)] := hl
  unfold f_X6_coveredByBoth_11 at hf
  refine lv_aload_n hx hb dX6_coveredByBoth_0 rfl (lv_at hl 0 rfl) ?_
  refine lv_iload_n hx hb dX6_coveredByBoth_1 rfl (lv_at hl 1 rfl) ?_
  refine lv_iload_n hx hb dX6_coveredByBoth_2 rfl (lv_at hl 1 rfl) ?_
  refine lv_iload_n hx hb dX6_coveredByBoth_3 rfl (lv_at hl 3 rfl) ?_
  obtain ⟨w4, τ5, hc1, hf⟩ := fd_bds hf
  refine va_calli (va_runV (As := [.int p1, .int p1, .int p3]) (rest := []) ⟨hx, hb, hml, hown, hts⟩ (m_X6_coveredByEither_11 l D a k s.heap.size hI N p1 p1 p3 σ _ hc1) (cwV 3 hts gX6_coveredByBoth_X6_coveredByEither rfl rfl rfl (by decide +kernel) ⟨Nat.le_of_ble_eq_true rfl, Nat.le_of_ble_eq_true rfl⟩) ⟨fd_blC, va_recv hK hP (ci := 6) (q0 := 11) rfl fd_WC_11, fd_prC hP hK⟩ rfl rfl hl.1 rfl (lv_room (Nat.le_of_ble_eq_true rfl)) dX6_coveredByBoth_4 ⟨Nat.zero_le _, Nat.zero_le _⟩) hS (fun q _ h => fd_A_mono hS.1 h) (fun q h => fd_A_mono hS.1 h) (fun v2 u t H1 locs ht hvm hw hB hz hk hS => ?_)
  obtain ⟨hP1, hK1⟩ := hB
  rw [ht] at hP1
  obtain ⟨e1, e2⟩ := Prod.mk.inj hw
  subst e1
  subst e2
  obtain ⟨σ3, rfl⟩ : ∃ z, z = u := ⟨_, rfl⟩
  have hP := hP1
  generalize H1 = H at hP hS ⊢
  refine lv_aload_n hx hb dX6_coveredByBoth_7 rfl (lv_at hl 0 rfl) ?_
  refine lv_iload_n hx hb dX6_coveredByBoth_8 rfl (lv_at hl 2 rfl) ?_
  refine lv_iload_n hx hb dX6_coveredByBoth_9 rfl (lv_at hl 2 rfl) ?_
  refine lv_iload_n hx hb dX6_coveredByBoth_10 rfl (lv_at hl 3 rfl) ?_
  obtain ⟨w9, τ10, hc6, hf⟩ := fd_bds hf
  refine va_calli (va_runV (As := [.int p2, .int p2, .int p3]) (rest := [.int v2]) ⟨hx, hb, hml, hown, hts⟩ (m_X6_coveredByEither_11 l D a k H.size hI N p2 p2 p3 σ3 _ hc6) (cwV 3 hts gX6_coveredByBoth_X6_coveredByEither rfl rfl rfl (by decide +kernel) ⟨Nat.le_of_ble_eq_true rfl, Nat.le_of_ble_eq_true rfl⟩) ⟨fd_blC, va_recv hK hP (ci := 6) (q0 := 11) rfl fd_WC_11, fd_prC hP hK⟩ rfl rfl hl.1 rfl (lv_room (Nat.le_of_ble_eq_true rfl)) dX6_coveredByBoth_11 ⟨Nat.zero_le _, Nat.zero_le _⟩) hS (fun q _ h => fd_A_mono hS.1 h) (fun q h => fd_A_mono hS.1 h) (fun v7 u t H1 locs ht hvm hw hB hz hk hS => ?_)
  obtain ⟨hP1, hK1⟩ := hB
  rw [ht] at hP1
  obtain ⟨e1, e2⟩ := Prod.mk.inj hw
  subst e1
  subst e2
  obtain ⟨σ8, rfl⟩ : ∃ z, z = u := ⟨_, rfl⟩
  have hP := hP1
  generalize H1 = H at hP hS ⊢
  refine lv_iadd hx hb dX6_coveredByBoth_14 ?_
  refine lv_aload_n hx hb dX6_coveredByBoth_15 rfl (lv_at hl 0 rfl) ?_
  refine lv_iload_n hx hb dX6_coveredByBoth_16 rfl (lv_at hl 1 rfl) ?_
  refine lv_iload_n hx hb dX6_coveredByBoth_17 rfl (lv_at hl 2 rfl) ?_
  refine lv_iload_n hx hb dX6_coveredByBoth_18 rfl (lv_at hl 3 rfl) ?_
  obtain ⟨w14, τ15, hc11, hf⟩ := fd_bds hf
  refine va_calli (va_runV (As := [.int p1, .int p2, .int p3]) (rest := [.int (v2 + v7)]) ⟨hx, hb, hml, hown, hts⟩ (m_X6_coveredByEither_11 l D a k H.size hI N p1 p2 p3 σ8 _ hc11) (cwV 3 hts gX6_coveredByBoth_X6_coveredByEither rfl rfl rfl (by decide +kernel) ⟨Nat.le_of_ble_eq_true rfl, Nat.le_of_ble_eq_true rfl⟩) ⟨fd_blC, va_recv hK hP (ci := 6) (q0 := 11) rfl fd_WC_11, fd_prC hP hK⟩ rfl rfl hl.1 rfl (lv_room (Nat.le_of_ble_eq_true rfl)) dX6_coveredByBoth_19 ⟨Nat.zero_le _, Nat.zero_le _⟩) hS (fun q _ h => fd_A_mono hS.1 h) (fun q h => fd_A_mono hS.1 h) (fun v12 u t H1 locs ht hvm hw hB hz hk hS => ?_)
  obtain ⟨hP1, hK1⟩ := hB
  rw [ht] at hP1
  obtain ⟨e1, e2⟩ := Prod.mk.inj hw
  subst e1
  subst e2
  obtain ⟨σ13, rfl⟩ : ∃ z, z = u := ⟨_, rfl⟩
  have hP := hP1
  generalize H1 = H at hP hS ⊢
  refine lv_isub hx hb dX6_coveredByBoth_22 ?_
  exact W.iret (v := ((v2 + v7) - v12)) hx hb hr (fun t ht hW => ⟨⟨(v2 + v7) - v12, σ13, rfl, Option.some.inj hf, by rw [ht]; exact hP, va_K.moved hW.alike hK⟩, hS.F ht⟩) hS.2.2 dX6_coveredByBoth_23
noncomputable def f_X10_common_0 (N : Nat) (p1 : Int32) (p2 : Int32) (p3 : Int32) (σ : fd_St) : Option ((Int32 ⊕ String) × fd_St) := fd_bx (f_X10_needNet_0 N p1 σ) (fun _ σ3 => fd_bx (f_X10_needNet_0 N p2 σ3) (fun _ σ9 => fd_bx (f_X10_needGrowth N p3 σ9) (fun _ σ15 => fd_bd (f_X6_coveredByBoth_11 N p1 p2 p3 σ15) (fun v20 σ21 => some (.inl v20, σ21))) (fun E τ => some (.inr E, τ))) (fun E τ => some (.inr E, τ))) (fun E τ => some (.inr E, τ))
set_option maxHeartbeats 4000000 in
set_option maxRecDepth 100000 in
theorem m_X10_common_0 (l : Launch) (hl9 : l.stackTraces = false) (D : va_G) (a : Nat → Nat) (k : Nat → ClassId) (sz : Nat) (hI : fd_I 39 a) (N : Nat) (p1 : Int32) (p2 : Int32) (p3 : Int32) (σ : fd_St) (r : (Int32 ⊕ String) × fd_St) (hf : f_X10_common_0 N p1 p2 p3 σ = some r) : vx_Met l yX10_common wsX10_common ({ frames := 7, cells := fd_mc r, slots := fd_ms r, locals := 111 }) (va_Pc [.ref (a 0), .int p1, .int p2, .int p3] (fd_PZ D a k sz σ)) (va_Qi (fun v u => (Sum.inl v, u) = r) (fd_BC D a k) (fd_A 39 a sz)) (fd_X D a k (fd_A 39 a sz) r) (fd_mc r) (fd_ms r) (fd_A 39 a sz) := by
  refine vx_ofW (cc := cX10_common) (maxL := 4) (ret := (some .int)) (by decide) rfl ?_
  intro p e s m args below meth c s₁ B hml hex hv
  obtain ⟨rfl, ⟨hsz, hP, hK⟩, hZ⟩ := hv
  have hx := B.exec
  have hb := B.bytes
  have hr := B.returns
  have hts := atoms_spec (ws := wsX10_common) B.pre
  have hown : s.vm.findClass RX10 = some m.cls := findClass_of_methodNamed B.named
  have hlocks := B.notSynchronized
  subst hsz
  have hJ : ∀ i, i < 39 → fd_A 39 a s.heap.size (a i) := fun i hi => Or.inl ⟨i, hi, rfl⟩
  have hS : va_S (fd_A 39 a s.heap.size) s.heap s.heap [] := va_S.rf
  have hl := lv_entry ([.ref (a 0), .int p1, .int p2, .int p3]) (n := 4) (Nat.le_of_ble_eq_true rfl)
  rw [lg_entry_eq]
  generalize (lg_sl ([.ref (a 0), .int p1, .int p2, .int p3]) ++ List.replicate (4 - (lg_sl ([.ref (a 0), .int p1, .int p2, .int p3])).length) Slot.unset).toArray = ls at hl ⊢
  have hl : lv_has ls 4 [(0, .ref (a 0)), (1, .int p1), (2, .int p2), (3, .int p3)] := hl
  have h9X10 : ∀ w ∈ u_ws RX10 TX10 8, w ∈ wsX10_common := fd_su [59, 60, 61, 62, 63, 64, 65, 66] (by eq_refl)
  unfold f_X10_common_0 at hf
  refine lv_aload_n hx hb dX10_common_0 rfl (lv_at hl 0 rfl) ?_
  refine lv_iload_n hx hb dX10_common_1 rfl (lv_at hl 1 rfl) ?_
  rcases fd_bxs hf with ⟨w4, τ5, hc1, hf⟩ | ⟨E6, τ5, hc1, hf⟩
  · refine vx_callv (vx_runV (As := [.int p1]) (rest := []) ⟨hx, hb, hml, hown, hts⟩ (m_X10_needNet_0 l hl9 D a k s.heap.size hI N p1 σ _ hc1) (cwV 1 hts gX10_common_X10_needNet rfl rfl rfl (by decide +kernel) ⟨Nat.le_of_ble_eq_true rfl, Nat.le_of_ble_eq_true rfl⟩) ⟨fd_blZ, va_recv hK hP (ci := 10) (q0 := 0) rfl fd_WC_0, fd_prZ hP hK hZ hS⟩ rfl rfl hl.1 rfl (lv_room (Nat.le_of_ble_eq_true rfl)) dX10_common_2 ⟨Nat.zero_le _, Nat.zero_le _⟩) hS (fun q _ h => fd_A_mono hS.1 h) (fun q h => fd_A_mono hS.1 h) (fun q _ h => fd_A_mono hS.1 h) (fun E ce q9 u t H1 locs1 ht hvm hp hB => ?_) (fun u t H1 locs ht hvm hw hB hz hk hS => ?_)
    · exact absurd hB.1 (by simp)
    obtain ⟨hP1, hK1⟩ := hB
    rw [ht] at hP1
    have e2 := (Prod.mk.inj hw).2
    subst e2
    obtain ⟨σ3, rfl⟩ : ∃ z, z = u := ⟨_, rfl⟩
    have hP := hP1
    generalize H1 = H at hP hS ⊢
    refine W.cs (cells' := 0) (slots' := 0) rfl rfl ?_
    refine lv_aload_n hx hb dX10_common_5 rfl (lv_at hl 0 rfl) ?_
    refine lv_iload_n hx hb dX10_common_6 rfl (lv_at hl 2 rfl) ?_
    rcases fd_bxs hf with ⟨w10, τ11, hc7, hf⟩ | ⟨E12, τ11, hc7, hf⟩
    · refine vx_callv (vx_runV (As := [.int p2]) (rest := []) ⟨hx, hb, hml, hown, hts⟩ (m_X10_needNet_0 l hl9 D a k H.size hI N p2 σ3 _ hc7) (cwV 1 hts gX10_common_X10_needNet rfl rfl rfl (by decide +kernel) ⟨Nat.le_of_ble_eq_true rfl, Nat.le_of_ble_eq_true rfl⟩) ⟨fd_blZ, va_recv hK hP (ci := 10) (q0 := 0) rfl fd_WC_0, fd_prZ hP hK hZ hS⟩ rfl rfl hl.1 rfl (lv_room (Nat.le_of_ble_eq_true rfl)) dX10_common_7 ⟨Nat.zero_le _, Nat.zero_le _⟩) hS (fun q _ h => fd_A_mono hS.1 h) (fun q h => fd_A_mono hS.1 h) (fun q _ h => fd_A_mono hS.1 h) (fun E ce q9 u t H1 locs1 ht hvm hp hB => ?_) (fun u t H1 locs ht hvm hw hB hz hk hS => ?_)
      · exact absurd hB.1 (by simp)
      obtain ⟨hP1, hK1⟩ := hB
      rw [ht] at hP1
      have e2 := (Prod.mk.inj hw).2
      subst e2
      obtain ⟨σ9, rfl⟩ : ∃ z, z = u := ⟨_, rfl⟩
      have hP := hP1
      generalize H1 = H at hP hS ⊢
      refine W.cs (cells' := 0) (slots' := 0) rfl rfl ?_
      refine lv_iload_n hx hb dX10_common_10 rfl (lv_at hl 3 rfl) ?_
      rcases fd_bxs hf with ⟨w16, τ17, hc13, hf⟩ | ⟨E18, τ17, hc13, hf⟩
      · refine vx_callv (vx_runS (As := [.int p3]) (rest := []) ⟨hx, hb, hml, hown, hts⟩ (m_X10_needGrowth l hl9 D a k H.size hI N p3 σ9 _ hc13) (va_cwS 1 hts gX10_common_X10_needGrowth rfl rfl rfl (by decide +kernel) ⟨Nat.le_of_ble_eq_true rfl, Nat.le_of_ble_eq_true rfl⟩) ⟨fd_blZ, fd_prZ hP hK hZ hS⟩ rfl rfl hl.1 rfl (lv_room (Nat.le_of_ble_eq_true rfl)) dX10_common_11 ⟨Nat.zero_le _, Nat.zero_le _⟩) hS (fun q _ h => fd_A_mono hS.1 h) (fun q h => fd_A_mono hS.1 h) (fun q _ h => fd_A_mono hS.1 h) (fun E ce q9 u t H1 locs1 ht hvm hp hB => ?_) (fun u t H1 locs ht hvm hw hB hz hk hS => ?_)
        · exact absurd hB.1 (by simp)
        obtain ⟨hP1, hK1⟩ := hB
        rw [ht] at hP1
        have e2 := (Prod.mk.inj hw).2
        subst e2
        obtain ⟨σ15, rfl⟩ : ∃ z, z = u := ⟨_, rfl⟩
        have hP := hP1
        generalize H1 = H at hP hS ⊢
        refine W.cs (cells' := 0) (slots' := 0) rfl rfl ?_
        refine lv_aload_n hx hb dX10_common_14 rfl (lv_at hl 0 rfl) ?_
        refine va_get (ci := 10) (v := .ref (a 11)) (C := RX10) (T := TX10) (N := 8) hx hb hts h9X10 hown hK hP 0 fd_WC_0 rfl 6 (by decide) (hts (.fieldLink RX10 56 "FailDiagnose" "shapes" "LFailDiagnose$Shapes;") (List.mem_of_getElem? (i := 1) (by eq_refl))) (fun _ h9 => h9) rfl dX10_common_15 ?_
        refine lv_iload_n hx hb dX10_common_18 rfl (lv_at hl 1 rfl) ?_
        refine lv_iload_n hx hb dX10_common_19 rfl (lv_at hl 2 rfl) ?_
        refine lv_iload_n hx hb dX10_common_20 rfl (lv_at hl 3 rfl) ?_
        obtain ⟨w22, τ23, hc19, hf⟩ := fd_bds hf
        refine va_calli (va_runV (As := [.int p1, .int p2, .int p3]) (rest := []) ⟨hx, hb, hml, hown, hts⟩ (m_X6_coveredByBoth_11 l D a k H.size hI N p1 p2 p3 σ15 _ hc19) (cwV 3 hts gX10_common_X6_coveredByBoth rfl rfl rfl (by decide +kernel) ⟨Nat.le_of_ble_eq_true rfl, Nat.le_of_ble_eq_true rfl⟩) ⟨fd_blC, va_recv hK hP (ci := 6) (q0 := 11) rfl fd_WC_11, fd_prC hP hK⟩ rfl rfl hl.1 rfl (lv_room (Nat.le_of_ble_eq_true rfl)) dX10_common_21 ⟨Nat.zero_le _, Nat.zero_le _⟩) hS (fun q _ h => fd_A_mono hS.1 h) (fun q h => fd_A_mono hS.1 h) (fun v20 u t H1 locs ht hvm hw hB hz hk hS => ?_)
        obtain ⟨hP1, hK1⟩ := hB
        rw [ht] at hP1
        obtain ⟨e1, e2⟩ := Prod.mk.inj hw
        subst e1
        subst e2
        obtain ⟨σ21, rfl⟩ : ∃ z, z = u := ⟨_, rfl⟩
        have hP := hP1
        generalize H1 = H at hP hS ⊢
        refine vx_ret (W.widen (k := fd_mc r) (n := fd_ms r) (Nat.zero_le _) (Nat.zero_le _) ?_)
        exact W.iret (v := v20) hx hb hr (fun t ht hW => ⟨⟨v20, σ21, rfl, Option.some.inj hf, by rw [ht]; exact hP, va_K.moved hW.alike hK⟩, hS.F ht⟩) hS.2.2 dX10_common_24
      · have er := Option.some.inj hf
        subst er
        refine vx_callv (vx_runS (As := [.int p3]) (rest := []) ⟨hx, hb, hml, hown, hts⟩ (m_X10_needGrowth l hl9 D a k H.size hI N p3 σ9 _ hc13) (va_cwS 1 hts gX10_common_X10_needGrowth rfl rfl rfl (by decide +kernel) ⟨Nat.le_of_ble_eq_true rfl, Nat.le_of_ble_eq_true rfl⟩) ⟨fd_blZ, fd_prZ hP hK hZ hS⟩ rfl rfl hl.1 rfl (lv_room (Nat.le_of_ble_eq_true rfl)) dX10_common_11 ⟨Nat.le_of_ble_eq_true rfl, Nat.le_of_ble_eq_true rfl⟩) hS (fun q _ h => fd_A_mono hS.1 h) (fun q h => fd_A_mono hS.1 h) (fun q _ h => fd_A_mono hS.1 h) (fun E ce q9 u t H1 locs1 ht hvm hp hB hz hk hS hce hcv hcl => ?_) (fun u t H1 locs ht hvm hw hB hz hk hS => ?_)
        · obtain ⟨hB0, hP1, hK1⟩ := hB
          rw [ht] at hP1
          exact vx_out (E := E) (fun x hx => (hex x hx).elim) hlocks hce hcv hcl (fun t ht ha => ⟨u, trivial, ⟨fd_inr hB0, by rw [ht]; exact hP1, va_K.moved ha hK⟩, hS.F ht⟩) hS.2.2 (Nat.le_of_ble_eq_true rfl) (Nat.le_of_ble_eq_true rfl)
        · exact absurd hw (by simp)
    · have er := Option.some.inj hf
      subst er
      refine vx_callv (vx_runV (As := [.int p2]) (rest := []) ⟨hx, hb, hml, hown, hts⟩ (m_X10_needNet_0 l hl9 D a k H.size hI N p2 σ3 _ hc7) (cwV 1 hts gX10_common_X10_needNet rfl rfl rfl (by decide +kernel) ⟨Nat.le_of_ble_eq_true rfl, Nat.le_of_ble_eq_true rfl⟩) ⟨fd_blZ, va_recv hK hP (ci := 10) (q0 := 0) rfl fd_WC_0, fd_prZ hP hK hZ hS⟩ rfl rfl hl.1 rfl (lv_room (Nat.le_of_ble_eq_true rfl)) dX10_common_7 ⟨Nat.le_of_ble_eq_true rfl, Nat.le_of_ble_eq_true rfl⟩) hS (fun q _ h => fd_A_mono hS.1 h) (fun q h => fd_A_mono hS.1 h) (fun q _ h => fd_A_mono hS.1 h) (fun E ce q9 u t H1 locs1 ht hvm hp hB hz hk hS hce hcv hcl => ?_) (fun u t H1 locs ht hvm hw hB hz hk hS => ?_)
      · obtain ⟨hB0, hP1, hK1⟩ := hB
        rw [ht] at hP1
        exact vx_out (E := E) (fun x hx => (hex x hx).elim) hlocks hce hcv hcl (fun t ht ha => ⟨u, trivial, ⟨fd_inr hB0, by rw [ht]; exact hP1, va_K.moved ha hK⟩, hS.F ht⟩) hS.2.2 (Nat.le_of_ble_eq_true rfl) (Nat.le_of_ble_eq_true rfl)
      · exact absurd hw (by simp)
  · have er := Option.some.inj hf
    subst er
    refine vx_callv (vx_runV (As := [.int p1]) (rest := []) ⟨hx, hb, hml, hown, hts⟩ (m_X10_needNet_0 l hl9 D a k s.heap.size hI N p1 σ _ hc1) (cwV 1 hts gX10_common_X10_needNet rfl rfl rfl (by decide +kernel) ⟨Nat.le_of_ble_eq_true rfl, Nat.le_of_ble_eq_true rfl⟩) ⟨fd_blZ, va_recv hK hP (ci := 10) (q0 := 0) rfl fd_WC_0, fd_prZ hP hK hZ hS⟩ rfl rfl hl.1 rfl (lv_room (Nat.le_of_ble_eq_true rfl)) dX10_common_2 ⟨Nat.le_of_ble_eq_true rfl, Nat.le_of_ble_eq_true rfl⟩) hS (fun q _ h => fd_A_mono hS.1 h) (fun q h => fd_A_mono hS.1 h) (fun q _ h => fd_A_mono hS.1 h) (fun E ce q9 u t H1 locs1 ht hvm hp hB hz hk hS hce hcv hcl => ?_) (fun u t H1 locs ht hvm hw hB hz hk hS => ?_)
    · obtain ⟨hB0, hP1, hK1⟩ := hB
      rw [ht] at hP1
      exact vx_out (E := E) (fun x hx => (hex x hx).elim) hlocks hce hcv hcl (fun t ht ha => ⟨u, trivial, ⟨fd_inr hB0, by rw [ht]; exact hP1, va_K.moved ha hK⟩, hS.F ht⟩) hS.2.2 (Nat.le_of_ble_eq_true rfl) (Nat.le_of_ble_eq_true rfl)
    · exact absurd hw (by simp)
noncomputable def f_L_common_0_39 (N : Nat) (p1 : Int32) (p2 : Int32) (p3 : Int32) (σ : fd_St) : Option (Int32 × fd_St) := fd_bx (f_X10_common_0 N p1 p2 p3 σ) (fun v2 τ => fd_lt (fd_mix τ σ) (fun σ6 => fd_gd (vp_in (0 : Int32) 1) (fd_lt (fd_sL 39 (0 : Int32) v2.toInt64 σ6) (fun σ9 => some ((0 : Int32), σ9))))) (fun E τ => if E = "java/lang/IndexOutOfBoundsException" then (fd_lt (fd_mix τ σ) (fun σ11 => some ((1 : Int32), σ11))) else (if E = "java/lang/IllegalArgumentException" then (fd_lt (fd_mix τ σ) (fun σ13 => some ((2 : Int32), σ13))) else (none)))
set_option maxHeartbeats 4000000 in
set_option maxRecDepth 100000 in
theorem m_L_common_0_39 (l : Launch) (hl9 : l.stackTraces = false) (D : va_G) (a : Nat → Nat) (k : Nat → ClassId) (sz : Nat) (hI : fd_I 40 a) (N : Nat) (p1 : Int32) (p2 : Int32) (p3 : Int32) (σ : fd_St) (r : Int32 × fd_St) (hf : f_L_common_0_39 N p1 p2 p3 σ = some r) : Met l yL_common wsL_common ({ frames := 8, cells := 1, slots := 6, locals := 134 }) (va_Pc [.ref (a 0), .int p1, .int p2, .int p3, .ref (a 39)] (fd_PH D a k sz σ)) (va_Qi (fun v u => (v, u) = r) (fd_BH D a k) (fd_A 40 a sz)) 1 6 (fd_A 40 a sz) := by
  refine fd_ofWT (cc := cL_common) (maxL := 6) (ret := (some .int)) (by decide) rfl ?_
  intro p e s m args below meth c s₁ B hml hTab hv
  obtain ⟨rfl, hsz, hP, hK, hZ⟩ := hv
  have hx := B.exec
  have hb := B.bytes
  have hr := B.returns
  have hts := atoms_spec (ws := wsL_common) B.pre
  have hown : s.vm.findClass RL = some m.cls := findClass_of_methodNamed B.named
  have hlocks := B.notSynchronized
  subst hsz
  have hJ : ∀ i, i < 40 → fd_A 40 a s.heap.size (a i) := fun i hi => Or.inl ⟨i, hi, rfl⟩
  have hS : va_S (fd_A 40 a s.heap.size) s.heap s.heap [] := va_S.rf
  have hl := lv_entry ([.ref (a 0), .int p1, .int p2, .int p3, .ref (a 39)]) (n := 6) (Nat.le_of_ble_eq_true rfl)
  rw [lg_entry_eq]
  generalize (lg_sl ([.ref (a 0), .int p1, .int p2, .int p3, .ref (a 39)]) ++ List.replicate (6 - (lg_sl ([.ref (a 0), .int p1, .int p2, .int p3, .ref (a 39)])).length) Slot.unset).toArray = ls at hl ⊢
  have hl : lv_has ls 6 [(0, .ref (a 0)), (1, .int p1), (2, .int p2), (3, .int p3), (4, .ref (a 39))] := hl
  unfold f_L_common_0_39 at hf
  refine lv_aload hx hb dL_common_0 (lv_at hl 4 rfl) ?_
  refine lv_iconst (v := (0 : Int32)) hx hb dL_common_2 (by decide) ?_
  refine lv_aload_n hx hb dL_common_3 rfl (lv_at hl 0 rfl) ?_
  refine lv_iload_n hx hb dL_common_4 rfl (lv_at hl 1 rfl) ?_
  refine lv_iload_n hx hb dL_common_5 rfl (lv_at hl 2 rfl) ?_
  refine lv_iload_n hx hb dL_common_6 rfl (lv_at hl 3 rfl) ?_
  rcases fd_bxs hf with ⟨w3, τ4, hc1, hf⟩ | ⟨E5, τ4, hc1, hf⟩
  · refine vx_calli (vx_runV (As := [.int p1, .int p2, .int p3]) (rest := [.int (0 : Int32), .ref (a 39)]) ⟨hx, hb, hml, hown, hts⟩ (m_X10_common_0 l hl9 D a k s.heap.size (fd_I40 hI) N p1 p2 p3 σ _ hc1) (cwV 3 hts gL_common_X10_common rfl rfl rfl (by decide +kernel) ⟨Nat.le_of_ble_eq_true rfl, Nat.le_of_ble_eq_true rfl⟩) ⟨fd_blZ, va_recv (fd_HK hK) (fd_HC hP) (ci := 10) (q0 := 0) rfl fd_WC_0, fd_prHZ hP hK hZ hS⟩ rfl rfl hl.1 rfl (lv_room (Nat.le_of_ble_eq_true rfl)) dL_common_7 ⟨(Nat.zero_le _), (Nat.zero_le _)⟩) hS (fun q _ h => fd_A_sub hS.1 h) (fun q h => fd_A_sub hS.1 h) (fun q _ h => fd_A_sub hS.1 h) (fun E ce q9 u t H1 locs1 ht hvm hp hB => ?_) (fun v2 u t H1 locs ht hvm hw hB hz hk hS => ?_)
    · exact absurd hB.1 (by simp)
    obtain ⟨hP1, hK1⟩ := hB
    rw [ht] at hP1
    obtain ⟨e1, e2⟩ := Prod.mk.inj hw
    obtain e1 := Sum.inl.inj e1
    subst e1
    subst e2
    obtain ⟨σ6, eσ6, hf⟩ := fd_lts hf
    have hP : va_P D vwCl (fd_WH a k σ6) H1 := by rw [eσ6]; exact fd_HJ hI hP hP1 hk
    generalize H1 = H at hP hS ⊢
    refine W.cs (cells' := 0) (slots' := 0) rfl rfl ?_
    refine lv_i2l hx hb dL_common_10 rfl ?_
    obtain ⟨g8, hf⟩ := fd_gds hf
    obtain ⟨σ9, eσ9, hf⟩ := fd_lts hf
    refine va_last hx hb hK hP (fd_DH hI hJ) hS 39 27 fd_WH_39 fd_tyH_39 g8 dL_common_11 (fun H locs hP _ hS => ?_)
    have hP : va_P D vwCl (fd_WH a k σ9) H := by rw [eσ9]; exact fd_sP fd_WHa_39 hP
    refine lv_goto (tgt := 23) hx hb dL_common_12 (by decide) ?_
    refine lv_iconst (v := (0 : Int32)) hx hb dL_common_23 (by decide) ?_
    refine W.widen (k := 1) (n := 6) (Nat.le_of_ble_eq_true rfl) (Nat.le_of_ble_eq_true rfl) ?_
    exact W.iret (v := (0 : Int32)) hx hb hr (fun t ht hW => ⟨⟨(0 : Int32), σ9, rfl, Option.some.inj hf, by rw [ht]; exact hP, va_K.moved hW.alike hK⟩, hS.F ht⟩) hS.2.2 dL_common_24
  · have hE := hf
    by_cases c10 : E5 = "java/lang/IndexOutOfBoundsException"
    · subst c10
      have hf := fd_itp rfl hf
      refine vx_calli (vx_runV (As := [.int p1, .int p2, .int p3]) (rest := [.int (0 : Int32), .ref (a 39)]) ⟨hx, hb, hml, hown, hts⟩ (m_X10_common_0 l hl9 D a k s.heap.size (fd_I40 hI) N p1 p2 p3 σ _ hc1) (cwV 3 hts gL_common_X10_common rfl rfl rfl (by decide +kernel) ⟨Nat.le_of_ble_eq_true rfl, Nat.le_of_ble_eq_true rfl⟩) ⟨fd_blZ, va_recv (fd_HK hK) (fd_HC hP) (ci := 10) (q0 := 0) rfl fd_WC_0, fd_prHZ hP hK hZ hS⟩ rfl rfl hl.1 rfl (lv_room (Nat.le_of_ble_eq_true rfl)) dL_common_7 ⟨Nat.le_of_ble_eq_true rfl, Nat.le_of_ble_eq_true rfl⟩) hS (fun q _ h => fd_A_sub hS.1 h) (fun q h => fd_A_sub hS.1 h) (fun q _ h => fd_A_sub hS.1 h) (fun E ce q9 u t H1 locs1 ht hvm hp hB hz hk hS hce hcv hcl => ?_) (fun v2 u t H1 locs ht hvm hw hB hz hk hS => ?_)
      · obtain ⟨hB0, hP1, hK1⟩ := hB
        rw [ht] at hP1
        obtain ⟨e1, e2⟩ := Prod.mk.inj hB0
        obtain e1 := Sum.inr.inj e1
        subst e1
        subst e2
        obtain ⟨σ11, eσ11, hf⟩ := fd_lts hf
        have hP : va_P D vwCl (fd_WH a k σ11) H1 := by rw [eσ11]; exact fd_HJ hI hP hP1 hk
        refine fd_catch (own := RL) (name := "java/lang/IndexOutOfBoundsException") (E := "java/lang/IndexOutOfBoundsException") hown [] ⟨0, 12, 15, 19⟩ [⟨0, 12, 19, 21⟩] (by rw [hTab]; rfl) (fun z hz => nomatch hz) (by decide) (by decide) (hts (.classLink RL 19 "java/lang/IndexOutOfBoundsException") (List.mem_of_getElem? (i := 1) (by eq_refl))) (hZ.cast "java/lang/IndexOutOfBoundsException" (by decide +kernel)) hce hcv hcl ?_
        refine W.cs (cells' := 1) (slots' := 6) rfl rfl ?_
        refine lv_astore (lv' := [(5, .ref q9), (0, .ref (a 0)), (1, .int p1), (2, .int p2), (3, .int p3), (4, .ref (a 39))]) hx hb dL_common_15 hl (by decide) rfl (fun ls hl => ?_)
        refine lv_iconst (v := (1 : Int32)) hx hb dL_common_17 (by decide) ?_
        refine W.widen (k := 1) (n := 6) (Nat.le_of_ble_eq_true rfl) (Nat.le_of_ble_eq_true rfl) ?_
        exact W.iret (v := (1 : Int32)) hx hb hr (fun t ht hW => ⟨⟨(1 : Int32), σ11, rfl, Option.some.inj hf, by rw [ht]; exact hP, va_K.moved hW.alike hK⟩, hS.F ht⟩) hS.2.2 dL_common_18
      · exact absurd hw (by simp)
    have hf := fd_itn c10 hf
    by_cases c12 : E5 = "java/lang/IllegalArgumentException"
    · subst c12
      have hf := fd_itp rfl hf
      refine vx_calli (vx_runV (As := [.int p1, .int p2, .int p3]) (rest := [.int (0 : Int32), .ref (a 39)]) ⟨hx, hb, hml, hown, hts⟩ (m_X10_common_0 l hl9 D a k s.heap.size (fd_I40 hI) N p1 p2 p3 σ _ hc1) (cwV 3 hts gL_common_X10_common rfl rfl rfl (by decide +kernel) ⟨Nat.le_of_ble_eq_true rfl, Nat.le_of_ble_eq_true rfl⟩) ⟨fd_blZ, va_recv (fd_HK hK) (fd_HC hP) (ci := 10) (q0 := 0) rfl fd_WC_0, fd_prHZ hP hK hZ hS⟩ rfl rfl hl.1 rfl (lv_room (Nat.le_of_ble_eq_true rfl)) dL_common_7 ⟨Nat.le_of_ble_eq_true rfl, Nat.le_of_ble_eq_true rfl⟩) hS (fun q _ h => fd_A_sub hS.1 h) (fun q h => fd_A_sub hS.1 h) (fun q _ h => fd_A_sub hS.1 h) (fun E ce q9 u t H1 locs1 ht hvm hp hB hz hk hS hce hcv hcl => ?_) (fun v2 u t H1 locs ht hvm hw hB hz hk hS => ?_)
      · obtain ⟨hB0, hP1, hK1⟩ := hB
        rw [ht] at hP1
        obtain ⟨e1, e2⟩ := Prod.mk.inj hB0
        obtain e1 := Sum.inr.inj e1
        subst e1
        subst e2
        obtain ⟨σ13, eσ13, hf⟩ := fd_lts hf
        have hP : va_P D vwCl (fd_WH a k σ13) H1 := by rw [eσ13]; exact fd_HJ hI hP hP1 hk
        refine fd_catch (own := RL) (name := "java/lang/IllegalArgumentException") (E := "java/lang/IllegalArgumentException") hown [⟨0, 12, 15, 19⟩] ⟨0, 12, 19, 21⟩ [] (by rw [hTab]; rfl) (fun z hz => by
            rcases List.mem_cons.mp hz with rfl | hz
            · exact ⟨by decide, by decide, "java/lang/IndexOutOfBoundsException", hts (.classLink RL 19 "java/lang/IndexOutOfBoundsException") (by decide +kernel), hZ.nc "java/lang/IllegalArgumentException" "java/lang/IndexOutOfBoundsException" (by decide +kernel)⟩
            cases hz) (by decide) (by decide) (hts (.classLink RL 21 "java/lang/IllegalArgumentException") (List.mem_of_getElem? (i := 2) (by eq_refl))) (hZ.cast "java/lang/IllegalArgumentException" (by decide +kernel)) hce hcv hcl ?_
        refine W.cs (cells' := 1) (slots' := 6) rfl rfl ?_
        refine lv_astore (lv' := [(5, .ref q9), (0, .ref (a 0)), (1, .int p1), (2, .int p2), (3, .int p3), (4, .ref (a 39))]) hx hb dL_common_19 hl (by decide) rfl (fun ls hl => ?_)
        refine lv_iconst (v := (2 : Int32)) hx hb dL_common_21 (by decide) ?_
        refine W.widen (k := 1) (n := 6) (Nat.le_of_ble_eq_true rfl) (Nat.le_of_ble_eq_true rfl) ?_
        exact W.iret (v := (2 : Int32)) hx hb hr (fun t ht hW => ⟨⟨(2 : Int32), σ13, rfl, Option.some.inj hf, by rw [ht]; exact hP, va_K.moved hW.alike hK⟩, hS.F ht⟩) hS.2.2 dL_common_22
      · exact absurd hw (by simp)
    have hf := fd_itn c12 hf
    cases hf
noncomputable def f_X11_common_0_J42 (N : Nat) (y1 : Int32) (y2 : Int32) (y3 : Int32) (z1 : Int32) (σ : fd_St) : Option (Int32 × fd_St) := fd_lt (fd_sI 0 z1 σ) (fun σ7 => if (σ7.1 0) ≤ 0 then (fd_bd (f_X11_areaOf_0 N y1 y2 y3 σ7) (fun v10 σ11 => some (v10, σ11))) else (some ((0 : Int32), σ7)))
noncomputable def f_X11_common_0_J23 (N : Nat) (y1 : Int32) (y2 : Int32) (y3 : Int32) (σ : fd_St) : Option (Int32 × fd_St) := f_X11_common_0_J42 N y1 y2 y3 (1 : Int32) σ
noncomputable def f_X11_common_0_J37 (N : Nat) (y1 : Int32) (y2 : Int32) (y3 : Int32) (σ : fd_St) : Option (Int32 × fd_St) := f_X11_common_0_J42 N y1 y2 y3 (2 : Int32) σ
noncomputable def f_X11_common_0 (N : Nat) (p1 : Int32) (p2 : Int32) (p3 : Int32) (σ : fd_St) : Option (Int32 × fd_St) := fd_bd (f_X11_isIn N p1 (σ.1 1) σ) (fun v2 σ3 => if v2 = 0 then (f_X11_common_0_J23 N p1 p2 p3 σ3) else (fd_bd (f_X11_isIn N p2 (σ3.1 1) σ3) (fun v15 σ16 => if v15 = 0 then (f_X11_common_0_J23 N p1 p2 p3 σ16) else (if p3 < 0 then (f_X11_common_0_J37 N p1 p2 p3 σ16) else (if p3 ≤ (100 : Int32) then (f_X11_common_0_J42 N p1 p2 p3 (0 : Int32) σ16) else (f_X11_common_0_J37 N p1 p2 p3 σ16))))))
set_option maxHeartbeats 4000000 in
set_option maxRecDepth 100000 in
theorem m_X11_common_0 (l : Launch) (D : va_G) (a : Nat → Nat) (k : Nat → ClassId) (sz : Nat) (hI : fd_I 29 a) (N : Nat) (p1 : Int32) (p2 : Int32) (p3 : Int32) (σ : fd_St) (r : Int32 × fd_St) (hf : f_X11_common_0 N p1 p2 p3 σ = some r) : Met l yX11_common wsX11_common ({ frames := 2, cells := 0, slots := 0, locals := 53 }) (va_Pc [.ref (a 0), .int p1, .int p2, .int p3] (fd_PM D a k sz σ)) (va_Qi (fun v u => (v, u) = r) (fd_BM D a k) (fd_A 29 a sz)) 0 0 (fd_A 29 a sz) := by
  refine Met.ofW (cc := cX11_common) (maxL := 4) (ret := (some .int)) (by decide) rfl ?_
  intro p e s m args below meth c s₁ B hml hv
  obtain ⟨rfl, hsz, hP, hK⟩ := hv
  have hx := B.exec
  have hb := B.bytes
  have hr := B.returns
  have hts := atoms_spec (ws := wsX11_common) B.pre
  have hown : s.vm.findClass RX11 = some m.cls := findClass_of_methodNamed B.named
  have hlocks := B.notSynchronized
  subst hsz
  have hJ : ∀ i, i < 29 → fd_A 29 a s.heap.size (a i) := fun i hi => Or.inl ⟨i, hi, rfl⟩
  have hS : va_S (fd_A 29 a s.heap.size) s.heap s.heap [] := va_S.rf
  have hl := lv_entry ([.ref (a 0), .int p1, .int p2, .int p3]) (n := 4) (Nat.le_of_ble_eq_true rfl)
  rw [lg_entry_eq]
  generalize (lg_sl ([.ref (a 0), .int p1, .int p2, .int p3]) ++ List.replicate (4 - (lg_sl ([.ref (a 0), .int p1, .int p2, .int p3])).length) Slot.unset).toArray = ls at hl ⊢
  have hl : lv_has ls 4 [(0, .ref (a 0)), (1, .int p1), (2, .int p2), (3, .int p3)] := hl
  have h9X11 : ∀ w ∈ u_ws RX11 TX11 43, w ∈ wsX11_common := fd_su [26, 27, 28, 29, 30, 31, 32, 33, 34, 35, 36, 37, 38, 39, 40, 41, 42, 43, 44, 45, 46, 47, 48, 49, 50, 51, 52, 53, 54, 55, 56, 57, 58, 59, 60, 61, 62, 63, 64, 65, 66, 67, 68] (by eq_refl)
  have hL42 : ∀ (y1 : Int32) (y2 : Int32) (y3 : Int32) (z1 : Int32) (σ : fd_St) (H : Heap) (locs : List Loc) (ls : Array Slot), va_P D vwCl (fd_WM a k σ) H → va_S (fd_A 29 a s.heap.size) s.heap H locs → lv_has ls 4 [(0, .ref (a 0)), (1, .int y1), (2, .int y2), (3, .int y3)] → f_X11_common_0_J42 N y1 y2 y3 z1 σ = some r → W p l e ((headSpec wsX11_common ({ frames := 2, cells := 0, slots := 0, locals := 53 })).room) s m ([.ref (a 0), .int p1, .int p2, .int p3].toArray) below meth c H locs 0 0 (MQ below (va_Qi (fun v u => (v, u) = r) (fd_BM D a k) (fd_A 29 a s.heap.size)) ([.ref (a 0), .int p1, .int p2, .int p3].toArray) s 0 0 (fd_A 29 a s.heap.size)) (F0 m 42 ls [.int z1, .ref (a 0)]) := by
    intro y1 y2 y3 z1 σ H locs ls hP hS hl hf
    unfold f_X11_common_0_J42 at hf
    obtain ⟨σ7, eσ7, hf⟩ := fd_lts hf
    refine va_put (ci := 11) (v := .int z1) (ty := .int) (C := RX11) (T := TX11) (N := 43) hx hb hts h9X11 tyX11 tyX11_ok nmX11 hown hK hP (fd_DM hI hJ) hS 0 fd_WM_0 rfl 0 (by decide) (hts (.fieldLink RX11 99 "FailDiagnoseModel" "thrown" "I") (List.mem_of_getElem? (i := 2) (by eq_refl))) (fun _ h9 => h9) rfl (by decide +kernel) rfl rfl (Nat.le_of_ble_eq_true rfl) dX11_common_42 (fun H locs hP _ hS => ?_)
    have hP : va_P D vwCl (fd_WM a k σ7) H := by rw [eσ7]; exact fd_sP fd_WMi_0 hP
    refine lv_aload_n hx hb dX11_common_45 rfl (lv_at hl 0 rfl) ?_
    refine va_get (ci := 11) (v := .int (σ7.1 0)) (C := RX11) (T := TX11) (N := 43) hx hb hts h9X11 hown hK hP 0 fd_WM_0 rfl 0 (by decide) (hts (.fieldLink RX11 99 "FailDiagnoseModel" "thrown" "I") (List.mem_of_getElem? (i := 2) (by eq_refl))) (fun _ h9 => h9) rfl dX11_common_46 ?_
    refine lv_if_le (tgt := 56) hx hb dX11_common_49 (by decide) (fun c8 => ?_) (fun c8 => ?_)
    · have hf := fd_itp c8 hf
      refine lv_aload_n hx hb dX11_common_56 rfl (lv_at hl 0 rfl) ?_
      refine lv_iload_n hx hb dX11_common_57 rfl (lv_at hl 1 rfl) ?_
      refine lv_iload_n hx hb dX11_common_58 rfl (lv_at hl 2 rfl) ?_
      refine lv_iload_n hx hb dX11_common_59 rfl (lv_at hl 3 rfl) ?_
      obtain ⟨w12, τ13, hc9, hf⟩ := fd_bds hf
      refine va_calli (va_runV (As := [.int y1, .int y2, .int y3]) (rest := []) ⟨hx, hb, hml, hown, hts⟩ (m_X11_areaOf_0 l D a k H.size hI N y1 y2 y3 σ7 _ hc9) (cwV 3 hts gX11_common_X11_areaOf rfl rfl rfl (by decide +kernel) ⟨Nat.le_of_ble_eq_true rfl, Nat.le_of_ble_eq_true rfl⟩) ⟨fd_blM, va_recv hK hP (ci := 11) (q0 := 0) rfl fd_WM_0, fd_prM hP hK⟩ rfl rfl hl.1 rfl (lv_room (Nat.le_of_ble_eq_true rfl)) dX11_common_60 ⟨Nat.zero_le _, Nat.zero_le _⟩) hS (fun q _ h => fd_A_mono hS.1 h) (fun q h => fd_A_mono hS.1 h) (fun v10 u t H1 locs ht hvm hw hB hz hk hS => ?_)
      obtain ⟨hP1, hK1⟩ := hB
      rw [ht] at hP1
      obtain ⟨e1, e2⟩ := Prod.mk.inj hw
      subst e1
      subst e2
      obtain ⟨σ11, rfl⟩ : ∃ z, z = u := ⟨_, rfl⟩
      have hP := hP1
      generalize H1 = H at hP hS ⊢
      exact W.iret (v := v10) hx hb hr (fun t ht hW => ⟨⟨v10, σ11, rfl, Option.some.inj hf, by rw [ht]; exact hP, va_K.moved hW.alike hK⟩, hS.F ht⟩) hS.2.2 dX11_common_63
    · have hf := fd_itn c8 hf
      refine lv_iconst (v := (0 : Int32)) hx hb dX11_common_52 (by decide) ?_
      refine lv_goto (tgt := 63) hx hb dX11_common_53 (by decide) ?_
      exact W.iret (v := (0 : Int32)) hx hb hr (fun t ht hW => ⟨⟨(0 : Int32), σ7, rfl, Option.some.inj hf, by rw [ht]; exact hP, va_K.moved hW.alike hK⟩, hS.F ht⟩) hS.2.2 dX11_common_63
  have hL23 : ∀ (y1 : Int32) (y2 : Int32) (y3 : Int32) (σ : fd_St) (H : Heap) (locs : List Loc) (ls : Array Slot), va_P D vwCl (fd_WM a k σ) H → va_S (fd_A 29 a s.heap.size) s.heap H locs → lv_has ls 4 [(0, .ref (a 0)), (1, .int y1), (2, .int y2), (3, .int y3)] → f_X11_common_0_J23 N y1 y2 y3 σ = some r → W p l e ((headSpec wsX11_common ({ frames := 2, cells := 0, slots := 0, locals := 53 })).room) s m ([.ref (a 0), .int p1, .int p2, .int p3].toArray) below meth c H locs 0 0 (MQ below (va_Qi (fun v u => (v, u) = r) (fd_BM D a k) (fd_A 29 a s.heap.size)) ([.ref (a 0), .int p1, .int p2, .int p3].toArray) s 0 0 (fd_A 29 a s.heap.size)) (F0 m 23 ls [.ref (a 0)]) := by
    intro y1 y2 y3 σ H locs ls hP hS hl hf
    unfold f_X11_common_0_J23 at hf
    refine lv_iconst (v := (1 : Int32)) hx hb dX11_common_23 (by decide) ?_
    refine lv_goto (tgt := 42) hx hb dX11_common_24 (by decide) ?_
    exact hL42 y1 y2 y3 (1 : Int32) σ _ _ _ hP hS (lv_sub hl [0, 1, 2, 3] rfl) hf
  have hL37 : ∀ (y1 : Int32) (y2 : Int32) (y3 : Int32) (σ : fd_St) (H : Heap) (locs : List Loc) (ls : Array Slot), va_P D vwCl (fd_WM a k σ) H → va_S (fd_A 29 a s.heap.size) s.heap H locs → lv_has ls 4 [(0, .ref (a 0)), (1, .int y1), (2, .int y2), (3, .int y3)] → f_X11_common_0_J37 N y1 y2 y3 σ = some r → W p l e ((headSpec wsX11_common ({ frames := 2, cells := 0, slots := 0, locals := 53 })).room) s m ([.ref (a 0), .int p1, .int p2, .int p3].toArray) below meth c H locs 0 0 (MQ below (va_Qi (fun v u => (v, u) = r) (fd_BM D a k) (fd_A 29 a s.heap.size)) ([.ref (a 0), .int p1, .int p2, .int p3].toArray) s 0 0 (fd_A 29 a s.heap.size)) (F0 m 37 ls [.ref (a 0)]) := by
    intro y1 y2 y3 σ H locs ls hP hS hl hf
    unfold f_X11_common_0_J37 at hf
    refine lv_iconst (v := (2 : Int32)) hx hb dX11_common_37 (by decide) ?_
    refine lv_goto (tgt := 42) hx hb dX11_common_38 (by decide) ?_
    exact hL42 y1 y2 y3 (2 : Int32) σ _ _ _ hP hS (lv_sub hl [0, 1, 2, 3] rfl) hf
  unfold f_X11_common_0 at hf
  refine lv_aload_n hx hb dX11_common_0 rfl (lv_at hl 0 rfl) ?_
  refine lv_iload_n hx hb dX11_common_1 rfl (lv_at hl 1 rfl) ?_
  refine lv_aload_n hx hb dX11_common_2 rfl (lv_at hl 0 rfl) ?_
  refine va_get (ci := 11) (v := .int (σ.1 1)) (C := RX11) (T := TX11) (N := 43) hx hb hts h9X11 hown hK hP 0 fd_WM_0 rfl 1 (by decide) (hts (.fieldLink RX11 113 "FailDiagnoseModel" "nets" "I") (List.mem_of_getElem? (i := 1) (by eq_refl))) (fun _ h9 => h9) rfl dX11_common_3 ?_
  obtain ⟨w4, τ5, hc1, hf⟩ := fd_bds hf
  refine va_calli (va_runS (As := [.int p1, .int (σ.1 1)]) (rest := [.ref (a 0)]) ⟨hx, hb, hml, hown, hts⟩ (m_X11_isIn l D a k s.heap.size hI N p1 (σ.1 1) σ _ hc1) (va_cwS 2 hts gX11_common_X11_isIn rfl rfl rfl (by decide +kernel) ⟨Nat.le_of_ble_eq_true rfl, Nat.le_of_ble_eq_true rfl⟩) ⟨fd_blM, fd_prM hP hK⟩ rfl rfl hl.1 rfl (lv_room (Nat.le_of_ble_eq_true rfl)) dX11_common_6 ⟨Nat.zero_le _, Nat.zero_le _⟩) hS (fun q _ h => fd_A_mono hS.1 h) (fun q h => fd_A_mono hS.1 h) (fun v2 u t H1 locs ht hvm hw hB hz hk hS => ?_)
  obtain ⟨hP1, hK1⟩ := hB
  rw [ht] at hP1
  obtain ⟨e1, e2⟩ := Prod.mk.inj hw
  subst e1
  subst e2
  obtain ⟨σ3, rfl⟩ : ∃ z, z = u := ⟨_, rfl⟩
  have hP := hP1
  generalize H1 = H at hP hS ⊢
  refine lv_if_eq (tgt := 23) hx hb dX11_common_9 (by decide) (fun c6 => ?_) (fun c6 => ?_)
  · have hf := fd_itp c6 hf
    exact hL23 p1 p2 p3 σ3 _ _ _ hP hS (lv_sub hl [0, 1, 2, 3] rfl) hf
  · have hf := fd_itn c6 hf
    refine lv_iload_n hx hb dX11_common_12 rfl (lv_at hl 2 rfl) ?_
    refine lv_aload_n hx hb dX11_common_13 rfl (lv_at hl 0 rfl) ?_
    refine va_get (ci := 11) (v := .int (σ3.1 1)) (C := RX11) (T := TX11) (N := 43) hx hb hts h9X11 hown hK hP 0 fd_WM_0 rfl 1 (by decide) (hts (.fieldLink RX11 113 "FailDiagnoseModel" "nets" "I") (List.mem_of_getElem? (i := 1) (by eq_refl))) (fun _ h9 => h9) rfl dX11_common_14 ?_
    obtain ⟨w17, τ18, hc14, hf⟩ := fd_bds hf
    refine va_calli (va_runS (As := [.int p2, .int (σ3.1 1)]) (rest := [.ref (a 0)]) ⟨hx, hb, hml, hown, hts⟩ (m_X11_isIn l D a k H.size hI N p2 (σ3.1 1) σ3 _ hc14) (va_cwS 2 hts gX11_common_X11_isIn rfl rfl rfl (by decide +kernel) ⟨Nat.le_of_ble_eq_true rfl, Nat.le_of_ble_eq_true rfl⟩) ⟨fd_blM, fd_prM hP hK⟩ rfl rfl hl.1 rfl (lv_room (Nat.le_of_ble_eq_true rfl)) dX11_common_17 ⟨Nat.zero_le _, Nat.zero_le _⟩) hS (fun q _ h => fd_A_mono hS.1 h) (fun q h => fd_A_mono hS.1 h) (fun v15 u t H1 locs ht hvm hw hB hz hk hS => ?_)
    obtain ⟨hP1, hK1⟩ := hB
    rw [ht] at hP1
    obtain ⟨e1, e2⟩ := Prod.mk.inj hw
    subst e1
    subst e2
    obtain ⟨σ16, rfl⟩ : ∃ z, z = u := ⟨_, rfl⟩
    have hP := hP1
    generalize H1 = H at hP hS ⊢
    refine lv_if_ne (tgt := 27) hx hb dX11_common_20 (by decide) (fun c19 => ?_) (fun c19 => ?_)
    · have hf := fd_itn c19 hf
      refine lv_iload_n hx hb dX11_common_27 rfl (lv_at hl 3 rfl) ?_
      refine lv_if_lt (tgt := 37) hx hb dX11_common_28 (by decide) (fun c20 => ?_) (fun c20 => ?_)
      · have hf := fd_itp c20 hf
        exact hL37 p1 p2 p3 σ16 _ _ _ hP hS (lv_sub hl [0, 1, 2, 3] rfl) hf
      · have hf := fd_itn c20 hf
        refine lv_iload_n hx hb dX11_common_31 rfl (lv_at hl 3 rfl) ?_
        refine lv_bipush (v := (100 : Int32)) hx hb dX11_common_32 (by decide) ?_
        refine lv_icmp_le (tgt := 41) hx hb dX11_common_34 (by decide) (fun c21 => ?_) (fun c21 => ?_)
        · have hf := fd_itp c21 hf
          refine lv_iconst (v := (0 : Int32)) hx hb dX11_common_41 (by decide) ?_
          exact hL42 p1 p2 p3 (0 : Int32) σ16 _ _ _ hP hS (lv_sub hl [0, 1, 2, 3] rfl) hf
        · have hf := fd_itn c21 hf
          exact hL37 p1 p2 p3 σ16 _ _ _ hP hS (lv_sub hl [0, 1, 2, 3] rfl) hf
    · have hf := fd_itp c19 hf
      exact hL23 p1 p2 p3 σ16 _ _ _ hP hS (lv_sub hl [0, 1, 2, 3] rfl) hf
noncomputable def f_X11_thrown_0 (N : Nat) (σ : fd_St) : Option (Int32 × fd_St) := some (σ.1 0, σ)
set_option maxHeartbeats 4000000 in
set_option maxRecDepth 100000 in
theorem m_X11_thrown_0 (l : Launch) (D : va_G) (a : Nat → Nat) (k : Nat → ClassId) (sz : Nat) (hI : fd_I 29 a) (N : Nat) (σ : fd_St) (r : Int32 × fd_St) (hf : f_X11_thrown_0 N σ = some r) : Met l yX11_thrown wsX11_thrown ({ frames := 0, cells := 0, slots := 0, locals := 0 }) (va_Pc [.ref (a 0)] (fd_PM D a k sz σ)) (va_Qi (fun v u => (v, u) = r) (fd_BM D a k) (fd_A 29 a sz)) 0 0 (fd_A 29 a sz) := by
  refine Met.ofW (cc := cX11_thrown) (maxL := 1) (ret := (some .int)) (by decide) rfl ?_
  intro p e s m args below meth c s₁ B hml hv
  obtain ⟨rfl, hsz, hP, hK⟩ := hv
  have hx := B.exec
  have hb := B.bytes
  have hr := B.returns
  have hts := atoms_spec (ws := wsX11_thrown) B.pre
  have hown : s.vm.findClass RX11 = some m.cls := findClass_of_methodNamed B.named
  have hlocks := B.notSynchronized
  subst hsz
  have hJ : ∀ i, i < 29 → fd_A 29 a s.heap.size (a i) := fun i hi => Or.inl ⟨i, hi, rfl⟩
  have hS : va_S (fd_A 29 a s.heap.size) s.heap s.heap [] := va_S.rf
  have hl := lv_entry ([.ref (a 0)]) (n := 1) (Nat.le_of_ble_eq_true rfl)
  rw [lg_entry_eq]
  generalize (lg_sl ([.ref (a 0)]) ++ List.replicate (1 - (lg_sl ([.ref (a 0)])).length) Slot.unset).toArray = ls at hl ⊢
  have hl : lv_has ls 1 [(0, .ref (a 0))] := hl
  have h9X11 : ∀ w ∈ u_ws RX11 TX11 43, w ∈ wsX11_thrown := fd_su [2, 3, 4, 5, 6, 7, 8, 9, 10, 11, 12, 13, 14, 15, 16, 17, 18, 19, 20, 21, 22, 23, 24, 25, 26, 27, 28, 29, 30, 31, 32, 33, 34, 35, 36, 37, 38, 39, 40, 41, 42, 43, 44] (by eq_refl)
  unfold f_X11_thrown_0 at hf
  refine lv_aload_n hx hb dX11_thrown_0 rfl (lv_at hl 0 rfl) ?_
  refine va_get (ci := 11) (v := .int (σ.1 0)) (C := RX11) (T := TX11) (N := 43) hx hb hts h9X11 hown hK hP 0 fd_WM_0 rfl 0 (by decide) (hts (.fieldLink RX11 99 "FailDiagnoseModel" "thrown" "I") (List.mem_of_getElem? (i := 1) (by eq_refl))) (fun _ h9 => h9) rfl dX11_thrown_1 ?_
  exact W.iret (v := (σ.1 0)) hx hb hr (fun t ht hW => ⟨⟨σ.1 0, σ, rfl, Option.some.inj hf, by rw [ht]; exact hP, va_K.moved hW.alike hK⟩, hS.F ht⟩) hS.2.2 dX11_thrown_4
noncomputable def f_X2_patternCount_1 (N : Nat) (σ : fd_St) : Option (Int32 × fd_St) := some (σ.1 3, σ)
set_option maxHeartbeats 4000000 in
set_option maxRecDepth 100000 in
theorem m_X2_patternCount_1 (l : Launch) (D : va_G) (a : Nat → Nat) (k : Nat → ClassId) (sz : Nat) (hI : fd_I 39 a) (N : Nat) (σ : fd_St) (r : Int32 × fd_St) (hf : f_X2_patternCount_1 N σ = some r) : Met l yX2_patternCount wsX2_patternCount ({ frames := 0, cells := 0, slots := 0, locals := 0 }) (va_Pc [.ref (a 1)] (fd_PC D a k sz σ)) (va_Qi (fun v u => (v, u) = r) (fd_BC D a k) (fd_A 39 a sz)) 0 0 (fd_A 39 a sz) := by
  refine Met.ofW (cc := cX2_patternCount) (maxL := 1) (ret := (some .int)) (by decide) rfl ?_
  intro p e s m args below meth c s₁ B hml hv
  obtain ⟨rfl, hsz, hP, hK⟩ := hv
  have hx := B.exec
  have hb := B.bytes
  have hr := B.returns
  have hts := atoms_spec (ws := wsX2_patternCount) B.pre
  have hown : s.vm.findClass RX2 = some m.cls := findClass_of_methodNamed B.named
  have hlocks := B.notSynchronized
  subst hsz
  have hJ : ∀ i, i < 39 → fd_A 39 a s.heap.size (a i) := fun i hi => Or.inl ⟨i, hi, rfl⟩
  have hS : va_S (fd_A 39 a s.heap.size) s.heap s.heap [] := va_S.rf
  have hl := lv_entry ([.ref (a 1)]) (n := 1) (Nat.le_of_ble_eq_true rfl)
  rw [lg_entry_eq]
  generalize (lg_sl ([.ref (a 1)]) ++ List.replicate (1 - (lg_sl ([.ref (a 1)])).length) Slot.unset).toArray = ls at hl ⊢
  have hl : lv_has ls 1 [(0, .ref (a 1))] := hl
  have h9X2 : ∀ w ∈ u_ws RX2 TX2 9, w ∈ wsX2_patternCount := fd_su [2, 3, 4, 5, 6, 7, 8, 9, 10] (by eq_refl)
  unfold f_X2_patternCount_1 at hf
  refine lv_aload_n hx hb dX2_patternCount_0 rfl (lv_at hl 0 rfl) ?_
  refine va_get (ci := 2) (v := .int (σ.1 3)) (C := RX2) (T := TX2) (N := 9) hx hb hts h9X2 hown hK hP 1 fd_WC_1 rfl 8 (by decide) (hts (.fieldLink RX2 39 "FailDiagnose$Circuit" "patterns" "I") (List.mem_of_getElem? (i := 1) (by eq_refl))) (fun _ h9 => h9) rfl dX2_patternCount_1 ?_
  exact W.iret (v := (σ.1 3)) hx hb hr (fun t ht hW => ⟨⟨σ.1 3, σ, rfl, Option.some.inj hf, by rw [ht]; exact hP, va_K.moved hW.alike hK⟩, hS.F ht⟩) hS.2.2 dX2_patternCount_4
noncomputable def f_X7_chips_9 (N : Nat) (σ : fd_St) : Option (Int32 × fd_St) := some (σ.1 15, σ)
set_option maxHeartbeats 4000000 in
set_option maxRecDepth 100000 in
theorem m_X7_chips_9 (l : Launch) (D : va_G) (a : Nat → Nat) (k : Nat → ClassId) (sz : Nat) (hI : fd_I 39 a) (N : Nat) (σ : fd_St) (r : Int32 × fd_St) (hf : f_X7_chips_9 N σ = some r) : Met l yX7_chips wsX7_chips ({ frames := 0, cells := 0, slots := 0, locals := 0 }) (va_Pc [.ref (a 9)] (fd_PC D a k sz σ)) (va_Qi (fun v u => (v, u) = r) (fd_BC D a k) (fd_A 39 a sz)) 0 0 (fd_A 39 a sz) := by
  refine Met.ofW (cc := cX7_chips) (maxL := 1) (ret := (some .int)) (by decide) rfl ?_
  intro p e s m args below meth c s₁ B hml hv
  obtain ⟨rfl, hsz, hP, hK⟩ := hv
  have hx := B.exec
  have hb := B.bytes
  have hr := B.returns
  have hts := atoms_spec (ws := wsX7_chips) B.pre
  have hown : s.vm.findClass RX7 = some m.cls := findClass_of_methodNamed B.named
  have hlocks := B.notSynchronized
  subst hsz
  have hJ : ∀ i, i < 39 → fd_A 39 a s.heap.size (a i) := fun i hi => Or.inl ⟨i, hi, rfl⟩
  have hS : va_S (fd_A 39 a s.heap.size) s.heap s.heap [] := va_S.rf
  have hl := lv_entry ([.ref (a 9)]) (n := 1) (Nat.le_of_ble_eq_true rfl)
  rw [lg_entry_eq]
  generalize (lg_sl ([.ref (a 9)]) ++ List.replicate (1 - (lg_sl ([.ref (a 9)])).length) Slot.unset).toArray = ls at hl ⊢
  have hl : lv_has ls 1 [(0, .ref (a 9))] := hl
  have h9X7 : ∀ w ∈ u_ws RX7 TX7 2, w ∈ wsX7_chips := fd_su [2, 3] (by eq_refl)
  unfold f_X7_chips_9 at hf
  refine lv_aload_n hx hb dX7_chips_0 rfl (lv_at hl 0 rfl) ?_
  refine va_get (ci := 7) (v := .int (σ.1 15)) (C := RX7) (T := TX7) (N := 2) hx hb hts h9X7 hown hK hP 9 fd_WC_9 rfl 1 (by decide) (hts (.fieldLink RX7 15 "FailDiagnose$Shares" "chips" "I") (List.mem_of_getElem? (i := 1) (by eq_refl))) (fun _ h9 => h9) rfl dX7_chips_1 ?_
  exact W.iret (v := (σ.1 15)) hx hb hr (fun t ht hW => ⟨⟨σ.1 15, σ, rfl, Option.some.inj hf, by rw [ht]; exact hP, va_K.moved hW.alike hK⟩, hS.F ht⟩) hS.2.2 dX7_chips_4
noncomputable def f_X10_count_0 (N : Nat) (p1 : Int32) (σ : fd_St) : Option ((Int32 ⊕ String) × fd_St) := if p1 = (0 : Int32) then (fd_bd (f_X2_nets_1 N σ) (fun v3 σ4 => some (.inl v3, σ4))) else (if p1 = (1 : Int32) then (fd_bd (f_X2_inputs_1 N σ) (fun v9 σ10 => some (.inl v9, σ10))) else (if p1 = (2 : Int32) then (fd_bd (f_X5_size_2 N σ) (fun v15 σ16 => some (.inl v15, σ16))) else (if p1 = (3 : Int32) then (fd_bd (f_X4_size_3 N σ) (fun v21 σ22 => some (.inl v21, σ22))) else (if p1 = (4 : Int32) then (if (σ.1 0) = 0 then (some (.inl (0 : Int32), σ)) else (fd_bd (f_X3_suspects_4 N σ) (fun _ σ29 => fd_bd (f_X8_size_5 N σ29) (fun v33 σ34 => some (.inl v33, σ34))))) else (if p1 = (5 : Int32) then (fd_bd (f_X6_size_11 N σ) (fun v39 σ40 => some (.inl v39, σ40))) else (if p1 = (6 : Int32) then (fd_bd (f_X2_patternCount_1 N σ) (fun v45 σ46 => some (.inl v45, σ46))) else (if p1 = (7 : Int32) then (fd_bd (f_X1_rows_10 N σ) (fun v51 σ52 => some (.inl v51, σ52))) else (if p1 = (8 : Int32) then (fd_bd (f_X7_chips_9 N σ) (fun v57 σ58 => some (.inl v57, σ58))) else (some (.inr "java/lang/IndexOutOfBoundsException", σ))))))))))
set_option maxHeartbeats 4000000 in
set_option maxRecDepth 100000 in
theorem m_X10_count_0 (l : Launch) (hl9 : l.stackTraces = false) (D : va_G) (a : Nat → Nat) (k : Nat → ClassId) (sz : Nat) (hI : fd_I 39 a) (N : Nat) (p1 : Int32) (σ : fd_St) (r : (Int32 ⊕ String) × fd_St) (hf : f_X10_count_0 N p1 σ = some r) : vx_Met l yX10_count wsX10_count ({ frames := 6, cells := fd_mc r, slots := fd_ms r, locals := 90 }) (va_Pc [.ref (a 0), .int p1] (fd_PZ D a k sz σ)) (va_Qi (fun v u => (Sum.inl v, u) = r) (fd_BC D a k) (fd_A 39 a sz)) (fd_X D a k (fd_A 39 a sz) r) (fd_mc r) (fd_ms r) (fd_A 39 a sz) := by
  refine vx_ofW (cc := cX10_count) (maxL := 2) (ret := (some .int)) (by decide) rfl ?_
  intro p e s m args below meth c s₁ B hml hex hv
  obtain ⟨rfl, ⟨hsz, hP, hK⟩, hZ⟩ := hv
  have hx := B.exec
  have hb := B.bytes
  have hr := B.returns
  have hts := atoms_spec (ws := wsX10_count) B.pre
  have hown : s.vm.findClass RX10 = some m.cls := findClass_of_methodNamed B.named
  have hlocks := B.notSynchronized
  subst hsz
  have hJ : ∀ i, i < 39 → fd_A 39 a s.heap.size (a i) := fun i hi => Or.inl ⟨i, hi, rfl⟩
  have hS : va_S (fd_A 39 a s.heap.size) s.heap s.heap [] := va_S.rf
  have hl := lv_entry ([.ref (a 0), .int p1]) (n := 2) (Nat.le_of_ble_eq_true rfl)
  rw [lg_entry_eq]
  generalize (lg_sl ([.ref (a 0), .int p1]) ++ List.replicate (2 - (lg_sl ([.ref (a 0), .int p1])).length) Slot.unset).toArray = ls at hl ⊢
  have hl : lv_has ls 2 [(0, .ref (a 0)), (1, .int p1)] := hl
  have h9X10 : ∀ w ∈ u_ws RX10 TX10 8, w ∈ wsX10_count := fd_su [69, 70, 71, 72, 73, 74, 75, 76] (by eq_refl)
  unfold f_X10_count_0 at hf
  refine lv_iload_n hx hb dX10_count_0 rfl (lv_at hl 1 rfl) ?_
  by_cases c1 : p1 = (0 : Int32)
  · have hf := fd_itp c1 hf
    refine lv_tableIn (off := 51) (tgt := 52) hx hb dX10_count_1 (by rw [c1]; decide) (by rw [c1]; decide) (by rw [c1]; decide) (by decide) ?_
    refine lv_aload_n hx hb dX10_count_52 rfl (lv_at hl 0 rfl) ?_
    refine va_get (ci := 10) (v := .ref (a 1)) (C := RX10) (T := TX10) (N := 8) hx hb hts h9X10 hown hK hP 0 fd_WC_0 rfl 0 (by decide) (hts (.fieldLink RX10 12 "FailDiagnose" "circuit" "LFailDiagnose$Circuit;") (List.mem_of_getElem? (i := 3) (by eq_refl))) (fun _ h9 => h9) rfl dX10_count_53 ?_
    obtain ⟨w5, τ6, hc2, hf⟩ := fd_bds hf
    refine va_calli (va_runV (As := []) (rest := []) ⟨hx, hb, hml, hown, hts⟩ (m_X2_nets_1 l D a k s.heap.size hI N σ _ hc2) (cwV 0 hts gX10_count_X2_nets rfl rfl rfl (by decide +kernel) ⟨Nat.le_of_ble_eq_true rfl, Nat.le_of_ble_eq_true rfl⟩) ⟨fd_blC, va_recv hK hP (ci := 2) (q0 := 1) rfl fd_WC_1, fd_prC hP hK⟩ rfl rfl hl.1 rfl (lv_room (Nat.le_of_ble_eq_true rfl)) dX10_count_56 ⟨Nat.zero_le _, Nat.zero_le _⟩) hS (fun q _ h => fd_A_mono hS.1 h) (fun q h => fd_A_mono hS.1 h) (fun v3 u t H1 locs ht hvm hw hB hz hk hS => ?_)
    obtain ⟨hP1, hK1⟩ := hB
    rw [ht] at hP1
    obtain ⟨e1, e2⟩ := Prod.mk.inj hw
    subst e1
    subst e2
    obtain ⟨σ4, rfl⟩ : ∃ z, z = u := ⟨_, rfl⟩
    have hP := hP1
    generalize H1 = H at hP hS ⊢
    refine vx_ret (W.widen (k := fd_mc r) (n := fd_ms r) (Nat.zero_le _) (Nat.zero_le _) ?_)
    exact W.iret (v := v3) hx hb hr (fun t ht hW => ⟨⟨v3, σ4, rfl, Option.some.inj hf, by rw [ht]; exact hP, va_K.moved hW.alike hK⟩, hS.F ht⟩) hS.2.2 dX10_count_59
  have hf := fd_itn c1 hf
  by_cases c7 : p1 = (1 : Int32)
  · have hf := fd_itp c7 hf
    refine lv_tableIn (off := 59) (tgt := 60) hx hb dX10_count_1 (by rw [c7]; decide) (by rw [c7]; decide) (by rw [c7]; decide) (by decide) ?_
    refine lv_aload_n hx hb dX10_count_60 rfl (lv_at hl 0 rfl) ?_
    refine va_get (ci := 10) (v := .ref (a 1)) (C := RX10) (T := TX10) (N := 8) hx hb hts h9X10 hown hK hP 0 fd_WC_0 rfl 0 (by decide) (hts (.fieldLink RX10 12 "FailDiagnose" "circuit" "LFailDiagnose$Circuit;") (List.mem_of_getElem? (i := 3) (by eq_refl))) (fun _ h9 => h9) rfl dX10_count_61 ?_
    obtain ⟨w11, τ12, hc8, hf⟩ := fd_bds hf
    refine va_calli (va_runV (As := []) (rest := []) ⟨hx, hb, hml, hown, hts⟩ (m_X2_inputs_1 l D a k s.heap.size hI N σ _ hc8) (cwV 0 hts gX10_count_X2_inputs rfl rfl rfl (by decide +kernel) ⟨Nat.le_of_ble_eq_true rfl, Nat.le_of_ble_eq_true rfl⟩) ⟨fd_blC, va_recv hK hP (ci := 2) (q0 := 1) rfl fd_WC_1, fd_prC hP hK⟩ rfl rfl hl.1 rfl (lv_room (Nat.le_of_ble_eq_true rfl)) dX10_count_64 ⟨Nat.zero_le _, Nat.zero_le _⟩) hS (fun q _ h => fd_A_mono hS.1 h) (fun q h => fd_A_mono hS.1 h) (fun v9 u t H1 locs ht hvm hw hB hz hk hS => ?_)
    obtain ⟨hP1, hK1⟩ := hB
    rw [ht] at hP1
    obtain ⟨e1, e2⟩ := Prod.mk.inj hw
    subst e1
    subst e2
    obtain ⟨σ10, rfl⟩ : ∃ z, z = u := ⟨_, rfl⟩
    have hP := hP1
    generalize H1 = H at hP hS ⊢
    refine vx_ret (W.widen (k := fd_mc r) (n := fd_ms r) (Nat.zero_le _) (Nat.zero_le _) ?_)
    exact W.iret (v := v9) hx hb hr (fun t ht hW => ⟨⟨v9, σ10, rfl, Option.some.inj hf, by rw [ht]; exact hP, va_K.moved hW.alike hK⟩, hS.F ht⟩) hS.2.2 dX10_count_67
  have hf := fd_itn c7 hf
  by_cases c13 : p1 = (2 : Int32)
  · have hf := fd_itp c13 hf
    refine lv_tableIn (off := 67) (tgt := 68) hx hb dX10_count_1 (by rw [c13]; decide) (by rw [c13]; decide) (by rw [c13]; decide) (by decide) ?_
    refine lv_aload_n hx hb dX10_count_68 rfl (lv_at hl 0 rfl) ?_
    refine va_get (ci := 10) (v := .ref (a 2)) (C := RX10) (T := TX10) (N := 8) hx hb hts h9X10 hown hK hP 0 fd_WC_0 rfl 1 (by decide) (hts (.fieldLink RX10 19 "FailDiagnose" "outputs" "LFailDiagnose$Outputs;") (List.mem_of_getElem? (i := 4) (by eq_refl))) (fun _ h9 => h9) rfl dX10_count_69 ?_
    obtain ⟨w17, τ18, hc14, hf⟩ := fd_bds hf
    refine va_calli (va_runV (As := []) (rest := []) ⟨hx, hb, hml, hown, hts⟩ (m_X5_size_2 l D a k s.heap.size hI N σ _ hc14) (cwV 0 hts gX10_count_X5_size rfl rfl rfl (by decide +kernel) ⟨Nat.le_of_ble_eq_true rfl, Nat.le_of_ble_eq_true rfl⟩) ⟨fd_blC, va_recv hK hP (ci := 5) (q0 := 2) rfl fd_WC_2, fd_prC hP hK⟩ rfl rfl hl.1 rfl (lv_room (Nat.le_of_ble_eq_true rfl)) dX10_count_72 ⟨Nat.zero_le _, Nat.zero_le _⟩) hS (fun q _ h => fd_A_mono hS.1 h) (fun q h => fd_A_mono hS.1 h) (fun v15 u t H1 locs ht hvm hw hB hz hk hS => ?_)
    obtain ⟨hP1, hK1⟩ := hB
    rw [ht] at hP1
    obtain ⟨e1, e2⟩ := Prod.mk.inj hw
    subst e1
    subst e2
    obtain ⟨σ16, rfl⟩ : ∃ z, z = u := ⟨_, rfl⟩
    have hP := hP1
    generalize H1 = H at hP hS ⊢
    refine vx_ret (W.widen (k := fd_mc r) (n := fd_ms r) (Nat.zero_le _) (Nat.zero_le _) ?_)
    exact W.iret (v := v15) hx hb hr (fun t ht hW => ⟨⟨v15, σ16, rfl, Option.some.inj hf, by rw [ht]; exact hP, va_K.moved hW.alike hK⟩, hS.F ht⟩) hS.2.2 dX10_count_75
  have hf := fd_itn c13 hf
  by_cases c19 : p1 = (3 : Int32)
  · have hf := fd_itp c19 hf
    refine lv_tableIn (off := 75) (tgt := 76) hx hb dX10_count_1 (by rw [c19]; decide) (by rw [c19]; decide) (by rw [c19]; decide) (by decide) ?_
    refine lv_aload_n hx hb dX10_count_76 rfl (lv_at hl 0 rfl) ?_
    refine va_get (ci := 10) (v := .ref (a 3)) (C := RX10) (T := TX10) (N := 8) hx hb hts h9X10 hown hK hP 0 fd_WC_0 rfl 2 (by decide) (hts (.fieldLink RX10 26 "FailDiagnose" "nearPairs" "LFailDiagnose$NearPairs;") (List.mem_of_getElem? (i := 5) (by eq_refl))) (fun _ h9 => h9) rfl dX10_count_77 ?_
    obtain ⟨w23, τ24, hc20, hf⟩ := fd_bds hf
    refine va_calli (va_runV (As := []) (rest := []) ⟨hx, hb, hml, hown, hts⟩ (m_X4_size_3 l D a k s.heap.size hI N σ _ hc20) (cwV 0 hts gX10_count_X4_size rfl rfl rfl (by decide +kernel) ⟨Nat.le_of_ble_eq_true rfl, Nat.le_of_ble_eq_true rfl⟩) ⟨fd_blC, va_recv hK hP (ci := 4) (q0 := 3) rfl fd_WC_3, fd_prC hP hK⟩ rfl rfl hl.1 rfl (lv_room (Nat.le_of_ble_eq_true rfl)) dX10_count_80 ⟨Nat.zero_le _, Nat.zero_le _⟩) hS (fun q _ h => fd_A_mono hS.1 h) (fun q h => fd_A_mono hS.1 h) (fun v21 u t H1 locs ht hvm hw hB hz hk hS => ?_)
    obtain ⟨hP1, hK1⟩ := hB
    rw [ht] at hP1
    obtain ⟨e1, e2⟩ := Prod.mk.inj hw
    subst e1
    subst e2
    obtain ⟨σ22, rfl⟩ : ∃ z, z = u := ⟨_, rfl⟩
    have hP := hP1
    generalize H1 = H at hP hS ⊢
    refine vx_ret (W.widen (k := fd_mc r) (n := fd_ms r) (Nat.zero_le _) (Nat.zero_le _) ?_)
    exact W.iret (v := v21) hx hb hr (fun t ht hW => ⟨⟨v21, σ22, rfl, Option.some.inj hf, by rw [ht]; exact hP, va_K.moved hW.alike hK⟩, hS.F ht⟩) hS.2.2 dX10_count_83
  have hf := fd_itn c19 hf
  by_cases c25 : p1 = (4 : Int32)
  · have hf := fd_itp c25 hf
    refine lv_tableIn (off := 83) (tgt := 84) hx hb dX10_count_1 (by rw [c25]; decide) (by rw [c25]; decide) (by rw [c25]; decide) (by decide) ?_
    refine lv_aload_n hx hb dX10_count_84 rfl (lv_at hl 0 rfl) ?_
    refine va_get (ci := 10) (v := .int (σ.1 0)) (C := RX10) (T := TX10) (N := 8) hx hb hts h9X10 hown hK hP 0 fd_WC_0 rfl 7 (by decide) (hts (.fieldLink RX10 60 "FailDiagnose" "told" "Z") (List.mem_of_getElem? (i := 6) (by eq_refl))) (fun _ h9 => h9) rfl dX10_count_85 ?_
    refine lv_if_eq (tgt := 104) hx hb dX10_count_88 (by decide) (fun c26 => ?_) (fun c26 => ?_)
    · have hf := fd_itp c26 hf
      refine lv_iconst (v := (0 : Int32)) hx hb dX10_count_104 (by decide) ?_
      refine vx_ret (W.widen (k := fd_mc r) (n := fd_ms r) (Nat.zero_le _) (Nat.zero_le _) ?_)
      exact W.iret (v := (0 : Int32)) hx hb hr (fun t ht hW => ⟨⟨(0 : Int32), σ, rfl, Option.some.inj hf, by rw [ht]; exact hP, va_K.moved hW.alike hK⟩, hS.F ht⟩) hS.2.2 dX10_count_105
    · have hf := fd_itn c26 hf
      refine lv_aload_n hx hb dX10_count_91 rfl (lv_at hl 0 rfl) ?_
      refine va_get (ci := 10) (v := .ref (a 4)) (C := RX10) (T := TX10) (N := 8) hx hb hts h9X10 hown hK hP 0 fd_WC_0 rfl 3 (by decide) (hts (.fieldLink RX10 35 "FailDiagnose" "diagnosis" "LFailDiagnose$Diagnosis;") (List.mem_of_getElem? (i := 7) (by eq_refl))) (fun _ h9 => h9) rfl dX10_count_92 ?_
      obtain ⟨w30, τ31, hc27, hf⟩ := fd_bds hf
      refine va_callr (va_runV (As := []) (rest := []) ⟨hx, hb, hml, hown, hts⟩ (m_X3_suspects_4 l D a k s.heap.size hI N σ _ hc27) (cwV 0 hts gX10_count_X3_suspects rfl rfl rfl (by decide +kernel) ⟨Nat.le_of_ble_eq_true rfl, Nat.le_of_ble_eq_true rfl⟩) ⟨fd_blC, va_recv hK hP (ci := 3) (q0 := 4) rfl fd_WC_4, fd_prC hP hK⟩ rfl rfl hl.1 rfl (lv_room (Nat.le_of_ble_eq_true rfl)) dX10_count_95 ⟨Nat.zero_le _, Nat.zero_le _⟩) hS (fun q _ h => fd_A_mono hS.1 h) (fun q h => fd_A_mono hS.1 h) (fun u x t H1 locs ht hvm hw hB hz hk hS => ?_)
      obtain ⟨rfl, hP1, hK1⟩ := hB
      rw [ht] at hP1
      have e2 := (Prod.mk.inj hw).2
      subst e2
      obtain ⟨σ29, rfl⟩ : ∃ z, z = u := ⟨_, rfl⟩
      have hP := hP1
      generalize H1 = H at hP hS ⊢
      obtain ⟨w35, τ36, hc32, hf⟩ := fd_bds hf
      refine va_calli (va_runV (As := []) (rest := []) ⟨hx, hb, hml, hown, hts⟩ (m_X8_size_5 l D a k H.size hI N σ29 _ hc32) (cwV 0 hts gX10_count_X8_size rfl rfl rfl (by decide +kernel) ⟨Nat.le_of_ble_eq_true rfl, Nat.le_of_ble_eq_true rfl⟩) ⟨fd_blC, va_recv hK hP (ci := 8) (q0 := 5) rfl fd_WC_5, fd_prC hP hK⟩ rfl rfl hl.1 rfl (lv_room (Nat.le_of_ble_eq_true rfl)) dX10_count_98 ⟨Nat.zero_le _, Nat.zero_le _⟩) hS (fun q _ h => fd_A_mono hS.1 h) (fun q h => fd_A_mono hS.1 h) (fun v33 u t H1 locs ht hvm hw hB hz hk hS => ?_)
      obtain ⟨hP1, hK1⟩ := hB
      rw [ht] at hP1
      obtain ⟨e1, e2⟩ := Prod.mk.inj hw
      subst e1
      subst e2
      obtain ⟨σ34, rfl⟩ : ∃ z, z = u := ⟨_, rfl⟩
      have hP := hP1
      generalize H1 = H at hP hS ⊢
      refine lv_goto (tgt := 105) hx hb dX10_count_101 (by decide) ?_
      refine vx_ret (W.widen (k := fd_mc r) (n := fd_ms r) (Nat.zero_le _) (Nat.zero_le _) ?_)
      exact W.iret (v := v33) hx hb hr (fun t ht hW => ⟨⟨v33, σ34, rfl, Option.some.inj hf, by rw [ht]; exact hP, va_K.moved hW.alike hK⟩, hS.F ht⟩) hS.2.2 dX10_count_105
  have hf := fd_itn c25 hf
  by_cases c37 : p1 = (5 : Int32)
  · have hf := fd_itp c37 hf
    refine lv_tableIn (off := 105) (tgt := 106) hx hb dX10_count_1 (by rw [c37]; decide) (by rw [c37]; decide) (by rw [c37]; decide) (by decide) ?_
    refine lv_aload_n hx hb dX10_count_106 rfl (lv_at hl 0 rfl) ?_
    refine va_get (ci := 10) (v := .ref (a 11)) (C := RX10) (T := TX10) (N := 8) hx hb hts h9X10 hown hK hP 0 fd_WC_0 rfl 6 (by decide) (hts (.fieldLink RX10 56 "FailDiagnose" "shapes" "LFailDiagnose$Shapes;") (List.mem_of_getElem? (i := 8) (by eq_refl))) (fun _ h9 => h9) rfl dX10_count_107 ?_
    obtain ⟨w41, τ42, hc38, hf⟩ := fd_bds hf
    refine va_calli (va_runV (As := []) (rest := []) ⟨hx, hb, hml, hown, hts⟩ (m_X6_size_11 l D a k s.heap.size hI N σ _ hc38) (cwV 0 hts gX10_count_X6_size rfl rfl rfl (by decide +kernel) ⟨Nat.le_of_ble_eq_true rfl, Nat.le_of_ble_eq_true rfl⟩) ⟨fd_blC, va_recv hK hP (ci := 6) (q0 := 11) rfl fd_WC_11, fd_prC hP hK⟩ rfl rfl hl.1 rfl (lv_room (Nat.le_of_ble_eq_true rfl)) dX10_count_110 ⟨Nat.zero_le _, Nat.zero_le _⟩) hS (fun q _ h => fd_A_mono hS.1 h) (fun q h => fd_A_mono hS.1 h) (fun v39 u t H1 locs ht hvm hw hB hz hk hS => ?_)
    obtain ⟨hP1, hK1⟩ := hB
    rw [ht] at hP1
    obtain ⟨e1, e2⟩ := Prod.mk.inj hw
    subst e1
    subst e2
    obtain ⟨σ40, rfl⟩ : ∃ z, z = u := ⟨_, rfl⟩
    have hP := hP1
    generalize H1 = H at hP hS ⊢
    refine vx_ret (W.widen (k := fd_mc r) (n := fd_ms r) (Nat.zero_le _) (Nat.zero_le _) ?_)
    exact W.iret (v := v39) hx hb hr (fun t ht hW => ⟨⟨v39, σ40, rfl, Option.some.inj hf, by rw [ht]; exact hP, va_K.moved hW.alike hK⟩, hS.F ht⟩) hS.2.2 dX10_count_113
  have hf := fd_itn c37 hf
  by_cases c43 : p1 = (6 : Int32)
  · have hf := fd_itp c43 hf
    refine lv_tableIn (off := 113) (tgt := 114) hx hb dX10_count_1 (by rw [c43]; decide) (by rw [c43]; decide) (by rw [c43]; decide) (by decide) ?_
    refine lv_aload_n hx hb dX10_count_114 rfl (lv_at hl 0 rfl) ?_
    refine va_get (ci := 10) (v := .ref (a 1)) (C := RX10) (T := TX10) (N := 8) hx hb hts h9X10 hown hK hP 0 fd_WC_0 rfl 0 (by decide) (hts (.fieldLink RX10 12 "FailDiagnose" "circuit" "LFailDiagnose$Circuit;") (List.mem_of_getElem? (i := 3) (by eq_refl))) (fun _ h9 => h9) rfl dX10_count_115 ?_
    obtain ⟨w47, τ48, hc44, hf⟩ := fd_bds hf
    refine va_calli (va_runV (As := []) (rest := []) ⟨hx, hb, hml, hown, hts⟩ (m_X2_patternCount_1 l D a k s.heap.size hI N σ _ hc44) (cwV 0 hts gX10_count_X2_patternCount rfl rfl rfl (by decide +kernel) ⟨Nat.le_of_ble_eq_true rfl, Nat.le_of_ble_eq_true rfl⟩) ⟨fd_blC, va_recv hK hP (ci := 2) (q0 := 1) rfl fd_WC_1, fd_prC hP hK⟩ rfl rfl hl.1 rfl (lv_room (Nat.le_of_ble_eq_true rfl)) dX10_count_118 ⟨Nat.zero_le _, Nat.zero_le _⟩) hS (fun q _ h => fd_A_mono hS.1 h) (fun q h => fd_A_mono hS.1 h) (fun v45 u t H1 locs ht hvm hw hB hz hk hS => ?_)
    obtain ⟨hP1, hK1⟩ := hB
    rw [ht] at hP1
    obtain ⟨e1, e2⟩ := Prod.mk.inj hw
    subst e1
    subst e2
    obtain ⟨σ46, rfl⟩ : ∃ z, z = u := ⟨_, rfl⟩
    have hP := hP1
    generalize H1 = H at hP hS ⊢
    refine vx_ret (W.widen (k := fd_mc r) (n := fd_ms r) (Nat.zero_le _) (Nat.zero_le _) ?_)
    exact W.iret (v := v45) hx hb hr (fun t ht hW => ⟨⟨v45, σ46, rfl, Option.some.inj hf, by rw [ht]; exact hP, va_K.moved hW.alike hK⟩, hS.F ht⟩) hS.2.2 dX10_count_121
  have hf := fd_itn c43 hf
  by_cases c49 : p1 = (7 : Int32)
  · have hf := fd_itp c49 hf
    refine lv_tableIn (off := 121) (tgt := 122) hx hb dX10_count_1 (by rw [c49]; decide) (by rw [c49]; decide) (by rw [c49]; decide) (by decide) ?_
    refine lv_aload_n hx hb dX10_count_122 rfl (lv_at hl 0 rfl) ?_
    refine va_get (ci := 10) (v := .ref (a 10)) (C := RX10) (T := TX10) (N := 8) hx hb hts h9X10 hown hK hP 0 fd_WC_0 rfl 5 (by decide) (hts (.fieldLink RX10 49 "FailDiagnose" "cells" "LFailDiagnose$Chain;") (List.mem_of_getElem? (i := 9) (by eq_refl))) (fun _ h9 => h9) rfl dX10_count_123 ?_
    obtain ⟨w53, τ54, hc50, hf⟩ := fd_bds hf
    refine va_calli (va_runV (As := []) (rest := []) ⟨hx, hb, hml, hown, hts⟩ (m_X1_rows_10 l D a k s.heap.size hI N σ _ hc50) (cwV 0 hts gX10_count_X1_rows rfl rfl rfl (by decide +kernel) ⟨Nat.le_of_ble_eq_true rfl, Nat.le_of_ble_eq_true rfl⟩) ⟨fd_blC, va_recv hK hP (ci := 1) (q0 := 10) rfl fd_WC_10, fd_prC hP hK⟩ rfl rfl hl.1 rfl (lv_room (Nat.le_of_ble_eq_true rfl)) dX10_count_126 ⟨Nat.zero_le _, Nat.zero_le _⟩) hS (fun q _ h => fd_A_mono hS.1 h) (fun q h => fd_A_mono hS.1 h) (fun v51 u t H1 locs ht hvm hw hB hz hk hS => ?_)
    obtain ⟨hP1, hK1⟩ := hB
    rw [ht] at hP1
    obtain ⟨e1, e2⟩ := Prod.mk.inj hw
    subst e1
    subst e2
    obtain ⟨σ52, rfl⟩ : ∃ z, z = u := ⟨_, rfl⟩
    have hP := hP1
    generalize H1 = H at hP hS ⊢
    refine vx_ret (W.widen (k := fd_mc r) (n := fd_ms r) (Nat.zero_le _) (Nat.zero_le _) ?_)
    exact W.iret (v := v51) hx hb hr (fun t ht hW => ⟨⟨v51, σ52, rfl, Option.some.inj hf, by rw [ht]; exact hP, va_K.moved hW.alike hK⟩, hS.F ht⟩) hS.2.2 dX10_count_129
  have hf := fd_itn c49 hf
  by_cases c55 : p1 = (8 : Int32)
  · have hf := fd_itp c55 hf
    refine lv_tableIn (off := 129) (tgt := 130) hx hb dX10_count_1 (by rw [c55]; decide) (by rw [c55]; decide) (by rw [c55]; decide) (by decide) ?_
    refine lv_aload_n hx hb dX10_count_130 rfl (lv_at hl 0 rfl) ?_
    refine va_get (ci := 10) (v := .ref (a 9)) (C := RX10) (T := TX10) (N := 8) hx hb hts h9X10 hown hK hP 0 fd_WC_0 rfl 4 (by decide) (hts (.fieldLink RX10 42 "FailDiagnose" "shares" "LFailDiagnose$Shares;") (List.mem_of_getElem? (i := 10) (by eq_refl))) (fun _ h9 => h9) rfl dX10_count_131 ?_
    obtain ⟨w59, τ60, hc56, hf⟩ := fd_bds hf
    refine va_calli (va_runV (As := []) (rest := []) ⟨hx, hb, hml, hown, hts⟩ (m_X7_chips_9 l D a k s.heap.size hI N σ _ hc56) (cwV 0 hts gX10_count_X7_chips rfl rfl rfl (by decide +kernel) ⟨Nat.le_of_ble_eq_true rfl, Nat.le_of_ble_eq_true rfl⟩) ⟨fd_blC, va_recv hK hP (ci := 7) (q0 := 9) rfl fd_WC_9, fd_prC hP hK⟩ rfl rfl hl.1 rfl (lv_room (Nat.le_of_ble_eq_true rfl)) dX10_count_134 ⟨Nat.zero_le _, Nat.zero_le _⟩) hS (fun q _ h => fd_A_mono hS.1 h) (fun q h => fd_A_mono hS.1 h) (fun v57 u t H1 locs ht hvm hw hB hz hk hS => ?_)
    obtain ⟨hP1, hK1⟩ := hB
    rw [ht] at hP1
    obtain ⟨e1, e2⟩ := Prod.mk.inj hw
    subst e1
    subst e2
    obtain ⟨σ58, rfl⟩ : ∃ z, z = u := ⟨_, rfl⟩
    have hP := hP1
    generalize H1 = H at hP hS ⊢
    refine vx_ret (W.widen (k := fd_mc r) (n := fd_ms r) (Nat.zero_le _) (Nat.zero_le _) ?_)
    exact W.iret (v := v57) hx hb hr (fun t ht hW => ⟨⟨v57, σ58, rfl, Option.some.inj hf, by rw [ht]; exact hP, va_K.moved hW.alike hK⟩, hS.F ht⟩) hS.2.2 dX10_count_137
  have hf := fd_itn c55 hf
  have nc1 := lv_neT c1 (a := 0) (by decide)
  have nc7 := lv_neT c7 (a := 1) (by decide)
  have nc13 := lv_neT c13 (a := 2) (by decide)
  have nc19 := lv_neT c19 (a := 3) (by decide)
  have nc25 := lv_neT c25 (a := 4) (by decide)
  have nc37 := lv_neT c37 (a := 5) (by decide)
  have nc43 := lv_neT c43 (a := 6) (by decide)
  have nc49 := lv_neT c49 (a := 7) (by decide)
  have nc55 := lv_neT c55 (a := 8) (by decide)
  refine lv_tableOut (tgt := 138) hx hb dX10_count_1 (by omega) (by decide) ?_
  have e61 := Option.some.inj hf
  subst e61
  obtain ⟨sa, hsa⟩ := hZ.str 244 "there is 0 to 8 to count" (by decide +kernel)
  exact vx_throwS (own := RX10) (cls := "java/lang/IndexOutOfBoundsException") (names := ["java/lang/RuntimeException", "java/lang/Exception"]) hx hb hl9 hown fd_ex_114_118_f fd_ex_n (hts (.classLink RX10 114 "java/lang/IndexOutOfBoundsException") (List.mem_of_getElem? (i := 1) (by eq_refl))) (hts (.initialized "java/lang/IndexOutOfBoundsException") (List.mem_of_getElem? (i := 2) (by eq_refl))) hsa (vx_hat (L := vx_atS RX10 118 "java/lang/IndexOutOfBoundsException" ["java/lang/RuntimeException", "java/lang/Exception"]) (B := fd_bad "java/lang/IndexOutOfBoundsException") (fun w hw => hts w ((fun w h => List.mem_cons_of_mem _ (List.mem_append_right _ h) : ∀ w ∈ (vx_atS RX10 118 "java/lang/IndexOutOfBoundsException" ["java/lang/RuntimeException", "java/lang/Exception"]).filter goodWord, w ∈ wsX10_count) w hw)) fd_ex_114_118_b (hZ.bad "java/lang/IndexOutOfBoundsException" fd_ex_114_118_e)) fd_ex_114_118_g hZ.un hZ.su hS (hl.1.trans hml.symm) dX10_count_138 dX10_count_141 dX10_count_142 dX10_count_144 dX10_count_147 (fun x hx => (hex x hx).elim) (Nat.le_of_ble_eq_true rfl) (Nat.le_of_ble_eq_true rfl) (Nat.le_of_ble_eq_true rfl) (Nat.le_of_ble_eq_true rfl) hlocks (fun t ha hsz hk => ⟨σ, trivial, ⟨rfl, hP.kept (fun k q hq => hk q.1 (hP k q hq).lt), va_K.moved ha hK⟩, Nat.le_trans hS.1 hsz, fun q h1 h2 => (hk q (Nat.lt_of_lt_of_le h1 hS.1)).trans (hS.2.1 q h1 h2)⟩) hS.2.2 (Nat.le_of_ble_eq_true rfl) (Nat.le_of_ble_eq_true rfl)
noncomputable def f_L_count_0_39 (N : Nat) (p1 : Int32) (σ : fd_St) : Option (Int32 × fd_St) := fd_bx (f_X10_count_0 N p1 σ) (fun v2 τ => fd_lt (fd_mix τ σ) (fun σ6 => fd_gd (vp_in (0 : Int32) 1) (fd_lt (fd_sL 39 (0 : Int32) v2.toInt64 σ6) (fun σ9 => some ((0 : Int32), σ9))))) (fun E τ => if E = "java/lang/IndexOutOfBoundsException" then (fd_lt (fd_mix τ σ) (fun σ11 => some ((1 : Int32), σ11))) else (none))
set_option maxHeartbeats 4000000 in
set_option maxRecDepth 100000 in
theorem m_L_count_0_39 (l : Launch) (hl9 : l.stackTraces = false) (D : va_G) (a : Nat → Nat) (k : Nat → ClassId) (sz : Nat) (hI : fd_I 40 a) (N : Nat) (p1 : Int32) (σ : fd_St) (r : Int32 × fd_St) (hf : f_L_count_0_39 N p1 σ = some r) : Met l yL_count wsL_count ({ frames := 7, cells := 1, slots := 6, locals := 111 }) (va_Pc [.ref (a 0), .int p1, .ref (a 39)] (fd_PH D a k sz σ)) (va_Qi (fun v u => (v, u) = r) (fd_BH D a k) (fd_A 40 a sz)) 1 6 (fd_A 40 a sz) := by
  refine fd_ofWT (cc := cL_count) (maxL := 4) (ret := (some .int)) (by decide) rfl ?_
  intro p e s m args below meth c s₁ B hml hTab hv
  obtain ⟨rfl, hsz, hP, hK, hZ⟩ := hv
  have hx := B.exec
  have hb := B.bytes
  have hr := B.returns
  have hts := atoms_spec (ws := wsL_count) B.pre
  have hown : s.vm.findClass RL = some m.cls := findClass_of_methodNamed B.named
  have hlocks := B.notSynchronized
  subst hsz
  have hJ : ∀ i, i < 40 → fd_A 40 a s.heap.size (a i) := fun i hi => Or.inl ⟨i, hi, rfl⟩
  have hS : va_S (fd_A 40 a s.heap.size) s.heap s.heap [] := va_S.rf
  have hl := lv_entry ([.ref (a 0), .int p1, .ref (a 39)]) (n := 4) (Nat.le_of_ble_eq_true rfl)
  rw [lg_entry_eq]
  generalize (lg_sl ([.ref (a 0), .int p1, .ref (a 39)]) ++ List.replicate (4 - (lg_sl ([.ref (a 0), .int p1, .ref (a 39)])).length) Slot.unset).toArray = ls at hl ⊢
  have hl : lv_has ls 4 [(0, .ref (a 0)), (1, .int p1), (2, .ref (a 39))] := hl
  unfold f_L_count_0_39 at hf
  refine lv_aload_n hx hb dL_count_0 rfl (lv_at hl 2 rfl) ?_
  refine lv_iconst (v := (0 : Int32)) hx hb dL_count_1 (by decide) ?_
  refine lv_aload_n hx hb dL_count_2 rfl (lv_at hl 0 rfl) ?_
  refine lv_iload_n hx hb dL_count_3 rfl (lv_at hl 1 rfl) ?_
  rcases fd_bxs hf with ⟨w3, τ4, hc1, hf⟩ | ⟨E5, τ4, hc1, hf⟩
  · refine vx_calli (vx_runV (As := [.int p1]) (rest := [.int (0 : Int32), .ref (a 39)]) ⟨hx, hb, hml, hown, hts⟩ (m_X10_count_0 l hl9 D a k s.heap.size (fd_I40 hI) N p1 σ _ hc1) (cwV 1 hts gL_count_X10_count rfl rfl rfl (by decide +kernel) ⟨Nat.le_of_ble_eq_true rfl, Nat.le_of_ble_eq_true rfl⟩) ⟨fd_blZ, va_recv (fd_HK hK) (fd_HC hP) (ci := 10) (q0 := 0) rfl fd_WC_0, fd_prHZ hP hK hZ hS⟩ rfl rfl hl.1 rfl (lv_room (Nat.le_of_ble_eq_true rfl)) dL_count_4 ⟨(Nat.zero_le _), (Nat.zero_le _)⟩) hS (fun q _ h => fd_A_sub hS.1 h) (fun q h => fd_A_sub hS.1 h) (fun q _ h => fd_A_sub hS.1 h) (fun E ce q9 u t H1 locs1 ht hvm hp hB => ?_) (fun v2 u t H1 locs ht hvm hw hB hz hk hS => ?_)
    · exact absurd hB.1 (by simp)
    obtain ⟨hP1, hK1⟩ := hB
    rw [ht] at hP1
    obtain ⟨e1, e2⟩ := Prod.mk.inj hw
    obtain e1 := Sum.inl.inj e1
    subst e1
    subst e2
    obtain ⟨σ6, eσ6, hf⟩ := fd_lts hf
    have hP : va_P D vwCl (fd_WH a k σ6) H1 := by rw [eσ6]; exact fd_HJ hI hP hP1 hk
    generalize H1 = H at hP hS ⊢
    refine W.cs (cells' := 0) (slots' := 0) rfl rfl ?_
    refine lv_i2l hx hb dL_count_7 rfl ?_
    obtain ⟨g8, hf⟩ := fd_gds hf
    obtain ⟨σ9, eσ9, hf⟩ := fd_lts hf
    refine va_last hx hb hK hP (fd_DH hI hJ) hS 39 27 fd_WH_39 fd_tyH_39 g8 dL_count_8 (fun H locs hP _ hS => ?_)
    have hP : va_P D vwCl (fd_WH a k σ9) H := by rw [eσ9]; exact fd_sP fd_WHa_39 hP
    refine lv_goto (tgt := 15) hx hb dL_count_9 (by decide) ?_
    refine lv_iconst (v := (0 : Int32)) hx hb dL_count_15 (by decide) ?_
    refine W.widen (k := 1) (n := 6) (Nat.le_of_ble_eq_true rfl) (Nat.le_of_ble_eq_true rfl) ?_
    exact W.iret (v := (0 : Int32)) hx hb hr (fun t ht hW => ⟨⟨(0 : Int32), σ9, rfl, Option.some.inj hf, by rw [ht]; exact hP, va_K.moved hW.alike hK⟩, hS.F ht⟩) hS.2.2 dL_count_16
  · have hE := hf
    by_cases c10 : E5 = "java/lang/IndexOutOfBoundsException"
    · subst c10
      have hf := fd_itp rfl hf
      refine vx_calli (vx_runV (As := [.int p1]) (rest := [.int (0 : Int32), .ref (a 39)]) ⟨hx, hb, hml, hown, hts⟩ (m_X10_count_0 l hl9 D a k s.heap.size (fd_I40 hI) N p1 σ _ hc1) (cwV 1 hts gL_count_X10_count rfl rfl rfl (by decide +kernel) ⟨Nat.le_of_ble_eq_true rfl, Nat.le_of_ble_eq_true rfl⟩) ⟨fd_blZ, va_recv (fd_HK hK) (fd_HC hP) (ci := 10) (q0 := 0) rfl fd_WC_0, fd_prHZ hP hK hZ hS⟩ rfl rfl hl.1 rfl (lv_room (Nat.le_of_ble_eq_true rfl)) dL_count_4 ⟨Nat.le_of_ble_eq_true rfl, Nat.le_of_ble_eq_true rfl⟩) hS (fun q _ h => fd_A_sub hS.1 h) (fun q h => fd_A_sub hS.1 h) (fun q _ h => fd_A_sub hS.1 h) (fun E ce q9 u t H1 locs1 ht hvm hp hB hz hk hS hce hcv hcl => ?_) (fun v2 u t H1 locs ht hvm hw hB hz hk hS => ?_)
      · obtain ⟨hB0, hP1, hK1⟩ := hB
        rw [ht] at hP1
        obtain ⟨e1, e2⟩ := Prod.mk.inj hB0
        obtain e1 := Sum.inr.inj e1
        subst e1
        subst e2
        obtain ⟨σ11, eσ11, hf⟩ := fd_lts hf
        have hP : va_P D vwCl (fd_WH a k σ11) H1 := by rw [eσ11]; exact fd_HJ hI hP hP1 hk
        refine fd_catch (own := RL) (name := "java/lang/IndexOutOfBoundsException") (E := "java/lang/IndexOutOfBoundsException") hown [] ⟨0, 9, 12, 19⟩ [] (by rw [hTab]; rfl) (fun z hz => nomatch hz) (by decide) (by decide) (hts (.classLink RL 19 "java/lang/IndexOutOfBoundsException") (List.mem_of_getElem? (i := 1) (by eq_refl))) (hZ.cast "java/lang/IndexOutOfBoundsException" (by decide +kernel)) hce hcv hcl ?_
        refine W.cs (cells' := 1) (slots' := 6) rfl rfl ?_
        refine lv_astore_n (lv' := [(3, .ref q9), (0, .ref (a 0)), (1, .int p1), (2, .ref (a 39))]) hx hb dL_count_12 rfl hl (by decide) rfl (fun ls hl => ?_)
        refine lv_iconst (v := (1 : Int32)) hx hb dL_count_13 (by decide) ?_
        refine W.widen (k := 1) (n := 6) (Nat.le_of_ble_eq_true rfl) (Nat.le_of_ble_eq_true rfl) ?_
        exact W.iret (v := (1 : Int32)) hx hb hr (fun t ht hW => ⟨⟨(1 : Int32), σ11, rfl, Option.some.inj hf, by rw [ht]; exact hP, va_K.moved hW.alike hK⟩, hS.F ht⟩) hS.2.2 dL_count_14
      · exact absurd hw (by simp)
    have hf := fd_itn c10 hf
    cases hf
noncomputable def f_X11_count_0_J15 (N : Nat) (y1 : Int32) (z1 : Int32) (σ : fd_St) : Option (Int32 × fd_St) := fd_lt (fd_sI 0 z1 σ) (fun σ7 => if y1 = (0 : Int32) then (some (σ7.1 1, σ7)) else (if y1 = (1 : Int32) then (some (σ7.1 2, σ7)) else (if y1 = (2 : Int32) then (some (σ7.1 3, σ7)) else (if y1 = (3 : Int32) then (some (σ7.1 5, σ7)) else (if y1 = (4 : Int32) then (if (σ7.1 6) = 0 then (some ((0 : Int32), σ7)) else (some (σ7.1 7, σ7))) else (if y1 = (5 : Int32) then (some (σ7.1 14, σ7)) else (if y1 = (6 : Int32) then (some (σ7.1 4, σ7)) else (if y1 = (7 : Int32) then (some (σ7.1 13, σ7)) else (if y1 = (8 : Int32) then (some (σ7.1 11, σ7)) else (some ((0 : Int32), σ7)))))))))))
noncomputable def f_X11_count_0 (N : Nat) (p1 : Int32) (σ : fd_St) : Option (Int32 × fd_St) := fd_bd (f_X11_isIn N p1 (9 : Int32) σ) (fun v2 σ3 => if v2 = 0 then (f_X11_count_0_J15 N p1 (1 : Int32) σ3) else (f_X11_count_0_J15 N p1 (0 : Int32) σ3))
set_option maxHeartbeats 4000000 in
set_option maxRecDepth 100000 in
theorem m_X11_count_0 (l : Launch) (D : va_G) (a : Nat → Nat) (k : Nat → ClassId) (sz : Nat) (hI : fd_I 29 a) (N : Nat) (p1 : Int32) (σ : fd_St) (r : Int32 × fd_St) (hf : f_X11_count_0 N p1 σ = some r) : Met l yX11_count wsX11_count ({ frames := 1, cells := 0, slots := 0, locals := 21 }) (va_Pc [.ref (a 0), .int p1] (fd_PM D a k sz σ)) (va_Qi (fun v u => (v, u) = r) (fd_BM D a k) (fd_A 29 a sz)) 0 0 (fd_A 29 a sz) := by
  refine Met.ofW (cc := cX11_count) (maxL := 2) (ret := (some .int)) (by decide) rfl ?_
  intro p e s m args below meth c s₁ B hml hv
  obtain ⟨rfl, hsz, hP, hK⟩ := hv
  have hx := B.exec
  have hb := B.bytes
  have hr := B.returns
  have hts := atoms_spec (ws := wsX11_count) B.pre
  have hown : s.vm.findClass RX11 = some m.cls := findClass_of_methodNamed B.named
  have hlocks := B.notSynchronized
  subst hsz
  have hJ : ∀ i, i < 29 → fd_A 29 a s.heap.size (a i) := fun i hi => Or.inl ⟨i, hi, rfl⟩
  have hS : va_S (fd_A 29 a s.heap.size) s.heap s.heap [] := va_S.rf
  have hl := lv_entry ([.ref (a 0), .int p1]) (n := 2) (Nat.le_of_ble_eq_true rfl)
  rw [lg_entry_eq]
  generalize (lg_sl ([.ref (a 0), .int p1]) ++ List.replicate (2 - (lg_sl ([.ref (a 0), .int p1])).length) Slot.unset).toArray = ls at hl ⊢
  have hl : lv_has ls 2 [(0, .ref (a 0)), (1, .int p1)] := hl
  have h9X11 : ∀ w ∈ u_ws RX11 TX11 43, w ∈ wsX11_count := fd_su [16, 17, 18, 19, 20, 21, 22, 23, 24, 25, 26, 27, 28, 29, 30, 31, 32, 33, 34, 35, 36, 37, 38, 39, 40, 41, 42, 43, 44, 45, 46, 47, 48, 49, 50, 51, 52, 53, 54, 55, 56, 57, 58] (by eq_refl)
  have hL15 : ∀ (y1 : Int32) (z1 : Int32) (σ : fd_St) (H : Heap) (locs : List Loc) (ls : Array Slot), va_P D vwCl (fd_WM a k σ) H → va_S (fd_A 29 a s.heap.size) s.heap H locs → lv_has ls 2 [(0, .ref (a 0)), (1, .int y1)] → f_X11_count_0_J15 N y1 z1 σ = some r → W p l e ((headSpec wsX11_count ({ frames := 1, cells := 0, slots := 0, locals := 21 })).room) s m ([.ref (a 0), .int p1].toArray) below meth c H locs 0 0 (MQ below (va_Qi (fun v u => (v, u) = r) (fd_BM D a k) (fd_A 29 a s.heap.size)) ([.ref (a 0), .int p1].toArray) s 0 0 (fd_A 29 a s.heap.size)) (F0 m 15 ls [.int z1, .ref (a 0)]) := by
    intro y1 z1 σ H locs ls hP hS hl hf
    unfold f_X11_count_0_J15 at hf
    obtain ⟨σ7, eσ7, hf⟩ := fd_lts hf
    refine va_put (ci := 11) (v := .int z1) (ty := .int) (C := RX11) (T := TX11) (N := 43) hx hb hts h9X11 tyX11 tyX11_ok nmX11 hown hK hP (fd_DM hI hJ) hS 0 fd_WM_0 rfl 0 (by decide) (hts (.fieldLink RX11 99 "FailDiagnoseModel" "thrown" "I") (List.mem_of_getElem? (i := 1) (by eq_refl))) (fun _ h9 => h9) rfl (by decide +kernel) rfl rfl (Nat.le_of_ble_eq_true rfl) dX11_count_15 (fun H locs hP _ hS => ?_)
    have hP : va_P D vwCl (fd_WM a k σ7) H := by rw [eσ7]; exact fd_sP fd_WMi_0 hP
    refine lv_iload_n hx hb dX11_count_18 rfl (lv_at hl 1 rfl) ?_
    by_cases c8 : y1 = (0 : Int32)
    · have hf := fd_itp c8 hf
      refine lv_tableIn (off := 49) (tgt := 68) hx hb dX11_count_19 (by rw [c8]; decide) (by rw [c8]; decide) (by rw [c8]; decide) (by decide) ?_
      refine lv_aload_n hx hb dX11_count_68 rfl (lv_at hl 0 rfl) ?_
      refine va_get (ci := 11) (v := .int (σ7.1 1)) (C := RX11) (T := TX11) (N := 43) hx hb hts h9X11 hown hK hP 0 fd_WM_0 rfl 1 (by decide) (hts (.fieldLink RX11 113 "FailDiagnoseModel" "nets" "I") (List.mem_of_getElem? (i := 2) (by eq_refl))) (fun _ h9 => h9) rfl dX11_count_69 ?_
      exact W.iret (v := (σ7.1 1)) hx hb hr (fun t ht hW => ⟨⟨σ7.1 1, σ7, rfl, Option.some.inj hf, by rw [ht]; exact hP, va_K.moved hW.alike hK⟩, hS.F ht⟩) hS.2.2 dX11_count_72
    have hf := fd_itn c8 hf
    by_cases c9 : y1 = (1 : Int32)
    · have hf := fd_itp c9 hf
      refine lv_tableIn (off := 54) (tgt := 73) hx hb dX11_count_19 (by rw [c9]; decide) (by rw [c9]; decide) (by rw [c9]; decide) (by decide) ?_
      refine lv_aload_n hx hb dX11_count_73 rfl (lv_at hl 0 rfl) ?_
      refine va_get (ci := 11) (v := .int (σ7.1 2)) (C := RX11) (T := TX11) (N := 43) hx hb hts h9X11 hown hK hP 0 fd_WM_0 rfl 6 (by decide) (hts (.fieldLink RX11 110 "FailDiagnoseModel" "inputs" "I") (List.mem_of_getElem? (i := 3) (by eq_refl))) (fun _ h9 => h9) rfl dX11_count_74 ?_
      exact W.iret (v := (σ7.1 2)) hx hb hr (fun t ht hW => ⟨⟨σ7.1 2, σ7, rfl, Option.some.inj hf, by rw [ht]; exact hP, va_K.moved hW.alike hK⟩, hS.F ht⟩) hS.2.2 dX11_count_77
    have hf := fd_itn c9 hf
    by_cases c10 : y1 = (2 : Int32)
    · have hf := fd_itp c10 hf
      refine lv_tableIn (off := 59) (tgt := 78) hx hb dX11_count_19 (by rw [c10]; decide) (by rw [c10]; decide) (by rw [c10]; decide) (by decide) ?_
      refine lv_aload_n hx hb dX11_count_78 rfl (lv_at hl 0 rfl) ?_
      refine va_get (ci := 11) (v := .int (σ7.1 3)) (C := RX11) (T := TX11) (N := 43) hx hb hts h9X11 hown hK hP 0 fd_WM_0 rfl 7 (by decide) (hts (.fieldLink RX11 123 "FailDiagnoseModel" "outputs" "I") (List.mem_of_getElem? (i := 4) (by eq_refl))) (fun _ h9 => h9) rfl dX11_count_79 ?_
      exact W.iret (v := (σ7.1 3)) hx hb hr (fun t ht hW => ⟨⟨σ7.1 3, σ7, rfl, Option.some.inj hf, by rw [ht]; exact hP, va_K.moved hW.alike hK⟩, hS.F ht⟩) hS.2.2 dX11_count_82
    have hf := fd_itn c10 hf
    by_cases c11 : y1 = (3 : Int32)
    · have hf := fd_itp c11 hf
      refine lv_tableIn (off := 64) (tgt := 83) hx hb dX11_count_19 (by rw [c11]; decide) (by rw [c11]; decide) (by rw [c11]; decide) (by decide) ?_
      refine lv_aload_n hx hb dX11_count_83 rfl (lv_at hl 0 rfl) ?_
      refine va_get (ci := 11) (v := .int (σ7.1 5)) (C := RX11) (T := TX11) (N := 43) hx hb hts h9X11 hown hK hP 0 fd_WM_0 rfl 11 (by decide) (hts (.fieldLink RX11 150 "FailDiagnoseModel" "pairs" "I") (List.mem_of_getElem? (i := 5) (by eq_refl))) (fun _ h9 => h9) rfl dX11_count_84 ?_
      exact W.iret (v := (σ7.1 5)) hx hb hr (fun t ht hW => ⟨⟨σ7.1 5, σ7, rfl, Option.some.inj hf, by rw [ht]; exact hP, va_K.moved hW.alike hK⟩, hS.F ht⟩) hS.2.2 dX11_count_87
    have hf := fd_itn c11 hf
    by_cases c12 : y1 = (4 : Int32)
    · have hf := fd_itp c12 hf
      refine lv_tableIn (off := 69) (tgt := 88) hx hb dX11_count_19 (by rw [c12]; decide) (by rw [c12]; decide) (by rw [c12]; decide) (by decide) ?_
      refine lv_aload_n hx hb dX11_count_88 rfl (lv_at hl 0 rfl) ?_
      refine va_get (ci := 11) (v := .int (σ7.1 6)) (C := RX11) (T := TX11) (N := 43) hx hb hts h9X11 hown hK hP 0 fd_WM_0 rfl 17 (by decide) (hts (.fieldLink RX11 103 "FailDiagnoseModel" "told" "Z") (List.mem_of_getElem? (i := 6) (by eq_refl))) (fun _ h9 => h9) rfl dX11_count_89 ?_
      refine lv_if_eq (tgt := 102) hx hb dX11_count_92 (by decide) (fun c13 => ?_) (fun c13 => ?_)
      · have hf := fd_itp c13 hf
        refine lv_iconst (v := (0 : Int32)) hx hb dX11_count_102 (by decide) ?_
        exact W.iret (v := (0 : Int32)) hx hb hr (fun t ht hW => ⟨⟨(0 : Int32), σ7, rfl, Option.some.inj hf, by rw [ht]; exact hP, va_K.moved hW.alike hK⟩, hS.F ht⟩) hS.2.2 dX11_count_103
      · have hf := fd_itn c13 hf
        refine lv_aload_n hx hb dX11_count_95 rfl (lv_at hl 0 rfl) ?_
        refine va_get (ci := 11) (v := .int (σ7.1 7)) (C := RX11) (T := TX11) (N := 43) hx hb hts h9X11 hown hK hP 0 fd_WM_0 rfl 18 (by decide) (hts (.fieldLink RX11 107 "FailDiagnoseModel" "suspects" "I") (List.mem_of_getElem? (i := 7) (by eq_refl))) (fun _ h9 => h9) rfl dX11_count_96 ?_
        refine lv_goto (tgt := 103) hx hb dX11_count_99 (by decide) ?_
        exact W.iret (v := (σ7.1 7)) hx hb hr (fun t ht hW => ⟨⟨σ7.1 7, σ7, rfl, Option.some.inj hf, by rw [ht]; exact hP, va_K.moved hW.alike hK⟩, hS.F ht⟩) hS.2.2 dX11_count_103
    have hf := fd_itn c12 hf
    by_cases c14 : y1 = (5 : Int32)
    · have hf := fd_itp c14 hf
      refine lv_tableIn (off := 85) (tgt := 104) hx hb dX11_count_19 (by rw [c14]; decide) (by rw [c14]; decide) (by rw [c14]; decide) (by decide) ?_
      refine lv_aload_n hx hb dX11_count_104 rfl (lv_at hl 0 rfl) ?_
      refine va_get (ci := 11) (v := .int (σ7.1 14)) (C := RX11) (T := TX11) (N := 43) hx hb hts h9X11 hown hK hP 0 fd_WM_0 rfl 35 (by decide) (hts (.fieldLink RX11 198 "FailDiagnoseModel" "shapes" "I") (List.mem_of_getElem? (i := 8) (by eq_refl))) (fun _ h9 => h9) rfl dX11_count_105 ?_
      exact W.iret (v := (σ7.1 14)) hx hb hr (fun t ht hW => ⟨⟨σ7.1 14, σ7, rfl, Option.some.inj hf, by rw [ht]; exact hP, va_K.moved hW.alike hK⟩, hS.F ht⟩) hS.2.2 dX11_count_108
    have hf := fd_itn c14 hf
    by_cases c15 : y1 = (6 : Int32)
    · have hf := fd_itp c15 hf
      refine lv_tableIn (off := 90) (tgt := 109) hx hb dX11_count_19 (by rw [c15]; decide) (by rw [c15]; decide) (by rw [c15]; decide) (by decide) ?_
      refine lv_aload_n hx hb dX11_count_109 rfl (lv_at hl 0 rfl) ?_
      refine va_get (ci := 11) (v := .int (σ7.1 4)) (C := RX11) (T := TX11) (N := 43) hx hb hts h9X11 hown hK hP 0 fd_WM_0 rfl 10 (by decide) (hts (.fieldLink RX11 126 "FailDiagnoseModel" "many" "I") (List.mem_of_getElem? (i := 9) (by eq_refl))) (fun _ h9 => h9) rfl dX11_count_110 ?_
      exact W.iret (v := (σ7.1 4)) hx hb hr (fun t ht hW => ⟨⟨σ7.1 4, σ7, rfl, Option.some.inj hf, by rw [ht]; exact hP, va_K.moved hW.alike hK⟩, hS.F ht⟩) hS.2.2 dX11_count_113
    have hf := fd_itn c15 hf
    by_cases c16 : y1 = (7 : Int32)
    · have hf := fd_itp c16 hf
      refine lv_tableIn (off := 95) (tgt := 114) hx hb dX11_count_19 (by rw [c16]; decide) (by rw [c16]; decide) (by rw [c16]; decide) (by decide) ?_
      refine lv_aload_n hx hb dX11_count_114 rfl (lv_at hl 0 rfl) ?_
      refine va_get (ci := 11) (v := .int (σ7.1 13)) (C := RX11) (T := TX11) (N := 43) hx hb hts h9X11 hown hK hP 0 fd_WM_0 rfl 32 (by decide) (hts (.fieldLink RX11 191 "FailDiagnoseModel" "rows" "I") (List.mem_of_getElem? (i := 10) (by eq_refl))) (fun _ h9 => h9) rfl dX11_count_115 ?_
      exact W.iret (v := (σ7.1 13)) hx hb hr (fun t ht hW => ⟨⟨σ7.1 13, σ7, rfl, Option.some.inj hf, by rw [ht]; exact hP, va_K.moved hW.alike hK⟩, hS.F ht⟩) hS.2.2 dX11_count_118
    have hf := fd_itn c16 hf
    by_cases c17 : y1 = (8 : Int32)
    · have hf := fd_itp c17 hf
      refine lv_tableIn (off := 100) (tgt := 119) hx hb dX11_count_19 (by rw [c17]; decide) (by rw [c17]; decide) (by rw [c17]; decide) (by decide) ?_
      refine lv_aload_n hx hb dX11_count_119 rfl (lv_at hl 0 rfl) ?_
      refine va_get (ci := 11) (v := .int (σ7.1 11)) (C := RX11) (T := TX11) (N := 43) hx hb hts h9X11 hown hK hP 0 fd_WM_0 rfl 29 (by decide) (hts (.fieldLink RX11 185 "FailDiagnoseModel" "chips" "I") (List.mem_of_getElem? (i := 11) (by eq_refl))) (fun _ h9 => h9) rfl dX11_count_120 ?_
      exact W.iret (v := (σ7.1 11)) hx hb hr (fun t ht hW => ⟨⟨σ7.1 11, σ7, rfl, Option.some.inj hf, by rw [ht]; exact hP, va_K.moved hW.alike hK⟩, hS.F ht⟩) hS.2.2 dX11_count_123
    have hf := fd_itn c17 hf
    have nc8 := lv_neT c8 (a := 0) (by decide)
    have nc9 := lv_neT c9 (a := 1) (by decide)
    have nc10 := lv_neT c10 (a := 2) (by decide)
    have nc11 := lv_neT c11 (a := 3) (by decide)
    have nc12 := lv_neT c12 (a := 4) (by decide)
    have nc14 := lv_neT c14 (a := 5) (by decide)
    have nc15 := lv_neT c15 (a := 6) (by decide)
    have nc16 := lv_neT c16 (a := 7) (by decide)
    have nc17 := lv_neT c17 (a := 8) (by decide)
    refine lv_tableOut (tgt := 124) hx hb dX11_count_19 (by omega) (by decide) ?_
    refine lv_iconst (v := (0 : Int32)) hx hb dX11_count_124 (by decide) ?_
    exact W.iret (v := (0 : Int32)) hx hb hr (fun t ht hW => ⟨⟨(0 : Int32), σ7, rfl, Option.some.inj hf, by rw [ht]; exact hP, va_K.moved hW.alike hK⟩, hS.F ht⟩) hS.2.2 dX11_count_125
  unfold f_X11_count_0 at hf
  refine lv_aload_n hx hb dX11_count_0 rfl (lv_at hl 0 rfl) ?_
  refine lv_iload_n hx hb dX11_count_1 rfl (lv_at hl 1 rfl) ?_
  refine lv_bipush (v := (9 : Int32)) hx hb dX11_count_2 (by decide) ?_
  obtain ⟨w4, τ5, hc1, hf⟩ := fd_bds hf
  refine va_calli (va_runS (As := [.int p1, .int (9 : Int32)]) (rest := [.ref (a 0)]) ⟨hx, hb, hml, hown, hts⟩ (m_X11_isIn l D a k s.heap.size hI N p1 (9 : Int32) σ _ hc1) (va_cwS 2 hts gX11_count_X11_isIn rfl rfl rfl (by decide +kernel) ⟨Nat.le_of_ble_eq_true rfl, Nat.le_of_ble_eq_true rfl⟩) ⟨fd_blM, fd_prM hP hK⟩ rfl rfl hl.1 rfl (lv_room (Nat.le_of_ble_eq_true rfl)) dX11_count_4 ⟨Nat.zero_le _, Nat.zero_le _⟩) hS (fun q _ h => fd_A_mono hS.1 h) (fun q h => fd_A_mono hS.1 h) (fun v2 u t H1 locs ht hvm hw hB hz hk hS => ?_)
  obtain ⟨hP1, hK1⟩ := hB
  rw [ht] at hP1
  obtain ⟨e1, e2⟩ := Prod.mk.inj hw
  subst e1
  subst e2
  obtain ⟨σ3, rfl⟩ : ∃ z, z = u := ⟨_, rfl⟩
  have hP := hP1
  generalize H1 = H at hP hS ⊢
  refine lv_if_eq (tgt := 14) hx hb dX11_count_7 (by decide) (fun c6 => ?_) (fun c6 => ?_)
  · have hf := fd_itp c6 hf
    refine lv_iconst (v := (1 : Int32)) hx hb dX11_count_14 (by decide) ?_
    exact hL15 p1 (1 : Int32) σ3 _ _ _ hP hS (lv_sub hl [0, 1] rfl) hf
  · have hf := fd_itn c6 hf
    refine lv_iconst (v := (0 : Int32)) hx hb dX11_count_10 (by decide) ?_
    refine lv_goto (tgt := 15) hx hb dX11_count_11 (by decide) ?_
    exact hL15 p1 (0 : Int32) σ3 _ _ _ hP hS (lv_sub hl [0, 1] rfl) hf
noncomputable def f_X2_forget_1 (N : Nat) (σ : fd_St) : Option (Unit × fd_St) := fd_lt (fd_sI 1 (0 : Int32) σ) (fun σ1 => fd_lt (fd_sI 2 (0 : Int32) σ1) (fun σ2 => fd_lt (fd_sI 3 (0 : Int32) σ2) (fun σ3 => some ((), σ3))))
set_option maxHeartbeats 4000000 in
set_option maxRecDepth 100000 in
theorem m_X2_forget_1 (l : Launch) (D : va_G) (a : Nat → Nat) (k : Nat → ClassId) (sz : Nat) (hI : fd_I 39 a) (N : Nat) (σ : fd_St) (r : Unit × fd_St) (hf : f_X2_forget_1 N σ = some r) : Met l yX2_forget wsX2_forget ({ frames := 0, cells := 0, slots := 0, locals := 0 }) (va_Pc [.ref (a 1)] (fd_PC D a k sz σ)) (va_Qv (fun u => ((), u) = r) (fd_BC D a k) (fd_A 39 a sz)) 0 0 (fd_A 39 a sz) := by
  refine Met.ofW (cc := cX2_forget) (maxL := 1) (ret := none) (by decide) rfl ?_
  intro p e s m args below meth c s₁ B hml hv
  obtain ⟨rfl, hsz, hP, hK⟩ := hv
  have hx := B.exec
  have hb := B.bytes
  have hr := B.returns
  have hts := atoms_spec (ws := wsX2_forget) B.pre
  have hown : s.vm.findClass RX2 = some m.cls := findClass_of_methodNamed B.named
  have hlocks := B.notSynchronized
  subst hsz
  have hJ : ∀ i, i < 39 → fd_A 39 a s.heap.size (a i) := fun i hi => Or.inl ⟨i, hi, rfl⟩
  have hS : va_S (fd_A 39 a s.heap.size) s.heap s.heap [] := va_S.rf
  have hl := lv_entry ([.ref (a 1)]) (n := 1) (Nat.le_of_ble_eq_true rfl)
  rw [lg_entry_eq]
  generalize (lg_sl ([.ref (a 1)]) ++ List.replicate (1 - (lg_sl ([.ref (a 1)])).length) Slot.unset).toArray = ls at hl ⊢
  have hl : lv_has ls 1 [(0, .ref (a 1))] := hl
  have h9X2 : ∀ w ∈ u_ws RX2 TX2 9, w ∈ wsX2_forget := fd_su [4, 5, 6, 7, 8, 9, 10, 11, 12] (by eq_refl)
  unfold f_X2_forget_1 at hf
  refine lv_aload_n hx hb dX2_forget_0 rfl (lv_at hl 0 rfl) ?_
  refine lv_iconst (v := (0 : Int32)) hx hb dX2_forget_1 (by decide) ?_
  obtain ⟨σ1, eσ1, hf⟩ := fd_lts hf
  refine va_put (ci := 2) (v := .int (0 : Int32)) (ty := .int) (C := RX2) (T := TX2) (N := 9) hx hb hts h9X2 tyX2 tyX2_ok nmX2 hown hK hP (fd_DC hI hJ) hS 1 fd_WC_1 rfl 6 (by decide) (hts (.fieldLink RX2 32 "FailDiagnose$Circuit" "nets" "I") (List.mem_of_getElem? (i := 1) (by eq_refl))) (fun _ h9 => h9) rfl (by decide +kernel) rfl rfl (Nat.le_of_ble_eq_true rfl) dX2_forget_2 (fun H locs hP _ hS => ?_)
  have hP : va_P D vwCl (fd_WC a k σ1) H := by rw [eσ1]; exact fd_sP fd_WCi_1 hP
  refine lv_aload_n hx hb dX2_forget_5 rfl (lv_at hl 0 rfl) ?_
  refine lv_iconst (v := (0 : Int32)) hx hb dX2_forget_6 (by decide) ?_
  obtain ⟨σ2, eσ2, hf⟩ := fd_lts hf
  refine va_put (ci := 2) (v := .int (0 : Int32)) (ty := .int) (C := RX2) (T := TX2) (N := 9) hx hb hts h9X2 tyX2 tyX2_ok nmX2 hown hK hP (fd_DC hI hJ) hS 1 fd_WC_1 rfl 7 (by decide) (hts (.fieldLink RX2 36 "FailDiagnose$Circuit" "inputs" "I") (List.mem_of_getElem? (i := 2) (by eq_refl))) (fun _ h9 => h9) rfl (by decide +kernel) rfl rfl (Nat.le_of_ble_eq_true rfl) dX2_forget_7 (fun H locs hP _ hS => ?_)
  have hP : va_P D vwCl (fd_WC a k σ2) H := by rw [eσ2]; exact fd_sP fd_WCi_2 hP
  refine lv_aload_n hx hb dX2_forget_10 rfl (lv_at hl 0 rfl) ?_
  refine lv_iconst (v := (0 : Int32)) hx hb dX2_forget_11 (by decide) ?_
  obtain ⟨σ3, eσ3, hf⟩ := fd_lts hf
  refine va_put (ci := 2) (v := .int (0 : Int32)) (ty := .int) (C := RX2) (T := TX2) (N := 9) hx hb hts h9X2 tyX2 tyX2_ok nmX2 hown hK hP (fd_DC hI hJ) hS 1 fd_WC_1 rfl 8 (by decide) (hts (.fieldLink RX2 39 "FailDiagnose$Circuit" "patterns" "I") (List.mem_of_getElem? (i := 3) (by eq_refl))) (fun _ h9 => h9) rfl (by decide +kernel) rfl rfl (Nat.le_of_ble_eq_true rfl) dX2_forget_12 (fun H locs hP _ hS => ?_)
  have hP : va_P D vwCl (fd_WC a k σ3) H := by rw [eσ3]; exact fd_sP fd_WCi_3 hP
  exact W.vret hx hb hr (fun t ht hW => ⟨⟨σ3, rfl, Option.some.inj hf, by rw [ht]; exact hP, va_K.moved hW.alike hK⟩, hS.F ht⟩) hS.2.2 dX2_forget_15
noncomputable def f_X5_forget_2 (N : Nat) (σ : fd_St) : Option (Unit × fd_St) := fd_lt (fd_sI 4 (0 : Int32) σ) (fun σ1 => some ((), σ1))
set_option maxHeartbeats 4000000 in
set_option maxRecDepth 100000 in
theorem m_X5_forget_2 (l : Launch) (D : va_G) (a : Nat → Nat) (k : Nat → ClassId) (sz : Nat) (hI : fd_I 39 a) (N : Nat) (σ : fd_St) (r : Unit × fd_St) (hf : f_X5_forget_2 N σ = some r) : Met l yX5_forget wsX5_forget ({ frames := 0, cells := 0, slots := 0, locals := 0 }) (va_Pc [.ref (a 2)] (fd_PC D a k sz σ)) (va_Qv (fun u => ((), u) = r) (fd_BC D a k) (fd_A 39 a sz)) 0 0 (fd_A 39 a sz) := by
  refine Met.ofW (cc := cX5_forget) (maxL := 1) (ret := none) (by decide) rfl ?_
  intro p e s m args below meth c s₁ B hml hv
  obtain ⟨rfl, hsz, hP, hK⟩ := hv
  have hx := B.exec
  have hb := B.bytes
  have hr := B.returns
  have hts := atoms_spec (ws := wsX5_forget) B.pre
  have hown : s.vm.findClass RX5 = some m.cls := findClass_of_methodNamed B.named
  have hlocks := B.notSynchronized
  subst hsz
  have hJ : ∀ i, i < 39 → fd_A 39 a s.heap.size (a i) := fun i hi => Or.inl ⟨i, hi, rfl⟩
  have hS : va_S (fd_A 39 a s.heap.size) s.heap s.heap [] := va_S.rf
  have hl := lv_entry ([.ref (a 2)]) (n := 1) (Nat.le_of_ble_eq_true rfl)
  rw [lg_entry_eq]
  generalize (lg_sl ([.ref (a 2)]) ++ List.replicate (1 - (lg_sl ([.ref (a 2)])).length) Slot.unset).toArray = ls at hl ⊢
  have hl : lv_has ls 1 [(0, .ref (a 2))] := hl
  have h9X5 : ∀ w ∈ u_ws RX5 TX5 3, w ∈ wsX5_forget := fd_su [2, 3, 4] (by eq_refl)
  unfold f_X5_forget_2 at hf
  refine lv_aload_n hx hb dX5_forget_0 rfl (lv_at hl 0 rfl) ?_
  refine lv_iconst (v := (0 : Int32)) hx hb dX5_forget_1 (by decide) ?_
  obtain ⟨σ1, eσ1, hf⟩ := fd_lts hf
  refine va_put (ci := 5) (v := .int (0 : Int32)) (ty := .int) (C := RX5) (T := TX5) (N := 3) hx hb hts h9X5 tyX5 tyX5_ok nmX5 hown hK hP (fd_DC hI hJ) hS 2 fd_WC_2 rfl 2 (by decide) (hts (.fieldLink RX5 19 "FailDiagnose$Outputs" "size" "I") (List.mem_of_getElem? (i := 1) (by eq_refl))) (fun _ h9 => h9) rfl (by decide +kernel) rfl rfl (Nat.le_of_ble_eq_true rfl) dX5_forget_2 (fun H locs hP _ hS => ?_)
  have hP : va_P D vwCl (fd_WC a k σ1) H := by rw [eσ1]; exact fd_sP fd_WCi_4 hP
  exact W.vret hx hb hr (fun t ht hW => ⟨⟨σ1, rfl, Option.some.inj hf, by rw [ht]; exact hP, va_K.moved hW.alike hK⟩, hS.F ht⟩) hS.2.2 dX5_forget_5
noncomputable def f_X4_forget_3 (N : Nat) (σ : fd_St) : Option (Unit × fd_St) := fd_lt (fd_sI 5 (0 : Int32) σ) (fun σ1 => some ((), σ1))
set_option maxHeartbeats 4000000 in
set_option maxRecDepth 100000 in
theorem m_X4_forget_3 (l : Launch) (D : va_G) (a : Nat → Nat) (k : Nat → ClassId) (sz : Nat) (hI : fd_I 39 a) (N : Nat) (σ : fd_St) (r : Unit × fd_St) (hf : f_X4_forget_3 N σ = some r) : Met l yX4_forget wsX4_forget ({ frames := 0, cells := 0, slots := 0, locals := 0 }) (va_Pc [.ref (a 3)] (fd_PC D a k sz σ)) (va_Qv (fun u => ((), u) = r) (fd_BC D a k) (fd_A 39 a sz)) 0 0 (fd_A 39 a sz) := by
  refine Met.ofW (cc := cX4_forget) (maxL := 1) (ret := none) (by decide) rfl ?_
  intro p e s m args below meth c s₁ B hml hv
  obtain ⟨rfl, hsz, hP, hK⟩ := hv
  have hx := B.exec
  have hb := B.bytes
  have hr := B.returns
  have hts := atoms_spec (ws := wsX4_forget) B.pre
  have hown : s.vm.findClass RX4 = some m.cls := findClass_of_methodNamed B.named
  have hlocks := B.notSynchronized
  subst hsz
  have hJ : ∀ i, i < 39 → fd_A 39 a s.heap.size (a i) := fun i hi => Or.inl ⟨i, hi, rfl⟩
  have hS : va_S (fd_A 39 a s.heap.size) s.heap s.heap [] := va_S.rf
  have hl := lv_entry ([.ref (a 3)]) (n := 1) (Nat.le_of_ble_eq_true rfl)
  rw [lg_entry_eq]
  generalize (lg_sl ([.ref (a 3)]) ++ List.replicate (1 - (lg_sl ([.ref (a 3)])).length) Slot.unset).toArray = ls at hl ⊢
  have hl : lv_has ls 1 [(0, .ref (a 3))] := hl
  have h9X4 : ∀ w ∈ u_ws RX4 TX4 3, w ∈ wsX4_forget := fd_su [2, 3, 4] (by eq_refl)
  unfold f_X4_forget_3 at hf
  refine lv_aload_n hx hb dX4_forget_0 rfl (lv_at hl 0 rfl) ?_
  refine lv_iconst (v := (0 : Int32)) hx hb dX4_forget_1 (by decide) ?_
  obtain ⟨σ1, eσ1, hf⟩ := fd_lts hf
  refine va_put (ci := 4) (v := .int (0 : Int32)) (ty := .int) (C := RX4) (T := TX4) (N := 3) hx hb hts h9X4 tyX4 tyX4_ok nmX4 hown hK hP (fd_DC hI hJ) hS 3 fd_WC_3 rfl 2 (by decide) (hts (.fieldLink RX4 18 "FailDiagnose$NearPairs" "size" "I") (List.mem_of_getElem? (i := 1) (by eq_refl))) (fun _ h9 => h9) rfl (by decide +kernel) rfl rfl (Nat.le_of_ble_eq_true rfl) dX4_forget_2 (fun H locs hP _ hS => ?_)
  have hP : va_P D vwCl (fd_WC a k σ1) H := by rw [eσ1]; exact fd_sP fd_WCi_5 hP
  exact W.vret hx hb hr (fun t ht hW => ⟨⟨σ1, rfl, Option.some.inj hf, by rw [ht]; exact hP, va_K.moved hW.alike hK⟩, hS.F ht⟩) hS.2.2 dX4_forget_5
noncomputable def f_J7_fill_53178_C_29_L5 (N : Nat) : Nat → Int32 → Int32 → Int32 → fd_St → Option (Unit × fd_St)
  | 0 => fun _ _ _ _ => none
  | n + 1 => fun y1 y2 y3 σ => if y3 ≤ y2 then (some ((), σ)) else (fd_gd (vp_in y2 200) (fd_lt (fd_sA 29 y2 y1 σ) (fun σ3 => fd_lt (y2 + (1 : Int32)) (fun x4 => (f_J7_fill_53178_C_29_L5 N n) y1 x4 y3 σ3))))
noncomputable def f_J7_fill_53178_C_29 (N : Nat) (p1 : Int32) (σ : fd_St) : Option (Unit × fd_St) := f_J7_fill_53178_C_29_L5 N N p1 (0 : Int32) (200 : Int32) σ
set_option maxHeartbeats 4000000 in
set_option maxRecDepth 100000 in
theorem m_J7_fill_53178_C_29 (l : Launch) (D : va_G) (a : Nat → Nat) (k : Nat → ClassId) (sz : Nat) (hI : fd_I 39 a) (N : Nat) (p1 : Int32) (σ : fd_St) (r : Unit × fd_St) (hf : f_J7_fill_53178_C_29 N p1 σ = some r) : Met l yJ7_fill_53178 wsJ7_fill_53178 ({ frames := 0, cells := 0, slots := 0, locals := 0 }) (va_Pc [.ref (a 29), .int p1] (fd_PC D a k sz σ)) (va_Qv (fun u => ((), u) = r) (fd_BC D a k) (fd_A 39 a sz)) 0 0 (fd_A 39 a sz) := by
  refine Met.ofW (cc := cJ7_fill_53178) (maxL := 4) (ret := none) (by decide) rfl ?_
  intro p e s m args below meth c s₁ B hml hv
  obtain ⟨rfl, hsz, hP, hK⟩ := hv
  have hx := B.exec
  have hb := B.bytes
  have hr := B.returns
  have hts := atoms_spec (ws := wsJ7_fill_53178) B.pre
  have hown : s.vm.findClass RJ7 = some m.cls := findClass_of_methodNamed B.named
  have hlocks := B.notSynchronized
  subst hsz
  have hJ : ∀ i, i < 39 → fd_A 39 a s.heap.size (a i) := fun i hi => Or.inl ⟨i, hi, rfl⟩
  have hS : va_S (fd_A 39 a s.heap.size) s.heap s.heap [] := va_S.rf
  have hl := lv_entry ([.ref (a 29), .int p1]) (n := 4) (Nat.le_of_ble_eq_true rfl)
  rw [lg_entry_eq]
  generalize (lg_sl ([.ref (a 29), .int p1]) ++ List.replicate (4 - (lg_sl ([.ref (a 29), .int p1])).length) Slot.unset).toArray = ls at hl ⊢
  have hl : lv_has ls 4 [(0, .ref (a 29)), (1, .int p1)] := hl
  have hL5 : ∀ (n : Nat), ∀ (y1 : Int32) (y2 : Int32) (y3 : Int32) (σ : fd_St) (H : Heap) (locs : List Loc) (ls : Array Slot), va_P D vwCl (fd_WC a k σ) H → va_S (fd_A 39 a s.heap.size) s.heap H locs → lv_has ls 4 [(0, .ref (a 29)), (1, .int y1), (2, .int y2), (3, .int y3)] → f_J7_fill_53178_C_29_L5 N n y1 y2 y3 σ = some r → W p l e ((headSpec wsJ7_fill_53178 ({ frames := 0, cells := 0, slots := 0, locals := 0 })).room) s m ([.ref (a 29), .int p1].toArray) below meth c H locs 0 0 (MQ below (va_Qv (fun u => ((), u) = r) (fd_BC D a k) (fd_A 39 a s.heap.size)) ([.ref (a 29), .int p1].toArray) s 0 0 (fd_A 39 a s.heap.size)) (F0 m 5 ls []) := by
    intro n
    induction n with
    | zero =>
      intro _ _ _ _ _ _ _ _ _ _ hf
      cases hf
    | succ n ih =>
      intro y1 y2 y3 σ H locs ls hP hS hl hf
      unfold f_J7_fill_53178_C_29_L5 at hf
      refine lv_iload_n hx hb dJ7_fill_53178_5 rfl (lv_at hl 2 rfl) ?_
      refine lv_iload_n hx hb dJ7_fill_53178_6 rfl (lv_at hl 3 rfl) ?_
      refine lv_icmp_ge (tgt := 20) hx hb dJ7_fill_53178_7 (by decide) (fun c1 => ?_) (fun c1 => ?_)
      · have hf := fd_itp c1 hf
        exact W.vret hx hb hr (fun t ht hW => ⟨⟨σ, rfl, Option.some.inj hf, by rw [ht]; exact hP, va_K.moved hW.alike hK⟩, hS.F ht⟩) hS.2.2 dJ7_fill_53178_20
      · have hf := fd_itn c1 hf
        refine lv_aload_n hx hb dJ7_fill_53178_10 rfl (lv_at hl 0 rfl) ?_
        refine lv_iload_n hx hb dJ7_fill_53178_11 rfl (lv_at hl 2 rfl) ?_
        refine lv_iload_n hx hb dJ7_fill_53178_12 rfl (lv_at hl 1 rfl) ?_
        obtain ⟨g2, hf⟩ := fd_gds hf
        obtain ⟨σ3, eσ3, hf⟩ := fd_lts hf
        refine va_iast hx hb hK hP (fd_DC hI hJ) hS 29 17 fd_WC_29 fd_tyC_29 g2 dJ7_fill_53178_13 (fun H locs hP _ hS => ?_)
        have hP : va_P D vwCl (fd_WC a k σ3) H := by rw [eσ3]; exact fd_sP fd_WCa_29 hP
        obtain ⟨x4, ex4, hf⟩ := fd_lts hf
        refine lv_iinc (v := x4) (lv' := [(2, .int x4), (0, .ref (a 29)), (1, .int y1), (3, .int y3)]) hx hb dJ7_fill_53178_14 hl (k := 2) rfl (by rw [ex4]; rfl) (by decide) rfl (fun ls hl => ?_)
        refine lv_goto (tgt := 5) hx hb dJ7_fill_53178_17 (by decide) ?_
        exact ih y1 x4 y3 σ3 _ _ _ hP hS (lv_sub hl [1, 2, 0, 3] rfl) hf
  unfold f_J7_fill_53178_C_29 at hf
  refine lv_iconst (v := (0 : Int32)) hx hb dJ7_fill_53178_0 (by decide) ?_
  refine lv_istore_n (lv' := [(2, .int (0 : Int32)), (0, .ref (a 29)), (1, .int p1)]) hx hb dJ7_fill_53178_1 rfl hl (by decide) rfl (fun ls hl => ?_)
  refine lv_aload_n hx hb dJ7_fill_53178_2 rfl (lv_at hl 1 rfl) ?_
  refine va_alen (v := (200 : Int32)) hx hb hK hP 29 17 fd_WC_29 fd_tyC_29 rfl dJ7_fill_53178_3 ?_
  refine lv_istore_n (lv' := [(3, .int (200 : Int32)), (2, .int (0 : Int32)), (0, .ref (a 29)), (1, .int p1)]) hx hb dJ7_fill_53178_4 rfl hl (by decide) rfl (fun ls hl => ?_)
  exact hL5 N p1 (0 : Int32) (200 : Int32) σ _ _ _ hP hS (lv_sub hl [2, 3, 1, 0] rfl) hf
noncomputable def f_X7_forget_9 (N : Nat) (σ : fd_St) : Option (Unit × fd_St) := fd_bd (f_J7_fill_53178_C_29 N (0 : Int32) σ) (fun _ σ3 => fd_lt (fd_sI 15 (0 : Int32) σ3) (fun σ6 => some ((), σ6)))
set_option maxHeartbeats 4000000 in
set_option maxRecDepth 100000 in
theorem m_X7_forget_9 (l : Launch) (D : va_G) (a : Nat → Nat) (k : Nat → ClassId) (sz : Nat) (hI : fd_I 39 a) (N : Nat) (σ : fd_St) (r : Unit × fd_St) (hf : f_X7_forget_9 N σ = some r) : Met l yX7_forget wsX7_forget ({ frames := 1, cells := 0, slots := 0, locals := 23 }) (va_Pc [.ref (a 9)] (fd_PC D a k sz σ)) (va_Qv (fun u => ((), u) = r) (fd_BC D a k) (fd_A 39 a sz)) 0 0 (fd_A 39 a sz) := by
  refine Met.ofW (cc := cX7_forget) (maxL := 1) (ret := none) (by decide) rfl ?_
  intro p e s m args below meth c s₁ B hml hv
  obtain ⟨rfl, hsz, hP, hK⟩ := hv
  have hx := B.exec
  have hb := B.bytes
  have hr := B.returns
  have hts := atoms_spec (ws := wsX7_forget) B.pre
  have hown : s.vm.findClass RX7 = some m.cls := findClass_of_methodNamed B.named
  have hlocks := B.notSynchronized
  subst hsz
  have hJ : ∀ i, i < 39 → fd_A 39 a s.heap.size (a i) := fun i hi => Or.inl ⟨i, hi, rfl⟩
  have hS : va_S (fd_A 39 a s.heap.size) s.heap s.heap [] := va_S.rf
  have hl := lv_entry ([.ref (a 9)]) (n := 1) (Nat.le_of_ble_eq_true rfl)
  rw [lg_entry_eq]
  generalize (lg_sl ([.ref (a 9)]) ++ List.replicate (1 - (lg_sl ([.ref (a 9)])).length) Slot.unset).toArray = ls at hl ⊢
  have hl : lv_has ls 1 [(0, .ref (a 9))] := hl
  have h9X7 : ∀ w ∈ u_ws RX7 TX7 2, w ∈ wsX7_forget := fd_su [7, 8] (by eq_refl)
  unfold f_X7_forget_9 at hf
  refine lv_aload_n hx hb dX7_forget_0 rfl (lv_at hl 0 rfl) ?_
  refine va_get (ci := 7) (v := .ref (a 29)) (C := RX7) (T := TX7) (N := 2) hx hb hts h9X7 hown hK hP 9 fd_WC_9 rfl 0 (by decide) (hts (.fieldLink RX7 9 "FailDiagnose$Shares" "given" "[I") (List.mem_of_getElem? (i := 1) (by eq_refl))) (fun _ h9 => h9) rfl dX7_forget_1 ?_
  refine lv_iconst (v := (0 : Int32)) hx hb dX7_forget_4 (by decide) ?_
  obtain ⟨w4, τ5, hc1, hf⟩ := fd_bds hf
  refine va_callv (va_runS (As := [.ref (a 29), .int (0 : Int32)]) (rest := []) ⟨hx, hb, hml, hown, hts⟩ (m_J7_fill_53178_C_29 l D a k s.heap.size hI N (0 : Int32) σ _ hc1) (va_cwS 2 hts gX7_forget_J7_fill_53178 rfl rfl rfl (by decide +kernel) ⟨Nat.le_of_ble_eq_true rfl, Nat.le_of_ble_eq_true rfl⟩) ⟨fd_blC, fd_prC hP hK⟩ rfl rfl hl.1 rfl (lv_room (Nat.le_of_ble_eq_true rfl)) dX7_forget_5 ⟨Nat.zero_le _, Nat.zero_le _⟩) hS (fun q _ h => fd_A_mono hS.1 h) (fun q h => fd_A_mono hS.1 h) (fun u t H1 locs ht hvm hw hB hz hk hS => ?_)
  obtain ⟨hP1, hK1⟩ := hB
  rw [ht] at hP1
  have e2 := (Prod.mk.inj hw).2
  subst e2
  obtain ⟨σ3, rfl⟩ : ∃ z, z = u := ⟨_, rfl⟩
  have hP := hP1
  generalize H1 = H at hP hS ⊢
  refine lv_aload_n hx hb dX7_forget_8 rfl (lv_at hl 0 rfl) ?_
  refine lv_iconst (v := (0 : Int32)) hx hb dX7_forget_9 (by decide) ?_
  obtain ⟨σ6, eσ6, hf⟩ := fd_lts hf
  refine va_put (ci := 7) (v := .int (0 : Int32)) (ty := .int) (C := RX7) (T := TX7) (N := 2) hx hb hts h9X7 tyX7 tyX7_ok nmX7 hown hK hP (fd_DC hI hJ) hS 9 fd_WC_9 rfl 1 (by decide) (hts (.fieldLink RX7 15 "FailDiagnose$Shares" "chips" "I") (List.mem_of_getElem? (i := 2) (by eq_refl))) (fun _ h9 => h9) rfl (by decide +kernel) rfl rfl (Nat.le_of_ble_eq_true rfl) dX7_forget_10 (fun H locs hP _ hS => ?_)
  have hP : va_P D vwCl (fd_WC a k σ6) H := by rw [eσ6]; exact fd_sP fd_WCi_15 hP
  exact W.vret hx hb hr (fun t ht hW => ⟨⟨σ6, rfl, Option.some.inj hf, by rw [ht]; exact hP, va_K.moved hW.alike hK⟩, hS.F ht⟩) hS.2.2 dX7_forget_13
noncomputable def f_X1_forget_10 (N : Nat) (σ : fd_St) : Option (Unit × fd_St) := fd_lt (fd_sI 16 (0 : Int32) σ) (fun σ1 => fd_lt (fd_sI 17 (0 : Int32) σ1) (fun σ2 => some ((), σ2)))
set_option maxHeartbeats 4000000 in
set_option maxRecDepth 100000 in
theorem m_X1_forget_10 (l : Launch) (D : va_G) (a : Nat → Nat) (k : Nat → ClassId) (sz : Nat) (hI : fd_I 39 a) (N : Nat) (σ : fd_St) (r : Unit × fd_St) (hf : f_X1_forget_10 N σ = some r) : Met l yX1_forget wsX1_forget ({ frames := 0, cells := 0, slots := 0, locals := 0 }) (va_Pc [.ref (a 10)] (fd_PC D a k sz σ)) (va_Qv (fun u => ((), u) = r) (fd_BC D a k) (fd_A 39 a sz)) 0 0 (fd_A 39 a sz) := by
  refine Met.ofW (cc := cX1_forget) (maxL := 1) (ret := none) (by decide) rfl ?_
  intro p e s m args below meth c s₁ B hml hv
  obtain ⟨rfl, hsz, hP, hK⟩ := hv
  have hx := B.exec
  have hb := B.bytes
  have hr := B.returns
  have hts := atoms_spec (ws := wsX1_forget) B.pre
  have hown : s.vm.findClass RX1 = some m.cls := findClass_of_methodNamed B.named
  have hlocks := B.notSynchronized
  subst hsz
  have hJ : ∀ i, i < 39 → fd_A 39 a s.heap.size (a i) := fun i hi => Or.inl ⟨i, hi, rfl⟩
  have hS : va_S (fd_A 39 a s.heap.size) s.heap s.heap [] := va_S.rf
  have hl := lv_entry ([.ref (a 10)]) (n := 1) (Nat.le_of_ble_eq_true rfl)
  rw [lg_entry_eq]
  generalize (lg_sl ([.ref (a 10)]) ++ List.replicate (1 - (lg_sl ([.ref (a 10)])).length) Slot.unset).toArray = ls at hl ⊢
  have hl : lv_has ls 1 [(0, .ref (a 10))] := hl
  have h9X1 : ∀ w ∈ u_ws RX1 TX1 4, w ∈ wsX1_forget := fd_su [3, 4, 5, 6] (by eq_refl)
  unfold f_X1_forget_10 at hf
  refine lv_aload_n hx hb dX1_forget_0 rfl (lv_at hl 0 rfl) ?_
  refine lv_iconst (v := (0 : Int32)) hx hb dX1_forget_1 (by decide) ?_
  obtain ⟨σ1, eσ1, hf⟩ := fd_lts hf
  refine va_put (ci := 1) (v := .int (0 : Int32)) (ty := .int) (C := RX1) (T := TX1) (N := 4) hx hb hts h9X1 tyX1 tyX1_ok nmX1 hown hK hP (fd_DC hI hJ) hS 10 fd_WC_10 rfl 2 (by decide) (hts (.fieldLink RX1 18 "FailDiagnose$Chain" "size" "I") (List.mem_of_getElem? (i := 1) (by eq_refl))) (fun _ h9 => h9) rfl (by decide +kernel) rfl rfl (Nat.le_of_ble_eq_true rfl) dX1_forget_2 (fun H locs hP _ hS => ?_)
  have hP : va_P D vwCl (fd_WC a k σ1) H := by rw [eσ1]; exact fd_sP fd_WCi_16 hP
  refine lv_aload_n hx hb dX1_forget_5 rfl (lv_at hl 0 rfl) ?_
  refine lv_iconst (v := (0 : Int32)) hx hb dX1_forget_6 (by decide) ?_
  obtain ⟨σ2, eσ2, hf⟩ := fd_lts hf
  refine va_put (ci := 1) (v := .int (0 : Int32)) (ty := .int) (C := RX1) (T := TX1) (N := 4) hx hb hts h9X1 tyX1 tyX1_ok nmX1 hown hK hP (fd_DC hI hJ) hS 10 fd_WC_10 rfl 3 (by decide) (hts (.fieldLink RX1 22 "FailDiagnose$Chain" "rows" "I") (List.mem_of_getElem? (i := 2) (by eq_refl))) (fun _ h9 => h9) rfl (by decide +kernel) rfl rfl (Nat.le_of_ble_eq_true rfl) dX1_forget_7 (fun H locs hP _ hS => ?_)
  have hP : va_P D vwCl (fd_WC a k σ2) H := by rw [eσ2]; exact fd_sP fd_WCi_17 hP
  exact W.vret hx hb hr (fun t ht hW => ⟨⟨σ2, rfl, Option.some.inj hf, by rw [ht]; exact hP, va_K.moved hW.alike hK⟩, hS.F ht⟩) hS.2.2 dX1_forget_10
noncomputable def f_X6_forget_11 (N : Nat) (σ : fd_St) : Option (Unit × fd_St) := fd_lt (fd_sI 18 (0 : Int32) σ) (fun σ1 => some ((), σ1))
set_option maxHeartbeats 4000000 in
set_option maxRecDepth 100000 in
theorem m_X6_forget_11 (l : Launch) (D : va_G) (a : Nat → Nat) (k : Nat → ClassId) (sz : Nat) (hI : fd_I 39 a) (N : Nat) (σ : fd_St) (r : Unit × fd_St) (hf : f_X6_forget_11 N σ = some r) : Met l yX6_forget wsX6_forget ({ frames := 0, cells := 0, slots := 0, locals := 0 }) (va_Pc [.ref (a 11)] (fd_PC D a k sz σ)) (va_Qv (fun u => ((), u) = r) (fd_BC D a k) (fd_A 39 a sz)) 0 0 (fd_A 39 a sz) := by
  refine Met.ofW (cc := cX6_forget) (maxL := 1) (ret := none) (by decide) rfl ?_
  intro p e s m args below meth c s₁ B hml hv
  obtain ⟨rfl, hsz, hP, hK⟩ := hv
  have hx := B.exec
  have hb := B.bytes
  have hr := B.returns
  have hts := atoms_spec (ws := wsX6_forget) B.pre
  have hown : s.vm.findClass RX6 = some m.cls := findClass_of_methodNamed B.named
  have hlocks := B.notSynchronized
  subst hsz
  have hJ : ∀ i, i < 39 → fd_A 39 a s.heap.size (a i) := fun i hi => Or.inl ⟨i, hi, rfl⟩
  have hS : va_S (fd_A 39 a s.heap.size) s.heap s.heap [] := va_S.rf
  have hl := lv_entry ([.ref (a 11)]) (n := 1) (Nat.le_of_ble_eq_true rfl)
  rw [lg_entry_eq]
  generalize (lg_sl ([.ref (a 11)]) ++ List.replicate (1 - (lg_sl ([.ref (a 11)])).length) Slot.unset).toArray = ls at hl ⊢
  have hl : lv_has ls 1 [(0, .ref (a 11))] := hl
  have h9X6 : ∀ w ∈ u_ws RX6 TX6 9, w ∈ wsX6_forget := fd_su [2, 3, 4, 5, 6, 7, 8, 9, 10] (by eq_refl)
  unfold f_X6_forget_11 at hf
  refine lv_aload_n hx hb dX6_forget_0 rfl (lv_at hl 0 rfl) ?_
  refine lv_iconst (v := (0 : Int32)) hx hb dX6_forget_1 (by decide) ?_
  obtain ⟨σ1, eσ1, hf⟩ := fd_lts hf
  refine va_put (ci := 6) (v := .int (0 : Int32)) (ty := .int) (C := RX6) (T := TX6) (N := 9) hx hb hts h9X6 tyX6 tyX6_ok nmX6 hown hK hP (fd_DC hI hJ) hS 11 fd_WC_11 rfl 7 (by decide) (hts (.fieldLink RX6 33 "FailDiagnose$Shapes" "size" "I") (List.mem_of_getElem? (i := 1) (by eq_refl))) (fun _ h9 => h9) rfl (by decide +kernel) rfl rfl (Nat.le_of_ble_eq_true rfl) dX6_forget_2 (fun H locs hP _ hS => ?_)
  have hP : va_P D vwCl (fd_WC a k σ1) H := by rw [eσ1]; exact fd_sP fd_WCi_18 hP
  exact W.vret hx hb hr (fun t ht hW => ⟨⟨σ1, rfl, Option.some.inj hf, by rw [ht]; exact hP, va_K.moved hW.alike hK⟩, hS.F ht⟩) hS.2.2 dX6_forget_5
noncomputable def f_X10_clear_0 (N : Nat) (σ : fd_St) : Option (Unit × fd_St) := fd_bd (f_X2_forget_1 N σ) (fun _ σ3 => fd_bd (f_X5_forget_2 N σ3) (fun _ σ8 => fd_bd (f_X4_forget_3 N σ8) (fun _ σ13 => fd_bd (f_X7_forget_9 N σ13) (fun _ σ18 => fd_bd (f_X1_forget_10 N σ18) (fun _ σ23 => fd_bd (f_X6_forget_11 N σ23) (fun _ σ28 => fd_lt (fd_sI 0 (0 : Int32) σ28) (fun σ31 => some ((), σ31))))))))
set_option maxHeartbeats 4000000 in
set_option maxRecDepth 100000 in
theorem m_X10_clear_0 (l : Launch) (D : va_G) (a : Nat → Nat) (k : Nat → ClassId) (sz : Nat) (hI : fd_I 39 a) (N : Nat) (σ : fd_St) (r : Unit × fd_St) (hf : f_X10_clear_0 N σ = some r) : Met l yX10_clear wsX10_clear ({ frames := 2, cells := 0, slots := 0, locals := 43 }) (va_Pc [.ref (a 0)] (fd_PC D a k sz σ)) (va_Qv (fun u => ((), u) = r) (fd_BC D a k) (fd_A 39 a sz)) 0 0 (fd_A 39 a sz) := by
  refine Met.ofW (cc := cX10_clear) (maxL := 1) (ret := none) (by decide) rfl ?_
  intro p e s m args below meth c s₁ B hml hv
  obtain ⟨rfl, hsz, hP, hK⟩ := hv
  have hx := B.exec
  have hb := B.bytes
  have hr := B.returns
  have hts := atoms_spec (ws := wsX10_clear) B.pre
  have hown : s.vm.findClass RX10 = some m.cls := findClass_of_methodNamed B.named
  have hlocks := B.notSynchronized
  subst hsz
  have hJ : ∀ i, i < 39 → fd_A 39 a s.heap.size (a i) := fun i hi => Or.inl ⟨i, hi, rfl⟩
  have hS : va_S (fd_A 39 a s.heap.size) s.heap s.heap [] := va_S.rf
  have hl := lv_entry ([.ref (a 0)]) (n := 1) (Nat.le_of_ble_eq_true rfl)
  rw [lg_entry_eq]
  generalize (lg_sl ([.ref (a 0)]) ++ List.replicate (1 - (lg_sl ([.ref (a 0)])).length) Slot.unset).toArray = ls at hl ⊢
  have hl : lv_has ls 1 [(0, .ref (a 0))] := hl
  have h9X10 : ∀ w ∈ u_ws RX10 TX10 8, w ∈ wsX10_clear := fd_su [52, 53, 54, 55, 56, 57, 58, 59] (by eq_refl)
  unfold f_X10_clear_0 at hf
  refine lv_aload_n hx hb dX10_clear_0 rfl (lv_at hl 0 rfl) ?_
  refine va_get (ci := 10) (v := .ref (a 1)) (C := RX10) (T := TX10) (N := 8) hx hb hts h9X10 hown hK hP 0 fd_WC_0 rfl 0 (by decide) (hts (.fieldLink RX10 12 "FailDiagnose" "circuit" "LFailDiagnose$Circuit;") (List.mem_of_getElem? (i := 1) (by eq_refl))) (fun _ h9 => h9) rfl dX10_clear_1 ?_
  obtain ⟨w4, τ5, hc1, hf⟩ := fd_bds hf
  refine va_callv (va_runV (As := []) (rest := []) ⟨hx, hb, hml, hown, hts⟩ (m_X2_forget_1 l D a k s.heap.size hI N σ _ hc1) (cwV 0 hts gX10_clear_X2_forget rfl rfl rfl (by decide +kernel) ⟨Nat.le_of_ble_eq_true rfl, Nat.le_of_ble_eq_true rfl⟩) ⟨fd_blC, va_recv hK hP (ci := 2) (q0 := 1) rfl fd_WC_1, fd_prC hP hK⟩ rfl rfl hl.1 rfl (lv_room (Nat.le_of_ble_eq_true rfl)) dX10_clear_4 ⟨Nat.zero_le _, Nat.zero_le _⟩) hS (fun q _ h => fd_A_mono hS.1 h) (fun q h => fd_A_mono hS.1 h) (fun u t H1 locs ht hvm hw hB hz hk hS => ?_)
  obtain ⟨hP1, hK1⟩ := hB
  rw [ht] at hP1
  have e2 := (Prod.mk.inj hw).2
  subst e2
  obtain ⟨σ3, rfl⟩ : ∃ z, z = u := ⟨_, rfl⟩
  have hP := hP1
  generalize H1 = H at hP hS ⊢
  refine lv_aload_n hx hb dX10_clear_7 rfl (lv_at hl 0 rfl) ?_
  refine va_get (ci := 10) (v := .ref (a 2)) (C := RX10) (T := TX10) (N := 8) hx hb hts h9X10 hown hK hP 0 fd_WC_0 rfl 1 (by decide) (hts (.fieldLink RX10 19 "FailDiagnose" "outputs" "LFailDiagnose$Outputs;") (List.mem_of_getElem? (i := 2) (by eq_refl))) (fun _ h9 => h9) rfl dX10_clear_8 ?_
  obtain ⟨w9, τ10, hc6, hf⟩ := fd_bds hf
  refine va_callv (va_runV (As := []) (rest := []) ⟨hx, hb, hml, hown, hts⟩ (m_X5_forget_2 l D a k H.size hI N σ3 _ hc6) (cwV 0 hts gX10_clear_X5_forget rfl rfl rfl (by decide +kernel) ⟨Nat.le_of_ble_eq_true rfl, Nat.le_of_ble_eq_true rfl⟩) ⟨fd_blC, va_recv hK hP (ci := 5) (q0 := 2) rfl fd_WC_2, fd_prC hP hK⟩ rfl rfl hl.1 rfl (lv_room (Nat.le_of_ble_eq_true rfl)) dX10_clear_11 ⟨Nat.zero_le _, Nat.zero_le _⟩) hS (fun q _ h => fd_A_mono hS.1 h) (fun q h => fd_A_mono hS.1 h) (fun u t H1 locs ht hvm hw hB hz hk hS => ?_)
  obtain ⟨hP1, hK1⟩ := hB
  rw [ht] at hP1
  have e2 := (Prod.mk.inj hw).2
  subst e2
  obtain ⟨σ8, rfl⟩ : ∃ z, z = u := ⟨_, rfl⟩
  have hP := hP1
  generalize H1 = H at hP hS ⊢
  refine lv_aload_n hx hb dX10_clear_14 rfl (lv_at hl 0 rfl) ?_
  refine va_get (ci := 10) (v := .ref (a 3)) (C := RX10) (T := TX10) (N := 8) hx hb hts h9X10 hown hK hP 0 fd_WC_0 rfl 2 (by decide) (hts (.fieldLink RX10 26 "FailDiagnose" "nearPairs" "LFailDiagnose$NearPairs;") (List.mem_of_getElem? (i := 3) (by eq_refl))) (fun _ h9 => h9) rfl dX10_clear_15 ?_
  obtain ⟨w14, τ15, hc11, hf⟩ := fd_bds hf
  refine va_callv (va_runV (As := []) (rest := []) ⟨hx, hb, hml, hown, hts⟩ (m_X4_forget_3 l D a k H.size hI N σ8 _ hc11) (cwV 0 hts gX10_clear_X4_forget rfl rfl rfl (by decide +kernel) ⟨Nat.le_of_ble_eq_true rfl, Nat.le_of_ble_eq_true rfl⟩) ⟨fd_blC, va_recv hK hP (ci := 4) (q0 := 3) rfl fd_WC_3, fd_prC hP hK⟩ rfl rfl hl.1 rfl (lv_room (Nat.le_of_ble_eq_true rfl)) dX10_clear_18 ⟨Nat.zero_le _, Nat.zero_le _⟩) hS (fun q _ h => fd_A_mono hS.1 h) (fun q h => fd_A_mono hS.1 h) (fun u t H1 locs ht hvm hw hB hz hk hS => ?_)
  obtain ⟨hP1, hK1⟩ := hB
  rw [ht] at hP1
  have e2 := (Prod.mk.inj hw).2
  subst e2
  obtain ⟨σ13, rfl⟩ : ∃ z, z = u := ⟨_, rfl⟩
  have hP := hP1
  generalize H1 = H at hP hS ⊢
  refine lv_aload_n hx hb dX10_clear_21 rfl (lv_at hl 0 rfl) ?_
  refine va_get (ci := 10) (v := .ref (a 9)) (C := RX10) (T := TX10) (N := 8) hx hb hts h9X10 hown hK hP 0 fd_WC_0 rfl 4 (by decide) (hts (.fieldLink RX10 42 "FailDiagnose" "shares" "LFailDiagnose$Shares;") (List.mem_of_getElem? (i := 4) (by eq_refl))) (fun _ h9 => h9) rfl dX10_clear_22 ?_
  obtain ⟨w19, τ20, hc16, hf⟩ := fd_bds hf
  refine va_callv (va_runV (As := []) (rest := []) ⟨hx, hb, hml, hown, hts⟩ (m_X7_forget_9 l D a k H.size hI N σ13 _ hc16) (cwV 0 hts gX10_clear_X7_forget rfl rfl rfl (by decide +kernel) ⟨Nat.le_of_ble_eq_true rfl, Nat.le_of_ble_eq_true rfl⟩) ⟨fd_blC, va_recv hK hP (ci := 7) (q0 := 9) rfl fd_WC_9, fd_prC hP hK⟩ rfl rfl hl.1 rfl (lv_room (Nat.le_of_ble_eq_true rfl)) dX10_clear_25 ⟨Nat.zero_le _, Nat.zero_le _⟩) hS (fun q _ h => fd_A_mono hS.1 h) (fun q h => fd_A_mono hS.1 h) (fun u t H1 locs ht hvm hw hB hz hk hS => ?_)
  obtain ⟨hP1, hK1⟩ := hB
  rw [ht] at hP1
  have e2 := (Prod.mk.inj hw).2
  subst e2
  obtain ⟨σ18, rfl⟩ : ∃ z, z = u := ⟨_, rfl⟩
  have hP := hP1
  generalize H1 = H at hP hS ⊢
  refine lv_aload_n hx hb dX10_clear_28 rfl (lv_at hl 0 rfl) ?_
  refine va_get (ci := 10) (v := .ref (a 10)) (C := RX10) (T := TX10) (N := 8) hx hb hts h9X10 hown hK hP 0 fd_WC_0 rfl 5 (by decide) (hts (.fieldLink RX10 49 "FailDiagnose" "cells" "LFailDiagnose$Chain;") (List.mem_of_getElem? (i := 5) (by eq_refl))) (fun _ h9 => h9) rfl dX10_clear_29 ?_
  obtain ⟨w24, τ25, hc21, hf⟩ := fd_bds hf
  refine va_callv (va_runV (As := []) (rest := []) ⟨hx, hb, hml, hown, hts⟩ (m_X1_forget_10 l D a k H.size hI N σ18 _ hc21) (cwV 0 hts gX10_clear_X1_forget rfl rfl rfl (by decide +kernel) ⟨Nat.le_of_ble_eq_true rfl, Nat.le_of_ble_eq_true rfl⟩) ⟨fd_blC, va_recv hK hP (ci := 1) (q0 := 10) rfl fd_WC_10, fd_prC hP hK⟩ rfl rfl hl.1 rfl (lv_room (Nat.le_of_ble_eq_true rfl)) dX10_clear_32 ⟨Nat.zero_le _, Nat.zero_le _⟩) hS (fun q _ h => fd_A_mono hS.1 h) (fun q h => fd_A_mono hS.1 h) (fun u t H1 locs ht hvm hw hB hz hk hS => ?_)
  obtain ⟨hP1, hK1⟩ := hB
  rw [ht] at hP1
  have e2 := (Prod.mk.inj hw).2
  subst e2
  obtain ⟨σ23, rfl⟩ : ∃ z, z = u := ⟨_, rfl⟩
  have hP := hP1
  generalize H1 = H at hP hS ⊢
  refine lv_aload_n hx hb dX10_clear_35 rfl (lv_at hl 0 rfl) ?_
  refine va_get (ci := 10) (v := .ref (a 11)) (C := RX10) (T := TX10) (N := 8) hx hb hts h9X10 hown hK hP 0 fd_WC_0 rfl 6 (by decide) (hts (.fieldLink RX10 56 "FailDiagnose" "shapes" "LFailDiagnose$Shapes;") (List.mem_of_getElem? (i := 6) (by eq_refl))) (fun _ h9 => h9) rfl dX10_clear_36 ?_
  obtain ⟨w29, τ30, hc26, hf⟩ := fd_bds hf
  refine va_callv (va_runV (As := []) (rest := []) ⟨hx, hb, hml, hown, hts⟩ (m_X6_forget_11 l D a k H.size hI N σ23 _ hc26) (cwV 0 hts gX10_clear_X6_forget rfl rfl rfl (by decide +kernel) ⟨Nat.le_of_ble_eq_true rfl, Nat.le_of_ble_eq_true rfl⟩) ⟨fd_blC, va_recv hK hP (ci := 6) (q0 := 11) rfl fd_WC_11, fd_prC hP hK⟩ rfl rfl hl.1 rfl (lv_room (Nat.le_of_ble_eq_true rfl)) dX10_clear_39 ⟨Nat.zero_le _, Nat.zero_le _⟩) hS (fun q _ h => fd_A_mono hS.1 h) (fun q h => fd_A_mono hS.1 h) (fun u t H1 locs ht hvm hw hB hz hk hS => ?_)
  obtain ⟨hP1, hK1⟩ := hB
  rw [ht] at hP1
  have e2 := (Prod.mk.inj hw).2
  subst e2
  obtain ⟨σ28, rfl⟩ : ∃ z, z = u := ⟨_, rfl⟩
  have hP := hP1
  generalize H1 = H at hP hS ⊢
  refine lv_aload_n hx hb dX10_clear_42 rfl (lv_at hl 0 rfl) ?_
  refine lv_iconst (v := (0 : Int32)) hx hb dX10_clear_43 (by decide) ?_
  obtain ⟨σ31, eσ31, hf⟩ := fd_lts hf
  refine va_put (ci := 10) (v := .int (0 : Int32)) (ty := .boolean) (C := RX10) (T := TX10) (N := 8) hx hb hts h9X10 tyX10 tyX10_ok nmX10 hown hK hP (fd_DC hI hJ) hS 0 fd_WC_0 rfl 7 (by decide) (hts (.fieldLink RX10 60 "FailDiagnose" "told" "Z") (List.mem_of_getElem? (i := 7) (by eq_refl))) (fun _ h9 => h9) rfl (by decide +kernel) rfl rfl (Nat.le_of_ble_eq_true rfl) dX10_clear_44 (fun H locs hP _ hS => ?_)
  have hP : va_P D vwCl (fd_WC a k σ31) H := by rw [eσ31]; exact fd_sP fd_WCi_0 hP
  exact W.vret hx hb hr (fun t ht hW => ⟨⟨σ31, rfl, Option.some.inj hf, by rw [ht]; exact hP, va_K.moved hW.alike hK⟩, hS.F ht⟩) hS.2.2 dX10_clear_47
noncomputable def f_X11_clear_0_L57 (N : Nat) : Nat → Int32 → fd_St → Option (Unit × fd_St)
  | 0 => fun _ _ => none
  | n + 1 => fun y1 σ => if (200 : Int32) ≤ y1 then (some ((), σ)) else (fd_gd (vp_in y1 200) (fd_lt (fd_sA 19 y1 (0 : Int32) σ) (fun σ14 => fd_lt (y1 + (1 : Int32)) (fun x15 => (f_X11_clear_0_L57 N n) x15 σ14))))
noncomputable def f_X11_clear_0 (N : Nat) (σ : fd_St) : Option (Unit × fd_St) := fd_lt (fd_sI 1 (0 : Int32) σ) (fun σ1 => fd_lt (fd_sI 2 (0 : Int32) σ1) (fun σ2 => fd_lt (fd_sI 3 (0 : Int32) σ2) (fun σ3 => fd_lt (fd_sI 4 (0 : Int32) σ3) (fun σ4 => fd_lt (fd_sI 5 (0 : Int32) σ4) (fun σ5 => fd_lt (fd_sI 6 (0 : Int32) σ5) (fun σ6 => fd_lt (fd_sI 7 (0 : Int32) σ6) (fun σ7 => fd_lt (fd_sI 11 (0 : Int32) σ7) (fun σ8 => fd_lt (fd_sI 12 (0 : Int32) σ8) (fun σ9 => fd_lt (fd_sI 13 (0 : Int32) σ9) (fun σ10 => fd_lt (fd_sI 14 (0 : Int32) σ10) (fun σ11 => f_X11_clear_0_L57 N N (0 : Int32) σ11)))))))))))
set_option maxHeartbeats 4000000 in
set_option maxRecDepth 100000 in
theorem m_X11_clear_0 (l : Launch) (D : va_G) (a : Nat → Nat) (k : Nat → ClassId) (sz : Nat) (hI : fd_I 29 a) (N : Nat) (σ : fd_St) (r : Unit × fd_St) (hf : f_X11_clear_0 N σ = some r) : Met l yX11_clear wsX11_clear ({ frames := 0, cells := 0, slots := 0, locals := 0 }) (va_Pc [.ref (a 0)] (fd_PM D a k sz σ)) (va_Qv (fun u => ((), u) = r) (fd_BM D a k) (fd_A 29 a sz)) 0 0 (fd_A 29 a sz) := by
  refine Met.ofW (cc := cX11_clear) (maxL := 2) (ret := none) (by decide) rfl ?_
  intro p e s m args below meth c s₁ B hml hv
  obtain ⟨rfl, hsz, hP, hK⟩ := hv
  have hx := B.exec
  have hb := B.bytes
  have hr := B.returns
  have hts := atoms_spec (ws := wsX11_clear) B.pre
  have hown : s.vm.findClass RX11 = some m.cls := findClass_of_methodNamed B.named
  have hlocks := B.notSynchronized
  subst hsz
  have hJ : ∀ i, i < 29 → fd_A 29 a s.heap.size (a i) := fun i hi => Or.inl ⟨i, hi, rfl⟩
  have hS : va_S (fd_A 29 a s.heap.size) s.heap s.heap [] := va_S.rf
  have hl := lv_entry ([.ref (a 0)]) (n := 2) (Nat.le_of_ble_eq_true rfl)
  rw [lg_entry_eq]
  generalize (lg_sl ([.ref (a 0)]) ++ List.replicate (2 - (lg_sl ([.ref (a 0)])).length) Slot.unset).toArray = ls at hl ⊢
  have hl : lv_has ls 2 [(0, .ref (a 0))] := hl
  have h9X11 : ∀ w ∈ u_ws RX11 TX11 43, w ∈ wsX11_clear := fd_su [13, 14, 15, 16, 17, 18, 19, 20, 21, 22, 23, 24, 25, 26, 27, 28, 29, 30, 31, 32, 33, 34, 35, 36, 37, 38, 39, 40, 41, 42, 43, 44, 45, 46, 47, 48, 49, 50, 51, 52, 53, 54, 55] (by eq_refl)
  have hL57 : ∀ (n : Nat), ∀ (y1 : Int32) (σ : fd_St) (H : Heap) (locs : List Loc) (ls : Array Slot), va_P D vwCl (fd_WM a k σ) H → va_S (fd_A 29 a s.heap.size) s.heap H locs → lv_has ls 2 [(0, .ref (a 0)), (1, .int y1)] → f_X11_clear_0_L57 N n y1 σ = some r → W p l e ((headSpec wsX11_clear ({ frames := 0, cells := 0, slots := 0, locals := 0 })).room) s m ([.ref (a 0)].toArray) below meth c H locs 0 0 (MQ below (va_Qv (fun u => ((), u) = r) (fd_BM D a k) (fd_A 29 a s.heap.size)) ([.ref (a 0)].toArray) s 0 0 (fd_A 29 a s.heap.size)) (F0 m 57 ls []) := by
    intro n
    induction n with
    | zero =>
      intro _ _ _ _ _ _ _ _ hf
      cases hf
    | succ n ih =>
      intro y1 σ H locs ls hP hS hl hf
      unfold f_X11_clear_0_L57 at hf
      refine lv_iload_n hx hb dX11_clear_57 rfl (lv_at hl 1 rfl) ?_
      refine lv_sipush (v := (200 : Int32)) hx hb dX11_clear_58 (by decide) ?_
      refine lv_icmp_ge (tgt := 77) hx hb dX11_clear_61 (by decide) (fun c12 => ?_) (fun c12 => ?_)
      · have hf := fd_itp c12 hf
        exact W.vret hx hb hr (fun t ht hW => ⟨⟨σ, rfl, Option.some.inj hf, by rw [ht]; exact hP, va_K.moved hW.alike hK⟩, hS.F ht⟩) hS.2.2 dX11_clear_77
      · have hf := fd_itn c12 hf
        refine lv_aload_n hx hb dX11_clear_64 rfl (lv_at hl 0 rfl) ?_
        refine va_get (ci := 11) (v := .ref (a 19)) (C := RX11) (T := TX11) (N := 43) hx hb hts h9X11 hown hK hP 0 fd_WM_0 rfl 30 (by decide) (hts (.fieldLink RX11 66 "FailDiagnoseModel" "shares" "[I") (List.mem_of_getElem? (i := 12) (by eq_refl))) (fun _ h9 => h9) rfl dX11_clear_65 ?_
        refine lv_iload_n hx hb dX11_clear_68 rfl (lv_at hl 1 rfl) ?_
        refine lv_iconst (v := (0 : Int32)) hx hb dX11_clear_69 (by decide) ?_
        obtain ⟨g13, hf⟩ := fd_gds hf
        obtain ⟨σ14, eσ14, hf⟩ := fd_lts hf
        refine va_iast hx hb hK hP (fd_DM hI hJ) hS 19 18 fd_WM_19 fd_tyM_19 g13 dX11_clear_70 (fun H locs hP _ hS => ?_)
        have hP : va_P D vwCl (fd_WM a k σ14) H := by rw [eσ14]; exact fd_sP fd_WMa_19 hP
        obtain ⟨x15, ex15, hf⟩ := fd_lts hf
        refine lv_iinc (v := x15) (lv' := [(1, .int x15), (0, .ref (a 0))]) hx hb dX11_clear_71 hl (k := 1) rfl (by rw [ex15]; rfl) (by decide) rfl (fun ls hl => ?_)
        refine lv_goto (tgt := 57) hx hb dX11_clear_74 (by decide) ?_
        exact ih x15 σ14 _ _ _ hP hS (lv_sub hl [1, 0] rfl) hf
  unfold f_X11_clear_0 at hf
  refine lv_aload_n hx hb dX11_clear_0 rfl (lv_at hl 0 rfl) ?_
  refine lv_iconst (v := (0 : Int32)) hx hb dX11_clear_1 (by decide) ?_
  obtain ⟨σ1, eσ1, hf⟩ := fd_lts hf
  refine va_put (ci := 11) (v := .int (0 : Int32)) (ty := .int) (C := RX11) (T := TX11) (N := 43) hx hb hts h9X11 tyX11 tyX11_ok nmX11 hown hK hP (fd_DM hI hJ) hS 0 fd_WM_0 rfl 1 (by decide) (hts (.fieldLink RX11 113 "FailDiagnoseModel" "nets" "I") (List.mem_of_getElem? (i := 1) (by eq_refl))) (fun _ h9 => h9) rfl (by decide +kernel) rfl rfl (Nat.le_of_ble_eq_true rfl) dX11_clear_2 (fun H locs hP _ hS => ?_)
  have hP : va_P D vwCl (fd_WM a k σ1) H := by rw [eσ1]; exact fd_sP fd_WMi_1 hP
  refine lv_aload_n hx hb dX11_clear_5 rfl (lv_at hl 0 rfl) ?_
  refine lv_iconst (v := (0 : Int32)) hx hb dX11_clear_6 (by decide) ?_
  obtain ⟨σ2, eσ2, hf⟩ := fd_lts hf
  refine va_put (ci := 11) (v := .int (0 : Int32)) (ty := .int) (C := RX11) (T := TX11) (N := 43) hx hb hts h9X11 tyX11 tyX11_ok nmX11 hown hK hP (fd_DM hI hJ) hS 0 fd_WM_0 rfl 6 (by decide) (hts (.fieldLink RX11 110 "FailDiagnoseModel" "inputs" "I") (List.mem_of_getElem? (i := 2) (by eq_refl))) (fun _ h9 => h9) rfl (by decide +kernel) rfl rfl (Nat.le_of_ble_eq_true rfl) dX11_clear_7 (fun H locs hP _ hS => ?_)
  have hP : va_P D vwCl (fd_WM a k σ2) H := by rw [eσ2]; exact fd_sP fd_WMi_2 hP
  refine lv_aload_n hx hb dX11_clear_10 rfl (lv_at hl 0 rfl) ?_
  refine lv_iconst (v := (0 : Int32)) hx hb dX11_clear_11 (by decide) ?_
  obtain ⟨σ3, eσ3, hf⟩ := fd_lts hf
  refine va_put (ci := 11) (v := .int (0 : Int32)) (ty := .int) (C := RX11) (T := TX11) (N := 43) hx hb hts h9X11 tyX11 tyX11_ok nmX11 hown hK hP (fd_DM hI hJ) hS 0 fd_WM_0 rfl 7 (by decide) (hts (.fieldLink RX11 123 "FailDiagnoseModel" "outputs" "I") (List.mem_of_getElem? (i := 3) (by eq_refl))) (fun _ h9 => h9) rfl (by decide +kernel) rfl rfl (Nat.le_of_ble_eq_true rfl) dX11_clear_12 (fun H locs hP _ hS => ?_)
  have hP : va_P D vwCl (fd_WM a k σ3) H := by rw [eσ3]; exact fd_sP fd_WMi_3 hP
  refine lv_aload_n hx hb dX11_clear_15 rfl (lv_at hl 0 rfl) ?_
  refine lv_iconst (v := (0 : Int32)) hx hb dX11_clear_16 (by decide) ?_
  obtain ⟨σ4, eσ4, hf⟩ := fd_lts hf
  refine va_put (ci := 11) (v := .int (0 : Int32)) (ty := .int) (C := RX11) (T := TX11) (N := 43) hx hb hts h9X11 tyX11 tyX11_ok nmX11 hown hK hP (fd_DM hI hJ) hS 0 fd_WM_0 rfl 10 (by decide) (hts (.fieldLink RX11 126 "FailDiagnoseModel" "many" "I") (List.mem_of_getElem? (i := 4) (by eq_refl))) (fun _ h9 => h9) rfl (by decide +kernel) rfl rfl (Nat.le_of_ble_eq_true rfl) dX11_clear_17 (fun H locs hP _ hS => ?_)
  have hP : va_P D vwCl (fd_WM a k σ4) H := by rw [eσ4]; exact fd_sP fd_WMi_4 hP
  refine lv_aload_n hx hb dX11_clear_20 rfl (lv_at hl 0 rfl) ?_
  refine lv_iconst (v := (0 : Int32)) hx hb dX11_clear_21 (by decide) ?_
  obtain ⟨σ5, eσ5, hf⟩ := fd_lts hf
  refine va_put (ci := 11) (v := .int (0 : Int32)) (ty := .int) (C := RX11) (T := TX11) (N := 43) hx hb hts h9X11 tyX11 tyX11_ok nmX11 hown hK hP (fd_DM hI hJ) hS 0 fd_WM_0 rfl 11 (by decide) (hts (.fieldLink RX11 150 "FailDiagnoseModel" "pairs" "I") (List.mem_of_getElem? (i := 5) (by eq_refl))) (fun _ h9 => h9) rfl (by decide +kernel) rfl rfl (Nat.le_of_ble_eq_true rfl) dX11_clear_22 (fun H locs hP _ hS => ?_)
  have hP : va_P D vwCl (fd_WM a k σ5) H := by rw [eσ5]; exact fd_sP fd_WMi_5 hP
  refine lv_aload_n hx hb dX11_clear_25 rfl (lv_at hl 0 rfl) ?_
  refine lv_iconst (v := (0 : Int32)) hx hb dX11_clear_26 (by decide) ?_
  obtain ⟨σ6, eσ6, hf⟩ := fd_lts hf
  refine va_put (ci := 11) (v := .int (0 : Int32)) (ty := .boolean) (C := RX11) (T := TX11) (N := 43) hx hb hts h9X11 tyX11 tyX11_ok nmX11 hown hK hP (fd_DM hI hJ) hS 0 fd_WM_0 rfl 17 (by decide) (hts (.fieldLink RX11 103 "FailDiagnoseModel" "told" "Z") (List.mem_of_getElem? (i := 6) (by eq_refl))) (fun _ h9 => h9) rfl (by decide +kernel) rfl rfl (Nat.le_of_ble_eq_true rfl) dX11_clear_27 (fun H locs hP _ hS => ?_)
  have hP : va_P D vwCl (fd_WM a k σ6) H := by rw [eσ6]; exact fd_sP fd_WMi_6 hP
  refine lv_aload_n hx hb dX11_clear_30 rfl (lv_at hl 0 rfl) ?_
  refine lv_iconst (v := (0 : Int32)) hx hb dX11_clear_31 (by decide) ?_
  obtain ⟨σ7, eσ7, hf⟩ := fd_lts hf
  refine va_put (ci := 11) (v := .int (0 : Int32)) (ty := .int) (C := RX11) (T := TX11) (N := 43) hx hb hts h9X11 tyX11 tyX11_ok nmX11 hown hK hP (fd_DM hI hJ) hS 0 fd_WM_0 rfl 18 (by decide) (hts (.fieldLink RX11 107 "FailDiagnoseModel" "suspects" "I") (List.mem_of_getElem? (i := 7) (by eq_refl))) (fun _ h9 => h9) rfl (by decide +kernel) rfl rfl (Nat.le_of_ble_eq_true rfl) dX11_clear_32 (fun H locs hP _ hS => ?_)
  have hP : va_P D vwCl (fd_WM a k σ7) H := by rw [eσ7]; exact fd_sP fd_WMi_7 hP
  refine lv_aload_n hx hb dX11_clear_35 rfl (lv_at hl 0 rfl) ?_
  refine lv_iconst (v := (0 : Int32)) hx hb dX11_clear_36 (by decide) ?_
  obtain ⟨σ8, eσ8, hf⟩ := fd_lts hf
  refine va_put (ci := 11) (v := .int (0 : Int32)) (ty := .int) (C := RX11) (T := TX11) (N := 43) hx hb hts h9X11 tyX11 tyX11_ok nmX11 hown hK hP (fd_DM hI hJ) hS 0 fd_WM_0 rfl 29 (by decide) (hts (.fieldLink RX11 185 "FailDiagnoseModel" "chips" "I") (List.mem_of_getElem? (i := 8) (by eq_refl))) (fun _ h9 => h9) rfl (by decide +kernel) rfl rfl (Nat.le_of_ble_eq_true rfl) dX11_clear_37 (fun H locs hP _ hS => ?_)
  have hP : va_P D vwCl (fd_WM a k σ8) H := by rw [eσ8]; exact fd_sP fd_WMi_11 hP
  refine lv_aload_n hx hb dX11_clear_40 rfl (lv_at hl 0 rfl) ?_
  refine lv_iconst (v := (0 : Int32)) hx hb dX11_clear_41 (by decide) ?_
  obtain ⟨σ9, eσ9, hf⟩ := fd_lts hf
  refine va_put (ci := 11) (v := .int (0 : Int32)) (ty := .int) (C := RX11) (T := TX11) (N := 43) hx hb hts h9X11 tyX11 tyX11_ok nmX11 hown hK hP (fd_DM hI hJ) hS 0 fd_WM_0 rfl 31 (by decide) (hts (.fieldLink RX11 188 "FailDiagnoseModel" "cells" "I") (List.mem_of_getElem? (i := 9) (by eq_refl))) (fun _ h9 => h9) rfl (by decide +kernel) rfl rfl (Nat.le_of_ble_eq_true rfl) dX11_clear_42 (fun H locs hP _ hS => ?_)
  have hP : va_P D vwCl (fd_WM a k σ9) H := by rw [eσ9]; exact fd_sP fd_WMi_12 hP
  refine lv_aload_n hx hb dX11_clear_45 rfl (lv_at hl 0 rfl) ?_
  refine lv_iconst (v := (0 : Int32)) hx hb dX11_clear_46 (by decide) ?_
  obtain ⟨σ10, eσ10, hf⟩ := fd_lts hf
  refine va_put (ci := 11) (v := .int (0 : Int32)) (ty := .int) (C := RX11) (T := TX11) (N := 43) hx hb hts h9X11 tyX11 tyX11_ok nmX11 hown hK hP (fd_DM hI hJ) hS 0 fd_WM_0 rfl 32 (by decide) (hts (.fieldLink RX11 191 "FailDiagnoseModel" "rows" "I") (List.mem_of_getElem? (i := 10) (by eq_refl))) (fun _ h9 => h9) rfl (by decide +kernel) rfl rfl (Nat.le_of_ble_eq_true rfl) dX11_clear_47 (fun H locs hP _ hS => ?_)
  have hP : va_P D vwCl (fd_WM a k σ10) H := by rw [eσ10]; exact fd_sP fd_WMi_13 hP
  refine lv_aload_n hx hb dX11_clear_50 rfl (lv_at hl 0 rfl) ?_
  refine lv_iconst (v := (0 : Int32)) hx hb dX11_clear_51 (by decide) ?_
  obtain ⟨σ11, eσ11, hf⟩ := fd_lts hf
  refine va_put (ci := 11) (v := .int (0 : Int32)) (ty := .int) (C := RX11) (T := TX11) (N := 43) hx hb hts h9X11 tyX11 tyX11_ok nmX11 hown hK hP (fd_DM hI hJ) hS 0 fd_WM_0 rfl 35 (by decide) (hts (.fieldLink RX11 198 "FailDiagnoseModel" "shapes" "I") (List.mem_of_getElem? (i := 11) (by eq_refl))) (fun _ h9 => h9) rfl (by decide +kernel) rfl rfl (Nat.le_of_ble_eq_true rfl) dX11_clear_52 (fun H locs hP _ hS => ?_)
  have hP : va_P D vwCl (fd_WM a k σ11) H := by rw [eσ11]; exact fd_sP fd_WMi_14 hP
  refine lv_iconst (v := (0 : Int32)) hx hb dX11_clear_55 (by decide) ?_
  refine lv_istore_n (lv' := [(1, .int (0 : Int32)), (0, .ref (a 0))]) hx hb dX11_clear_56 rfl hl (by decide) rfl (fun ls hl => ?_)
  exact hL57 N (0 : Int32) σ11 _ _ _ hP hS (lv_sub hl [1, 0] rfl) hf
