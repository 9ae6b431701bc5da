noncomputable def f_X2_putPatterns_1 (N : Nat) (p1 : Int32) (σ : fd_St) : Option (Int32 × fd_St) := fd_lt (σ.1 3) (fun x1 => fd_lt (fd_sI 3 p1 σ) (fun σ2 => some (x1, σ2)))
set_option maxHeartbeats 4000000 in
set_option maxRecDepth 100000 in
theorem m_X2_putPatterns_1 (l : Launch) (D : va_G) (a : Nat → Nat) (k : Nat → ClassId) (sz : Nat) (hI : fd_I 39 a) (N : Nat) (p1 : Int32) (σ : fd_St) (r : Int32 × fd_St) (hf : f_X2_putPatterns_1 N p1 σ = some r) : Met l yX2_putPatterns wsX2_putPatterns ({ frames := 0, cells := 0, slots := 0, locals := 0 }) (va_Pc [.ref (a 1), .int p1] (fd_PC D a k sz σ)) (va_Qi (fun v u => (v, u) = r) (fd_BC D a k) (fd_A 39 a sz)) 0 0 (fd_A 39 a sz) := by
  refine Met.ofW (cc := cX2_putPatterns) (maxL := 3) (ret := (some .int)) (by decide) rfl ?_
  intro p e s m args below meth c s₁ B hml hv
  obtain ⟨rfl, hsz, hP, hK⟩ := hv
  have hx := B.exec
  have hb := B.bytes
  have hr := B.returns
  have hts := atoms_spec (ws := wsX2_putPatterns) B.pre
  have hown : s.vm.findClass RX2 = some m.cls := findClass_of_methodNamed B.named
  have hlocks := B.notSynchronized
  subst hsz
  have hJ : ∀ i, i < 39 → fd_A 39 a s.heap.size (a i) := fun i hi => Or.inl ⟨i, hi, rfl⟩
  have hS : va_S (fd_A 39 a s.heap.size) s.heap s.heap [] := va_S.rf
  have hl := lv_entry ([.ref (a 1), .int p1]) (n := 3) (Nat.le_of_ble_eq_true rfl)
  rw [lg_entry_eq]
  generalize (lg_sl ([.ref (a 1), .int p1]) ++ List.replicate (3 - (lg_sl ([.ref (a 1), .int p1])).length) Slot.unset).toArray = ls at hl ⊢
  have hl : lv_has ls 3 [(0, .ref (a 1)), (1, .int p1)] := hl
  have h9X2 : ∀ w ∈ u_ws RX2 TX2 9, w ∈ wsX2_putPatterns := fd_su [2, 3, 4, 5, 6, 7, 8, 9, 10] (by eq_refl)
  unfold f_X2_putPatterns_1 at hf
  refine lv_aload_n hx hb dX2_putPatterns_0 rfl (lv_at hl 0 rfl) ?_
  refine va_get (ci := 2) (v := .int (σ.1 3)) (C := RX2) (T := TX2) (N := 9) hx hb hts h9X2 hown hK hP 1 fd_WC_1 rfl 8 (by decide) (hts (.fieldLink RX2 39 "FailDiagnose$Circuit" "patterns" "I") (List.mem_of_getElem? (i := 1) (by eq_refl))) (fun _ h9 => h9) rfl dX2_putPatterns_1 ?_
  obtain ⟨x1, ex1, hf⟩ := fd_lts hf
  refine fd_ni ex1 ?_
  refine lv_istore_n (lv' := [(2, .int x1), (0, .ref (a 1)), (1, .int p1)]) hx hb dX2_putPatterns_4 rfl hl (by decide) rfl (fun ls hl => ?_)
  refine lv_aload_n hx hb dX2_putPatterns_5 rfl (lv_at hl 1 rfl) ?_
  refine lv_iload_n hx hb dX2_putPatterns_6 rfl (lv_at hl 2 rfl) ?_
  obtain ⟨σ2, eσ2, hf⟩ := fd_lts hf
  refine va_put (ci := 2) (v := .int p1) (ty := .int) (C := RX2) (T := TX2) (N := 9) hx hb hts h9X2 tyX2 tyX2_ok nmX2 hown hK hP (fd_DC hI hJ) hS 1 fd_WC_1 rfl 8 (by decide) (hts (.fieldLink RX2 39 "FailDiagnose$Circuit" "patterns" "I") (List.mem_of_getElem? (i := 1) (by eq_refl))) (fun _ h9 => h9) rfl (by decide +kernel) rfl rfl (Nat.le_of_ble_eq_true rfl) dX2_putPatterns_7 (fun H locs hP _ hS => ?_)
  have hP : va_P D vwCl (fd_WC a k σ2) H := by rw [eσ2]; exact fd_sP fd_WCi_3 hP
  refine lv_iload_n hx hb dX2_putPatterns_10 rfl (lv_at hl 0 rfl) ?_
  exact W.iret (v := x1) hx hb hr (fun t ht hW => ⟨⟨x1, σ2, rfl, Option.some.inj hf, by rw [ht]; exact hP, va_K.moved hW.alike hK⟩, hS.F ht⟩) hS.2.2 dX2_putPatterns_11
noncomputable def f_X10_patterns_0_J10 (N : Nat) (σ : fd_St) : Option ((Int32 ⊕ String) × fd_St) := some (.inr "java/lang/IllegalArgumentException", σ)
noncomputable def f_X10_patterns_0 (N : Nat) (p1 : Int32) (σ : fd_St) : Option ((Int32 ⊕ String) × fd_St) := if p1 < 0 then (f_X10_patterns_0_J10 N σ) else (if p1 ≤ (64 : Int32) then (fd_lt (fd_sI 0 (0 : Int32) σ) (fun σ4 => fd_bd (f_X2_putPatterns_1 N p1 σ4) (fun v6 σ7 => some (.inl v6, σ7)))) else (f_X10_patterns_0_J10 N σ))
set_option maxHeartbeats 4000000 in
set_option maxRecDepth 100000 in
theorem m_X10_patterns_0 (l : Launch) (hl9 : l.stackTraces = false) (D : va_G) (a : Nat → Nat) (k : Nat → ClassId) (sz : Nat) (hI : fd_I 39 a) (N : Nat) (p1 : Int32) (σ : fd_St) (r : (Int32 ⊕ String) × fd_St) (hf : f_X10_patterns_0 N p1 σ = some r) : vx_Met l yX10_patterns wsX10_patterns ({ frames := 6, cells := fd_mc r, slots := fd_ms r, locals := 90 }) (va_Pc [.ref (a 0), .int p1] (fd_PZ D a k sz σ)) (va_Qi (fun v u => (Sum.inl v, u) = r) (fd_BC D a k) (fd_A 39 a sz)) (fd_X D a k (fd_A 39 a sz) r) (fd_mc r) (fd_ms r) (fd_A 39 a sz) := by
  refine vx_ofW (cc := cX10_patterns) (maxL := 2) (ret := (some .int)) (by decide) rfl ?_
  intro p e s m args below meth c s₁ B hml hex hv
  obtain ⟨rfl, ⟨hsz, hP, hK⟩, hZ⟩ := hv
  have hx := B.exec
  have hb := B.bytes
  have hr := B.returns
  have hts := atoms_spec (ws := wsX10_patterns) B.pre
  have hown : s.vm.findClass RX10 = some m.cls := findClass_of_methodNamed B.named
  have hlocks := B.notSynchronized
  subst hsz
  have hJ : ∀ i, i < 39 → fd_A 39 a s.heap.size (a i) := fun i hi => Or.inl ⟨i, hi, rfl⟩
  have hS : va_S (fd_A 39 a s.heap.size) s.heap s.heap [] := va_S.rf
  have hl := lv_entry ([.ref (a 0), .int p1]) (n := 2) (Nat.le_of_ble_eq_true rfl)
  rw [lg_entry_eq]
  generalize (lg_sl ([.ref (a 0), .int p1]) ++ List.replicate (2 - (lg_sl ([.ref (a 0), .int p1])).length) Slot.unset).toArray = ls at hl ⊢
  have hl : lv_has ls 2 [(0, .ref (a 0)), (1, .int p1)] := hl
  have h9X10 : ∀ w ∈ u_ws RX10 TX10 8, w ∈ wsX10_patterns := fd_su [11, 12, 13, 14, 15, 16, 17, 18] (by eq_refl)
  have hL10 : ∀ (σ : fd_St) (H : Heap) (locs : List Loc) (ls : Array Slot), va_P D vwCl (fd_WC a k σ) H → va_S (fd_A 39 a s.heap.size) s.heap H locs → lv_has ls 2 [] → f_X10_patterns_0_J10 N σ = some r → W p l e ((headSpec wsX10_patterns ({ frames := 6, cells := fd_mc r, slots := fd_ms r, locals := 90 })).room) s m ([.ref (a 0), .int p1].toArray) below meth c H locs 0 0 (vx_MQ below (va_Qi (fun v u => (Sum.inl v, u) = r) (fd_BC D a k) (fd_A 39 a s.heap.size)) (fd_X D a k (fd_A 39 a s.heap.size) r) ([.ref (a 0), .int p1].toArray) s (fd_mc r) (fd_ms r) (fd_A 39 a s.heap.size)) (F0 m 10 ls []) := by
    intro σ H locs ls hP hS hl hf
    unfold f_X10_patterns_0_J10 at hf
    have e2 := Option.some.inj hf
    subst e2
    obtain ⟨sa, hsa⟩ := hZ.str 105 "patterns are 0 to 64" (by decide +kernel)
    exact vx_throwS (own := RX10) (cls := "java/lang/IllegalArgumentException") (names := ["java/lang/RuntimeException", "java/lang/Exception"]) hx hb hl9 hown fd_ex_87_91_f fd_ex_n (hts (.classLink RX10 87 "java/lang/IllegalArgumentException") (List.mem_of_getElem? (i := 1) (by eq_refl))) (hts (.initialized "java/lang/IllegalArgumentException") (List.mem_of_getElem? (i := 2) (by eq_refl))) hsa (vx_hat (L := vx_atS RX10 91 "java/lang/IllegalArgumentException" ["java/lang/RuntimeException", "java/lang/Exception"]) (B := fd_bad "java/lang/IllegalArgumentException") (fun w hw => hts w ((fun w h => List.mem_cons_of_mem _ (List.mem_append_right _ h) : ∀ w ∈ (vx_atS RX10 91 "java/lang/IllegalArgumentException" ["java/lang/RuntimeException", "java/lang/Exception"]).filter goodWord, w ∈ wsX10_patterns) w hw)) fd_ex_87_91_b (hZ.bad "java/lang/IllegalArgumentException" fd_ex_87_91_e)) fd_ex_87_91_g hZ.un hZ.su hS (hl.1.trans hml.symm) dX10_patterns_10 dX10_patterns_13 dX10_patterns_14 dX10_patterns_16 dX10_patterns_19 (fun x hx => (hex x hx).elim) (Nat.le_of_ble_eq_true rfl) (Nat.le_of_ble_eq_true rfl) (Nat.le_of_ble_eq_true rfl) (Nat.le_of_ble_eq_true rfl) hlocks (fun t ha hsz hk => ⟨σ, trivial, ⟨rfl, hP.kept (fun k q hq => hk q.1 (hP k q hq).lt), va_K.moved ha hK⟩, Nat.le_trans hS.1 hsz, fun q h1 h2 => (hk q (Nat.lt_of_lt_of_le h1 hS.1)).trans (hS.2.1 q h1 h2)⟩) hS.2.2 (Nat.le_of_ble_eq_true rfl) (Nat.le_of_ble_eq_true rfl)
  unfold f_X10_patterns_0 at hf
  refine lv_iload_n hx hb dX10_patterns_0 rfl (lv_at hl 1 rfl) ?_
  refine lv_if_lt (tgt := 10) hx hb dX10_patterns_1 (by decide) (fun c1 => ?_) (fun c1 => ?_)
  · have hf := fd_itp c1 hf
    exact hL10 σ _ _ _ hP hS (lv_sub hl [] rfl) hf
  · have hf := fd_itn c1 hf
    refine lv_iload_n hx hb dX10_patterns_4 rfl (lv_at hl 1 rfl) ?_
    refine lv_bipush (v := (64 : Int32)) hx hb dX10_patterns_5 (by decide) ?_
    refine lv_icmp_le (tgt := 20) hx hb dX10_patterns_7 (by decide) (fun c3 => ?_) (fun c3 => ?_)
    · have hf := fd_itp c3 hf
      refine lv_aload_n hx hb dX10_patterns_20 rfl (lv_at hl 0 rfl) ?_
      refine lv_iconst (v := (0 : Int32)) hx hb dX10_patterns_21 (by decide) ?_
      obtain ⟨σ4, eσ4, hf⟩ := fd_lts hf
      refine va_put (ci := 10) (v := .int (0 : Int32)) (ty := .boolean) (C := RX10) (T := TX10) (N := 8) hx hb hts h9X10 tyX10 tyX10_ok nmX10 hown hK hP (fd_DC hI hJ) hS 0 fd_WC_0 rfl 7 (by decide) (hts (.fieldLink RX10 60 "FailDiagnose" "told" "Z") (List.mem_of_getElem? (i := 3) (by eq_refl))) (fun _ h9 => h9) rfl (by decide +kernel) rfl rfl (Nat.le_of_ble_eq_true rfl) dX10_patterns_22 (fun H locs hP _ hS => ?_)
      have hP : va_P D vwCl (fd_WC a k σ4) H := by rw [eσ4]; exact fd_sP fd_WCi_0 hP
      refine lv_aload_n hx hb dX10_patterns_25 rfl (lv_at hl 0 rfl) ?_
      refine va_get (ci := 10) (v := .ref (a 1)) (C := RX10) (T := TX10) (N := 8) hx hb hts h9X10 hown hK hP 0 fd_WC_0 rfl 0 (by decide) (hts (.fieldLink RX10 12 "FailDiagnose" "circuit" "LFailDiagnose$Circuit;") (List.mem_of_getElem? (i := 4) (by eq_refl))) (fun _ h9 => h9) rfl dX10_patterns_26 ?_
      refine lv_iload_n hx hb dX10_patterns_29 rfl (lv_at hl 1 rfl) ?_
      obtain ⟨w8, τ9, hc5, hf⟩ := fd_bds hf
      refine va_calli (va_runV (As := [.int p1]) (rest := []) ⟨hx, hb, hml, hown, hts⟩ (m_X2_putPatterns_1 l D a k H.size hI N p1 σ4 _ hc5) (cwV 1 hts gX10_patterns_X2_putPatterns rfl rfl rfl (by decide +kernel) ⟨Nat.le_of_ble_eq_true rfl, Nat.le_of_ble_eq_true rfl⟩) ⟨fd_blC, va_recv hK hP (ci := 2) (q0 := 1) rfl fd_WC_1, fd_prC hP hK⟩ rfl rfl hl.1 rfl (lv_room (Nat.le_of_ble_eq_true rfl)) dX10_patterns_30 ⟨Nat.zero_le _, Nat.zero_le _⟩) hS (fun q _ h => fd_A_mono hS.1 h) (fun q h => fd_A_mono hS.1 h) (fun v6 u t H1 locs ht hvm hw hB hz hk hS => ?_)
      obtain ⟨hP1, hK1⟩ := hB
      rw [ht] at hP1
      obtain ⟨e1, e2⟩ := Prod.mk.inj hw
      subst e1
      subst e2
      obtain ⟨σ7, rfl⟩ : ∃ z, z = u := ⟨_, rfl⟩
      have hP := hP1
      generalize H1 = H at hP hS ⊢
      refine vx_ret (W.widen (k := fd_mc r) (n := fd_ms r) (Nat.zero_le _) (Nat.zero_le _) ?_)
      exact W.iret (v := v6) hx hb hr (fun t ht hW => ⟨⟨v6, σ7, rfl, Option.some.inj hf, by rw [ht]; exact hP, va_K.moved hW.alike hK⟩, hS.F ht⟩) hS.2.2 dX10_patterns_33
    · have hf := fd_itn c3 hf
      exact hL10 σ _ _ _ hP hS (lv_sub hl [] rfl) hf
noncomputable def f_L_patterns_0_39 (N : Nat) (p1 : Int32) (σ : fd_St) : Option (Int32 × fd_St) := fd_bx (f_X10_patterns_0 N p1 σ) (fun v2 τ => fd_lt (fd_mix τ σ) (fun σ6 => fd_gd (vp_in (0 : Int32) 1) (fd_lt (fd_sL 39 (0 : Int32) v2.toInt64 σ6) (fun σ9 => some ((0 : Int32), σ9))))) (fun E τ => if E = "java/lang/IllegalArgumentException" then (fd_lt (fd_mix τ σ) (fun σ11 => some ((1 : Int32), σ11))) else (none))
set_option maxHeartbeats 4000000 in
set_option maxRecDepth 100000 in
theorem m_L_patterns_0_39 (l : Launch) (hl9 : l.stackTraces = false) (D : va_G) (a : Nat → Nat) (k : Nat → ClassId) (sz : Nat) (hI : fd_I 40 a) (N : Nat) (p1 : Int32) (σ : fd_St) (r : Int32 × fd_St) (hf : f_L_patterns_0_39 N p1 σ = some r) : Met l yL_patterns wsL_patterns ({ frames := 7, cells := 1, slots := 6, locals := 111 }) (va_Pc [.ref (a 0), .int p1, .ref (a 39)] (fd_PH D a k sz σ)) (va_Qi (fun v u => (v, u) = r) (fd_BH D a k) (fd_A 40 a sz)) 1 6 (fd_A 40 a sz) := by
  refine fd_ofWT (cc := cL_patterns) (maxL := 4) (ret := (some .int)) (by decide) rfl ?_
  intro p e s m args below meth c s₁ B hml hTab hv
  obtain ⟨rfl, hsz, hP, hK, hZ⟩ := hv
  have hx := B.exec
  have hb := B.bytes
  have hr := B.returns
  have hts := atoms_spec (ws := wsL_patterns) B.pre
  have hown : s.vm.findClass RL = some m.cls := findClass_of_methodNamed B.named
  have hlocks := B.notSynchronized
  subst hsz
  have hJ : ∀ i, i < 40 → fd_A 40 a s.heap.size (a i) := fun i hi => Or.inl ⟨i, hi, rfl⟩
  have hS : va_S (fd_A 40 a s.heap.size) s.heap s.heap [] := va_S.rf
  have hl := lv_entry ([.ref (a 0), .int p1, .ref (a 39)]) (n := 4) (Nat.le_of_ble_eq_true rfl)
  rw [lg_entry_eq]
  generalize (lg_sl ([.ref (a 0), .int p1, .ref (a 39)]) ++ List.replicate (4 - (lg_sl ([.ref (a 0), .int p1, .ref (a 39)])).length) Slot.unset).toArray = ls at hl ⊢
  have hl : lv_has ls 4 [(0, .ref (a 0)), (1, .int p1), (2, .ref (a 39))] := hl
  unfold f_L_patterns_0_39 at hf
  refine lv_aload_n hx hb dL_patterns_0 rfl (lv_at hl 2 rfl) ?_
  refine lv_iconst (v := (0 : Int32)) hx hb dL_patterns_1 (by decide) ?_
  refine lv_aload_n hx hb dL_patterns_2 rfl (lv_at hl 0 rfl) ?_
  refine lv_iload_n hx hb dL_patterns_3 rfl (lv_at hl 1 rfl) ?_
  rcases fd_bxs hf with ⟨w3, τ4, hc1, hf⟩ | ⟨E5, τ4, hc1, hf⟩
  · refine vx_calli (vx_runV (As := [.int p1]) (rest := [.int (0 : Int32), .ref (a 39)]) ⟨hx, hb, hml, hown, hts⟩ (m_X10_patterns_0 l hl9 D a k s.heap.size (fd_I40 hI) N p1 σ _ hc1) (cwV 1 hts gL_patterns_X10_patterns rfl rfl rfl (by decide +kernel) ⟨Nat.le_of_ble_eq_true rfl, Nat.le_of_ble_eq_true rfl⟩) ⟨fd_blZ, va_recv (fd_HK hK) (fd_HC hP) (ci := 10) (q0 := 0) rfl fd_WC_0, fd_prHZ hP hK hZ hS⟩ rfl rfl hl.1 rfl (lv_room (Nat.le_of_ble_eq_true rfl)) dL_patterns_4 ⟨(Nat.zero_le _), (Nat.zero_le _)⟩) hS (fun q _ h => fd_A_sub hS.1 h) (fun q h => fd_A_sub hS.1 h) (fun q _ h => fd_A_sub hS.1 h) (fun E ce q9 u t H1 locs1 ht hvm hp hB => ?_) (fun v2 u t H1 locs ht hvm hw hB hz hk hS => ?_)
    · exact absurd hB.1 (by simp)
    obtain ⟨hP1, hK1⟩ := hB
    rw [ht] at hP1
    obtain ⟨e1, e2⟩ := Prod.mk.inj hw
    obtain e1 := Sum.inl.inj e1
    subst e1
    subst e2
    obtain ⟨σ6, eσ6, hf⟩ := fd_lts hf
    have hP : va_P D vwCl (fd_WH a k σ6) H1 := by rw [eσ6]; exact fd_HJ hI hP hP1 hk
    generalize H1 = H at hP hS ⊢
    refine W.cs (cells' := 0) (slots' := 0) rfl rfl ?_
    refine lv_i2l hx hb dL_patterns_7 rfl ?_
    obtain ⟨g8, hf⟩ := fd_gds hf
    obtain ⟨σ9, eσ9, hf⟩ := fd_lts hf
    refine va_last hx hb hK hP (fd_DH hI hJ) hS 39 27 fd_WH_39 fd_tyH_39 g8 dL_patterns_8 (fun H locs hP _ hS => ?_)
    have hP : va_P D vwCl (fd_WH a k σ9) H := by rw [eσ9]; exact fd_sP fd_WHa_39 hP
    refine lv_goto (tgt := 15) hx hb dL_patterns_9 (by decide) ?_
    refine lv_iconst (v := (0 : Int32)) hx hb dL_patterns_15 (by decide) ?_
    refine W.widen (k := 1) (n := 6) (Nat.le_of_ble_eq_true rfl) (Nat.le_of_ble_eq_true rfl) ?_
    exact W.iret (v := (0 : Int32)) hx hb hr (fun t ht hW => ⟨⟨(0 : Int32), σ9, rfl, Option.some.inj hf, by rw [ht]; exact hP, va_K.moved hW.alike hK⟩, hS.F ht⟩) hS.2.2 dL_patterns_16
  · have hE := hf
    by_cases c10 : E5 = "java/lang/IllegalArgumentException"
    · subst c10
      have hf := fd_itp rfl hf
      refine vx_calli (vx_runV (As := [.int p1]) (rest := [.int (0 : Int32), .ref (a 39)]) ⟨hx, hb, hml, hown, hts⟩ (m_X10_patterns_0 l hl9 D a k s.heap.size (fd_I40 hI) N p1 σ _ hc1) (cwV 1 hts gL_patterns_X10_patterns rfl rfl rfl (by decide +kernel) ⟨Nat.le_of_ble_eq_true rfl, Nat.le_of_ble_eq_true rfl⟩) ⟨fd_blZ, va_recv (fd_HK hK) (fd_HC hP) (ci := 10) (q0 := 0) rfl fd_WC_0, fd_prHZ hP hK hZ hS⟩ rfl rfl hl.1 rfl (lv_room (Nat.le_of_ble_eq_true rfl)) dL_patterns_4 ⟨Nat.le_of_ble_eq_true rfl, Nat.le_of_ble_eq_true rfl⟩) hS (fun q _ h => fd_A_sub hS.1 h) (fun q h => fd_A_sub hS.1 h) (fun q _ h => fd_A_sub hS.1 h) (fun E ce q9 u t H1 locs1 ht hvm hp hB hz hk hS hce hcv hcl => ?_) (fun v2 u t H1 locs ht hvm hw hB hz hk hS => ?_)
      · obtain ⟨hB0, hP1, hK1⟩ := hB
        rw [ht] at hP1
        obtain ⟨e1, e2⟩ := Prod.mk.inj hB0
        obtain e1 := Sum.inr.inj e1
        subst e1
        subst e2
        obtain ⟨σ11, eσ11, hf⟩ := fd_lts hf
        have hP : va_P D vwCl (fd_WH a k σ11) H1 := by rw [eσ11]; exact fd_HJ hI hP hP1 hk
        refine fd_catch (own := RL) (name := "java/lang/IllegalArgumentException") (E := "java/lang/IllegalArgumentException") hown [] ⟨0, 9, 12, 21⟩ [] (by rw [hTab]; rfl) (fun z hz => nomatch hz) (by decide) (by decide) (hts (.classLink RL 21 "java/lang/IllegalArgumentException") (List.mem_of_getElem? (i := 1) (by eq_refl))) (hZ.cast "java/lang/IllegalArgumentException" (by decide +kernel)) hce hcv hcl ?_
        refine W.cs (cells' := 1) (slots' := 6) rfl rfl ?_
        refine lv_astore_n (lv' := [(3, .ref q9), (0, .ref (a 0)), (1, .int p1), (2, .ref (a 39))]) hx hb dL_patterns_12 rfl hl (by decide) rfl (fun ls hl => ?_)
        refine lv_iconst (v := (1 : Int32)) hx hb dL_patterns_13 (by decide) ?_
        refine W.widen (k := 1) (n := 6) (Nat.le_of_ble_eq_true rfl) (Nat.le_of_ble_eq_true rfl) ?_
        exact W.iret (v := (1 : Int32)) hx hb hr (fun t ht hW => ⟨⟨(1 : Int32), σ11, rfl, Option.some.inj hf, by rw [ht]; exact hP, va_K.moved hW.alike hK⟩, hS.F ht⟩) hS.2.2 dL_patterns_14
      · exact absurd hw (by simp)
    have hf := fd_itn c10 hf
    cases hf
noncomputable def f_X11_patterns_0_J16 (N : Nat) (y1 : Int32) (z1 : Int32) (σ : fd_St) : Option (Int32 × fd_St) := fd_lt (fd_sI 0 z1 σ) (fun σ2 => if (σ2.1 0) ≤ 0 then (fd_lt (σ2.1 4) (fun x4 => fd_lt (fd_sI 4 y1 σ2) (fun σ5 => fd_bd (f_X11_changed_0 N σ5) (fun _ σ8 => some (x4, σ8))))) else (some ((0 : Int32), σ2)))
noncomputable def f_X11_patterns_0_J15 (N : Nat) (y1 : Int32) (σ : fd_St) : Option (Int32 × fd_St) := f_X11_patterns_0_J16 N y1 (1 : Int32) σ
noncomputable def f_X11_patterns_0 (N : Nat) (p1 : Int32) (σ : fd_St) : Option (Int32 × fd_St) := if p1 < 0 then (f_X11_patterns_0_J15 N p1 σ) else (if (64 : Int32) < p1 then (f_X11_patterns_0_J15 N p1 σ) else (f_X11_patterns_0_J16 N p1 (0 : Int32) σ))
set_option maxHeartbeats 4000000 in
set_option maxRecDepth 100000 in
theorem m_X11_patterns_0 (l : Launch) (D : va_G) (a : Nat → Nat) (k : Nat → ClassId) (sz : Nat) (hI : fd_I 29 a) (N : Nat) (p1 : Int32) (σ : fd_St) (r : Int32 × fd_St) (hf : f_X11_patterns_0 N p1 σ = some r) : Met l yX11_patterns wsX11_patterns ({ frames := 1, cells := 0, slots := 0, locals := 20 }) (va_Pc [.ref (a 0), .int p1] (fd_PM D a k sz σ)) (va_Qi (fun v u => (v, u) = r) (fd_BM D a k) (fd_A 29 a sz)) 0 0 (fd_A 29 a sz) := by
  refine Met.ofW (cc := cX11_patterns) (maxL := 3) (ret := (some .int)) (by decide) rfl ?_
  intro p e s m args below meth c s₁ B hml hv
  obtain ⟨rfl, hsz, hP, hK⟩ := hv
  have hx := B.exec
  have hb := B.bytes
  have hr := B.returns
  have hts := atoms_spec (ws := wsX11_patterns) B.pre
  have hown : s.vm.findClass RX11 = some m.cls := findClass_of_methodNamed B.named
  have hlocks := B.notSynchronized
  subst hsz
  have hJ : ∀ i, i < 29 → fd_A 29 a s.heap.size (a i) := fun i hi => Or.inl ⟨i, hi, rfl⟩
  have hS : va_S (fd_A 29 a s.heap.size) s.heap s.heap [] := va_S.rf
  have hl := lv_entry ([.ref (a 0), .int p1]) (n := 3) (Nat.le_of_ble_eq_true rfl)
  rw [lg_entry_eq]
  generalize (lg_sl ([.ref (a 0), .int p1]) ++ List.replicate (3 - (lg_sl ([.ref (a 0), .int p1])).length) Slot.unset).toArray = ls at hl ⊢
  have hl : lv_has ls 3 [(0, .ref (a 0)), (1, .int p1)] := hl
  have h9X11 : ∀ w ∈ u_ws RX11 TX11 43, w ∈ wsX11_patterns := fd_su [10, 11, 12, 13, 14, 15, 16, 17, 18, 19, 20, 21, 22, 23, 24, 25, 26, 27, 28, 29, 30, 31, 32, 33, 34, 35, 36, 37, 38, 39, 40, 41, 42, 43, 44, 45, 46, 47, 48, 49, 50, 51, 52] (by eq_refl)
  have hL16 : ∀ (y1 : Int32) (z1 : Int32) (σ : fd_St) (H : Heap) (locs : List Loc) (ls : Array Slot), va_P D vwCl (fd_WM a k σ) H → va_S (fd_A 29 a s.heap.size) s.heap H locs → lv_has ls 3 [(0, .ref (a 0)), (1, .int y1)] → f_X11_patterns_0_J16 N y1 z1 σ = some r → W p l e ((headSpec wsX11_patterns ({ frames := 1, cells := 0, slots := 0, locals := 20 })).room) s m ([.ref (a 0), .int p1].toArray) below meth c H locs 0 0 (MQ below (va_Qi (fun v u => (v, u) = r) (fd_BM D a k) (fd_A 29 a s.heap.size)) ([.ref (a 0), .int p1].toArray) s 0 0 (fd_A 29 a s.heap.size)) (F0 m 16 ls [.int z1, .ref (a 0)]) := by
    intro y1 z1 σ H locs ls hP hS hl hf
    unfold f_X11_patterns_0_J16 at hf
    obtain ⟨σ2, eσ2, hf⟩ := fd_lts hf
    refine va_put (ci := 11) (v := .int z1) (ty := .int) (C := RX11) (T := TX11) (N := 43) hx hb hts h9X11 tyX11 tyX11_ok nmX11 hown hK hP (fd_DM hI hJ) hS 0 fd_WM_0 rfl 0 (by decide) (hts (.fieldLink RX11 99 "FailDiagnoseModel" "thrown" "I") (List.mem_of_getElem? (i := 1) (by eq_refl))) (fun _ h9 => h9) rfl (by decide +kernel) rfl rfl (Nat.le_of_ble_eq_true rfl) dX11_patterns_16 (fun H locs hP _ hS => ?_)
    have hP : va_P D vwCl (fd_WM a k σ2) H := by rw [eσ2]; exact fd_sP fd_WMi_0 hP
    refine lv_aload_n hx hb dX11_patterns_19 rfl (lv_at hl 0 rfl) ?_
    refine va_get (ci := 11) (v := .int (σ2.1 0)) (C := RX11) (T := TX11) (N := 43) hx hb hts h9X11 hown hK hP 0 fd_WM_0 rfl 0 (by decide) (hts (.fieldLink RX11 99 "FailDiagnoseModel" "thrown" "I") (List.mem_of_getElem? (i := 1) (by eq_refl))) (fun _ h9 => h9) rfl dX11_patterns_20 ?_
    refine lv_if_le (tgt := 28) hx hb dX11_patterns_23 (by decide) (fun c3 => ?_) (fun c3 => ?_)
    · have hf := fd_itp c3 hf
      refine lv_aload_n hx hb dX11_patterns_28 rfl (lv_at hl 0 rfl) ?_
      refine va_get (ci := 11) (v := .int (σ2.1 4)) (C := RX11) (T := TX11) (N := 43) hx hb hts h9X11 hown hK hP 0 fd_WM_0 rfl 10 (by decide) (hts (.fieldLink RX11 126 "FailDiagnoseModel" "many" "I") (List.mem_of_getElem? (i := 2) (by eq_refl))) (fun _ h9 => h9) rfl dX11_patterns_29 ?_
      obtain ⟨x4, ex4, hf⟩ := fd_lts hf
      refine fd_ni ex4 ?_
      refine lv_istore_n (lv' := [(2, .int x4), (0, .ref (a 0)), (1, .int y1)]) hx hb dX11_patterns_32 rfl hl (by decide) rfl (fun ls hl => ?_)
      refine lv_aload_n hx hb dX11_patterns_33 rfl (lv_at hl 1 rfl) ?_
      refine lv_iload_n hx hb dX11_patterns_34 rfl (lv_at hl 2 rfl) ?_
      obtain ⟨σ5, eσ5, hf⟩ := fd_lts hf
      refine va_put (ci := 11) (v := .int y1) (ty := .int) (C := RX11) (T := TX11) (N := 43) hx hb hts h9X11 tyX11 tyX11_ok nmX11 hown hK hP (fd_DM hI hJ) hS 0 fd_WM_0 rfl 10 (by decide) (hts (.fieldLink RX11 126 "FailDiagnoseModel" "many" "I") (List.mem_of_getElem? (i := 2) (by eq_refl))) (fun _ h9 => h9) rfl (by decide +kernel) rfl rfl (Nat.le_of_ble_eq_true rfl) dX11_patterns_35 (fun H locs hP _ hS => ?_)
      have hP : va_P D vwCl (fd_WM a k σ5) H := by rw [eσ5]; exact fd_sP fd_WMi_4 hP
      refine lv_aload_n hx hb dX11_patterns_38 rfl (lv_at hl 1 rfl) ?_
      obtain ⟨w9, τ10, hc6, hf⟩ := fd_bds hf
      refine va_callv (va_runV (As := []) (rest := []) ⟨hx, hb, hml, hown, hts⟩ (m_X11_changed_0 l D a k H.size hI N σ5 _ hc6) (cwV 0 hts gX11_patterns_X11_changed rfl rfl rfl (by decide +kernel) ⟨Nat.le_of_ble_eq_true rfl, Nat.le_of_ble_eq_true rfl⟩) ⟨fd_blM, va_recv hK hP (ci := 11) (q0 := 0) rfl fd_WM_0, fd_prM hP hK⟩ rfl rfl hl.1 rfl (lv_room (Nat.le_of_ble_eq_true rfl)) dX11_patterns_39 ⟨Nat.zero_le _, Nat.zero_le _⟩) hS (fun q _ h => fd_A_mono hS.1 h) (fun q h => fd_A_mono hS.1 h) (fun u t H1 locs ht hvm hw hB hz hk hS => ?_)
      obtain ⟨hP1, hK1⟩ := hB
      rw [ht] at hP1
      have e2 := (Prod.mk.inj hw).2
      subst e2
      obtain ⟨σ8, rfl⟩ : ∃ z, z = u := ⟨_, rfl⟩
      have hP := hP1
      generalize H1 = H at hP hS ⊢
      refine lv_iload_n hx hb dX11_patterns_42 rfl (lv_at hl 0 rfl) ?_
      exact W.iret (v := x4) hx hb hr (fun t ht hW => ⟨⟨x4, σ8, rfl, Option.some.inj hf, by rw [ht]; exact hP, va_K.moved hW.alike hK⟩, hS.F ht⟩) hS.2.2 dX11_patterns_43
    · have hf := fd_itn c3 hf
      refine lv_iconst (v := (0 : Int32)) hx hb dX11_patterns_26 (by decide) ?_
      exact W.iret (v := (0 : Int32)) hx hb hr (fun t ht hW => ⟨⟨(0 : Int32), σ2, rfl, Option.some.inj hf, by rw [ht]; exact hP, va_K.moved hW.alike hK⟩, hS.F ht⟩) hS.2.2 dX11_patterns_27
  have hL15 : ∀ (y1 : Int32) (σ : fd_St) (H : Heap) (locs : List Loc) (ls : Array Slot), va_P D vwCl (fd_WM a k σ) H → va_S (fd_A 29 a s.heap.size) s.heap H locs → lv_has ls 3 [(0, .ref (a 0)), (1, .int y1)] → f_X11_patterns_0_J15 N y1 σ = some r → W p l e ((headSpec wsX11_patterns ({ frames := 1, cells := 0, slots := 0, locals := 20 })).room) s m ([.ref (a 0), .int p1].toArray) below meth c H locs 0 0 (MQ below (va_Qi (fun v u => (v, u) = r) (fd_BM D a k) (fd_A 29 a s.heap.size)) ([.ref (a 0), .int p1].toArray) s 0 0 (fd_A 29 a s.heap.size)) (F0 m 15 ls [.ref (a 0)]) := by
    intro y1 σ H locs ls hP hS hl hf
    unfold f_X11_patterns_0_J15 at hf
    refine lv_iconst (v := (1 : Int32)) hx hb dX11_patterns_15 (by decide) ?_
    exact hL16 y1 (1 : Int32) σ _ _ _ hP hS (lv_sub hl [0, 1] rfl) hf
  unfold f_X11_patterns_0 at hf
  refine lv_aload_n hx hb dX11_patterns_0 rfl (lv_at hl 0 rfl) ?_
  refine lv_iload_n hx hb dX11_patterns_1 rfl (lv_at hl 1 rfl) ?_
  refine lv_if_lt (tgt := 15) hx hb dX11_patterns_2 (by decide) (fun c1 => ?_) (fun c1 => ?_)
  · have hf := fd_itp c1 hf
    exact hL15 p1 σ _ _ _ hP hS (lv_sub hl [0, 1] rfl) hf
  · have hf := fd_itn c1 hf
    refine lv_iload_n hx hb dX11_patterns_5 rfl (lv_at hl 1 rfl) ?_
    refine lv_bipush (v := (64 : Int32)) hx hb dX11_patterns_6 (by decide) ?_
    refine lv_icmp_gt (tgt := 15) hx hb dX11_patterns_8 (by decide) (fun c11 => ?_) (fun c11 => ?_)
    · have hf := fd_itp c11 hf
      exact hL15 p1 σ _ _ _ hP hS (lv_sub hl [0, 1] rfl) hf
    · have hf := fd_itn c11 hf
      refine lv_iconst (v := (0 : Int32)) hx hb dX11_patterns_11 (by decide) ?_
      refine lv_goto (tgt := 16) hx hb dX11_patterns_12 (by decide) ?_
      exact hL16 p1 (0 : Int32) σ _ _ _ hP hS (lv_sub hl [0, 1] rfl) hf
noncomputable def f_X2_hasInput_1 (N : Nat) (p1 : Int32) (σ : fd_St) : Option (Int32 × fd_St) := fd_bd (f_X2_has_1 N p1 σ) (fun v2 σ3 => if v2 = 0 then (some ((0 : Int32), σ3)) else (fd_gd (vp_in p1 200) (if (σ3.2.1 12 p1.toNatClampNeg) = (-1 : Int32) then (some ((1 : Int32), σ3)) else (some ((0 : Int32), σ3)))))
set_option maxHeartbeats 4000000 in
set_option maxRecDepth 100000 in
theorem m_X2_hasInput_1 (l : Launch) (D : va_G) (a : Nat → Nat) (k : Nat → ClassId) (sz : Nat) (hI : fd_I 39 a) (N : Nat) (p1 : Int32) (σ : fd_St) (r : Int32 × fd_St) (hf : f_X2_hasInput_1 N p1 σ = some r) : Met l yX2_hasInput wsX2_hasInput ({ frames := 1, cells := 0, slots := 0, locals := 21 }) (va_Pc [.ref (a 1), .int p1] (fd_PC D a k sz σ)) (va_Qi (fun v u => (v, u) = r) (fd_BC D a k) (fd_A 39 a sz)) 0 0 (fd_A 39 a sz) := by
  refine Met.ofW (cc := cX2_hasInput) (maxL := 2) (ret := (some .boolean)) (by decide) rfl ?_
  intro p e s m args below meth c s₁ B hml hv
  obtain ⟨rfl, hsz, hP, hK⟩ := hv
  have hx := B.exec
  have hb := B.bytes
  have hr := B.returns
  have hts := atoms_spec (ws := wsX2_hasInput) B.pre
  have hown : s.vm.findClass RX2 = some m.cls := findClass_of_methodNamed B.named
  have hlocks := B.notSynchronized
  subst hsz
  have hJ : ∀ i, i < 39 → fd_A 39 a s.heap.size (a i) := fun i hi => Or.inl ⟨i, hi, rfl⟩
  have hS : va_S (fd_A 39 a s.heap.size) s.heap s.heap [] := va_S.rf
  have hl := lv_entry ([.ref (a 1), .int p1]) (n := 2) (Nat.le_of_ble_eq_true rfl)
  rw [lg_entry_eq]
  generalize (lg_sl ([.ref (a 1), .int p1]) ++ List.replicate (2 - (lg_sl ([.ref (a 1), .int p1])).length) Slot.unset).toArray = ls at hl ⊢
  have hl : lv_has ls 2 [(0, .ref (a 1)), (1, .int p1)] := hl
  have h9X2 : ∀ w ∈ u_ws RX2 TX2 9, w ∈ wsX2_hasInput := fd_su [8, 9, 10, 11, 12, 13, 14, 15, 16] (by eq_refl)
  unfold f_X2_hasInput_1 at hf
  refine lv_aload_n hx hb dX2_hasInput_0 rfl (lv_at hl 0 rfl) ?_
  refine lv_iload_n hx hb dX2_hasInput_1 rfl (lv_at hl 1 rfl) ?_
  obtain ⟨w4, τ5, hc1, hf⟩ := fd_bds hf
  refine va_calli (va_runV (As := [.int p1]) (rest := []) ⟨hx, hb, hml, hown, hts⟩ (m_X2_has_1 l D a k s.heap.size hI N p1 σ _ hc1) (cwV 1 hts gX2_hasInput_X2_has rfl rfl rfl (by decide +kernel) ⟨Nat.le_of_ble_eq_true rfl, Nat.le_of_ble_eq_true rfl⟩) ⟨fd_blC, va_recv hK hP (ci := 2) (q0 := 1) rfl fd_WC_1, fd_prC hP hK⟩ rfl rfl hl.1 rfl (lv_room (Nat.le_of_ble_eq_true rfl)) dX2_hasInput_2 ⟨Nat.zero_le _, Nat.zero_le _⟩) hS (fun q _ h => fd_A_mono hS.1 h) (fun q h => fd_A_mono hS.1 h) (fun v2 u t H1 locs ht hvm hw hB hz hk hS => ?_)
  obtain ⟨hP1, hK1⟩ := hB
  rw [ht] at hP1
  obtain ⟨e1, e2⟩ := Prod.mk.inj hw
  subst e1
  subst e2
  obtain ⟨σ3, rfl⟩ : ∃ z, z = u := ⟨_, rfl⟩
  have hP := hP1
  generalize H1 = H at hP hS ⊢
  refine lv_if_eq (tgt := 22) hx hb dX2_hasInput_5 (by decide) (fun c6 => ?_) (fun c6 => ?_)
  · have hf := fd_itp c6 hf
    refine lv_iconst (v := (0 : Int32)) hx hb dX2_hasInput_22 (by decide) ?_
    exact W.zret (v := (0 : Int32)) (ty := .boolean) hx hb hr rfl (fun t ht hW => ⟨⟨(0 : Int32), σ3, rfl, Option.some.inj hf, by rw [ht]; exact hP, va_K.moved hW.alike hK⟩, hS.F ht⟩) hS.2.2 dX2_hasInput_23
  · have hf := fd_itn c6 hf
    refine lv_aload_n hx hb dX2_hasInput_8 rfl (lv_at hl 0 rfl) ?_
    refine va_get (ci := 2) (v := .ref (a 12)) (C := RX2) (T := TX2) (N := 9) hx hb hts h9X2 hown hK hP 1 fd_WC_1 rfl 0 (by decide) (hts (.fieldLink RX2 9 "FailDiagnose$Circuit" "kinds" "[I") (List.mem_of_getElem? (i := 1) (by eq_refl))) (fun _ h9 => h9) rfl dX2_hasInput_9 ?_
    refine lv_iload_n hx hb dX2_hasInput_12 rfl (lv_at hl 1 rfl) ?_
    obtain ⟨g7, hf⟩ := fd_gds hf
    refine va_iald hx hb hK hP 12 0 fd_WC_12 fd_tyC_12 g7 dX2_hasInput_13 ?_
    refine lv_iconst (v := (-1 : Int32)) hx hb dX2_hasInput_14 (by decide) ?_
    refine lv_icmp_ne (tgt := 22) hx hb dX2_hasInput_15 (by decide) (fun c8 => ?_) (fun c8 => ?_)
    · have hf := fd_itn c8 hf
      refine lv_iconst (v := (0 : Int32)) hx hb dX2_hasInput_22 (by decide) ?_
      exact W.zret (v := (0 : Int32)) (ty := .boolean) hx hb hr rfl (fun t ht hW => ⟨⟨(0 : Int32), σ3, rfl, Option.some.inj hf, by rw [ht]; exact hP, va_K.moved hW.alike hK⟩, hS.F ht⟩) hS.2.2 dX2_hasInput_23
    · have hf := fd_itp c8 hf
      refine lv_iconst (v := (1 : Int32)) hx hb dX2_hasInput_18 (by decide) ?_
      refine lv_goto (tgt := 23) hx hb dX2_hasInput_19 (by decide) ?_
      exact W.zret (v := (1 : Int32)) (ty := .boolean) hx hb hr rfl (fun t ht hW => ⟨⟨(1 : Int32), σ3, rfl, Option.some.inj hf, by rw [ht]; exact hP, va_K.moved hW.alike hK⟩, hS.F ht⟩) hS.2.2 dX2_hasInput_23
noncomputable def f_X2_putRow_1_J57 (N : Nat) (k20 : Int64 → Int32 → fd_St → Option (Int64 × fd_St)) (y4 : Int64) (y6 : Int32) (σ : fd_St) : Option (Int64 × fd_St) := fd_lt (y6 + (1 : Int32)) (fun x9 => k20 y4 x9 σ)
noncomputable def f_X2_putRow_1_L20 (N : Nat) : Nat → Int64 → Int32 → fd_St → Option (Int64 × fd_St)
  | 0 => fun _ _ _ => none
  | n + 1 => fun y4 y6 σ => if (σ.1 1) ≤ y6 then (some (y4, σ)) else (fd_gd (vp_in y6 200) (if (σ.2.1 12 y6.toNatClampNeg) = (-1 : Int32) then (f_X2_putRow_1_J57 N (f_X2_putRow_1_L20 N n) y4 y6 σ) else (fd_bd (f_X2_gateRow_1_15 N y6 σ) (fun v11 σ12 => fd_gd (vp_in y6 200) (fd_lt (fd_sL 15 y6 v11 σ12) (fun σ16 => f_X2_putRow_1_J57 N (f_X2_putRow_1_L20 N n) y4 y6 σ16))))))
noncomputable def f_X2_putRow_1 (N : Nat) (p1 : Int32) (p2 : Int64) (σ : fd_St) : Option (Int64 × fd_St) := fd_gd (vp_in p1 200) (fd_lt (σ.2.2 15 p1.toNatClampNeg) (fun x2 => fd_gd (vp_in p1 200) (fd_lt (fd_sL 15 p1 p2 σ) (fun σ4 => fd_lt (p1 + (1 : Int32)) (fun x5 => f_X2_putRow_1_L20 N N x2 x5 σ4)))))
set_option maxHeartbeats 4000000 in
set_option maxRecDepth 100000 in
theorem m_X2_putRow_1 (l : Launch) (D : va_G) (a : Nat → Nat) (k : Nat → ClassId) (sz : Nat) (hI : fd_I 39 a) (N : Nat) (p1 : Int32) (p2 : Int64) (σ : fd_St) (r : Int64 × fd_St) (hf : f_X2_putRow_1 N p1 p2 σ = some r) : Met l yX2_putRow wsX2_putRow ({ frames := 1, cells := 0, slots := 0, locals := 26 }) (va_Pc [.ref (a 1), .int p1, .long p2] (fd_PC D a k sz σ)) (va_Ql (fun v u => (v, u) = r) (fd_BC D a k) (fd_A 39 a sz)) 0 0 (fd_A 39 a sz) := by
  refine Met.ofW (cc := cX2_putRow) (maxL := 7) (ret := (some .long)) (by decide) rfl ?_
  intro p e s m args below meth c s₁ B hml hv
  obtain ⟨rfl, hsz, hP, hK⟩ := hv
  have hx := B.exec
  have hb := B.bytes
  have hr := B.returns
  have hts := atoms_spec (ws := wsX2_putRow) B.pre
  have hown : s.vm.findClass RX2 = some m.cls := findClass_of_methodNamed B.named
  have hlocks := B.notSynchronized
  subst hsz
  have hJ : ∀ i, i < 39 → fd_A 39 a s.heap.size (a i) := fun i hi => Or.inl ⟨i, hi, rfl⟩
  have hS : va_S (fd_A 39 a s.heap.size) s.heap s.heap [] := va_S.rf
  have hl := lv_entry ([.ref (a 1), .int p1, .long p2]) (n := 7) (Nat.le_of_ble_eq_true rfl)
  rw [lg_entry_eq]
  generalize (lg_sl ([.ref (a 1), .int p1, .long p2]) ++ List.replicate (7 - (lg_sl ([.ref (a 1), .int p1, .long p2])).length) Slot.unset).toArray = ls at hl ⊢
  have hl : lv_has ls 7 [(0, .ref (a 1)), (1, .int p1), (2, .long p2)] := hl
  have h9X2 : ∀ w ∈ u_ws RX2 TX2 9, w ∈ wsX2_putRow := fd_su [12, 13, 14, 15, 16, 17, 18, 19, 20] (by eq_refl)
  have hL57 : ∀ (k20 : Int64 → Int32 → fd_St → Option (Int64 × fd_St)) (hk20 : ∀ (y4 : Int64) (y6 : Int32) (σ : fd_St) (H : Heap) (locs : List Loc) (ls : Array Slot), va_P D vwCl (fd_WC a k σ) H → va_S (fd_A 39 a s.heap.size) s.heap H locs → lv_has ls 7 [(0, .ref (a 1)), (4, .long y4), (6, .int y6)] → k20 y4 y6 σ = some r → W p l e ((headSpec wsX2_putRow ({ frames := 1, cells := 0, slots := 0, locals := 26 })).room) s m ([.ref (a 1), .int p1, .long p2].toArray) below meth c H locs 0 0 (MQ below (va_Ql (fun v u => (v, u) = r) (fd_BC D a k) (fd_A 39 a s.heap.size)) ([.ref (a 1), .int p1, .long p2].toArray) s 0 0 (fd_A 39 a s.heap.size)) (F0 m 20 ls [])), ∀ (y4 : Int64) (y6 : Int32) (σ : fd_St) (H : Heap) (locs : List Loc) (ls : Array Slot), va_P D vwCl (fd_WC a k σ) H → va_S (fd_A 39 a s.heap.size) s.heap H locs → lv_has ls 7 [(0, .ref (a 1)), (4, .long y4), (6, .int y6)] → f_X2_putRow_1_J57 N k20 y4 y6 σ = some r → W p l e ((headSpec wsX2_putRow ({ frames := 1, cells := 0, slots := 0, locals := 26 })).room) s m ([.ref (a 1), .int p1, .long p2].toArray) below meth c H locs 0 0 (MQ below (va_Ql (fun v u => (v, u) = r) (fd_BC D a k) (fd_A 39 a s.heap.size)) ([.ref (a 1), .int p1, .long p2].toArray) s 0 0 (fd_A 39 a s.heap.size)) (F0 m 57 ls []) := by
    intro k20 hk20 y4 y6 σ H locs ls hP hS hl hf
    unfold f_X2_putRow_1_J57 at hf
    obtain ⟨x9, ex9, hf⟩ := fd_lts hf
    refine lv_iinc (v := x9) (lv' := [(6, .int x9), (0, .ref (a 1)), (4, .long y4)]) hx hb dX2_putRow_57 hl (k := 2) rfl (by rw [ex9]; rfl) (by decide) rfl (fun ls hl => ?_)
    refine lv_goto (tgt := 20) hx hb dX2_putRow_60 (by decide) ?_
    exact hk20 y4 x9 σ _ _ _ hP hS (lv_sub hl [1, 2, 0] rfl) hf
  have hL20 : ∀ (n : Nat), ∀ (y4 : Int64) (y6 : Int32) (σ : fd_St) (H : Heap) (locs : List Loc) (ls : Array Slot), va_P D vwCl (fd_WC a k σ) H → va_S (fd_A 39 a s.heap.size) s.heap H locs → lv_has ls 7 [(0, .ref (a 1)), (4, .long y4), (6, .int y6)] → f_X2_putRow_1_L20 N n y4 y6 σ = some r → W p l e ((headSpec wsX2_putRow ({ frames := 1, cells := 0, slots := 0, locals := 26 })).room) s m ([.ref (a 1), .int p1, .long p2].toArray) below meth c H locs 0 0 (MQ below (va_Ql (fun v u => (v, u) = r) (fd_BC D a k) (fd_A 39 a s.heap.size)) ([.ref (a 1), .int p1, .long p2].toArray) s 0 0 (fd_A 39 a s.heap.size)) (F0 m 20 ls []) := by
    intro n
    induction n with
    | zero =>
      intro _ _ _ _ _ _ _ _ _ hf
      cases hf
    | succ n ih =>
      intro y4 y6 σ H locs ls hP hS hl hf
      unfold f_X2_putRow_1_L20 at hf
      refine lv_iload hx hb dX2_putRow_20 (lv_at hl 2 rfl) ?_
      refine lv_aload_n hx hb dX2_putRow_22 rfl (lv_at hl 0 rfl) ?_
      refine va_get (ci := 2) (v := .int (σ.1 1)) (C := RX2) (T := TX2) (N := 9) hx hb hts h9X2 hown hK hP 1 fd_WC_1 rfl 6 (by decide) (hts (.fieldLink RX2 32 "FailDiagnose$Circuit" "nets" "I") (List.mem_of_getElem? (i := 2) (by eq_refl))) (fun _ h9 => h9) rfl dX2_putRow_23 ?_
      refine lv_icmp_ge (tgt := 63) hx hb dX2_putRow_26 (by decide) (fun c6 => ?_) (fun c6 => ?_)
      · have hf := fd_itp c6 hf
        refine lv_lload hx hb dX2_putRow_63 (lv_at hl 1 rfl) ?_
        exact W.lret (v := y4) hx hb hr (fun t ht hW => ⟨⟨y4, σ, rfl, Option.some.inj hf, by rw [ht]; exact hP, va_K.moved hW.alike hK⟩, hS.F ht⟩) hS.2.2 dX2_putRow_65
      · have hf := fd_itn c6 hf
        refine lv_aload_n hx hb dX2_putRow_29 rfl (lv_at hl 0 rfl) ?_
        refine va_get (ci := 2) (v := .ref (a 12)) (C := RX2) (T := TX2) (N := 9) hx hb hts h9X2 hown hK hP 1 fd_WC_1 rfl 0 (by decide) (hts (.fieldLink RX2 9 "FailDiagnose$Circuit" "kinds" "[I") (List.mem_of_getElem? (i := 3) (by eq_refl))) (fun _ h9 => h9) rfl dX2_putRow_30 ?_
        refine lv_iload hx hb dX2_putRow_33 (lv_at hl 2 rfl) ?_
        obtain ⟨g7, hf⟩ := fd_gds hf
        refine va_iald hx hb hK hP 12 0 fd_WC_12 fd_tyC_12 g7 dX2_putRow_35 ?_
        refine lv_iconst (v := (-1 : Int32)) hx hb dX2_putRow_36 (by decide) ?_
        refine lv_icmp_eq (tgt := 57) hx hb dX2_putRow_37 (by decide) (fun c8 => ?_) (fun c8 => ?_)
        · have hf := fd_itp c8 hf
          exact hL57 (f_X2_putRow_1_L20 N n) ih y4 y6 σ _ _ _ hP hS (lv_sub hl [0, 1, 2] rfl) hf
        · have hf := fd_itn c8 hf
          refine lv_aload_n hx hb dX2_putRow_40 rfl (lv_at hl 0 rfl) ?_
          refine va_get (ci := 2) (v := .ref (a 15)) (C := RX2) (T := TX2) (N := 9) hx hb hts h9X2 hown hK hP 1 fd_WC_1 rfl 3 (by decide) (hts (.fieldLink RX2 21 "FailDiagnose$Circuit" "goodRows" "[J") (List.mem_of_getElem? (i := 1) (by eq_refl))) (fun _ h9 => h9) rfl dX2_putRow_41 ?_
          refine lv_iload hx hb dX2_putRow_44 (lv_at hl 2 rfl) ?_
          refine lv_aload_n hx hb dX2_putRow_46 rfl (lv_at hl 0 rfl) ?_
          refine lv_iload hx hb dX2_putRow_47 (lv_at hl 2 rfl) ?_
          refine lv_aload_n hx hb dX2_putRow_49 rfl (lv_at hl 0 rfl) ?_
          refine va_get (ci := 2) (v := .ref (a 15)) (C := RX2) (T := TX2) (N := 9) hx hb hts h9X2 hown hK hP 1 fd_WC_1 rfl 3 (by decide) (hts (.fieldLink RX2 21 "FailDiagnose$Circuit" "goodRows" "[J") (List.mem_of_getElem? (i := 1) (by eq_refl))) (fun _ h9 => h9) rfl dX2_putRow_50 ?_
          obtain ⟨w13, τ14, hc10, hf⟩ := fd_bds hf
          refine va_calll (va_runV (As := [.int y6, .ref (a 15)]) (rest := [.int y6, .ref (a 15)]) ⟨hx, hb, hml, hown, hts⟩ (m_X2_gateRow_1_15 l D a k H.size hI N y6 σ _ hc10) (cwV 2 hts gX2_putRow_X2_gateRow rfl rfl rfl (by decide +kernel) ⟨Nat.le_of_ble_eq_true rfl, Nat.le_of_ble_eq_true rfl⟩) ⟨fd_blC, va_recv hK hP (ci := 2) (q0 := 1) rfl fd_WC_1, fd_prC hP hK⟩ rfl rfl hl.1 rfl (lv_room (Nat.le_of_ble_eq_true rfl)) dX2_putRow_53 ⟨Nat.zero_le _, Nat.zero_le _⟩) hS (fun q _ h => fd_A_mono hS.1 h) (fun q h => fd_A_mono hS.1 h) (fun v11 u t H1 locs ht hvm hw hB hz hk hS => ?_)
          obtain ⟨hP1, hK1⟩ := hB
          rw [ht] at hP1
          obtain ⟨e1, e2⟩ := Prod.mk.inj hw
          subst e1
          subst e2
          obtain ⟨σ12, rfl⟩ : ∃ z, z = u := ⟨_, rfl⟩
          have hP := hP1
          generalize H1 = H at hP hS ⊢
          obtain ⟨g15, hf⟩ := fd_gds hf
          obtain ⟨σ16, eσ16, hf⟩ := fd_lts hf
          refine va_last hx hb hK hP (fd_DC hI hJ) hS 15 3 fd_WC_15 fd_tyC_15 g15 dX2_putRow_56 (fun H locs hP _ hS => ?_)
          have hP : va_P D vwCl (fd_WC a k σ16) H := by rw [eσ16]; exact fd_sP fd_WCa_15 hP
          exact hL57 (f_X2_putRow_1_L20 N n) ih y4 y6 σ16 _ _ _ hP hS (lv_sub hl [0, 1, 2] rfl) hf
  unfold f_X2_putRow_1 at hf
  refine lv_aload_n hx hb dX2_putRow_0 rfl (lv_at hl 0 rfl) ?_
  refine va_get (ci := 2) (v := .ref (a 15)) (C := RX2) (T := TX2) (N := 9) hx hb hts h9X2 hown hK hP 1 fd_WC_1 rfl 3 (by decide) (hts (.fieldLink RX2 21 "FailDiagnose$Circuit" "goodRows" "[J") (List.mem_of_getElem? (i := 1) (by eq_refl))) (fun _ h9 => h9) rfl dX2_putRow_1 ?_
  refine lv_iload_n hx hb dX2_putRow_4 rfl (lv_at hl 1 rfl) ?_
  obtain ⟨g1, hf⟩ := fd_gds hf
  refine va_lald hx hb hK hP 15 3 fd_WC_15 fd_tyC_15 g1 dX2_putRow_5 ?_
  obtain ⟨x2, ex2, hf⟩ := fd_lts hf
  refine fd_nl ex2 ?_
  refine lv_lstore (lv' := [(4, .long x2), (0, .ref (a 1)), (1, .int p1), (2, .long p2)]) hx hb dX2_putRow_6 hl (by decide) rfl (fun ls hl => ?_)
  refine lv_aload_n hx hb dX2_putRow_8 rfl (lv_at hl 1 rfl) ?_
  refine va_get (ci := 2) (v := .ref (a 15)) (C := RX2) (T := TX2) (N := 9) hx hb hts h9X2 hown hK hP 1 fd_WC_1 rfl 3 (by decide) (hts (.fieldLink RX2 21 "FailDiagnose$Circuit" "goodRows" "[J") (List.mem_of_getElem? (i := 1) (by eq_refl))) (fun _ h9 => h9) rfl dX2_putRow_9 ?_
  refine lv_iload_n hx hb dX2_putRow_12 rfl (lv_at hl 2 rfl) ?_
  refine lv_lload_n hx hb dX2_putRow_13 rfl (lv_at hl 3 rfl) ?_
  obtain ⟨g3, hf⟩ := fd_gds hf
  obtain ⟨σ4, eσ4, hf⟩ := fd_lts hf
  refine va_last hx hb hK hP (fd_DC hI hJ) hS 15 3 fd_WC_15 fd_tyC_15 g3 dX2_putRow_14 (fun H locs hP _ hS => ?_)
  have hP : va_P D vwCl (fd_WC a k σ4) H := by rw [eσ4]; exact fd_sP fd_WCa_15 hP
  refine lv_iload_n hx hb dX2_putRow_15 rfl (lv_at hl 2 rfl) ?_
  refine lv_iconst (v := (1 : Int32)) hx hb dX2_putRow_16 (by decide) ?_
  refine lv_iadd hx hb dX2_putRow_17 ?_
  obtain ⟨x5, ex5, hf⟩ := fd_lts hf
  refine fd_ni ex5 ?_
  refine lv_istore (lv' := [(6, .int x5), (4, .long x2), (0, .ref (a 1)), (1, .int p1), (2, .long p2)]) hx hb dX2_putRow_18 hl (by decide) rfl (fun ls hl => ?_)
  exact hL20 N x2 x5 σ4 _ _ _ hP hS (lv_sub hl [2, 1, 0] rfl) hf
noncomputable def f_X10_pattern_0 (N : Nat) (p1 : Int32) (p2 : Int64) (σ : fd_St) : Option ((Int64 ⊕ String) × fd_St) := fd_bd (f_X2_hasInput_1 N p1 σ) (fun v2 σ3 => if v2 = 0 then (some (.inr "java/lang/IndexOutOfBoundsException", σ3)) else (fd_lt (fd_sI 0 (0 : Int32) σ3) (fun σ7 => fd_bd (f_X2_putRow_1 N p1 p2 σ7) (fun v9 σ10 => some (.inl v9, σ10)))))
set_option maxHeartbeats 4000000 in
set_option maxRecDepth 100000 in
theorem m_X10_pattern_0 (l : Launch) (hl9 : l.stackTraces = false) (D : va_G) (a : Nat → Nat) (k : Nat → ClassId) (sz : Nat) (hI : fd_I 39 a) (N : Nat) (p1 : Int32) (p2 : Int64) (σ : fd_St) (r : (Int64 ⊕ String) × fd_St) (hf : f_X10_pattern_0 N p1 p2 σ = some r) : vx_Met l yX10_pattern wsX10_pattern ({ frames := 6, cells := fd_mc r, slots := fd_ms r, locals := 90 }) (va_Pc [.ref (a 0), .int p1, .long p2] (fd_PZ D a k sz σ)) (va_Ql (fun v u => (Sum.inl v, u) = r) (fd_BC D a k) (fd_A 39 a sz)) (fd_X D a k (fd_A 39 a sz) r) (fd_mc r) (fd_ms r) (fd_A 39 a sz) := by
  refine vx_ofW (cc := cX10_pattern) (maxL := 4) (ret := (some .long)) (by decide) rfl ?_
  intro p e s m args below meth c s₁ B hml hex hv
  obtain ⟨rfl, ⟨hsz, hP, hK⟩, hZ⟩ := hv
  have hx := B.exec
  have hb := B.bytes
  have hr := B.returns
  have hts := atoms_spec (ws := wsX10_pattern) B.pre
  have hown : s.vm.findClass RX10 = some m.cls := findClass_of_methodNamed B.named
  have hlocks := B.notSynchronized
  subst hsz
  have hJ : ∀ i, i < 39 → fd_A 39 a s.heap.size (a i) := fun i hi => Or.inl ⟨i, hi, rfl⟩
  have hS : va_S (fd_A 39 a s.heap.size) s.heap s.heap [] := va_S.rf
  have hl := lv_entry ([.ref (a 0), .int p1, .long p2]) (n := 4) (Nat.le_of_ble_eq_true rfl)
  rw [lg_entry_eq]
  generalize (lg_sl ([.ref (a 0), .int p1, .long p2]) ++ List.replicate (4 - (lg_sl ([.ref (a 0), .int p1, .long p2])).length) Slot.unset).toArray = ls at hl ⊢
  have hl : lv_has ls 4 [(0, .ref (a 0)), (1, .int p1), (2, .long p2)] := hl
  have h9X10 : ∀ w ∈ u_ws RX10 TX10 8, w ∈ wsX10_pattern := fd_su [28, 29, 30, 31, 32, 33, 34, 35] (by eq_refl)
  unfold f_X10_pattern_0 at hf
  refine lv_aload_n hx hb dX10_pattern_0 rfl (lv_at hl 0 rfl) ?_
  refine va_get (ci := 10) (v := .ref (a 1)) (C := RX10) (T := TX10) (N := 8) hx hb hts h9X10 hown hK hP 0 fd_WC_0 rfl 0 (by decide) (hts (.fieldLink RX10 12 "FailDiagnose" "circuit" "LFailDiagnose$Circuit;") (List.mem_of_getElem? (i := 3) (by eq_refl))) (fun _ h9 => h9) rfl dX10_pattern_1 ?_
  refine lv_iload_n hx hb dX10_pattern_4 rfl (lv_at hl 1 rfl) ?_
  obtain ⟨w4, τ5, hc1, hf⟩ := fd_bds hf
  refine va_calli (va_runV (As := [.int p1]) (rest := []) ⟨hx, hb, hml, hown, hts⟩ (m_X2_hasInput_1 l D a k s.heap.size hI N p1 σ _ hc1) (cwV 1 hts gX10_pattern_X2_hasInput rfl rfl rfl (by decide +kernel) ⟨Nat.le_of_ble_eq_true rfl, Nat.le_of_ble_eq_true rfl⟩) ⟨fd_blC, va_recv hK hP (ci := 2) (q0 := 1) rfl fd_WC_1, fd_prC hP hK⟩ rfl rfl hl.1 rfl (lv_room (Nat.le_of_ble_eq_true rfl)) dX10_pattern_5 ⟨Nat.zero_le _, Nat.zero_le _⟩) hS (fun q _ h => fd_A_mono hS.1 h) (fun q h => fd_A_mono hS.1 h) (fun v2 u t H1 locs ht hvm hw hB hz hk hS => ?_)
  obtain ⟨hP1, hK1⟩ := hB
  rw [ht] at hP1
  obtain ⟨e1, e2⟩ := Prod.mk.inj hw
  subst e1
  subst e2
  obtain ⟨σ3, rfl⟩ : ∃ z, z = u := ⟨_, rfl⟩
  have hP := hP1
  generalize H1 = H at hP hS ⊢
  refine lv_if_ne (tgt := 21) hx hb dX10_pattern_8 (by decide) (fun c6 => ?_) (fun c6 => ?_)
  · have hf := fd_itn c6 hf
    refine lv_aload_n hx hb dX10_pattern_21 rfl (lv_at hl 0 rfl) ?_
    refine lv_iconst (v := (0 : Int32)) hx hb dX10_pattern_22 (by decide) ?_
    obtain ⟨σ7, eσ7, hf⟩ := fd_lts hf
    refine va_put (ci := 10) (v := .int (0 : Int32)) (ty := .boolean) (C := RX10) (T := TX10) (N := 8) hx hb hts h9X10 tyX10 tyX10_ok nmX10 hown hK hP (fd_DC hI hJ) hS 0 fd_WC_0 rfl 7 (by decide) (hts (.fieldLink RX10 60 "FailDiagnose" "told" "Z") (List.mem_of_getElem? (i := 4) (by eq_refl))) (fun _ h9 => h9) rfl (by decide +kernel) rfl rfl (Nat.le_of_ble_eq_true rfl) dX10_pattern_23 (fun H locs hP _ hS => ?_)
    have hP : va_P D vwCl (fd_WC a k σ7) H := by rw [eσ7]; exact fd_sP fd_WCi_0 hP
    refine lv_aload_n hx hb dX10_pattern_26 rfl (lv_at hl 0 rfl) ?_
    refine va_get (ci := 10) (v := .ref (a 1)) (C := RX10) (T := TX10) (N := 8) hx hb hts h9X10 hown hK hP 0 fd_WC_0 rfl 0 (by decide) (hts (.fieldLink RX10 12 "FailDiagnose" "circuit" "LFailDiagnose$Circuit;") (List.mem_of_getElem? (i := 3) (by eq_refl))) (fun _ h9 => h9) rfl dX10_pattern_27 ?_
    refine lv_iload_n hx hb dX10_pattern_30 rfl (lv_at hl 1 rfl) ?_
    refine lv_lload_n hx hb dX10_pattern_31 rfl (lv_at hl 2 rfl) ?_
    obtain ⟨w11, τ12, hc8, hf⟩ := fd_bds hf
    refine va_calll (va_runV (As := [.int p1, .long p2]) (rest := []) ⟨hx, hb, hml, hown, hts⟩ (m_X2_putRow_1 l D a k H.size hI N p1 p2 σ7 _ hc8) (cwV 2 hts gX10_pattern_X2_putRow rfl rfl rfl (by decide +kernel) ⟨Nat.le_of_ble_eq_true rfl, Nat.le_of_ble_eq_true rfl⟩) ⟨fd_blC, va_recv hK hP (ci := 2) (q0 := 1) rfl fd_WC_1, fd_prC hP hK⟩ rfl rfl hl.1 rfl (lv_room (Nat.le_of_ble_eq_true rfl)) dX10_pattern_32 ⟨Nat.zero_le _, Nat.zero_le _⟩) hS (fun q _ h => fd_A_mono hS.1 h) (fun q h => fd_A_mono hS.1 h) (fun v9 u t H1 locs ht hvm hw hB hz hk hS => ?_)
    obtain ⟨hP1, hK1⟩ := hB
    rw [ht] at hP1
    obtain ⟨e1, e2⟩ := Prod.mk.inj hw
    subst e1
    subst e2
    obtain ⟨σ10, rfl⟩ : ∃ z, z = u := ⟨_, rfl⟩
    have hP := hP1
    generalize H1 = H at hP hS ⊢
    refine vx_ret (W.widen (k := fd_mc r) (n := fd_ms r) (Nat.zero_le _) (Nat.zero_le _) ?_)
    exact W.lret (v := v9) hx hb hr (fun t ht hW => ⟨⟨v9, σ10, rfl, Option.some.inj hf, by rw [ht]; exact hP, va_K.moved hW.alike hK⟩, hS.F ht⟩) hS.2.2 dX10_pattern_35
  · have hf := fd_itp c6 hf
    have e13 := Option.some.inj hf
    subst e13
    obtain ⟨sa, hsa⟩ := hZ.str 116 "no such input" (by decide +kernel)
    exact vx_throwS (own := RX10) (cls := "java/lang/IndexOutOfBoundsException") (names := ["java/lang/RuntimeException", "java/lang/Exception"]) hx hb hl9 hown fd_ex_114_118_f fd_ex_n (hts (.classLink RX10 114 "java/lang/IndexOutOfBoundsException") (List.mem_of_getElem? (i := 1) (by eq_refl))) (hts (.initialized "java/lang/IndexOutOfBoundsException") (List.mem_of_getElem? (i := 2) (by eq_refl))) hsa (vx_hat (L := vx_atS RX10 118 "java/lang/IndexOutOfBoundsException" ["java/lang/RuntimeException", "java/lang/Exception"]) (B := fd_bad "java/lang/IndexOutOfBoundsException") (fun w hw => hts w ((fun w h => List.mem_cons_of_mem _ (List.mem_append_right _ h) : ∀ w ∈ (vx_atS RX10 118 "java/lang/IndexOutOfBoundsException" ["java/lang/RuntimeException", "java/lang/Exception"]).filter goodWord, w ∈ wsX10_pattern) w hw)) fd_ex_114_118_b (hZ.bad "java/lang/IndexOutOfBoundsException" fd_ex_114_118_e)) fd_ex_114_118_g hZ.un hZ.su hS (hl.1.trans hml.symm) dX10_pattern_11 dX10_pattern_14 dX10_pattern_15 dX10_pattern_17 dX10_pattern_20 (fun x hx => (hex x hx).elim) (Nat.le_of_ble_eq_true rfl) (Nat.le_of_ble_eq_true rfl) (Nat.le_of_ble_eq_true rfl) (Nat.le_of_ble_eq_true rfl) hlocks (fun t ha hsz hk => ⟨σ3, trivial, ⟨rfl, hP.kept (fun k q hq => hk q.1 (hP k q hq).lt), va_K.moved ha hK⟩, Nat.le_trans hS.1 hsz, fun q h1 h2 => (hk q (Nat.lt_of_lt_of_le h1 hS.1)).trans (hS.2.1 q h1 h2)⟩) hS.2.2 (Nat.le_of_ble_eq_true rfl) (Nat.le_of_ble_eq_true rfl)
noncomputable def f_L_pattern_0_39 (N : Nat) (p1 : Int32) (p2 : Int64) (σ : fd_St) : Option (Int32 × fd_St) := fd_bx (f_X10_pattern_0 N p1 p2 σ) (fun v2 τ => fd_lt (fd_mix τ σ) (fun σ6 => fd_gd (vp_in (0 : Int32) 1) (fd_lt (fd_sL 39 (0 : Int32) v2 σ6) (fun σ9 => some ((0 : Int32), σ9))))) (fun E τ => if E = "java/lang/IndexOutOfBoundsException" then (fd_lt (fd_mix τ σ) (fun σ11 => some ((1 : Int32), σ11))) else (none))
set_option maxHeartbeats 4000000 in
set_option maxRecDepth 100000 in
theorem m_L_pattern_0_39 (l : Launch) (hl9 : l.stackTraces = false) (D : va_G) (a : Nat → Nat) (k : Nat → ClassId) (sz : Nat) (hI : fd_I 40 a) (N : Nat) (p1 : Int32) (p2 : Int64) (σ : fd_St) (r : Int32 × fd_St) (hf : f_L_pattern_0_39 N p1 p2 σ = some r) : Met l yL_pattern wsL_pattern ({ frames := 7, cells := 1, slots := 6, locals := 113 }) (va_Pc [.ref (a 0), .int p1, .long p2, .ref (a 39)] (fd_PH D a k sz σ)) (va_Qi (fun v u => (v, u) = r) (fd_BH D a k) (fd_A 40 a sz)) 1 6 (fd_A 40 a sz) := by
  refine fd_ofWT (cc := cL_pattern) (maxL := 6) (ret := (some .int)) (by decide) rfl ?_
  intro p e s m args below meth c s₁ B hml hTab hv
  obtain ⟨rfl, hsz, hP, hK, hZ⟩ := hv
  have hx := B.exec
  have hb := B.bytes
  have hr := B.returns
  have hts := atoms_spec (ws := wsL_pattern) B.pre
  have hown : s.vm.findClass RL = some m.cls := findClass_of_methodNamed B.named
  have hlocks := B.notSynchronized
  subst hsz
  have hJ : ∀ i, i < 40 → fd_A 40 a s.heap.size (a i) := fun i hi => Or.inl ⟨i, hi, rfl⟩
  have hS : va_S (fd_A 40 a s.heap.size) s.heap s.heap [] := va_S.rf
  have hl := lv_entry ([.ref (a 0), .int p1, .long p2, .ref (a 39)]) (n := 6) (Nat.le_of_ble_eq_true rfl)
  rw [lg_entry_eq]
  generalize (lg_sl ([.ref (a 0), .int p1, .long p2, .ref (a 39)]) ++ List.replicate (6 - (lg_sl ([.ref (a 0), .int p1, .long p2, .ref (a 39)])).length) Slot.unset).toArray = ls at hl ⊢
  have hl : lv_has ls 6 [(0, .ref (a 0)), (1, .int p1), (2, .long p2), (4, .ref (a 39))] := hl
  unfold f_L_pattern_0_39 at hf
  refine lv_aload hx hb dL_pattern_0 (lv_at hl 3 rfl) ?_
  refine lv_iconst (v := (0 : Int32)) hx hb dL_pattern_2 (by decide) ?_
  refine lv_aload_n hx hb dL_pattern_3 rfl (lv_at hl 0 rfl) ?_
  refine lv_iload_n hx hb dL_pattern_4 rfl (lv_at hl 1 rfl) ?_
  refine lv_lload_n hx hb dL_pattern_5 rfl (lv_at hl 2 rfl) ?_
  rcases fd_bxs hf with ⟨w3, τ4, hc1, hf⟩ | ⟨E5, τ4, hc1, hf⟩
  · refine vx_calll (vx_runV (As := [.int p1, .long p2]) (rest := [.int (0 : Int32), .ref (a 39)]) ⟨hx, hb, hml, hown, hts⟩ (m_X10_pattern_0 l hl9 D a k s.heap.size (fd_I40 hI) N p1 p2 σ _ hc1) (cwV 2 hts gL_pattern_X10_pattern rfl rfl rfl (by decide +kernel) ⟨Nat.le_of_ble_eq_true rfl, Nat.le_of_ble_eq_true rfl⟩) ⟨fd_blZ, va_recv (fd_HK hK) (fd_HC hP) (ci := 10) (q0 := 0) rfl fd_WC_0, fd_prHZ hP hK hZ hS⟩ rfl rfl hl.1 rfl (lv_room (Nat.le_of_ble_eq_true rfl)) dL_pattern_6 ⟨(Nat.zero_le _), (Nat.zero_le _)⟩) hS (fun q _ h => fd_A_sub hS.1 h) (fun q h => fd_A_sub hS.1 h) (fun q _ h => fd_A_sub hS.1 h) (fun E ce q9 u t H1 locs1 ht hvm hp hB => ?_) (fun v2 u t H1 locs ht hvm hw hB hz hk hS => ?_)
    · exact absurd hB.1 (by simp)
    obtain ⟨hP1, hK1⟩ := hB
    rw [ht] at hP1
    obtain ⟨e1, e2⟩ := Prod.mk.inj hw
    obtain e1 := Sum.inl.inj e1
    subst e1
    subst e2
    obtain ⟨σ6, eσ6, hf⟩ := fd_lts hf
    have hP : va_P D vwCl (fd_WH a k σ6) H1 := by rw [eσ6]; exact fd_HJ hI hP hP1 hk
    generalize H1 = H at hP hS ⊢
    refine W.cs (cells' := 0) (slots' := 0) rfl rfl ?_
    obtain ⟨g8, hf⟩ := fd_gds hf
    obtain ⟨σ9, eσ9, hf⟩ := fd_lts hf
    refine va_last hx hb hK hP (fd_DH hI hJ) hS 39 27 fd_WH_39 fd_tyH_39 g8 dL_pattern_9 (fun H locs hP _ hS => ?_)
    have hP : va_P D vwCl (fd_WH a k σ9) H := by rw [eσ9]; exact fd_sP fd_WHa_39 hP
    refine lv_goto (tgt := 17) hx hb dL_pattern_10 (by decide) ?_
    refine lv_iconst (v := (0 : Int32)) hx hb dL_pattern_17 (by decide) ?_
    refine W.widen (k := 1) (n := 6) (Nat.le_of_ble_eq_true rfl) (Nat.le_of_ble_eq_true rfl) ?_
    exact W.iret (v := (0 : Int32)) hx hb hr (fun t ht hW => ⟨⟨(0 : Int32), σ9, rfl, Option.some.inj hf, by rw [ht]; exact hP, va_K.moved hW.alike hK⟩, hS.F ht⟩) hS.2.2 dL_pattern_18
  · have hE := hf
    by_cases c10 : E5 = "java/lang/IndexOutOfBoundsException"
    · subst c10
      have hf := fd_itp rfl hf
      refine vx_calll (vx_runV (As := [.int p1, .long p2]) (rest := [.int (0 : Int32), .ref (a 39)]) ⟨hx, hb, hml, hown, hts⟩ (m_X10_pattern_0 l hl9 D a k s.heap.size (fd_I40 hI) N p1 p2 σ _ hc1) (cwV 2 hts gL_pattern_X10_pattern rfl rfl rfl (by decide +kernel) ⟨Nat.le_of_ble_eq_true rfl, Nat.le_of_ble_eq_true rfl⟩) ⟨fd_blZ, va_recv (fd_HK hK) (fd_HC hP) (ci := 10) (q0 := 0) rfl fd_WC_0, fd_prHZ hP hK hZ hS⟩ rfl rfl hl.1 rfl (lv_room (Nat.le_of_ble_eq_true rfl)) dL_pattern_6 ⟨Nat.le_of_ble_eq_true rfl, Nat.le_of_ble_eq_true rfl⟩) hS (fun q _ h => fd_A_sub hS.1 h) (fun q h => fd_A_sub hS.1 h) (fun q _ h => fd_A_sub hS.1 h) (fun E ce q9 u t H1 locs1 ht hvm hp hB hz hk hS hce hcv hcl => ?_) (fun v2 u t H1 locs ht hvm hw hB hz hk hS => ?_)
      · obtain ⟨hB0, hP1, hK1⟩ := hB
        rw [ht] at hP1
        obtain ⟨e1, e2⟩ := Prod.mk.inj hB0
        obtain e1 := Sum.inr.inj e1
        subst e1
        subst e2
        obtain ⟨σ11, eσ11, hf⟩ := fd_lts hf
        have hP : va_P D vwCl (fd_WH a k σ11) H1 := by rw [eσ11]; exact fd_HJ hI hP hP1 hk
        refine fd_catch (own := RL) (name := "java/lang/IndexOutOfBoundsException") (E := "java/lang/IndexOutOfBoundsException") hown [] ⟨0, 10, 13, 19⟩ [] (by rw [hTab]; rfl) (fun z hz => nomatch hz) (by decide) (by decide) (hts (.classLink RL 19 "java/lang/IndexOutOfBoundsException") (List.mem_of_getElem? (i := 1) (by eq_refl))) (hZ.cast "java/lang/IndexOutOfBoundsException" (by decide +kernel)) hce hcv hcl ?_
        refine W.cs (cells' := 1) (slots' := 6) rfl rfl ?_
        refine lv_astore (lv' := [(5, .ref q9), (0, .ref (a 0)), (1, .int p1), (2, .long p2), (4, .ref (a 39))]) hx hb dL_pattern_13 hl (by decide) rfl (fun ls hl => ?_)
        refine lv_iconst (v := (1 : Int32)) hx hb dL_pattern_15 (by decide) ?_
        refine W.widen (k := 1) (n := 6) (Nat.le_of_ble_eq_true rfl) (Nat.le_of_ble_eq_true rfl) ?_
        exact W.iret (v := (1 : Int32)) hx hb hr (fun t ht hW => ⟨⟨(1 : Int32), σ11, rfl, Option.some.inj hf, by rw [ht]; exact hP, va_K.moved hW.alike hK⟩, hS.F ht⟩) hS.2.2 dL_pattern_16
      · exact absurd hw (by simp)
    have hf := fd_itn c10 hf
    cases hf
noncomputable def f_X11_pattern_0_J27 (N : Nat) (y1 : Int32) (y2 : Int64) (z1 : Int32) (σ : fd_St) : Option (Int64 × fd_St) := fd_lt (fd_sI 0 z1 σ) (fun σ7 => if (σ7.1 0) ≤ 0 then (fd_gd (vp_in y1 200) (fd_lt (σ7.2.2 4 y1.toNatClampNeg) (fun x10 => fd_gd (vp_in y1 200) (fd_lt (fd_sL 4 y1 y2 σ7) (fun σ12 => fd_bd (f_X11_changed_0 N σ12) (fun _ σ15 => some (x10, σ15))))))) else (some ((0 : Int64), σ7)))
noncomputable def f_X11_pattern_0_J26 (N : Nat) (y1 : Int32) (y2 : Int64) (σ : fd_St) : Option (Int64 × fd_St) := f_X11_pattern_0_J27 N y1 y2 (1 : Int32) σ
noncomputable def f_X11_pattern_0 (N : Nat) (p1 : Int32) (p2 : Int64) (σ : fd_St) : Option (Int64 × fd_St) := fd_bd (f_X11_isIn N p1 (σ.1 1) σ) (fun v2 σ3 => if v2 = 0 then (f_X11_pattern_0_J26 N p1 p2 σ3) else (fd_gd (vp_in p1 200) (if (σ3.2.1 1 p1.toNatClampNeg) = (-1 : Int32) then (f_X11_pattern_0_J27 N p1 p2 (0 : Int32) σ3) else (f_X11_pattern_0_J26 N p1 p2 σ3))))
set_option maxHeartbeats 4000000 in
set_option maxRecDepth 100000 in
theorem m_X11_pattern_0 (l : Launch) (D : va_G) (a : Nat → Nat) (k : Nat → ClassId) (sz : Nat) (hI : fd_I 29 a) (N : Nat) (p1 : Int32) (p2 : Int64) (σ : fd_St) (r : Int64 × fd_St) (hf : f_X11_pattern_0 N p1 p2 σ = some r) : Met l yX11_pattern wsX11_pattern ({ frames := 1, cells := 0, slots := 0, locals := 21 }) (va_Pc [.ref (a 0), .int p1, .long p2] (fd_PM D a k sz σ)) (va_Ql (fun v u => (v, u) = r) (fd_BM D a k) (fd_A 29 a sz)) 0 0 (fd_A 29 a sz) := by
  refine Met.ofW (cc := cX11_pattern) (maxL := 6) (ret := (some .long)) (by decide) rfl ?_
  intro p e s m args below meth c s₁ B hml hv
  obtain ⟨rfl, hsz, hP, hK⟩ := hv
  have hx := B.exec
  have hb := B.bytes
  have hr := B.returns
  have hts := atoms_spec (ws := wsX11_pattern) B.pre
  have hown : s.vm.findClass RX11 = some m.cls := findClass_of_methodNamed B.named
  have hlocks := B.notSynchronized
  subst hsz
  have hJ : ∀ i, i < 29 → fd_A 29 a s.heap.size (a i) := fun i hi => Or.inl ⟨i, hi, rfl⟩
  have hS : va_S (fd_A 29 a s.heap.size) s.heap s.heap [] := va_S.rf
  have hl := lv_entry ([.ref (a 0), .int p1, .long p2]) (n := 6) (Nat.le_of_ble_eq_true rfl)
  rw [lg_entry_eq]
  generalize (lg_sl ([.ref (a 0), .int p1, .long p2]) ++ List.replicate (6 - (lg_sl ([.ref (a 0), .int p1, .long p2])).length) Slot.unset).toArray = ls at hl ⊢
  have hl : lv_has ls 6 [(0, .ref (a 0)), (1, .int p1), (2, .long p2)] := hl
  have h9X11 : ∀ w ∈ u_ws RX11 TX11 43, w ∈ wsX11_pattern := fd_su [15, 16, 17, 18, 19, 20, 21, 22, 23, 24, 25, 26, 27, 28, 29, 30, 31, 32, 33, 34, 35, 36, 37, 38, 39, 40, 41, 42, 43, 44, 45, 46, 47, 48, 49, 50, 51, 52, 53, 54, 55, 56, 57] (by eq_refl)
  have hL27 : ∀ (y1 : Int32) (y2 : Int64) (z1 : Int32) (σ : fd_St) (H : Heap) (locs : List Loc) (ls : Array Slot), va_P D vwCl (fd_WM a k σ) H → va_S (fd_A 29 a s.heap.size) s.heap H locs → lv_has ls 6 [(0, .ref (a 0)), (1, .int y1), (2, .long y2)] → f_X11_pattern_0_J27 N y1 y2 z1 σ = some r → W p l e ((headSpec wsX11_pattern ({ frames := 1, cells := 0, slots := 0, locals := 21 })).room) s m ([.ref (a 0), .int p1, .long p2].toArray) below meth c H locs 0 0 (MQ below (va_Ql (fun v u => (v, u) = r) (fd_BM D a k) (fd_A 29 a s.heap.size)) ([.ref (a 0), .int p1, .long p2].toArray) s 0 0 (fd_A 29 a s.heap.size)) (F0 m 27 ls [.int z1, .ref (a 0)]) := by
    intro y1 y2 z1 σ H locs ls hP hS hl hf
    unfold f_X11_pattern_0_J27 at hf
    obtain ⟨σ7, eσ7, hf⟩ := fd_lts hf
    refine va_put (ci := 11) (v := .int z1) (ty := .int) (C := RX11) (T := TX11) (N := 43) hx hb hts h9X11 tyX11 tyX11_ok nmX11 hown hK hP (fd_DM hI hJ) hS 0 fd_WM_0 rfl 0 (by decide) (hts (.fieldLink RX11 99 "FailDiagnoseModel" "thrown" "I") (List.mem_of_getElem? (i := 3) (by eq_refl))) (fun _ h9 => h9) rfl (by decide +kernel) rfl rfl (Nat.le_of_ble_eq_true rfl) dX11_pattern_27 (fun H locs hP _ hS => ?_)
    have hP : va_P D vwCl (fd_WM a k σ7) H := by rw [eσ7]; exact fd_sP fd_WMi_0 hP
    refine lv_aload_n hx hb dX11_pattern_30 rfl (lv_at hl 0 rfl) ?_
    refine va_get (ci := 11) (v := .int (σ7.1 0)) (C := RX11) (T := TX11) (N := 43) hx hb hts h9X11 hown hK hP 0 fd_WM_0 rfl 0 (by decide) (hts (.fieldLink RX11 99 "FailDiagnoseModel" "thrown" "I") (List.mem_of_getElem? (i := 3) (by eq_refl))) (fun _ h9 => h9) rfl dX11_pattern_31 ?_
    refine lv_if_le (tgt := 39) hx hb dX11_pattern_34 (by decide) (fun c8 => ?_) (fun c8 => ?_)
    · have hf := fd_itp c8 hf
      refine lv_aload_n hx hb dX11_pattern_39 rfl (lv_at hl 0 rfl) ?_
      refine va_get (ci := 11) (v := .ref (a 4)) (C := RX11) (T := TX11) (N := 43) hx hb hts h9X11 hown hK hP 0 fd_WM_0 rfl 5 (by decide) (hts (.fieldLink RX11 19 "FailDiagnoseModel" "puts" "[J") (List.mem_of_getElem? (i := 4) (by eq_refl))) (fun _ h9 => h9) rfl dX11_pattern_40 ?_
      refine lv_iload_n hx hb dX11_pattern_43 rfl (lv_at hl 1 rfl) ?_
      obtain ⟨g9, hf⟩ := fd_gds hf
      refine va_lald hx hb hK hP 4 3 fd_WM_4 fd_tyM_4 g9 dX11_pattern_44 ?_
      obtain ⟨x10, ex10, hf⟩ := fd_lts hf
      refine fd_nl ex10 ?_
      refine lv_lstore (lv' := [(4, .long x10), (0, .ref (a 0)), (1, .int y1), (2, .long y2)]) hx hb dX11_pattern_45 hl (by decide) rfl (fun ls hl => ?_)
      refine lv_aload_n hx hb dX11_pattern_47 rfl (lv_at hl 1 rfl) ?_
      refine va_get (ci := 11) (v := .ref (a 4)) (C := RX11) (T := TX11) (N := 43) hx hb hts h9X11 hown hK hP 0 fd_WM_0 rfl 5 (by decide) (hts (.fieldLink RX11 19 "FailDiagnoseModel" "puts" "[J") (List.mem_of_getElem? (i := 4) (by eq_refl))) (fun _ h9 => h9) rfl dX11_pattern_48 ?_
      refine lv_iload_n hx hb dX11_pattern_51 rfl (lv_at hl 2 rfl) ?_
      refine lv_lload_n hx hb dX11_pattern_52 rfl (lv_at hl 3 rfl) ?_
      obtain ⟨g11, hf⟩ := fd_gds hf
      obtain ⟨σ12, eσ12, hf⟩ := fd_lts hf
      refine va_last hx hb hK hP (fd_DM hI hJ) hS 4 3 fd_WM_4 fd_tyM_4 g11 dX11_pattern_53 (fun H locs hP _ hS => ?_)
      have hP : va_P D vwCl (fd_WM a k σ12) H := by rw [eσ12]; exact fd_sP fd_WMa_4 hP
      refine lv_aload_n hx hb dX11_pattern_54 rfl (lv_at hl 1 rfl) ?_
      obtain ⟨w16, τ17, hc13, hf⟩ := fd_bds hf
      refine va_callv (va_runV (As := []) (rest := []) ⟨hx, hb, hml, hown, hts⟩ (m_X11_changed_0 l D a k H.size hI N σ12 _ hc13) (cwV 0 hts gX11_pattern_X11_changed rfl rfl rfl (by decide +kernel) ⟨Nat.le_of_ble_eq_true rfl, Nat.le_of_ble_eq_true rfl⟩) ⟨fd_blM, va_recv hK hP (ci := 11) (q0 := 0) rfl fd_WM_0, fd_prM hP hK⟩ rfl rfl hl.1 rfl (lv_room (Nat.le_of_ble_eq_true rfl)) dX11_pattern_55 ⟨Nat.zero_le _, Nat.zero_le _⟩) hS (fun q _ h => fd_A_mono hS.1 h) (fun q h => fd_A_mono hS.1 h) (fun u t H1 locs ht hvm hw hB hz hk hS => ?_)
      obtain ⟨hP1, hK1⟩ := hB
      rw [ht] at hP1
      have e2 := (Prod.mk.inj hw).2
      subst e2
      obtain ⟨σ15, rfl⟩ : ∃ z, z = u := ⟨_, rfl⟩
      have hP := hP1
      generalize H1 = H at hP hS ⊢
      refine lv_lload hx hb dX11_pattern_58 (lv_at hl 0 rfl) ?_
      exact W.lret (v := x10) hx hb hr (fun t ht hW => ⟨⟨x10, σ15, rfl, Option.some.inj hf, by rw [ht]; exact hP, va_K.moved hW.alike hK⟩, hS.F ht⟩) hS.2.2 dX11_pattern_60
    · have hf := fd_itn c8 hf
      refine lv_lconst (v := (0 : Int64)) hx hb dX11_pattern_37 (by decide) ?_
      exact W.lret (v := (0 : Int64)) hx hb hr (fun t ht hW => ⟨⟨(0 : Int64), σ7, rfl, Option.some.inj hf, by rw [ht]; exact hP, va_K.moved hW.alike hK⟩, hS.F ht⟩) hS.2.2 dX11_pattern_38
  have hL26 : ∀ (y1 : Int32) (y2 : Int64) (σ : fd_St) (H : Heap) (locs : List Loc) (ls : Array Slot), va_P D vwCl (fd_WM a k σ) H → va_S (fd_A 29 a s.heap.size) s.heap H locs → lv_has ls 6 [(0, .ref (a 0)), (1, .int y1), (2, .long y2)] → f_X11_pattern_0_J26 N y1 y2 σ = some r → W p l e ((headSpec wsX11_pattern ({ frames := 1, cells := 0, slots := 0, locals := 21 })).room) s m ([.ref (a 0), .int p1, .long p2].toArray) below meth c H locs 0 0 (MQ below (va_Ql (fun v u => (v, u) = r) (fd_BM D a k) (fd_A 29 a s.heap.size)) ([.ref (a 0), .int p1, .long p2].toArray) s 0 0 (fd_A 29 a s.heap.size)) (F0 m 26 ls [.ref (a 0)]) := by
    intro y1 y2 σ H locs ls hP hS hl hf
    unfold f_X11_pattern_0_J26 at hf
    refine lv_iconst (v := (1 : Int32)) hx hb dX11_pattern_26 (by decide) ?_
    exact hL27 y1 y2 (1 : Int32) σ _ _ _ hP hS (lv_sub hl [0, 1, 2] rfl) hf
  unfold f_X11_pattern_0 at hf
  refine lv_aload_n hx hb dX11_pattern_0 rfl (lv_at hl 0 rfl) ?_
  refine lv_iload_n hx hb dX11_pattern_1 rfl (lv_at hl 1 rfl) ?_
  refine lv_aload_n hx hb dX11_pattern_2 rfl (lv_at hl 0 rfl) ?_
  refine va_get (ci := 11) (v := .int (σ.1 1)) (C := RX11) (T := TX11) (N := 43) hx hb hts h9X11 hown hK hP 0 fd_WM_0 rfl 1 (by decide) (hts (.fieldLink RX11 113 "FailDiagnoseModel" "nets" "I") (List.mem_of_getElem? (i := 1) (by eq_refl))) (fun _ h9 => h9) rfl dX11_pattern_3 ?_
  obtain ⟨w4, τ5, hc1, hf⟩ := fd_bds hf
  refine va_calli (va_runS (As := [.int p1, .int (σ.1 1)]) (rest := [.ref (a 0)]) ⟨hx, hb, hml, hown, hts⟩ (m_X11_isIn l D a k s.heap.size hI N p1 (σ.1 1) σ _ hc1) (va_cwS 2 hts gX11_pattern_X11_isIn rfl rfl rfl (by decide +kernel) ⟨Nat.le_of_ble_eq_true rfl, Nat.le_of_ble_eq_true rfl⟩) ⟨fd_blM, fd_prM hP hK⟩ rfl rfl hl.1 rfl (lv_room (Nat.le_of_ble_eq_true rfl)) dX11_pattern_6 ⟨Nat.zero_le _, Nat.zero_le _⟩) hS (fun q _ h => fd_A_mono hS.1 h) (fun q h => fd_A_mono hS.1 h) (fun v2 u t H1 locs ht hvm hw hB hz hk hS => ?_)
  obtain ⟨hP1, hK1⟩ := hB
  rw [ht] at hP1
  obtain ⟨e1, e2⟩ := Prod.mk.inj hw
  subst e1
  subst e2
  obtain ⟨σ3, rfl⟩ : ∃ z, z = u := ⟨_, rfl⟩
  have hP := hP1
  generalize H1 = H at hP hS ⊢
  refine lv_if_eq (tgt := 26) hx hb dX11_pattern_9 (by decide) (fun c6 => ?_) (fun c6 => ?_)
  · have hf := fd_itp c6 hf
    exact hL26 p1 p2 σ3 _ _ _ hP hS (lv_sub hl [0, 1, 2] rfl) hf
  · have hf := fd_itn c6 hf
    refine lv_aload_n hx hb dX11_pattern_12 rfl (lv_at hl 0 rfl) ?_
    refine va_get (ci := 11) (v := .ref (a 1)) (C := RX11) (T := TX11) (N := 43) hx hb hts h9X11 hown hK hP 0 fd_WM_0 rfl 2 (by decide) (hts (.fieldLink RX11 7 "FailDiagnoseModel" "kinds" "[I") (List.mem_of_getElem? (i := 2) (by eq_refl))) (fun _ h9 => h9) rfl dX11_pattern_13 ?_
    refine lv_iload_n hx hb dX11_pattern_16 rfl (lv_at hl 1 rfl) ?_
    obtain ⟨g18, hf⟩ := fd_gds hf
    refine va_iald hx hb hK hP 1 0 fd_WM_1 fd_tyM_1 g18 dX11_pattern_17 ?_
    refine lv_iconst (v := (-1 : Int32)) hx hb dX11_pattern_18 (by decide) ?_
    refine lv_icmp_ne (tgt := 26) hx hb dX11_pattern_19 (by decide) (fun c19 => ?_) (fun c19 => ?_)
    · have hf := fd_itn c19 hf
      exact hL26 p1 p2 σ3 _ _ _ hP hS (lv_sub hl [0, 1, 2] rfl) hf
    · have hf := fd_itp c19 hf
      refine lv_iconst (v := (0 : Int32)) hx hb dX11_pattern_22 (by decide) ?_
      refine lv_goto (tgt := 27) hx hb dX11_pattern_23 (by decide) ?_
      exact hL27 p1 p2 (0 : Int32) σ3 _ _ _ hP hS (lv_sub hl [0, 1, 2] rfl) hf
noncomputable def f_X2_counted_1 (N : Nat) (σ : fd_St) : Option (Int64 × fd_St) := if (σ.1 3) = 0 then (some ((0 : Int64), σ)) else (some (((-1 : Int64).toUInt64 >>> (((64 : Int32) - (σ.1 3)).toInt64.toUInt64 &&& Int64.toUInt64 63)).toInt64, σ))
set_option maxHeartbeats 4000000 in
set_option maxRecDepth 100000 in
theorem m_X2_counted_1 (l : Launch) (D : va_G) (a : Nat → Nat) (k : Nat → ClassId) (sz : Nat) (hI : fd_I 39 a) (N : Nat) (σ : fd_St) (r : Int64 × fd_St) (hf : f_X2_counted_1 N σ = some r) : Met l yX2_counted wsX2_counted ({ frames := 0, cells := 0, slots := 0, locals := 0 }) (va_Pc [.ref (a 1)] (fd_PC D a k sz σ)) (va_Ql (fun v u => (v, u) = r) (fd_BC D a k) (fd_A 39 a sz)) 0 0 (fd_A 39 a sz) := by
  refine Met.ofW (cc := cX2_counted) (maxL := 1) (ret := (some .long)) (by decide) rfl ?_
  intro p e s m args below meth c s₁ B hml hv
  obtain ⟨rfl, hsz, hP, hK⟩ := hv
  have hx := B.exec
  have hb := B.bytes
  have hr := B.returns
  have hts := atoms_spec (ws := wsX2_counted) B.pre
  have hown : s.vm.findClass RX2 = some m.cls := findClass_of_methodNamed B.named
  have hlocks := B.notSynchronized
  subst hsz
  have hJ : ∀ i, i < 39 → fd_A 39 a s.heap.size (a i) := fun i hi => Or.inl ⟨i, hi, rfl⟩
  have hS : va_S (fd_A 39 a s.heap.size) s.heap s.heap [] := va_S.rf
  have hl := lv_entry ([.ref (a 1)]) (n := 1) (Nat.le_of_ble_eq_true rfl)
  rw [lg_entry_eq]
  generalize (lg_sl ([.ref (a 1)]) ++ List.replicate (1 - (lg_sl ([.ref (a 1)])).length) Slot.unset).toArray = ls at hl ⊢
  have hl : lv_has ls 1 [(0, .ref (a 1))] := hl
  have h9X2 : ∀ w ∈ u_ws RX2 TX2 9, w ∈ wsX2_counted := fd_su [3, 4, 5, 6, 7, 8, 9, 10, 11] (by eq_refl)
  unfold f_X2_counted_1 at hf
  refine lv_aload_n hx hb dX2_counted_0 rfl (lv_at hl 0 rfl) ?_
  refine va_get (ci := 2) (v := .int (σ.1 3)) (C := RX2) (T := TX2) (N := 9) hx hb hts h9X2 hown hK hP 1 fd_WC_1 rfl 8 (by decide) (hts (.fieldLink RX2 39 "FailDiagnose$Circuit" "patterns" "I") (List.mem_of_getElem? (i := 1) (by eq_refl))) (fun _ h9 => h9) rfl dX2_counted_1 ?_
  refine lv_if_ne (tgt := 11) hx hb dX2_counted_4 (by decide) (fun c1 => ?_) (fun c1 => ?_)
  · have hf := fd_itn c1 hf
    refine lv_ldc2 hx hb hown (hts (.constantLong RX2 54 (-1)) (List.mem_of_getElem? (i := 2) (by eq_refl))) dX2_counted_11 ?_
    refine lv_bipush (v := (64 : Int32)) hx hb dX2_counted_14 (by decide) ?_
    refine lv_aload_n hx hb dX2_counted_16 rfl (lv_at hl 0 rfl) ?_
    refine va_get (ci := 2) (v := .int (σ.1 3)) (C := RX2) (T := TX2) (N := 9) hx hb hts h9X2 hown hK hP 1 fd_WC_1 rfl 8 (by decide) (hts (.fieldLink RX2 39 "FailDiagnose$Circuit" "patterns" "I") (List.mem_of_getElem? (i := 1) (by eq_refl))) (fun _ h9 => h9) rfl dX2_counted_17 ?_
    refine lv_isub hx hb dX2_counted_20 ?_
    refine lv_lushr hx hb dX2_counted_21 rfl ?_
    exact W.lret (v := (((-1 : Int64).toUInt64 >>> (((64 : Int32) - (σ.1 3)).toInt64.toUInt64 &&& Int64.toUInt64 63)).toInt64)) hx hb hr (fun t ht hW => ⟨⟨((-1 : Int64).toUInt64 >>> (((64 : Int32) - (σ.1 3)).toInt64.toUInt64 &&& Int64.toUInt64 63)).toInt64, σ, rfl, Option.some.inj hf, by rw [ht]; exact hP, va_K.moved hW.alike hK⟩, hS.F ht⟩) hS.2.2 dX2_counted_22
  · have hf := fd_itp c1 hf
    refine lv_lconst (v := (0 : Int64)) hx hb dX2_counted_7 (by decide) ?_
    refine lv_goto (tgt := 22) hx hb dX2_counted_8 (by decide) ?_
    exact W.lret (v := (0 : Int64)) hx hb hr (fun t ht hW => ⟨⟨(0 : Int64), σ, rfl, Option.some.inj hf, by rw [ht]; exact hP, va_K.moved hW.alike hK⟩, hS.F ht⟩) hS.2.2 dX2_counted_22
noncomputable def f_X2_goodRow_1 (N : Nat) (p1 : Int32) (σ : fd_St) : Option (Int64 × fd_St) := fd_gd (vp_in p1 200) (fd_bd (f_X2_counted_1 N σ) (fun v3 σ4 => some ((σ.2.2 15 p1.toNatClampNeg) &&& v3, σ4)))
set_option maxHeartbeats 4000000 in
set_option maxRecDepth 100000 in
theorem m_X2_goodRow_1 (l : Launch) (D : va_G) (a : Nat → Nat) (k : Nat → ClassId) (sz : Nat) (hI : fd_I 39 a) (N : Nat) (p1 : Int32) (σ : fd_St) (r : Int64 × fd_St) (hf : f_X2_goodRow_1 N p1 σ = some r) : Met l yX2_goodRow wsX2_goodRow ({ frames := 1, cells := 0, slots := 0, locals := 20 }) (va_Pc [.ref (a 1), .int p1] (fd_PC D a k sz σ)) (va_Ql (fun v u => (v, u) = r) (fd_BC D a k) (fd_A 39 a sz)) 0 0 (fd_A 39 a sz) := by
  refine Met.ofW (cc := cX2_goodRow) (maxL := 2) (ret := (some .long)) (by decide) rfl ?_
  intro p e s m args below meth c s₁ B hml hv
  obtain ⟨rfl, hsz, hP, hK⟩ := hv
  have hx := B.exec
  have hb := B.bytes
  have hr := B.returns
  have hts := atoms_spec (ws := wsX2_goodRow) B.pre
  have hown : s.vm.findClass RX2 = some m.cls := findClass_of_methodNamed B.named
  have hlocks := B.notSynchronized
  subst hsz
  have hJ : ∀ i, i < 39 → fd_A 39 a s.heap.size (a i) := fun i hi => Or.inl ⟨i, hi, rfl⟩
  have hS : va_S (fd_A 39 a s.heap.size) s.heap s.heap [] := va_S.rf
  have hl := lv_entry ([.ref (a 1), .int p1]) (n := 2) (Nat.le_of_ble_eq_true rfl)
  rw [lg_entry_eq]
  generalize (lg_sl ([.ref (a 1), .int p1]) ++ List.replicate (2 - (lg_sl ([.ref (a 1), .int p1])).length) Slot.unset).toArray = ls at hl ⊢
  have hl : lv_has ls 2 [(0, .ref (a 1)), (1, .int p1)] := hl
  have h9X2 : ∀ w ∈ u_ws RX2 TX2 9, w ∈ wsX2_goodRow := fd_su [9, 10, 11, 12, 13, 14, 15, 16, 17] (by eq_refl)
  unfold f_X2_goodRow_1 at hf
  refine lv_aload_n hx hb dX2_goodRow_0 rfl (lv_at hl 0 rfl) ?_
  refine va_get (ci := 2) (v := .ref (a 15)) (C := RX2) (T := TX2) (N := 9) hx hb hts h9X2 hown hK hP 1 fd_WC_1 rfl 3 (by decide) (hts (.fieldLink RX2 21 "FailDiagnose$Circuit" "goodRows" "[J") (List.mem_of_getElem? (i := 1) (by eq_refl))) (fun _ h9 => h9) rfl dX2_goodRow_1 ?_
  refine lv_iload_n hx hb dX2_goodRow_4 rfl (lv_at hl 1 rfl) ?_
  obtain ⟨g1, hf⟩ := fd_gds hf
  refine va_lald hx hb hK hP 15 3 fd_WC_15 fd_tyC_15 g1 dX2_goodRow_5 ?_
  refine lv_aload_n hx hb dX2_goodRow_6 rfl (lv_at hl 0 rfl) ?_
  obtain ⟨w5, τ6, hc2, hf⟩ := fd_bds hf
  refine va_calll (va_runV (As := []) (rest := [.long (σ.2.2 15 p1.toNatClampNeg)]) ⟨hx, hb, hml, hown, hts⟩ (m_X2_counted_1 l D a k s.heap.size hI N σ _ hc2) (cwV 0 hts gX2_goodRow_X2_counted rfl rfl rfl (by decide +kernel) ⟨Nat.le_of_ble_eq_true rfl, Nat.le_of_ble_eq_true rfl⟩) ⟨fd_blC, va_recv hK hP (ci := 2) (q0 := 1) rfl fd_WC_1, fd_prC hP hK⟩ rfl rfl hl.1 rfl (lv_room (Nat.le_of_ble_eq_true rfl)) dX2_goodRow_7 ⟨Nat.zero_le _, Nat.zero_le _⟩) hS (fun q _ h => fd_A_mono hS.1 h) (fun q h => fd_A_mono hS.1 h) (fun v3 u t H1 locs ht hvm hw hB hz hk hS => ?_)
  obtain ⟨hP1, hK1⟩ := hB
  rw [ht] at hP1
  obtain ⟨e1, e2⟩ := Prod.mk.inj hw
  subst e1
  subst e2
  obtain ⟨σ4, rfl⟩ : ∃ z, z = u := ⟨_, rfl⟩
  have hP := hP1
  generalize H1 = H at hP hS ⊢
  refine lv_land hx hb dX2_goodRow_10 ?_
  exact W.lret (v := ((σ.2.2 15 p1.toNatClampNeg) &&& v3)) hx hb hr (fun t ht hW => ⟨⟨(σ.2.2 15 p1.toNatClampNeg) &&& v3, σ4, rfl, Option.some.inj hf, by rw [ht]; exact hP, va_K.moved hW.alike hK⟩, hS.F ht⟩) hS.2.2 dX2_goodRow_11
noncomputable def f_X10_row_0 (N : Nat) (p1 : Int32) (σ : fd_St) : Option ((Int64 ⊕ String) × fd_St) := fd_bx (f_X10_needNet_0 N p1 σ) (fun _ σ3 => fd_bd (f_X2_goodRow_1 N p1 σ3) (fun v8 σ9 => some (.inl v8, σ9))) (fun E τ => some (.inr E, τ))
set_option maxHeartbeats 4000000 in
set_option maxRecDepth 100000 in
theorem m_X10_row_0 (l : Launch) (hl9 : l.stackTraces = false) (D : va_G) (a : Nat → Nat) (k : Nat → ClassId) (sz : Nat) (hI : fd_I 39 a) (N : Nat) (p1 : Int32) (σ : fd_St) (r : (Int64 ⊕ String) × fd_St) (hf : f_X10_row_0 N p1 σ = some r) : vx_Met l yX10_row wsX10_row ({ frames := 7, cells := fd_mc r, slots := fd_ms r, locals := 111 }) (va_Pc [.ref (a 0), .int p1] (fd_PZ D a k sz σ)) (va_Ql (fun v u => (Sum.inl v, u) = r) (fd_BC D a k) (fd_A 39 a sz)) (fd_X D a k (fd_A 39 a sz) r) (fd_mc r) (fd_ms r) (fd_A 39 a sz) := by
  refine vx_ofW (cc := cX10_row) (maxL := 2) (ret := (some .long)) (by decide) rfl ?_
  intro p e s m args below meth c s₁ B hml hex hv
  obtain ⟨rfl, ⟨hsz, hP, hK⟩, hZ⟩ := hv
  have hx := B.exec
  have hb := B.bytes
  have hr := B.returns
  have hts := atoms_spec (ws := wsX10_row) B.pre
  have hown : s.vm.findClass RX10 = some m.cls := findClass_of_methodNamed B.named
  have hlocks := B.notSynchronized
  subst hsz
  have hJ : ∀ i, i < 39 → fd_A 39 a s.heap.size (a i) := fun i hi => Or.inl ⟨i, hi, rfl⟩
  have hS : va_S (fd_A 39 a s.heap.size) s.heap s.heap [] := va_S.rf
  have hl := lv_entry ([.ref (a 0), .int p1]) (n := 2) (Nat.le_of_ble_eq_true rfl)
  rw [lg_entry_eq]
  generalize (lg_sl ([.ref (a 0), .int p1]) ++ List.replicate (2 - (lg_sl ([.ref (a 0), .int p1])).length) Slot.unset).toArray = ls at hl ⊢
  have hl : lv_has ls 2 [(0, .ref (a 0)), (1, .int p1)] := hl
  have h9X10 : ∀ w ∈ u_ws RX10 TX10 8, w ∈ wsX10_row := fd_su [26, 27, 28, 29, 30, 31, 32, 33] (by eq_refl)
  unfold f_X10_row_0 at hf
  refine lv_aload_n hx hb dX10_row_0 rfl (lv_at hl 0 rfl) ?_
  refine lv_iload_n hx hb dX10_row_1 rfl (lv_at hl 1 rfl) ?_
  rcases fd_bxs hf with ⟨w4, τ5, hc1, hf⟩ | ⟨E6, τ5, hc1, hf⟩
  · refine vx_callv (vx_runV (As := [.int p1]) (rest := []) ⟨hx, hb, hml, hown, hts⟩ (m_X10_needNet_0 l hl9 D a k s.heap.size hI N p1 σ _ hc1) (cwV 1 hts gX10_row_X10_needNet rfl rfl rfl (by decide +kernel) ⟨Nat.le_of_ble_eq_true rfl, Nat.le_of_ble_eq_true rfl⟩) ⟨fd_blZ, va_recv hK hP (ci := 10) (q0 := 0) rfl fd_WC_0, fd_prZ hP hK hZ hS⟩ rfl rfl hl.1 rfl (lv_room (Nat.le_of_ble_eq_true rfl)) dX10_row_2 ⟨Nat.zero_le _, Nat.zero_le _⟩) hS (fun q _ h => fd_A_mono hS.1 h) (fun q h => fd_A_mono hS.1 h) (fun q _ h => fd_A_mono hS.1 h) (fun E ce q9 u t H1 locs1 ht hvm hp hB => ?_) (fun u t H1 locs ht hvm hw hB hz hk hS => ?_)
    · exact absurd hB.1 (by simp)
    obtain ⟨hP1, hK1⟩ := hB
    rw [ht] at hP1
    have e2 := (Prod.mk.inj hw).2
    subst e2
    obtain ⟨σ3, rfl⟩ : ∃ z, z = u := ⟨_, rfl⟩
    have hP := hP1
    generalize H1 = H at hP hS ⊢
    refine W.cs (cells' := 0) (slots' := 0) rfl rfl ?_
    refine lv_aload_n hx hb dX10_row_5 rfl (lv_at hl 0 rfl) ?_
    refine va_get (ci := 10) (v := .ref (a 1)) (C := RX10) (T := TX10) (N := 8) hx hb hts h9X10 hown hK hP 0 fd_WC_0 rfl 0 (by decide) (hts (.fieldLink RX10 12 "FailDiagnose" "circuit" "LFailDiagnose$Circuit;") (List.mem_of_getElem? (i := 1) (by eq_refl))) (fun _ h9 => h9) rfl dX10_row_6 ?_
    refine lv_iload_n hx hb dX10_row_9 rfl (lv_at hl 1 rfl) ?_
    obtain ⟨w10, τ11, hc7, hf⟩ := fd_bds hf
    refine va_calll (va_runV (As := [.int p1]) (rest := []) ⟨hx, hb, hml, hown, hts⟩ (m_X2_goodRow_1 l D a k H.size hI N p1 σ3 _ hc7) (cwV 1 hts gX10_row_X2_goodRow rfl rfl rfl (by decide +kernel) ⟨Nat.le_of_ble_eq_true rfl, Nat.le_of_ble_eq_true rfl⟩) ⟨fd_blC, va_recv hK hP (ci := 2) (q0 := 1) rfl fd_WC_1, fd_prC hP hK⟩ rfl rfl hl.1 rfl (lv_room (Nat.le_of_ble_eq_true rfl)) dX10_row_10 ⟨Nat.zero_le _, Nat.zero_le _⟩) hS (fun q _ h => fd_A_mono hS.1 h) (fun q h => fd_A_mono hS.1 h) (fun v8 u t H1 locs ht hvm hw hB hz hk hS => ?_)
    obtain ⟨hP1, hK1⟩ := hB
    rw [ht] at hP1
    obtain ⟨e1, e2⟩ := Prod.mk.inj hw
    subst e1
    subst e2
    obtain ⟨σ9, rfl⟩ : ∃ z, z = u := ⟨_, rfl⟩
    have hP := hP1
    generalize H1 = H at hP hS ⊢
    refine vx_ret (W.widen (k := fd_mc r) (n := fd_ms r) (Nat.zero_le _) (Nat.zero_le _) ?_)
    exact W.lret (v := v8) hx hb hr (fun t ht hW => ⟨⟨v8, σ9, rfl, Option.some.inj hf, by rw [ht]; exact hP, va_K.moved hW.alike hK⟩, hS.F ht⟩) hS.2.2 dX10_row_13
  · have er := Option.some.inj hf
    subst er
    refine vx_callv (vx_runV (As := [.int p1]) (rest := []) ⟨hx, hb, hml, hown, hts⟩ (m_X10_needNet_0 l hl9 D a k s.heap.size hI N p1 σ _ hc1) (cwV 1 hts gX10_row_X10_needNet rfl rfl rfl (by decide +kernel) ⟨Nat.le_of_ble_eq_true rfl, Nat.le_of_ble_eq_true rfl⟩) ⟨fd_blZ, va_recv hK hP (ci := 10) (q0 := 0) rfl fd_WC_0, fd_prZ hP hK hZ hS⟩ rfl rfl hl.1 rfl (lv_room (Nat.le_of_ble_eq_true rfl)) dX10_row_2 ⟨Nat.le_of_ble_eq_true rfl, Nat.le_of_ble_eq_true rfl⟩) hS (fun q _ h => fd_A_mono hS.1 h) (fun q h => fd_A_mono hS.1 h) (fun q _ h => fd_A_mono hS.1 h) (fun E ce q9 u t H1 locs1 ht hvm hp hB hz hk hS hce hcv hcl => ?_) (fun u t H1 locs ht hvm hw hB hz hk hS => ?_)
    · obtain ⟨hB0, hP1, hK1⟩ := hB
      rw [ht] at hP1
      exact vx_out (E := E) (fun x hx => (hex x hx).elim) hlocks hce hcv hcl (fun t ht ha => ⟨u, trivial, ⟨fd_inr hB0, by rw [ht]; exact hP1, va_K.moved ha hK⟩, hS.F ht⟩) hS.2.2 (Nat.le_of_ble_eq_true rfl) (Nat.le_of_ble_eq_true rfl)
    · exact absurd hw (by simp)
noncomputable def f_L_row_0_39 (N : Nat) (p1 : Int32) (σ : fd_St) : Option (Int32 × fd_St) := fd_bx (f_X10_row_0 N p1 σ) (fun v2 τ => fd_lt (fd_mix τ σ) (fun σ6 => fd_gd (vp_in (0 : Int32) 1) (fd_lt (fd_sL 39 (0 : Int32) v2 σ6) (fun σ9 => some ((0 : Int32), σ9))))) (fun E τ => if E = "java/lang/IndexOutOfBoundsException" then (fd_lt (fd_mix τ σ) (fun σ11 => some ((1 : Int32), σ11))) else (none))
set_option maxHeartbeats 4000000 in
set_option maxRecDepth 100000 in
theorem m_L_row_0_39 (l : Launch) (hl9 : l.stackTraces = false) (D : va_G) (a : Nat → Nat) (k : Nat → ClassId) (sz : Nat) (hI : fd_I 40 a) (N : Nat) (p1 : Int32) (σ : fd_St) (r : Int32 × fd_St) (hf : f_L_row_0_39 N p1 σ = some r) : Met l yL_row wsL_row ({ frames := 8, cells := 1, slots := 6, locals := 132 }) (va_Pc [.ref (a 0), .int p1, .ref (a 39)] (fd_PH D a k sz σ)) (va_Qi (fun v u => (v, u) = r) (fd_BH D a k) (fd_A 40 a sz)) 1 6 (fd_A 40 a sz) := by
  refine fd_ofWT (cc := cL_row) (maxL := 4) (ret := (some .int)) (by decide) rfl ?_
  intro p e s m args below meth c s₁ B hml hTab hv
  obtain ⟨rfl, hsz, hP, hK, hZ⟩ := hv
  have hx := B.exec
  have hb := B.bytes
  have hr := B.returns
  have hts := atoms_spec (ws := wsL_row) B.pre
  have hown : s.vm.findClass RL = some m.cls := findClass_of_methodNamed B.named
  have hlocks := B.notSynchronized
  subst hsz
  have hJ : ∀ i, i < 40 → fd_A 40 a s.heap.size (a i) := fun i hi => Or.inl ⟨i, hi, rfl⟩
  have hS : va_S (fd_A 40 a s.heap.size) s.heap s.heap [] := va_S.rf
  have hl := lv_entry ([.ref (a 0), .int p1, .ref (a 39)]) (n := 4) (Nat.le_of_ble_eq_true rfl)
  rw [lg_entry_eq]
  generalize (lg_sl ([.ref (a 0), .int p1, .ref (a 39)]) ++ List.replicate (4 - (lg_sl ([.ref (a 0), .int p1, .ref (a 39)])).length) Slot.unset).toArray = ls at hl ⊢
  have hl : lv_has ls 4 [(0, .ref (a 0)), (1, .int p1), (2, .ref (a 39))] := hl
  unfold f_L_row_0_39 at hf
  refine lv_aload_n hx hb dL_row_0 rfl (lv_at hl 2 rfl) ?_
  refine lv_iconst (v := (0 : Int32)) hx hb dL_row_1 (by decide) ?_
  refine lv_aload_n hx hb dL_row_2 rfl (lv_at hl 0 rfl) ?_
  refine lv_iload_n hx hb dL_row_3 rfl (lv_at hl 1 rfl) ?_
  rcases fd_bxs hf with ⟨w3, τ4, hc1, hf⟩ | ⟨E5, τ4, hc1, hf⟩
  · refine vx_calll (vx_runV (As := [.int p1]) (rest := [.int (0 : Int32), .ref (a 39)]) ⟨hx, hb, hml, hown, hts⟩ (m_X10_row_0 l hl9 D a k s.heap.size (fd_I40 hI) N p1 σ _ hc1) (cwV 1 hts gL_row_X10_row rfl rfl rfl (by decide +kernel) ⟨Nat.le_of_ble_eq_true rfl, Nat.le_of_ble_eq_true rfl⟩) ⟨fd_blZ, va_recv (fd_HK hK) (fd_HC hP) (ci := 10) (q0 := 0) rfl fd_WC_0, fd_prHZ hP hK hZ hS⟩ rfl rfl hl.1 rfl (lv_room (Nat.le_of_ble_eq_true rfl)) dL_row_4 ⟨(Nat.zero_le _), (Nat.zero_le _)⟩) hS (fun q _ h => fd_A_sub hS.1 h) (fun q h => fd_A_sub hS.1 h) (fun q _ h => fd_A_sub hS.1 h) (fun E ce q9 u t H1 locs1 ht hvm hp hB => ?_) (fun v2 u t H1 locs ht hvm hw hB hz hk hS => ?_)
    · exact absurd hB.1 (by simp)
    obtain ⟨hP1, hK1⟩ := hB
    rw [ht] at hP1
    obtain ⟨e1, e2⟩ := Prod.mk.inj hw
    obtain e1 := Sum.inl.inj e1
    subst e1
    subst e2
    obtain ⟨σ6, eσ6, hf⟩ := fd_lts hf
    have hP : va_P D vwCl (fd_WH a k σ6) H1 := by rw [eσ6]; exact fd_HJ hI hP hP1 hk
    generalize H1 = H at hP hS ⊢
    refine W.cs (cells' := 0) (slots' := 0) rfl rfl ?_
    obtain ⟨g8, hf⟩ := fd_gds hf
    obtain ⟨σ9, eσ9, hf⟩ := fd_lts hf
    refine va_last hx hb hK hP (fd_DH hI hJ) hS 39 27 fd_WH_39 fd_tyH_39 g8 dL_row_7 (fun H locs hP _ hS => ?_)
    have hP : va_P D vwCl (fd_WH a k σ9) H := by rw [eσ9]; exact fd_sP fd_WHa_39 hP
    refine lv_goto (tgt := 14) hx hb dL_row_8 (by decide) ?_
    refine lv_iconst (v := (0 : Int32)) hx hb dL_row_14 (by decide) ?_
    refine W.widen (k := 1) (n := 6) (Nat.le_of_ble_eq_true rfl) (Nat.le_of_ble_eq_true rfl) ?_
    exact W.iret (v := (0 : Int32)) hx hb hr (fun t ht hW => ⟨⟨(0 : Int32), σ9, rfl, Option.some.inj hf, by rw [ht]; exact hP, va_K.moved hW.alike hK⟩, hS.F ht⟩) hS.2.2 dL_row_15
  · have hE := hf
    by_cases c10 : E5 = "java/lang/IndexOutOfBoundsException"
    · subst c10
      have hf := fd_itp rfl hf
      refine vx_calll (vx_runV (As := [.int p1]) (rest := [.int (0 : Int32), .ref (a 39)]) ⟨hx, hb, hml, hown, hts⟩ (m_X10_row_0 l hl9 D a k s.heap.size (fd_I40 hI) N p1 σ _ hc1) (cwV 1 hts gL_row_X10_row rfl rfl rfl (by decide +kernel) ⟨Nat.le_of_ble_eq_true rfl, Nat.le_of_ble_eq_true rfl⟩) ⟨fd_blZ, va_recv (fd_HK hK) (fd_HC hP) (ci := 10) (q0 := 0) rfl fd_WC_0, fd_prHZ hP hK hZ hS⟩ rfl rfl hl.1 rfl (lv_room (Nat.le_of_ble_eq_true rfl)) dL_row_4 ⟨Nat.le_of_ble_eq_true rfl, Nat.le_of_ble_eq_true rfl⟩) hS (fun q _ h => fd_A_sub hS.1 h) (fun q h => fd_A_sub hS.1 h) (fun q _ h => fd_A_sub hS.1 h) (fun E ce q9 u t H1 locs1 ht hvm hp hB hz hk hS hce hcv hcl => ?_) (fun v2 u t H1 locs ht hvm hw hB hz hk hS => ?_)
      · obtain ⟨hB0, hP1, hK1⟩ := hB
        rw [ht] at hP1
        obtain ⟨e1, e2⟩ := Prod.mk.inj hB0
        obtain e1 := Sum.inr.inj e1
        subst e1
        subst e2
        obtain ⟨σ11, eσ11, hf⟩ := fd_lts hf
        have hP : va_P D vwCl (fd_WH a k σ11) H1 := by rw [eσ11]; exact fd_HJ hI hP hP1 hk
        refine fd_catch (own := RL) (name := "java/lang/IndexOutOfBoundsException") (E := "java/lang/IndexOutOfBoundsException") hown [] ⟨0, 8, 11, 19⟩ [] (by rw [hTab]; rfl) (fun z hz => nomatch hz) (by decide) (by decide) (hts (.classLink RL 19 "java/lang/IndexOutOfBoundsException") (List.mem_of_getElem? (i := 1) (by eq_refl))) (hZ.cast "java/lang/IndexOutOfBoundsException" (by decide +kernel)) hce hcv hcl ?_
        refine W.cs (cells' := 1) (slots' := 6) rfl rfl ?_
        refine lv_astore_n (lv' := [(3, .ref q9), (0, .ref (a 0)), (1, .int p1), (2, .ref (a 39))]) hx hb dL_row_11 rfl hl (by decide) rfl (fun ls hl => ?_)
        refine lv_iconst (v := (1 : Int32)) hx hb dL_row_12 (by decide) ?_
        refine W.widen (k := 1) (n := 6) (Nat.le_of_ble_eq_true rfl) (Nat.le_of_ble_eq_true rfl) ?_
        exact W.iret (v := (1 : Int32)) hx hb hr (fun t ht hW => ⟨⟨(1 : Int32), σ11, rfl, Option.some.inj hf, by rw [ht]; exact hP, va_K.moved hW.alike hK⟩, hS.F ht⟩) hS.2.2 dL_row_13
      · exact absurd hw (by simp)
    have hf := fd_itn c10 hf
    cases hf
noncomputable def f_X11_tell (N : Nat) (p0 : Int32) (p1 : Int64) (p3 : Int64) (σ : fd_St) : Option (Int64 × fd_St) := if p0 = (0 : Int32) then (some (p1 &&& p3, σ)) else (if p0 = (1 : Int32) then (some (p1 ||| p3, σ)) else (if p0 = (2 : Int32) then (some (p1 ^^^ p3, σ)) else (if p0 = (3 : Int32) then (some ((p1 &&& p3) ^^^ (-1 : Int64), σ)) else (if p0 = (4 : Int32) then (some ((p1 ||| p3) ^^^ (-1 : Int64), σ)) else (if p0 = (5 : Int32) then (some (p1 ^^^ (-1 : Int64), σ)) else (some (p1, σ)))))))
set_option maxHeartbeats 4000000 in
set_option maxRecDepth 100000 in
theorem m_X11_tell (l : Launch) (D : va_G) (a : Nat → Nat) (k : Nat → ClassId) (sz : Nat) (hI : fd_I 29 a) (N : Nat) (p0 : Int32) (p1 : Int64) (p3 : Int64) (σ : fd_St) (r : Int64 × fd_St) (hf : f_X11_tell N p0 p1 p3 σ = some r) : Met l yX11_tell wsX11_tell ({ frames := 0, cells := 0, slots := 0, locals := 0 }) (va_Pc [.int p0, .long p1, .long p3] (fd_PM D a k sz σ)) (va_Ql (fun v u => (v, u) = r) (fd_BM D a k) (fd_A 29 a sz)) 0 0 (fd_A 29 a sz) := by
  refine Met.ofW (cc := cX11_tell) (maxL := 5) (ret := (some .long)) (by decide) rfl ?_
  intro p e s m args below meth c s₁ B hml hv
  obtain ⟨rfl, hsz, hP, hK⟩ := hv
  have hx := B.exec
  have hb := B.bytes
  have hr := B.returns
  have hts := atoms_spec (ws := wsX11_tell) B.pre
  have hown : s.vm.findClass RX11 = some m.cls := findClass_of_methodNamed B.named
  have hlocks := B.notSynchronized
  subst hsz
  have hJ : ∀ i, i < 29 → fd_A 29 a s.heap.size (a i) := fun i hi => Or.inl ⟨i, hi, rfl⟩
  have hS : va_S (fd_A 29 a s.heap.size) s.heap s.heap [] := va_S.rf
  have hl := lv_entry ([.int p0, .long p1, .long p3]) (n := 5) (Nat.le_of_ble_eq_true rfl)
  rw [lg_entry_eq]
  generalize (lg_sl ([.int p0, .long p1, .long p3]) ++ List.replicate (5 - (lg_sl ([.int p0, .long p1, .long p3])).length) Slot.unset).toArray = ls at hl ⊢
  have hl : lv_has ls 5 [(0, .int p0), (1, .long p1), (3, .long p3)] := hl
  unfold f_X11_tell at hf
  refine lv_iload_n hx hb dX11_tell_0 rfl (lv_at hl 0 rfl) ?_
  by_cases c1 : p0 = (0 : Int32)
  · have hf := fd_itp c1 hf
    refine lv_tableIn (off := 39) (tgt := 40) hx hb dX11_tell_1 (by rw [c1]; decide) (by rw [c1]; decide) (by rw [c1]; decide) (by decide) ?_
    refine lv_lload_n hx hb dX11_tell_40 rfl (lv_at hl 1 rfl) ?_
    refine lv_lload_n hx hb dX11_tell_41 rfl (lv_at hl 2 rfl) ?_
    refine lv_land hx hb dX11_tell_42 ?_
    exact W.lret (v := (p1 &&& p3)) hx hb hr (fun t ht hW => ⟨⟨p1 &&& p3, σ, rfl, Option.some.inj hf, by rw [ht]; exact hP, va_K.moved hW.alike hK⟩, hS.F ht⟩) hS.2.2 dX11_tell_43
  have hf := fd_itn c1 hf
  by_cases c2 : p0 = (1 : Int32)
  · have hf := fd_itp c2 hf
    refine lv_tableIn (off := 43) (tgt := 44) hx hb dX11_tell_1 (by rw [c2]; decide) (by rw [c2]; decide) (by rw [c2]; decide) (by decide) ?_
    refine lv_lload_n hx hb dX11_tell_44 rfl (lv_at hl 1 rfl) ?_
    refine lv_lload_n hx hb dX11_tell_45 rfl (lv_at hl 2 rfl) ?_
    refine lv_lor hx hb dX11_tell_46 ?_
    exact W.lret (v := (p1 ||| p3)) hx hb hr (fun t ht hW => ⟨⟨p1 ||| p3, σ, rfl, Option.some.inj hf, by rw [ht]; exact hP, va_K.moved hW.alike hK⟩, hS.F ht⟩) hS.2.2 dX11_tell_47
  have hf := fd_itn c2 hf
  by_cases c3 : p0 = (2 : Int32)
  · have hf := fd_itp c3 hf
    refine lv_tableIn (off := 47) (tgt := 48) hx hb dX11_tell_1 (by rw [c3]; decide) (by rw [c3]; decide) (by rw [c3]; decide) (by decide) ?_
    refine lv_lload_n hx hb dX11_tell_48 rfl (lv_at hl 1 rfl) ?_
    refine lv_lload_n hx hb dX11_tell_49 rfl (lv_at hl 2 rfl) ?_
    refine lv_lxor hx hb dX11_tell_50 ?_
    exact W.lret (v := (p1 ^^^ p3)) hx hb hr (fun t ht hW => ⟨⟨p1 ^^^ p3, σ, rfl, Option.some.inj hf, by rw [ht]; exact hP, va_K.moved hW.alike hK⟩, hS.F ht⟩) hS.2.2 dX11_tell_51
  have hf := fd_itn c3 hf
  by_cases c4 : p0 = (3 : Int32)
  · have hf := fd_itp c4 hf
    refine lv_tableIn (off := 51) (tgt := 52) hx hb dX11_tell_1 (by rw [c4]; decide) (by rw [c4]; decide) (by rw [c4]; decide) (by decide) ?_
    refine lv_lload_n hx hb dX11_tell_52 rfl (lv_at hl 1 rfl) ?_
    refine lv_lload_n hx hb dX11_tell_53 rfl (lv_at hl 2 rfl) ?_
    refine lv_land hx hb dX11_tell_54 ?_
    refine lv_ldc2 hx hb hown (hts (.constantLong RX11 129 (-1)) (List.mem_of_getElem? (i := 1) (by eq_refl))) dX11_tell_55 ?_
    refine lv_lxor hx hb dX11_tell_58 ?_
    exact W.lret (v := ((p1 &&& p3) ^^^ (-1 : Int64))) hx hb hr (fun t ht hW => ⟨⟨(p1 &&& p3) ^^^ (-1 : Int64), σ, rfl, Option.some.inj hf, by rw [ht]; exact hP, va_K.moved hW.alike hK⟩, hS.F ht⟩) hS.2.2 dX11_tell_59
  have hf := fd_itn c4 hf
  by_cases c5 : p0 = (4 : Int32)
  · have hf := fd_itp c5 hf
    refine lv_tableIn (off := 59) (tgt := 60) hx hb dX11_tell_1 (by rw [c5]; decide) (by rw [c5]; decide) (by rw [c5]; decide) (by decide) ?_
    refine lv_lload_n hx hb dX11_tell_60 rfl (lv_at hl 1 rfl) ?_
    refine lv_lload_n hx hb dX11_tell_61 rfl (lv_at hl 2 rfl) ?_
    refine lv_lor hx hb dX11_tell_62 ?_
    refine lv_ldc2 hx hb hown (hts (.constantLong RX11 129 (-1)) (List.mem_of_getElem? (i := 1) (by eq_refl))) dX11_tell_63 ?_
    refine lv_lxor hx hb dX11_tell_66 ?_
    exact W.lret (v := ((p1 ||| p3) ^^^ (-1 : Int64))) hx hb hr (fun t ht hW => ⟨⟨(p1 ||| p3) ^^^ (-1 : Int64), σ, rfl, Option.some.inj hf, by rw [ht]; exact hP, va_K.moved hW.alike hK⟩, hS.F ht⟩) hS.2.2 dX11_tell_67
  have hf := fd_itn c5 hf
  by_cases c6 : p0 = (5 : Int32)
  · have hf := fd_itp c6 hf
    refine lv_tableIn (off := 67) (tgt := 68) hx hb dX11_tell_1 (by rw [c6]; decide) (by rw [c6]; decide) (by rw [c6]; decide) (by decide) ?_
    refine lv_lload_n hx hb dX11_tell_68 rfl (lv_at hl 1 rfl) ?_
    refine lv_ldc2 hx hb hown (hts (.constantLong RX11 129 (-1)) (List.mem_of_getElem? (i := 1) (by eq_refl))) dX11_tell_69 ?_
    refine lv_lxor hx hb dX11_tell_72 ?_
    exact W.lret (v := (p1 ^^^ (-1 : Int64))) hx hb hr (fun t ht hW => ⟨⟨p1 ^^^ (-1 : Int64), σ, rfl, Option.some.inj hf, by rw [ht]; exact hP, va_K.moved hW.alike hK⟩, hS.F ht⟩) hS.2.2 dX11_tell_73
  have hf := fd_itn c6 hf
  have nc1 := lv_neT c1 (a := 0) (by decide)
  have nc2 := lv_neT c2 (a := 1) (by decide)
  have nc3 := lv_neT c3 (a := 2) (by decide)
  have nc4 := lv_neT c4 (a := 3) (by decide)
  have nc5 := lv_neT c5 (a := 4) (by decide)
  have nc6 := lv_neT c6 (a := 5) (by decide)
  refine lv_tableOut (tgt := 74) hx hb dX11_tell_1 (by omega) (by decide) ?_
  refine lv_lload_n hx hb dX11_tell_74 rfl (lv_at hl 1 rfl) ?_
  exact W.lret (v := p1) hx hb hr (fun t ht hW => ⟨⟨p1, σ, rfl, Option.some.inj hf, by rw [ht]; exact hP, va_K.moved hW.alike hK⟩, hS.F ht⟩) hS.2.2 dX11_tell_75
noncomputable def f_X11_mask_0 (N : Nat) (σ : fd_St) : Option (Int64 × fd_St) := if (σ.1 4) = (64 : Int32) then (some ((-1 : Int64), σ)) else (some (((1 : Int64) <<< ((σ.1 4).toInt64 &&& 63)) - (1 : Int64), σ))
set_option maxHeartbeats 4000000 in
set_option maxRecDepth 100000 in
theorem m_X11_mask_0 (l : Launch) (D : va_G) (a : Nat → Nat) (k : Nat → ClassId) (sz : Nat) (hI : fd_I 29 a) (N : Nat) (σ : fd_St) (r : Int64 × fd_St) (hf : f_X11_mask_0 N σ = some r) : Met l yX11_mask wsX11_mask ({ frames := 0, cells := 0, slots := 0, locals := 0 }) (va_Pc [.ref (a 0)] (fd_PM D a k sz σ)) (va_Ql (fun v u => (v, u) = r) (fd_BM D a k) (fd_A 29 a sz)) 0 0 (fd_A 29 a sz) := by
  refine Met.ofW (cc := cX11_mask) (maxL := 1) (ret := (some .long)) (by decide) rfl ?_
  intro p e s m args below meth c s₁ B hml hv
  obtain ⟨rfl, hsz, hP, hK⟩ := hv
  have hx := B.exec
  have hb := B.bytes
  have hr := B.returns
  have hts := atoms_spec (ws := wsX11_mask) B.pre
  have hown : s.vm.findClass RX11 = some m.cls := findClass_of_methodNamed B.named
  have hlocks := B.notSynchronized
  subst hsz
  have hJ : ∀ i, i < 29 → fd_A 29 a s.heap.size (a i) := fun i hi => Or.inl ⟨i, hi, rfl⟩
  have hS : va_S (fd_A 29 a s.heap.size) s.heap s.heap [] := va_S.rf
  have hl := lv_entry ([.ref (a 0)]) (n := 1) (Nat.le_of_ble_eq_true rfl)
  rw [lg_entry_eq]
  generalize (lg_sl ([.ref (a 0)]) ++ List.replicate (1 - (lg_sl ([.ref (a 0)])).length) Slot.unset).toArray = ls at hl ⊢
  have hl : lv_has ls 1 [(0, .ref (a 0))] := hl
  have h9X11 : ∀ w ∈ u_ws RX11 TX11 43, w ∈ wsX11_mask := fd_su [3, 4, 5, 6, 7, 8, 9, 10, 11, 12, 13, 14, 15, 16, 17, 18, 19, 20, 21, 22, 23, 24, 25, 26, 27, 28, 29, 30, 31, 32, 33, 34, 35, 36, 37, 38, 39, 40, 41, 42, 43, 44, 45] (by eq_refl)
  unfold f_X11_mask_0 at hf
  refine lv_aload_n hx hb dX11_mask_0 rfl (lv_at hl 0 rfl) ?_
  refine va_get (ci := 11) (v := .int (σ.1 4)) (C := RX11) (T := TX11) (N := 43) hx hb hts h9X11 hown hK hP 0 fd_WM_0 rfl 10 (by decide) (hts (.fieldLink RX11 126 "FailDiagnoseModel" "many" "I") (List.mem_of_getElem? (i := 1) (by eq_refl))) (fun _ h9 => h9) rfl dX11_mask_1 ?_
  refine lv_bipush (v := (64 : Int32)) hx hb dX11_mask_4 (by decide) ?_
  refine lv_icmp_ne (tgt := 15) hx hb dX11_mask_6 (by decide) (fun c1 => ?_) (fun c1 => ?_)
  · have hf := fd_itn c1 hf
    refine lv_lconst (v := (1 : Int64)) hx hb dX11_mask_15 (by decide) ?_
    refine lv_aload_n hx hb dX11_mask_16 rfl (lv_at hl 0 rfl) ?_
    refine va_get (ci := 11) (v := .int (σ.1 4)) (C := RX11) (T := TX11) (N := 43) hx hb hts h9X11 hown hK hP 0 fd_WM_0 rfl 10 (by decide) (hts (.fieldLink RX11 126 "FailDiagnoseModel" "many" "I") (List.mem_of_getElem? (i := 1) (by eq_refl))) (fun _ h9 => h9) rfl dX11_mask_17 ?_
    refine lv_lshl hx hb dX11_mask_20 rfl ?_
    refine lv_lconst (v := (1 : Int64)) hx hb dX11_mask_21 (by decide) ?_
    refine lv_lsub hx hb dX11_mask_22 ?_
    exact W.lret (v := (((1 : Int64) <<< ((σ.1 4).toInt64 &&& 63)) - (1 : Int64))) hx hb hr (fun t ht hW => ⟨⟨((1 : Int64) <<< ((σ.1 4).toInt64 &&& 63)) - (1 : Int64), σ, rfl, Option.some.inj hf, by rw [ht]; exact hP, va_K.moved hW.alike hK⟩, hS.F ht⟩) hS.2.2 dX11_mask_23
  · have hf := fd_itp c1 hf
    refine lv_ldc2 hx hb hown (hts (.constantLong RX11 129 (-1)) (List.mem_of_getElem? (i := 2) (by eq_refl))) dX11_mask_9 ?_
    refine lv_goto (tgt := 23) hx hb dX11_mask_12 (by decide) ?_
    exact W.lret (v := (-1 : Int64)) hx hb hr (fun t ht hW => ⟨⟨(-1 : Int64), σ, rfl, Option.some.inj hf, by rw [ht]; exact hP, va_K.moved hW.alike hK⟩, hS.F ht⟩) hS.2.2 dX11_mask_23
noncomputable def f_X11_own_0_9_J44 (N : Nat) (z0 : Int64) (σ : fd_St) : Option (Int64 × fd_St) := fd_bd (f_X11_mask_0 N σ) (fun v14 σ15 => some (z0 &&& v14, σ15))
noncomputable def f_X11_own_0_9 (N : Nat) (p1 : Int32) (σ : fd_St) : Option (Int64 × fd_St) := fd_gd (vp_in p1 200) (if (σ.2.1 1 p1.toNatClampNeg) = (-1 : Int32) then (fd_gd (vp_in p1 200) (f_X11_own_0_9_J44 N (σ.2.2 4 p1.toNatClampNeg) σ)) else (fd_gd (vp_in p1 200) (fd_gd (vp_in p1 200) (fd_gd (vp_in (σ.2.1 2 p1.toNatClampNeg) 200) (fd_gd (vp_in p1 200) (fd_gd (vp_in (σ.2.1 3 p1.toNatClampNeg) 200) (fd_bd (f_X11_tell N (σ.2.1 1 p1.toNatClampNeg) (σ.2.2 9 (σ.2.1 2 p1.toNatClampNeg).toNatClampNeg) (σ.2.2 9 (σ.2.1 3 p1.toNatClampNeg).toNatClampNeg) σ) (fun v9 σ10 => f_X11_own_0_9_J44 N v9 σ10))))))))
set_option maxHeartbeats 4000000 in
set_option maxRecDepth 100000 in
theorem m_X11_own_0_9 (l : Launch) (D : va_G) (a : Nat → Nat) (k : Nat → ClassId) (sz : Nat) (hI : fd_I 29 a) (N : Nat) (p1 : Int32) (σ : fd_St) (r : Int64 × fd_St) (hf : f_X11_own_0_9 N p1 σ = some r) : Met l yX11_own wsX11_own ({ frames := 1, cells := 0, slots := 0, locals := 24 }) (va_Pc [.ref (a 0), .int p1, .ref (a 9)] (fd_PM D a k sz σ)) (va_Ql (fun v u => (v, u) = r) (fd_BM D a k) (fd_A 29 a sz)) 0 0 (fd_A 29 a sz) := by
  refine Met.ofW (cc := cX11_own) (maxL := 5) (ret := (some .long)) (by decide) rfl ?_
  intro p e s m args below meth c s₁ B hml hv
  obtain ⟨rfl, hsz, hP, hK⟩ := hv
  have hx := B.exec
  have hb := B.bytes
  have hr := B.returns
  have hts := atoms_spec (ws := wsX11_own) B.pre
  have hown : s.vm.findClass RX11 = some m.cls := findClass_of_methodNamed B.named
  have hlocks := B.notSynchronized
  subst hsz
  have hJ : ∀ i, i < 29 → fd_A 29 a s.heap.size (a i) := fun i hi => Or.inl ⟨i, hi, rfl⟩
  have hS : va_S (fd_A 29 a s.heap.size) s.heap s.heap [] := va_S.rf
  have hl := lv_entry ([.ref (a 0), .int p1, .ref (a 9)]) (n := 5) (Nat.le_of_ble_eq_true rfl)
  rw [lg_entry_eq]
  generalize (lg_sl ([.ref (a 0), .int p1, .ref (a 9)]) ++ List.replicate (5 - (lg_sl ([.ref (a 0), .int p1, .ref (a 9)])).length) Slot.unset).toArray = ls at hl ⊢
  have hl : lv_has ls 5 [(0, .ref (a 0)), (1, .int p1), (2, .ref (a 9))] := hl
  have h9X11 : ∀ w ∈ u_ws RX11 TX11 43, w ∈ wsX11_own := fd_su [15, 16, 17, 18, 19, 20, 21, 22, 23, 24, 25, 26, 27, 28, 29, 30, 31, 32, 33, 34, 35, 36, 37, 38, 39, 40, 41, 42, 43, 44, 45, 46, 47, 48, 49, 50, 51, 52, 53, 54, 55, 56, 57] (by eq_refl)
  have hL44 : ∀ (z0 : Int64) (σ : fd_St) (H : Heap) (locs : List Loc) (ls : Array Slot), va_P D vwCl (fd_WM a k σ) H → va_S (fd_A 29 a s.heap.size) s.heap H locs → lv_has ls 5 [(0, .ref (a 0))] → f_X11_own_0_9_J44 N z0 σ = some r → W p l e ((headSpec wsX11_own ({ frames := 1, cells := 0, slots := 0, locals := 24 })).room) s m ([.ref (a 0), .int p1, .ref (a 9)].toArray) below meth c H locs 0 0 (MQ below (va_Ql (fun v u => (v, u) = r) (fd_BM D a k) (fd_A 29 a s.heap.size)) ([.ref (a 0), .int p1, .ref (a 9)].toArray) s 0 0 (fd_A 29 a s.heap.size)) (F0 m 44 ls [.long z0]) := by
    intro z0 σ H locs ls hP hS hl hf
    unfold f_X11_own_0_9_J44 at hf
    refine lv_lstore_n (lv' := [(3, .long z0), (0, .ref (a 0))]) hx hb dX11_own_44 rfl hl (by decide) rfl (fun ls hl => ?_)
    refine lv_lload_n hx hb dX11_own_45 rfl (lv_at hl 0 rfl) ?_
    refine lv_aload_n hx hb dX11_own_46 rfl (lv_at hl 1 rfl) ?_
    obtain ⟨w16, τ17, hc13, hf⟩ := fd_bds hf
    refine va_calll (va_runV (As := []) (rest := [.long z0]) ⟨hx, hb, hml, hown, hts⟩ (m_X11_mask_0 l D a k H.size hI N σ _ hc13) (cwV 0 hts gX11_own_X11_mask rfl rfl rfl (by decide +kernel) ⟨Nat.le_of_ble_eq_true rfl, Nat.le_of_ble_eq_true rfl⟩) ⟨fd_blM, va_recv hK hP (ci := 11) (q0 := 0) rfl fd_WM_0, fd_prM hP hK⟩ rfl rfl hl.1 rfl (lv_room (Nat.le_of_ble_eq_true rfl)) dX11_own_47 ⟨Nat.zero_le _, Nat.zero_le _⟩) hS (fun q _ h => fd_A_mono hS.1 h) (fun q h => fd_A_mono hS.1 h) (fun v14 u t H1 locs ht hvm hw hB hz hk hS => ?_)
    obtain ⟨hP1, hK1⟩ := hB
    rw [ht] at hP1
    obtain ⟨e1, e2⟩ := Prod.mk.inj hw
    subst e1
    subst e2
    obtain ⟨σ15, rfl⟩ : ∃ z, z = u := ⟨_, rfl⟩
    have hP := hP1
    generalize H1 = H at hP hS ⊢
    refine lv_land hx hb dX11_own_50 ?_
    exact W.lret (v := (z0 &&& v14)) hx hb hr (fun t ht hW => ⟨⟨z0 &&& v14, σ15, rfl, Option.some.inj hf, by rw [ht]; exact hP, va_K.moved hW.alike hK⟩, hS.F ht⟩) hS.2.2 dX11_own_51
  unfold f_X11_own_0_9 at hf
  refine lv_aload_n hx hb dX11_own_0 rfl (lv_at hl 0 rfl) ?_
  refine va_get (ci := 11) (v := .ref (a 1)) (C := RX11) (T := TX11) (N := 43) hx hb hts h9X11 hown hK hP 0 fd_WM_0 rfl 2 (by decide) (hts (.fieldLink RX11 7 "FailDiagnoseModel" "kinds" "[I") (List.mem_of_getElem? (i := 1) (by eq_refl))) (fun _ h9 => h9) rfl dX11_own_1 ?_
  refine lv_iload_n hx hb dX11_own_4 rfl (lv_at hl 1 rfl) ?_
  obtain ⟨g1, hf⟩ := fd_gds hf
  refine va_iald hx hb hK hP 1 0 fd_WM_1 fd_tyM_1 g1 dX11_own_5 ?_
  refine lv_iconst (v := (-1 : Int32)) hx hb dX11_own_6 (by decide) ?_
  refine lv_icmp_ne (tgt := 19) hx hb dX11_own_7 (by decide) (fun c2 => ?_) (fun c2 => ?_)
  · have hf := fd_itn c2 hf
    refine lv_aload_n hx hb dX11_own_19 rfl (lv_at hl 0 rfl) ?_
    refine va_get (ci := 11) (v := .ref (a 1)) (C := RX11) (T := TX11) (N := 43) hx hb hts h9X11 hown hK hP 0 fd_WM_0 rfl 2 (by decide) (hts (.fieldLink RX11 7 "FailDiagnoseModel" "kinds" "[I") (List.mem_of_getElem? (i := 1) (by eq_refl))) (fun _ h9 => h9) rfl dX11_own_20 ?_
    refine lv_iload_n hx hb dX11_own_23 rfl (lv_at hl 1 rfl) ?_
    obtain ⟨g3, hf⟩ := fd_gds hf
    refine va_iald hx hb hK hP 1 0 fd_WM_1 fd_tyM_1 g3 dX11_own_24 ?_
    refine lv_aload_n hx hb dX11_own_25 rfl (lv_at hl 2 rfl) ?_
    refine lv_aload_n hx hb dX11_own_26 rfl (lv_at hl 0 rfl) ?_
    refine va_get (ci := 11) (v := .ref (a 2)) (C := RX11) (T := TX11) (N := 43) hx hb hts h9X11 hown hK hP 0 fd_WM_0 rfl 3 (by decide) (hts (.fieldLink RX11 13 "FailDiagnoseModel" "firsts" "[I") (List.mem_of_getElem? (i := 3) (by eq_refl))) (fun _ h9 => h9) rfl dX11_own_27 ?_
    refine lv_iload_n hx hb dX11_own_30 rfl (lv_at hl 1 rfl) ?_
    obtain ⟨g4, hf⟩ := fd_gds hf
    refine va_iald hx hb hK hP 2 1 fd_WM_2 fd_tyM_2 g4 dX11_own_31 ?_
    obtain ⟨g5, hf⟩ := fd_gds hf
    refine va_lald hx hb hK hP 9 8 fd_WM_9 fd_tyM_9 g5 dX11_own_32 ?_
    refine lv_aload_n hx hb dX11_own_33 rfl (lv_at hl 2 rfl) ?_
    refine lv_aload_n hx hb dX11_own_34 rfl (lv_at hl 0 rfl) ?_
    refine va_get (ci := 11) (v := .ref (a 3)) (C := RX11) (T := TX11) (N := 43) hx hb hts h9X11 hown hK hP 0 fd_WM_0 rfl 4 (by decide) (hts (.fieldLink RX11 16 "FailDiagnoseModel" "seconds" "[I") (List.mem_of_getElem? (i := 4) (by eq_refl))) (fun _ h9 => h9) rfl dX11_own_35 ?_
    refine lv_iload_n hx hb dX11_own_38 rfl (lv_at hl 1 rfl) ?_
    obtain ⟨g6, hf⟩ := fd_gds hf
    refine va_iald hx hb hK hP 3 2 fd_WM_3 fd_tyM_3 g6 dX11_own_39 ?_
    obtain ⟨g7, hf⟩ := fd_gds hf
    refine va_lald hx hb hK hP 9 8 fd_WM_9 fd_tyM_9 g7 dX11_own_40 ?_
    obtain ⟨w11, τ12, hc8, hf⟩ := fd_bds hf
    refine va_calll (va_runS (As := [.int (σ.2.1 1 p1.toNatClampNeg), .long (σ.2.2 9 (σ.2.1 2 p1.toNatClampNeg).toNatClampNeg), .long (σ.2.2 9 (σ.2.1 3 p1.toNatClampNeg).toNatClampNeg)]) (rest := []) ⟨hx, hb, hml, hown, hts⟩ (m_X11_tell l D a k s.heap.size hI N (σ.2.1 1 p1.toNatClampNeg) (σ.2.2 9 (σ.2.1 2 p1.toNatClampNeg).toNatClampNeg) (σ.2.2 9 (σ.2.1 3 p1.toNatClampNeg).toNatClampNeg) σ _ hc8) (va_cwS 3 hts gX11_own_X11_tell rfl rfl rfl (by decide +kernel) ⟨Nat.le_of_ble_eq_true rfl, Nat.le_of_ble_eq_true rfl⟩) ⟨fd_blM, fd_prM hP hK⟩ rfl rfl hl.1 rfl (lv_room (Nat.le_of_ble_eq_true rfl)) dX11_own_41 ⟨Nat.zero_le _, Nat.zero_le _⟩) hS (fun q _ h => fd_A_mono hS.1 h) (fun q h => fd_A_mono hS.1 h) (fun v9 u t H1 locs ht hvm hw hB hz hk hS => ?_)
    obtain ⟨hP1, hK1⟩ := hB
    rw [ht] at hP1
    obtain ⟨e1, e2⟩ := Prod.mk.inj hw
    subst e1
    subst e2
    obtain ⟨σ10, rfl⟩ : ∃ z, z = u := ⟨_, rfl⟩
    have hP := hP1
    generalize H1 = H at hP hS ⊢
    exact hL44 v9 σ10 _ _ _ hP hS (lv_sub hl [0] rfl) hf
  · have hf := fd_itp c2 hf
    refine lv_aload_n hx hb dX11_own_10 rfl (lv_at hl 0 rfl) ?_
    refine va_get (ci := 11) (v := .ref (a 4)) (C := RX11) (T := TX11) (N := 43) hx hb hts h9X11 hown hK hP 0 fd_WM_0 rfl 5 (by decide) (hts (.fieldLink RX11 19 "FailDiagnoseModel" "puts" "[J") (List.mem_of_getElem? (i := 2) (by eq_refl))) (fun _ h9 => h9) rfl dX11_own_11 ?_
    refine lv_iload_n hx hb dX11_own_14 rfl (lv_at hl 1 rfl) ?_
    obtain ⟨g18, hf⟩ := fd_gds hf
    refine va_lald hx hb hK hP 4 3 fd_WM_4 fd_tyM_4 g18 dX11_own_15 ?_
    refine lv_goto (tgt := 44) hx hb dX11_own_16 (by decide) ?_
    exact hL44 (σ.2.2 4 p1.toNatClampNeg) σ _ _ _ hP hS (lv_sub hl [0] rfl) hf
noncomputable def f_X11_workPlain_0_L2 (N : Nat) : Nat → Int32 → fd_St → Option (Unit × fd_St)
  | 0 => fun _ _ => none
  | n + 1 => fun y1 σ => if (σ.1 1) ≤ y1 then (some ((), σ)) else (fd_bd (f_X11_own_0_9 N y1 σ) (fun v3 σ4 => fd_gd (vp_in y1 200) (fd_lt (fd_sL 9 y1 v3 σ4) (fun σ8 => fd_lt (y1 + (1 : Int32)) (fun x9 => (f_X11_workPlain_0_L2 N n) x9 σ8)))))
noncomputable def f_X11_workPlain_0 (N : Nat) (σ : fd_St) : Option (Unit × fd_St) := f_X11_workPlain_0_L2 N N (0 : Int32) σ
set_option maxHeartbeats 4000000 in
set_option maxRecDepth 100000 in
theorem m_X11_workPlain_0 (l : Launch) (D : va_G) (a : Nat → Nat) (k : Nat → ClassId) (sz : Nat) (hI : fd_I 29 a) (N : Nat) (σ : fd_St) (r : Unit × fd_St) (hf : f_X11_workPlain_0 N σ = some r) : Met l yX11_workPlain wsX11_workPlain ({ frames := 2, cells := 0, slots := 0, locals := 48 }) (va_Pc [.ref (a 0)] (fd_PM D a k sz σ)) (va_Qv (fun u => ((), u) = r) (fd_BM D a k) (fd_A 29 a sz)) 0 0 (fd_A 29 a sz) := by
  refine Met.ofW (cc := cX11_workPlain) (maxL := 2) (ret := none) (by decide) rfl ?_
  intro p e s m args below meth c s₁ B hml hv
  obtain ⟨rfl, hsz, hP, hK⟩ := hv
  have hx := B.exec
  have hb := B.bytes
  have hr := B.returns
  have hts := atoms_spec (ws := wsX11_workPlain) B.pre
  have hown : s.vm.findClass RX11 = some m.cls := findClass_of_methodNamed B.named
  have hlocks := B.notSynchronized
  subst hsz
  have hJ : ∀ i, i < 29 → fd_A 29 a s.heap.size (a i) := fun i hi => Or.inl ⟨i, hi, rfl⟩
  have hS : va_S (fd_A 29 a s.heap.size) s.heap s.heap [] := va_S.rf
  have hl := lv_entry ([.ref (a 0)]) (n := 2) (Nat.le_of_ble_eq_true rfl)
  rw [lg_entry_eq]
  generalize (lg_sl ([.ref (a 0)]) ++ List.replicate (2 - (lg_sl ([.ref (a 0)])).length) Slot.unset).toArray = ls at hl ⊢
  have hl : lv_has ls 2 [(0, .ref (a 0))] := hl
  have h9X11 : ∀ w ∈ u_ws RX11 TX11 43, w ∈ wsX11_workPlain := fd_su [21, 22, 23, 24, 25, 26, 27, 28, 29, 30, 31, 32, 33, 34, 35, 36, 37, 38, 39, 40, 41, 42, 43, 44, 45, 46, 47, 48, 49, 50, 51, 52, 53, 54, 55, 56, 57, 58, 59, 60, 61, 62, 63] (by eq_refl)
  have hL2 : ∀ (n : Nat), ∀ (y1 : Int32) (σ : fd_St) (H : Heap) (locs : List Loc) (ls : Array Slot), va_P D vwCl (fd_WM a k σ) H → va_S (fd_A 29 a s.heap.size) s.heap H locs → lv_has ls 2 [(0, .ref (a 0)), (1, .int y1)] → f_X11_workPlain_0_L2 N n y1 σ = some r → W p l e ((headSpec wsX11_workPlain ({ frames := 2, cells := 0, slots := 0, locals := 48 })).room) s m ([.ref (a 0)].toArray) below meth c H locs 0 0 (MQ below (va_Qv (fun u => ((), u) = r) (fd_BM D a k) (fd_A 29 a s.heap.size)) ([.ref (a 0)].toArray) s 0 0 (fd_A 29 a s.heap.size)) (F0 m 2 ls []) := by
    intro n
    induction n with
    | zero =>
      intro _ _ _ _ _ _ _ _ hf
      cases hf
    | succ n ih =>
      intro y1 σ H locs ls hP hS hl hf
      unfold f_X11_workPlain_0_L2 at hf
      refine lv_iload_n hx hb dX11_workPlain_2 rfl (lv_at hl 1 rfl) ?_
      refine lv_aload_n hx hb dX11_workPlain_3 rfl (lv_at hl 0 rfl) ?_
      refine va_get (ci := 11) (v := .int (σ.1 1)) (C := RX11) (T := TX11) (N := 43) hx hb hts h9X11 hown hK hP 0 fd_WM_0 rfl 1 (by decide) (hts (.fieldLink RX11 113 "FailDiagnoseModel" "nets" "I") (List.mem_of_getElem? (i := 1) (by eq_refl))) (fun _ h9 => h9) rfl dX11_workPlain_4 ?_
      refine lv_icmp_ge (tgt := 31) hx hb dX11_workPlain_7 (by decide) (fun c1 => ?_) (fun c1 => ?_)
      · have hf := fd_itp c1 hf
        exact W.vret hx hb hr (fun t ht hW => ⟨⟨σ, rfl, Option.some.inj hf, by rw [ht]; exact hP, va_K.moved hW.alike hK⟩, hS.F ht⟩) hS.2.2 dX11_workPlain_31
      · have hf := fd_itn c1 hf
        refine lv_aload_n hx hb dX11_workPlain_10 rfl (lv_at hl 0 rfl) ?_
        refine va_get (ci := 11) (v := .ref (a 9)) (C := RX11) (T := TX11) (N := 43) hx hb hts h9X11 hown hK hP 0 fd_WM_0 rfl 14 (by decide) (hts (.fieldLink RX11 35 "FailDiagnoseModel" "plain" "[J") (List.mem_of_getElem? (i := 2) (by eq_refl))) (fun _ h9 => h9) rfl dX11_workPlain_11 ?_
        refine lv_iload_n hx hb dX11_workPlain_14 rfl (lv_at hl 1 rfl) ?_
        refine lv_aload_n hx hb dX11_workPlain_15 rfl (lv_at hl 0 rfl) ?_
        refine lv_iload_n hx hb dX11_workPlain_16 rfl (lv_at hl 1 rfl) ?_
        refine lv_aload_n hx hb dX11_workPlain_17 rfl (lv_at hl 0 rfl) ?_
        refine va_get (ci := 11) (v := .ref (a 9)) (C := RX11) (T := TX11) (N := 43) hx hb hts h9X11 hown hK hP 0 fd_WM_0 rfl 14 (by decide) (hts (.fieldLink RX11 35 "FailDiagnoseModel" "plain" "[J") (List.mem_of_getElem? (i := 2) (by eq_refl))) (fun _ h9 => h9) rfl dX11_workPlain_18 ?_
        obtain ⟨w5, τ6, hc2, hf⟩ := fd_bds hf
        refine va_calll (va_runV (As := [.int y1, .ref (a 9)]) (rest := [.int y1, .ref (a 9)]) ⟨hx, hb, hml, hown, hts⟩ (m_X11_own_0_9 l D a k H.size hI N y1 σ _ hc2) (cwV 2 hts gX11_workPlain_X11_own rfl rfl rfl (by decide +kernel) ⟨Nat.le_of_ble_eq_true rfl, Nat.le_of_ble_eq_true rfl⟩) ⟨fd_blM, va_recv hK hP (ci := 11) (q0 := 0) rfl fd_WM_0, fd_prM hP hK⟩ rfl rfl hl.1 rfl (lv_room (Nat.le_of_ble_eq_true rfl)) dX11_workPlain_21 ⟨Nat.zero_le _, Nat.zero_le _⟩) hS (fun q _ h => fd_A_mono hS.1 h) (fun q h => fd_A_mono hS.1 h) (fun v3 u t H1 locs ht hvm hw hB hz hk hS => ?_)
        obtain ⟨hP1, hK1⟩ := hB
        rw [ht] at hP1
        obtain ⟨e1, e2⟩ := Prod.mk.inj hw
        subst e1
        subst e2
        obtain ⟨σ4, rfl⟩ : ∃ z, z = u := ⟨_, rfl⟩
        have hP := hP1
        generalize H1 = H at hP hS ⊢
        obtain ⟨g7, hf⟩ := fd_gds hf
        obtain ⟨σ8, eσ8, hf⟩ := fd_lts hf
        refine va_last hx hb hK hP (fd_DM hI hJ) hS 9 8 fd_WM_9 fd_tyM_9 g7 dX11_workPlain_24 (fun H locs hP _ hS => ?_)
        have hP : va_P D vwCl (fd_WM a k σ8) H := by rw [eσ8]; exact fd_sP fd_WMa_9 hP
        obtain ⟨x9, ex9, hf⟩ := fd_lts hf
        refine lv_iinc (v := x9) (lv' := [(1, .int x9), (0, .ref (a 0))]) hx hb dX11_workPlain_25 hl (k := 1) rfl (by rw [ex9]; rfl) (by decide) rfl (fun ls hl => ?_)
        refine lv_goto (tgt := 2) hx hb dX11_workPlain_28 (by decide) ?_
        exact ih x9 σ8 _ _ _ hP hS (lv_sub hl [1, 0] rfl) hf
  unfold f_X11_workPlain_0 at hf
  refine lv_iconst (v := (0 : Int32)) hx hb dX11_workPlain_0 (by decide) ?_
  refine lv_istore_n (lv' := [(1, .int (0 : Int32)), (0, .ref (a 0))]) hx hb dX11_workPlain_1 rfl hl (by decide) rfl (fun ls hl => ?_)
  exact hL2 N (0 : Int32) σ _ _ _ hP hS (lv_sub hl [1, 0] rfl) hf
noncomputable def f_X11_row_0_J17 (N : Nat) (y1 : Int32) (z1 : Int32) (σ : fd_St) : Option (Int64 × fd_St) := fd_lt (fd_sI 0 z1 σ) (fun σ7 => if (σ7.1 0) ≤ 0 then (fd_bd (f_X11_workPlain_0 N σ7) (fun _ σ11 => fd_gd (vp_in y1 200) (some (σ11.2.2 9 y1.toNatClampNeg, σ11)))) else (some ((0 : Int64), σ7)))
noncomputable def f_X11_row_0 (N : Nat) (p1 : Int32) (σ : fd_St) : Option (Int64 × fd_St) := fd_bd (f_X11_isIn N p1 (σ.1 1) σ) (fun v2 σ3 => if v2 = 0 then (f_X11_row_0_J17 N p1 (1 : Int32) σ3) else (f_X11_row_0_J17 N p1 (0 : Int32) σ3))
set_option maxHeartbeats 4000000 in
set_option maxRecDepth 100000 in
theorem m_X11_row_0 (l : Launch) (D : va_G) (a : Nat → Nat) (k : Nat → ClassId) (sz : Nat) (hI : fd_I 29 a) (N : Nat) (p1 : Int32) (σ : fd_St) (r : Int64 × fd_St) (hf : f_X11_row_0 N p1 σ = some r) : Met l yX11_row wsX11_row ({ frames := 3, cells := 0, slots := 0, locals := 69 }) (va_Pc [.ref (a 0), .int p1] (fd_PM D a k sz σ)) (va_Ql (fun v u => (v, u) = r) (fd_BM D a k) (fd_A 29 a sz)) 0 0 (fd_A 29 a sz) := by
  refine Met.ofW (cc := cX11_row) (maxL := 2) (ret := (some .long)) (by decide) rfl ?_
  intro p e s m args below meth c s₁ B hml hv
  obtain ⟨rfl, hsz, hP, hK⟩ := hv
  have hx := B.exec
  have hb := B.bytes
  have hr := B.returns
  have hts := atoms_spec (ws := wsX11_row) B.pre
  have hown : s.vm.findClass RX11 = some m.cls := findClass_of_methodNamed B.named
  have hlocks := B.notSynchronized
  subst hsz
  have hJ : ∀ i, i < 29 → fd_A 29 a s.heap.size (a i) := fun i hi => Or.inl ⟨i, hi, rfl⟩
  have hS : va_S (fd_A 29 a s.heap.size) s.heap s.heap [] := va_S.rf
  have hl := lv_entry ([.ref (a 0), .int p1]) (n := 2) (Nat.le_of_ble_eq_true rfl)
  rw [lg_entry_eq]
  generalize (lg_sl ([.ref (a 0), .int p1]) ++ List.replicate (2 - (lg_sl ([.ref (a 0), .int p1])).length) Slot.unset).toArray = ls at hl ⊢
  have hl : lv_has ls 2 [(0, .ref (a 0)), (1, .int p1)] := hl
  have h9X11 : ∀ w ∈ u_ws RX11 TX11 43, w ∈ wsX11_row := fd_su [29, 30, 31, 32, 33, 34, 35, 36, 37, 38, 39, 40, 41, 42, 43, 44, 45, 46, 47, 48, 49, 50, 51, 52, 53, 54, 55, 56, 57, 58, 59, 60, 61, 62, 63, 64, 65, 66, 67, 68, 69, 70, 71] (by eq_refl)
  have hL17 : ∀ (y1 : Int32) (z1 : Int32) (σ : fd_St) (H : Heap) (locs : List Loc) (ls : Array Slot), va_P D vwCl (fd_WM a k σ) H → va_S (fd_A 29 a s.heap.size) s.heap H locs → lv_has ls 2 [(0, .ref (a 0)), (1, .int y1)] → f_X11_row_0_J17 N y1 z1 σ = some r → W p l e ((headSpec wsX11_row ({ frames := 3, cells := 0, slots := 0, locals := 69 })).room) s m ([.ref (a 0), .int p1].toArray) below meth c H locs 0 0 (MQ below (va_Ql (fun v u => (v, u) = r) (fd_BM D a k) (fd_A 29 a s.heap.size)) ([.ref (a 0), .int p1].toArray) s 0 0 (fd_A 29 a s.heap.size)) (F0 m 17 ls [.int z1, .ref (a 0)]) := by
    intro y1 z1 σ H locs ls hP hS hl hf
    unfold f_X11_row_0_J17 at hf
    obtain ⟨σ7, eσ7, hf⟩ := fd_lts hf
    refine va_put (ci := 11) (v := .int z1) (ty := .int) (C := RX11) (T := TX11) (N := 43) hx hb hts h9X11 tyX11 tyX11_ok nmX11 hown hK hP (fd_DM hI hJ) hS 0 fd_WM_0 rfl 0 (by decide) (hts (.fieldLink RX11 99 "FailDiagnoseModel" "thrown" "I") (List.mem_of_getElem? (i := 2) (by eq_refl))) (fun _ h9 => h9) rfl (by decide +kernel) rfl rfl (Nat.le_of_ble_eq_true rfl) dX11_row_17 (fun H locs hP _ hS => ?_)
    have hP : va_P D vwCl (fd_WM a k σ7) H := by rw [eσ7]; exact fd_sP fd_WMi_0 hP
    refine lv_aload_n hx hb dX11_row_20 rfl (lv_at hl 0 rfl) ?_
    refine va_get (ci := 11) (v := .int (σ7.1 0)) (C := RX11) (T := TX11) (N := 43) hx hb hts h9X11 hown hK hP 0 fd_WM_0 rfl 0 (by decide) (hts (.fieldLink RX11 99 "FailDiagnoseModel" "thrown" "I") (List.mem_of_getElem? (i := 2) (by eq_refl))) (fun _ h9 => h9) rfl dX11_row_21 ?_
    refine lv_if_le (tgt := 29) hx hb dX11_row_24 (by decide) (fun c8 => ?_) (fun c8 => ?_)
    · have hf := fd_itp c8 hf
      refine lv_aload_n hx hb dX11_row_29 rfl (lv_at hl 0 rfl) ?_
      obtain ⟨w12, τ13, hc9, hf⟩ := fd_bds hf
      refine va_callv (va_runV (As := []) (rest := []) ⟨hx, hb, hml, hown, hts⟩ (m_X11_workPlain_0 l D a k H.size hI N σ7 _ hc9) (cwV 0 hts gX11_row_X11_workPlain rfl rfl rfl (by decide +kernel) ⟨Nat.le_of_ble_eq_true rfl, Nat.le_of_ble_eq_true rfl⟩) ⟨fd_blM, va_recv hK hP (ci := 11) (q0 := 0) rfl fd_WM_0, fd_prM hP hK⟩ rfl rfl hl.1 rfl (lv_room (Nat.le_of_ble_eq_true rfl)) dX11_row_30 ⟨Nat.zero_le _, Nat.zero_le _⟩) hS (fun q _ h => fd_A_mono hS.1 h) (fun q h => fd_A_mono hS.1 h) (fun u t H1 locs ht hvm hw hB hz hk hS => ?_)
      obtain ⟨hP1, hK1⟩ := hB
      rw [ht] at hP1
      have e2 := (Prod.mk.inj hw).2
      subst e2
      obtain ⟨σ11, rfl⟩ : ∃ z, z = u := ⟨_, rfl⟩
      have hP := hP1
      generalize H1 = H at hP hS ⊢
      refine lv_aload_n hx hb dX11_row_33 rfl (lv_at hl 0 rfl) ?_
      refine va_get (ci := 11) (v := .ref (a 9)) (C := RX11) (T := TX11) (N := 43) hx hb hts h9X11 hown hK hP 0 fd_WM_0 rfl 14 (by decide) (hts (.fieldLink RX11 35 "FailDiagnoseModel" "plain" "[J") (List.mem_of_getElem? (i := 3) (by eq_refl))) (fun _ h9 => h9) rfl dX11_row_34 ?_
      refine lv_iload_n hx hb dX11_row_37 rfl (lv_at hl 1 rfl) ?_
      obtain ⟨g14, hf⟩ := fd_gds hf
      refine va_lald hx hb hK hP 9 8 fd_WM_9 fd_tyM_9 g14 dX11_row_38 ?_
      exact W.lret (v := (σ11.2.2 9 y1.toNatClampNeg)) hx hb hr (fun t ht hW => ⟨⟨σ11.2.2 9 y1.toNatClampNeg, σ11, rfl, Option.some.inj hf, by rw [ht]; exact hP, va_K.moved hW.alike hK⟩, hS.F ht⟩) hS.2.2 dX11_row_39
    · have hf := fd_itn c8 hf
      refine lv_lconst (v := (0 : Int64)) hx hb dX11_row_27 (by decide) ?_
      exact W.lret (v := (0 : Int64)) hx hb hr (fun t ht hW => ⟨⟨(0 : Int64), σ7, rfl, Option.some.inj hf, by rw [ht]; exact hP, va_K.moved hW.alike hK⟩, hS.F ht⟩) hS.2.2 dX11_row_28
  unfold f_X11_row_0 at hf
  refine lv_aload_n hx hb dX11_row_0 rfl (lv_at hl 0 rfl) ?_
  refine lv_iload_n hx hb dX11_row_1 rfl (lv_at hl 1 rfl) ?_
  refine lv_aload_n hx hb dX11_row_2 rfl (lv_at hl 0 rfl) ?_
  refine va_get (ci := 11) (v := .int (σ.1 1)) (C := RX11) (T := TX11) (N := 43) hx hb hts h9X11 hown hK hP 0 fd_WM_0 rfl 1 (by decide) (hts (.fieldLink RX11 113 "FailDiagnoseModel" "nets" "I") (List.mem_of_getElem? (i := 1) (by eq_refl))) (fun _ h9 => h9) rfl dX11_row_3 ?_
  obtain ⟨w4, τ5, hc1, hf⟩ := fd_bds hf
  refine va_calli (va_runS (As := [.int p1, .int (σ.1 1)]) (rest := [.ref (a 0)]) ⟨hx, hb, hml, hown, hts⟩ (m_X11_isIn l D a k s.heap.size hI N p1 (σ.1 1) σ _ hc1) (va_cwS 2 hts gX11_row_X11_isIn rfl rfl rfl (by decide +kernel) ⟨Nat.le_of_ble_eq_true rfl, Nat.le_of_ble_eq_true rfl⟩) ⟨fd_blM, fd_prM hP hK⟩ rfl rfl hl.1 rfl (lv_room (Nat.le_of_ble_eq_true rfl)) dX11_row_6 ⟨Nat.zero_le _, Nat.zero_le _⟩) hS (fun q _ h => fd_A_mono hS.1 h) (fun q h => fd_A_mono hS.1 h) (fun v2 u t H1 locs ht hvm hw hB hz hk hS => ?_)
  obtain ⟨hP1, hK1⟩ := hB
  rw [ht] at hP1
  obtain ⟨e1, e2⟩ := Prod.mk.inj hw
  subst e1
  subst e2
  obtain ⟨σ3, rfl⟩ : ∃ z, z = u := ⟨_, rfl⟩
  have hP := hP1
  generalize H1 = H at hP hS ⊢
  refine lv_if_eq (tgt := 16) hx hb dX11_row_9 (by decide) (fun c6 => ?_) (fun c6 => ?_)
  · have hf := fd_itp c6 hf
    refine lv_iconst (v := (1 : Int32)) hx hb dX11_row_16 (by decide) ?_
    exact hL17 p1 (1 : Int32) σ3 _ _ _ hP hS (lv_sub hl [0, 1] rfl) hf
  · have hf := fd_itn c6 hf
    refine lv_iconst (v := (0 : Int32)) hx hb dX11_row_12 (by decide) ?_
    refine lv_goto (tgt := 17) hx hb dX11_row_13 (by decide) ?_
    exact hL17 p1 (0 : Int32) σ3 _ _ _ hP hS (lv_sub hl [0, 1] rfl) hf
noncomputable def f_X10_needOutput_0_J15 (N : Nat) (σ : fd_St) : Option ((Unit ⊕ String) × fd_St) := some (.inr "java/lang/IndexOutOfBoundsException", σ)
noncomputable def f_X10_needOutput_0 (N : Nat) (p1 : Int32) (σ : fd_St) : Option ((Unit ⊕ String) × fd_St) := if p1 < 0 then (f_X10_needOutput_0_J15 N σ) else (fd_bd (f_X5_size_2 N σ) (fun v4 σ5 => if p1 < v4 then (some (.inl (), σ5)) else (f_X10_needOutput_0_J15 N σ5)))
set_option maxHeartbeats 4000000 in
set_option maxRecDepth 100000 in
theorem m_X10_needOutput_0 (l : Launch) (hl9 : l.stackTraces = false) (D : va_G) (a : Nat → Nat) (k : Nat → ClassId) (sz : Nat) (hI : fd_I 39 a) (N : Nat) (p1 : Int32) (σ : fd_St) (r : (Unit ⊕ String) × fd_St) (hf : f_X10_needOutput_0 N p1 σ = some r) : vx_Met l yX10_needOutput wsX10_needOutput ({ frames := 6, cells := fd_mc r, slots := fd_ms r, locals := 90 }) (va_Pc [.ref (a 0), .int p1] (fd_PZ D a k sz σ)) (va_Qv (fun u => (Sum.inl (), u) = r) (fd_BC D a k) (fd_A 39 a sz)) (fd_X D a k (fd_A 39 a sz) r) (fd_mc r) (fd_ms r) (fd_A 39 a sz) := by
  refine vx_ofW (cc := cX10_needOutput) (maxL := 2) (ret := none) (by decide) rfl ?_
  intro p e s m args below meth c s₁ B hml hex hv
  obtain ⟨rfl, ⟨hsz, hP, hK⟩, hZ⟩ := hv
  have hx := B.exec
  have hb := B.bytes
  have hr := B.returns
  have hts := atoms_spec (ws := wsX10_needOutput) B.pre
  have hown : s.vm.findClass RX10 = some m.cls := findClass_of_methodNamed B.named
  have hlocks := B.notSynchronized
  subst hsz
  have hJ : ∀ i, i < 39 → fd_A 39 a s.heap.size (a i) := fun i hi => Or.inl ⟨i, hi, rfl⟩
  have hS : va_S (fd_A 39 a s.heap.size) s.heap s.heap [] := va_S.rf
  have hl := lv_entry ([.ref (a 0), .int p1]) (n := 2) (Nat.le_of_ble_eq_true rfl)
  rw [lg_entry_eq]
  generalize (lg_sl ([.ref (a 0), .int p1]) ++ List.replicate (2 - (lg_sl ([.ref (a 0), .int p1])).length) Slot.unset).toArray = ls at hl ⊢
  have hl : lv_has ls 2 [(0, .ref (a 0)), (1, .int p1)] := hl
  have h9X10 : ∀ w ∈ u_ws RX10 TX10 8, w ∈ wsX10_needOutput := fd_su [10, 11, 12, 13, 14, 15, 16, 17] (by eq_refl)
  have hL15 : ∀ (σ : fd_St) (H : Heap) (locs : List Loc) (ls : Array Slot), va_P D vwCl (fd_WC a k σ) H → va_S (fd_A 39 a s.heap.size) s.heap H locs → lv_has ls 2 [] → f_X10_needOutput_0_J15 N σ = some r → W p l e ((headSpec wsX10_needOutput ({ frames := 6, cells := fd_mc r, slots := fd_ms r, locals := 90 })).room) s m ([.ref (a 0), .int p1].toArray) below meth c H locs 0 0 (vx_MQ below (va_Qv (fun u => (Sum.inl (), u) = r) (fd_BC D a k) (fd_A 39 a s.heap.size)) (fd_X D a k (fd_A 39 a s.heap.size) r) ([.ref (a 0), .int p1].toArray) s (fd_mc r) (fd_ms r) (fd_A 39 a s.heap.size)) (F0 m 15 ls []) := by
    intro σ H locs ls hP hS hl hf
    unfold f_X10_needOutput_0_J15 at hf
    have e2 := Option.some.inj hf
    subst e2
    obtain ⟨sa, hsa⟩ := hZ.str 259 "no such output" (by decide +kernel)
    exact vx_throwSW (own := RX10) (cls := "java/lang/IndexOutOfBoundsException") (names := ["java/lang/RuntimeException", "java/lang/Exception"]) hx hb hl9 hown fd_ex_114_118_f fd_ex_n (hts (.classLink RX10 114 "java/lang/IndexOutOfBoundsException") (List.mem_of_getElem? (i := 1) (by eq_refl))) (hts (.initialized "java/lang/IndexOutOfBoundsException") (List.mem_of_getElem? (i := 2) (by eq_refl))) hsa (vx_hat (L := vx_atS RX10 118 "java/lang/IndexOutOfBoundsException" ["java/lang/RuntimeException", "java/lang/Exception"]) (B := fd_bad "java/lang/IndexOutOfBoundsException") (fun w hw => hts w ((fun w h => List.mem_cons_of_mem _ (List.mem_append_right _ h) : ∀ w ∈ (vx_atS RX10 118 "java/lang/IndexOutOfBoundsException" ["java/lang/RuntimeException", "java/lang/Exception"]).filter goodWord, w ∈ wsX10_needOutput) w hw)) fd_ex_114_118_b (hZ.bad "java/lang/IndexOutOfBoundsException" fd_ex_114_118_e)) fd_ex_114_118_g hZ.un hZ.su hS (hl.1.trans hml.symm) dX10_needOutput_15 dX10_needOutput_18 dX10_needOutput_19 dX10_needOutput_22 dX10_needOutput_25 (fun x hx => (hex x hx).elim) (Nat.le_of_ble_eq_true rfl) (Nat.le_of_ble_eq_true rfl) (Nat.le_of_ble_eq_true rfl) (Nat.le_of_ble_eq_true rfl) hlocks (fun t ha hsz hk => ⟨σ, trivial, ⟨rfl, hP.kept (fun k q hq => hk q.1 (hP k q hq).lt), va_K.moved ha hK⟩, Nat.le_trans hS.1 hsz, fun q h1 h2 => (hk q (Nat.lt_of_lt_of_le h1 hS.1)).trans (hS.2.1 q h1 h2)⟩) hS.2.2 (Nat.le_of_ble_eq_true rfl) (Nat.le_of_ble_eq_true rfl)
  unfold f_X10_needOutput_0 at hf
  refine lv_iload_n hx hb dX10_needOutput_0 rfl (lv_at hl 1 rfl) ?_
  refine lv_if_lt (tgt := 15) hx hb dX10_needOutput_1 (by decide) (fun c1 => ?_) (fun c1 => ?_)
  · have hf := fd_itp c1 hf
    exact hL15 σ _ _ _ hP hS (lv_sub hl [] rfl) hf
  · have hf := fd_itn c1 hf
    refine lv_iload_n hx hb dX10_needOutput_4 rfl (lv_at hl 1 rfl) ?_
    refine lv_aload_n hx hb dX10_needOutput_5 rfl (lv_at hl 0 rfl) ?_
    refine va_get (ci := 10) (v := .ref (a 2)) (C := RX10) (T := TX10) (N := 8) hx hb hts h9X10 hown hK hP 0 fd_WC_0 rfl 1 (by decide) (hts (.fieldLink RX10 19 "FailDiagnose" "outputs" "LFailDiagnose$Outputs;") (List.mem_of_getElem? (i := 3) (by eq_refl))) (fun _ h9 => h9) rfl dX10_needOutput_6 ?_
    obtain ⟨w6, τ7, hc3, hf⟩ := fd_bds hf
    refine va_calli (va_runV (As := []) (rest := [.int p1]) ⟨hx, hb, hml, hown, hts⟩ (m_X5_size_2 l D a k s.heap.size hI N σ _ hc3) (cwV 0 hts gX10_needOutput_X5_size rfl rfl rfl (by decide +kernel) ⟨Nat.le_of_ble_eq_true rfl, Nat.le_of_ble_eq_true rfl⟩) ⟨fd_blC, va_recv hK hP (ci := 5) (q0 := 2) rfl fd_WC_2, fd_prC hP hK⟩ rfl rfl hl.1 rfl (lv_room (Nat.le_of_ble_eq_true rfl)) dX10_needOutput_9 ⟨Nat.zero_le _, Nat.zero_le _⟩) hS (fun q _ h => fd_A_mono hS.1 h) (fun q h => fd_A_mono hS.1 h) (fun v4 u t H1 locs ht hvm hw hB hz hk hS => ?_)
    obtain ⟨hP1, hK1⟩ := hB
    rw [ht] at hP1
    obtain ⟨e1, e2⟩ := Prod.mk.inj hw
    subst e1
    subst e2
    obtain ⟨σ5, rfl⟩ : ∃ z, z = u := ⟨_, rfl⟩
    have hP := hP1
    generalize H1 = H at hP hS ⊢
    refine lv_icmp_lt (tgt := 26) hx hb dX10_needOutput_12 (by decide) (fun c8 => ?_) (fun c8 => ?_)
    · have hf := fd_itp c8 hf
      refine vx_ret (W.widen (k := fd_mc r) (n := fd_ms r) (Nat.zero_le _) (Nat.zero_le _) ?_)
      exact W.vret hx hb hr (fun t ht hW => ⟨⟨σ5, rfl, Option.some.inj hf, by rw [ht]; exact hP, va_K.moved hW.alike hK⟩, hS.F ht⟩) hS.2.2 dX10_needOutput_26
    · have hf := fd_itn c8 hf
      exact hL15 σ5 _ _ _ hP hS (lv_sub hl [] rfl) hf
noncomputable def f_X5_putFails_2 (N : Nat) (p1 : Int32) (p2 : Int64) (σ : fd_St) : Option (Int64 × fd_St) := fd_gd (vp_in p1 32) (fd_lt (σ.2.2 19 p1.toNatClampNeg) (fun x2 => fd_gd (vp_in p1 32) (fd_lt (fd_sL 19 p1 p2 σ) (fun σ4 => some (x2, σ4)))))
set_option maxHeartbeats 4000000 in
set_option maxRecDepth 100000 in
theorem m_X5_putFails_2 (l : Launch) (D : va_G) (a : Nat → Nat) (k : Nat → ClassId) (sz : Nat) (hI : fd_I 39 a) (N : Nat) (p1 : Int32) (p2 : Int64) (σ : fd_St) (r : Int64 × fd_St) (hf : f_X5_putFails_2 N p1 p2 σ = some r) : Met l yX5_putFails wsX5_putFails ({ frames := 0, cells := 0, slots := 0, locals := 0 }) (va_Pc [.ref (a 2), .int p1, .long p2] (fd_PC D a k sz σ)) (va_Ql (fun v u => (v, u) = r) (fd_BC D a k) (fd_A 39 a sz)) 0 0 (fd_A 39 a sz) := by
  refine Met.ofW (cc := cX5_putFails) (maxL := 6) (ret := (some .long)) (by decide) rfl ?_
  intro p e s m args below meth c s₁ B hml hv
  obtain ⟨rfl, hsz, hP, hK⟩ := hv
  have hx := B.exec
  have hb := B.bytes
  have hr := B.returns
  have hts := atoms_spec (ws := wsX5_putFails) B.pre
  have hown : s.vm.findClass RX5 = some m.cls := findClass_of_methodNamed B.named
  have hlocks := B.notSynchronized
  subst hsz
  have hJ : ∀ i, i < 39 → fd_A 39 a s.heap.size (a i) := fun i hi => Or.inl ⟨i, hi, rfl⟩
  have hS : va_S (fd_A 39 a s.heap.size) s.heap s.heap [] := va_S.rf
  have hl := lv_entry ([.ref (a 2), .int p1, .long p2]) (n := 6) (Nat.le_of_ble_eq_true rfl)
  rw [lg_entry_eq]
  generalize (lg_sl ([.ref (a 2), .int p1, .long p2]) ++ List.replicate (6 - (lg_sl ([.ref (a 2), .int p1, .long p2])).length) Slot.unset).toArray = ls at hl ⊢
  have hl : lv_has ls 6 [(0, .ref (a 2)), (1, .int p1), (2, .long p2)] := hl
  have h9X5 : ∀ w ∈ u_ws RX5 TX5 3, w ∈ wsX5_putFails := fd_su [2, 3, 4] (by eq_refl)
  unfold f_X5_putFails_2 at hf
  refine lv_aload_n hx hb dX5_putFails_0 rfl (lv_at hl 0 rfl) ?_
  refine va_get (ci := 5) (v := .ref (a 19)) (C := RX5) (T := TX5) (N := 3) hx hb hts h9X5 hown hK hP 2 fd_WC_2 rfl 1 (by decide) (hts (.fieldLink RX5 15 "FailDiagnose$Outputs" "fails" "[J") (List.mem_of_getElem? (i := 1) (by eq_refl))) (fun _ h9 => h9) rfl dX5_putFails_1 ?_
  refine lv_iload_n hx hb dX5_putFails_4 rfl (lv_at hl 1 rfl) ?_
  obtain ⟨g1, hf⟩ := fd_gds hf
  refine va_lald hx hb hK hP 19 7 fd_WC_19 fd_tyC_19 g1 dX5_putFails_5 ?_
  obtain ⟨x2, ex2, hf⟩ := fd_lts hf
  refine fd_nl ex2 ?_
  refine lv_lstore (lv' := [(4, .long x2), (0, .ref (a 2)), (1, .int p1), (2, .long p2)]) hx hb dX5_putFails_6 hl (by decide) rfl (fun ls hl => ?_)
  refine lv_aload_n hx hb dX5_putFails_8 rfl (lv_at hl 1 rfl) ?_
  refine va_get (ci := 5) (v := .ref (a 19)) (C := RX5) (T := TX5) (N := 3) hx hb hts h9X5 hown hK hP 2 fd_WC_2 rfl 1 (by decide) (hts (.fieldLink RX5 15 "FailDiagnose$Outputs" "fails" "[J") (List.mem_of_getElem? (i := 1) (by eq_refl))) (fun _ h9 => h9) rfl dX5_putFails_9 ?_
  refine lv_iload_n hx hb dX5_putFails_12 rfl (lv_at hl 2 rfl) ?_
  refine lv_lload_n hx hb dX5_putFails_13 rfl (lv_at hl 3 rfl) ?_
  obtain ⟨g3, hf⟩ := fd_gds hf
  obtain ⟨σ4, eσ4, hf⟩ := fd_lts hf
  refine va_last hx hb hK hP (fd_DC hI hJ) hS 19 7 fd_WC_19 fd_tyC_19 g3 dX5_putFails_14 (fun H locs hP _ hS => ?_)
  have hP : va_P D vwCl (fd_WC a k σ4) H := by rw [eσ4]; exact fd_sP fd_WCa_19 hP
  refine lv_lload hx hb dX5_putFails_15 (lv_at hl 0 rfl) ?_
  exact W.lret (v := x2) hx hb hr (fun t ht hW => ⟨⟨x2, σ4, rfl, Option.some.inj hf, by rw [ht]; exact hP, va_K.moved hW.alike hK⟩, hS.F ht⟩) hS.2.2 dX5_putFails_17
noncomputable def f_X10_fail_0 (N : Nat) (p1 : Int32) (p2 : Int64) (σ : fd_St) : Option ((Int64 ⊕ String) × fd_St) := fd_bx (f_X10_needOutput_0 N p1 σ) (fun _ σ3 => fd_lt (fd_sI 0 (0 : Int32) σ3) (fun σ7 => fd_bd (f_X5_putFails_2 N p1 p2 σ7) (fun v9 σ10 => some (.inl v9, σ10)))) (fun E τ => some (.inr E, τ))
set_option maxHeartbeats 4000000 in
set_option maxRecDepth 100000 in
theorem m_X10_fail_0 (l : Launch) (hl9 : l.stackTraces = false) (D : va_G) (a : Nat → Nat) (k : Nat → ClassId) (sz : Nat) (hI : fd_I 39 a) (N : Nat) (p1 : Int32) (p2 : Int64) (σ : fd_St) (r : (Int64 ⊕ String) × fd_St) (hf : f_X10_fail_0 N p1 p2 σ = some r) : vx_Met l yX10_fail wsX10_fail ({ frames := 7, cells := fd_mc r, slots := fd_ms r, locals := 111 }) (va_Pc [.ref (a 0), .int p1, .long p2] (fd_PZ D a k sz σ)) (va_Ql (fun v u => (Sum.inl v, u) = r) (fd_BC D a k) (fd_A 39 a sz)) (fd_X D a k (fd_A 39 a sz) r) (fd_mc r) (fd_ms r) (fd_A 39 a sz) := by
  refine vx_ofW (cc := cX10_fail) (maxL := 4) (ret := (some .long)) (by decide) rfl ?_
  intro p e s m args below meth c s₁ B hml hex hv
  obtain ⟨rfl, ⟨hsz, hP, hK⟩, hZ⟩ := hv
  have hx := B.exec
  have hb := B.bytes
  have hr := B.returns
  have hts := atoms_spec (ws := wsX10_fail) B.pre
  have hown : s.vm.findClass RX10 = some m.cls := findClass_of_methodNamed B.named
  have hlocks := B.notSynchronized
  subst hsz
  have hJ : ∀ i, i < 39 → fd_A 39 a s.heap.size (a i) := fun i hi => Or.inl ⟨i, hi, rfl⟩
  have hS : va_S (fd_A 39 a s.heap.size) s.heap s.heap [] := va_S.rf
  have hl := lv_entry ([.ref (a 0), .int p1, .long p2]) (n := 4) (Nat.le_of_ble_eq_true rfl)
  rw [lg_entry_eq]
  generalize (lg_sl ([.ref (a 0), .int p1, .long p2]) ++ List.replicate (4 - (lg_sl ([.ref (a 0), .int p1, .long p2])).length) Slot.unset).toArray = ls at hl ⊢
  have hl : lv_has ls 4 [(0, .ref (a 0)), (1, .int p1), (2, .long p2)] := hl
  have h9X10 : ∀ w ∈ u_ws RX10 TX10 8, w ∈ wsX10_fail := fd_su [21, 22, 23, 24, 25, 26, 27, 28] (by eq_refl)
  unfold f_X10_fail_0 at hf
  refine lv_aload_n hx hb dX10_fail_0 rfl (lv_at hl 0 rfl) ?_
  refine lv_iload_n hx hb dX10_fail_1 rfl (lv_at hl 1 rfl) ?_
  rcases fd_bxs hf with ⟨w4, τ5, hc1, hf⟩ | ⟨E6, τ5, hc1, hf⟩
  · refine vx_callv (vx_runV (As := [.int p1]) (rest := []) ⟨hx, hb, hml, hown, hts⟩ (m_X10_needOutput_0 l hl9 D a k s.heap.size hI N p1 σ _ hc1) (cwV 1 hts gX10_fail_X10_needOutput rfl rfl rfl (by decide +kernel) ⟨Nat.le_of_ble_eq_true rfl, Nat.le_of_ble_eq_true rfl⟩) ⟨fd_blZ, va_recv hK hP (ci := 10) (q0 := 0) rfl fd_WC_0, fd_prZ hP hK hZ hS⟩ rfl rfl hl.1 rfl (lv_room (Nat.le_of_ble_eq_true rfl)) dX10_fail_2 ⟨Nat.zero_le _, Nat.zero_le _⟩) hS (fun q _ h => fd_A_mono hS.1 h) (fun q h => fd_A_mono hS.1 h) (fun q _ h => fd_A_mono hS.1 h) (fun E ce q9 u t H1 locs1 ht hvm hp hB => ?_) (fun u t H1 locs ht hvm hw hB hz hk hS => ?_)
    · exact absurd hB.1 (by simp)
    obtain ⟨hP1, hK1⟩ := hB
    rw [ht] at hP1
    have e2 := (Prod.mk.inj hw).2
    subst e2
    obtain ⟨σ3, rfl⟩ : ∃ z, z = u := ⟨_, rfl⟩
    have hP := hP1
    generalize H1 = H at hP hS ⊢
    refine W.cs (cells' := 0) (slots' := 0) rfl rfl ?_
    refine lv_aload_n hx hb dX10_fail_5 rfl (lv_at hl 0 rfl) ?_
    refine lv_iconst (v := (0 : Int32)) hx hb dX10_fail_6 (by decide) ?_
    obtain ⟨σ7, eσ7, hf⟩ := fd_lts hf
    refine va_put (ci := 10) (v := .int (0 : Int32)) (ty := .boolean) (C := RX10) (T := TX10) (N := 8) hx hb hts h9X10 tyX10 tyX10_ok nmX10 hown hK hP (fd_DC hI hJ) hS 0 fd_WC_0 rfl 7 (by decide) (hts (.fieldLink RX10 60 "FailDiagnose" "told" "Z") (List.mem_of_getElem? (i := 1) (by eq_refl))) (fun _ h9 => h9) rfl (by decide +kernel) rfl rfl (Nat.le_of_ble_eq_true rfl) dX10_fail_7 (fun H locs hP _ hS => ?_)
    have hP : va_P D vwCl (fd_WC a k σ7) H := by rw [eσ7]; exact fd_sP fd_WCi_0 hP
    refine lv_aload_n hx hb dX10_fail_10 rfl (lv_at hl 0 rfl) ?_
    refine va_get (ci := 10) (v := .ref (a 2)) (C := RX10) (T := TX10) (N := 8) hx hb hts h9X10 hown hK hP 0 fd_WC_0 rfl 1 (by decide) (hts (.fieldLink RX10 19 "FailDiagnose" "outputs" "LFailDiagnose$Outputs;") (List.mem_of_getElem? (i := 2) (by eq_refl))) (fun _ h9 => h9) rfl dX10_fail_11 ?_
    refine lv_iload_n hx hb dX10_fail_14 rfl (lv_at hl 1 rfl) ?_
    refine lv_lload_n hx hb dX10_fail_15 rfl (lv_at hl 2 rfl) ?_
    obtain ⟨w11, τ12, hc8, hf⟩ := fd_bds hf
    refine va_calll (va_runV (As := [.int p1, .long p2]) (rest := []) ⟨hx, hb, hml, hown, hts⟩ (m_X5_putFails_2 l D a k H.size hI N p1 p2 σ7 _ hc8) (cwV 2 hts gX10_fail_X5_putFails rfl rfl rfl (by decide +kernel) ⟨Nat.le_of_ble_eq_true rfl, Nat.le_of_ble_eq_true rfl⟩) ⟨fd_blC, va_recv hK hP (ci := 5) (q0 := 2) rfl fd_WC_2, fd_prC hP hK⟩ rfl rfl hl.1 rfl (lv_room (Nat.le_of_ble_eq_true rfl)) dX10_fail_16 ⟨Nat.zero_le _, Nat.zero_le _⟩) hS (fun q _ h => fd_A_mono hS.1 h) (fun q h => fd_A_mono hS.1 h) (fun v9 u t H1 locs ht hvm hw hB hz hk hS => ?_)
    obtain ⟨hP1, hK1⟩ := hB
    rw [ht] at hP1
    obtain ⟨e1, e2⟩ := Prod.mk.inj hw
    subst e1
    subst e2
    obtain ⟨σ10, rfl⟩ : ∃ z, z = u := ⟨_, rfl⟩
    have hP := hP1
    generalize H1 = H at hP hS ⊢
    refine vx_ret (W.widen (k := fd_mc r) (n := fd_ms r) (Nat.zero_le _) (Nat.zero_le _) ?_)
    exact W.lret (v := v9) hx hb hr (fun t ht hW => ⟨⟨v9, σ10, rfl, Option.some.inj hf, by rw [ht]; exact hP, va_K.moved hW.alike hK⟩, hS.F ht⟩) hS.2.2 dX10_fail_19
  · have er := Option.some.inj hf
    subst er
    refine vx_callv (vx_runV (As := [.int p1]) (rest := []) ⟨hx, hb, hml, hown, hts⟩ (m_X10_needOutput_0 l hl9 D a k s.heap.size hI N p1 σ _ hc1) (cwV 1 hts gX10_fail_X10_needOutput rfl rfl rfl (by decide +kernel) ⟨Nat.le_of_ble_eq_true rfl, Nat.le_of_ble_eq_true rfl⟩) ⟨fd_blZ, va_recv hK hP (ci := 10) (q0 := 0) rfl fd_WC_0, fd_prZ hP hK hZ hS⟩ rfl rfl hl.1 rfl (lv_room (Nat.le_of_ble_eq_true rfl)) dX10_fail_2 ⟨Nat.le_of_ble_eq_true rfl, Nat.le_of_ble_eq_true rfl⟩) hS (fun q _ h => fd_A_mono hS.1 h) (fun q h => fd_A_mono hS.1 h) (fun q _ h => fd_A_mono hS.1 h) (fun E ce q9 u t H1 locs1 ht hvm hp hB hz hk hS hce hcv hcl => ?_) (fun u t H1 locs ht hvm hw hB hz hk hS => ?_)
    · obtain ⟨hB0, hP1, hK1⟩ := hB
      rw [ht] at hP1
      exact vx_out (E := E) (fun x hx => (hex x hx).elim) hlocks hce hcv hcl (fun t ht ha => ⟨u, trivial, ⟨fd_inr hB0, by rw [ht]; exact hP1, va_K.moved ha hK⟩, hS.F ht⟩) hS.2.2 (Nat.le_of_ble_eq_true rfl) (Nat.le_of_ble_eq_true rfl)
    · exact absurd hw (by simp)
noncomputable def f_L_fail_0_39 (N : Nat) (p1 : Int32) (p2 : Int64) (σ : fd_St) : Option (Int32 × fd_St) := fd_bx (f_X10_fail_0 N p1 p2 σ) (fun v2 τ => fd_lt (fd_mix τ σ) (fun σ6 => fd_gd (vp_in (0 : Int32) 1) (fd_lt (fd_sL 39 (0 : Int32) v2 σ6) (fun σ9 => some ((0 : Int32), σ9))))) (fun E τ => if E = "java/lang/IndexOutOfBoundsException" then (fd_lt (fd_mix τ σ) (fun σ11 => some ((1 : Int32), σ11))) else (none))
set_option maxHeartbeats 4000000 in
set_option maxRecDepth 100000 in
theorem m_L_fail_0_39 (l : Launch) (hl9 : l.stackTraces = false) (D : va_G) (a : Nat → Nat) (k : Nat → ClassId) (sz : Nat) (hI : fd_I 40 a) (N : Nat) (p1 : Int32) (p2 : Int64) (σ : fd_St) (r : Int32 × fd_St) (hf : f_L_fail_0_39 N p1 p2 σ = some r) : Met l yL_fail wsL_fail ({ frames := 8, cells := 1, slots := 6, locals := 134 }) (va_Pc [.ref (a 0), .int p1, .long p2, .ref (a 39)] (fd_PH D a k sz σ)) (va_Qi (fun v u => (v, u) = r) (fd_BH D a k) (fd_A 40 a sz)) 1 6 (fd_A 40 a sz) := by
  refine fd_ofWT (cc := cL_fail) (maxL := 6) (ret := (some .int)) (by decide) rfl ?_
  intro p e s m args below meth c s₁ B hml hTab hv
  obtain ⟨rfl, hsz, hP, hK, hZ⟩ := hv
  have hx := B.exec
  have hb := B.bytes
  have hr := B.returns
  have hts := atoms_spec (ws := wsL_fail) B.pre
  have hown : s.vm.findClass RL = some m.cls := findClass_of_methodNamed B.named
  have hlocks := B.notSynchronized
  subst hsz
  have hJ : ∀ i, i < 40 → fd_A 40 a s.heap.size (a i) := fun i hi => Or.inl ⟨i, hi, rfl⟩
  have hS : va_S (fd_A 40 a s.heap.size) s.heap s.heap [] := va_S.rf
  have hl := lv_entry ([.ref (a 0), .int p1, .long p2, .ref (a 39)]) (n := 6) (Nat.le_of_ble_eq_true rfl)
  rw [lg_entry_eq]
  generalize (lg_sl ([.ref (a 0), .int p1, .long p2, .ref (a 39)]) ++ List.replicate (6 - (lg_sl ([.ref (a 0), .int p1, .long p2, .ref (a 39)])).length) Slot.unset).toArray = ls at hl ⊢
  have hl : lv_has ls 6 [(0, .ref (a 0)), (1, .int p1), (2, .long p2), (4, .ref (a 39))] := hl
  unfold f_L_fail_0_39 at hf
  refine lv_aload hx hb dL_fail_0 (lv_at hl 3 rfl) ?_
  refine lv_iconst (v := (0 : Int32)) hx hb dL_fail_2 (by decide) ?_
  refine lv_aload_n hx hb dL_fail_3 rfl (lv_at hl 0 rfl) ?_
  refine lv_iload_n hx hb dL_fail_4 rfl (lv_at hl 1 rfl) ?_
  refine lv_lload_n hx hb dL_fail_5 rfl (lv_at hl 2 rfl) ?_
  rcases fd_bxs hf with ⟨w3, τ4, hc1, hf⟩ | ⟨E5, τ4, hc1, hf⟩
  · refine vx_calll (vx_runV (As := [.int p1, .long p2]) (rest := [.int (0 : Int32), .ref (a 39)]) ⟨hx, hb, hml, hown, hts⟩ (m_X10_fail_0 l hl9 D a k s.heap.size (fd_I40 hI) N p1 p2 σ _ hc1) (cwV 2 hts gL_fail_X10_fail rfl rfl rfl (by decide +kernel) ⟨Nat.le_of_ble_eq_true rfl, Nat.le_of_ble_eq_true rfl⟩) ⟨fd_blZ, va_recv (fd_HK hK) (fd_HC hP) (ci := 10) (q0 := 0) rfl fd_WC_0, fd_prHZ hP hK hZ hS⟩ rfl rfl hl.1 rfl (lv_room (Nat.le_of_ble_eq_true rfl)) dL_fail_6 ⟨(Nat.zero_le _), (Nat.zero_le _)⟩) hS (fun q _ h => fd_A_sub hS.1 h) (fun q h => fd_A_sub hS.1 h) (fun q _ h => fd_A_sub hS.1 h) (fun E ce q9 u t H1 locs1 ht hvm hp hB => ?_) (fun v2 u t H1 locs ht hvm hw hB hz hk hS => ?_)
    · exact absurd hB.1 (by simp)
    obtain ⟨hP1, hK1⟩ := hB
    rw [ht] at hP1
    obtain ⟨e1, e2⟩ := Prod.mk.inj hw
    obtain e1 := Sum.inl.inj e1
    subst e1
    subst e2
    obtain ⟨σ6, eσ6, hf⟩ := fd_lts hf
    have hP : va_P D vwCl (fd_WH a k σ6) H1 := by rw [eσ6]; exact fd_HJ hI hP hP1 hk
    generalize H1 = H at hP hS ⊢
    refine W.cs (cells' := 0) (slots' := 0) rfl rfl ?_
    obtain ⟨g8, hf⟩ := fd_gds hf
    obtain ⟨σ9, eσ9, hf⟩ := fd_lts hf
    refine va_last hx hb hK hP (fd_DH hI hJ) hS 39 27 fd_WH_39 fd_tyH_39 g8 dL_fail_9 (fun H locs hP _ hS => ?_)
    have hP : va_P D vwCl (fd_WH a k σ9) H := by rw [eσ9]; exact fd_sP fd_WHa_39 hP
    refine lv_goto (tgt := 17) hx hb dL_fail_10 (by decide) ?_
    refine lv_iconst (v := (0 : Int32)) hx hb dL_fail_17 (by decide) ?_
    refine W.widen (k := 1) (n := 6) (Nat.le_of_ble_eq_true rfl) (Nat.le_of_ble_eq_true rfl) ?_
    exact W.iret (v := (0 : Int32)) hx hb hr (fun t ht hW => ⟨⟨(0 : Int32), σ9, rfl, Option.some.inj hf, by rw [ht]; exact hP, va_K.moved hW.alike hK⟩, hS.F ht⟩) hS.2.2 dL_fail_18
  · have hE := hf
    by_cases c10 : E5 = "java/lang/IndexOutOfBoundsException"
    · subst c10
      have hf := fd_itp rfl hf
      refine vx_calll (vx_runV (As := [.int p1, .long p2]) (rest := [.int (0 : Int32), .ref (a 39)]) ⟨hx, hb, hml, hown, hts⟩ (m_X10_fail_0 l hl9 D a k s.heap.size (fd_I40 hI) N p1 p2 σ _ hc1) (cwV 2 hts gL_fail_X10_fail rfl rfl rfl (by decide +kernel) ⟨Nat.le_of_ble_eq_true rfl, Nat.le_of_ble_eq_true rfl⟩) ⟨fd_blZ, va_recv (fd_HK hK) (fd_HC hP) (ci := 10) (q0 := 0) rfl fd_WC_0, fd_prHZ hP hK hZ hS⟩ rfl rfl hl.1 rfl (lv_room (Nat.le_of_ble_eq_true rfl)) dL_fail_6 ⟨Nat.le_of_ble_eq_true rfl, Nat.le_of_ble_eq_true rfl⟩) hS (fun q _ h => fd_A_sub hS.1 h) (fun q h => fd_A_sub hS.1 h) (fun q _ h => fd_A_sub hS.1 h) (fun E ce q9 u t H1 locs1 ht hvm hp hB hz hk hS hce hcv hcl => ?_) (fun v2 u t H1 locs ht hvm hw hB hz hk hS => ?_)
      · obtain ⟨hB0, hP1, hK1⟩ := hB
        rw [ht] at hP1
        obtain ⟨e1, e2⟩ := Prod.mk.inj hB0
        obtain e1 := Sum.inr.inj e1
        subst e1
        subst e2
        obtain ⟨σ11, eσ11, hf⟩ := fd_lts hf
        have hP : va_P D vwCl (fd_WH a k σ11) H1 := by rw [eσ11]; exact fd_HJ hI hP hP1 hk
        refine fd_catch (own := RL) (name := "java/lang/IndexOutOfBoundsException") (E := "java/lang/IndexOutOfBoundsException") hown [] ⟨0, 10, 13, 19⟩ [] (by rw [hTab]; rfl) (fun z hz => nomatch hz) (by decide) (by decide) (hts (.classLink RL 19 "java/lang/IndexOutOfBoundsException") (List.mem_of_getElem? (i := 1) (by eq_refl))) (hZ.cast "java/lang/IndexOutOfBoundsException" (by decide +kernel)) hce hcv hcl ?_
        refine W.cs (cells' := 1) (slots' := 6) rfl rfl ?_
        refine lv_astore (lv' := [(5, .ref q9), (0, .ref (a 0)), (1, .int p1), (2, .long p2), (4, .ref (a 39))]) hx hb dL_fail_13 hl (by decide) rfl (fun ls hl => ?_)
        refine lv_iconst (v := (1 : Int32)) hx hb dL_fail_15 (by decide) ?_
        refine W.widen (k := 1) (n := 6) (Nat.le_of_ble_eq_true rfl) (Nat.le_of_ble_eq_true rfl) ?_
        exact W.iret (v := (1 : Int32)) hx hb hr (fun t ht hW => ⟨⟨(1 : Int32), σ11, rfl, Option.some.inj hf, by rw [ht]; exact hP, va_K.moved hW.alike hK⟩, hS.F ht⟩) hS.2.2 dL_fail_16
      · exact absurd hw (by simp)
    have hf := fd_itn c10 hf
    cases hf
noncomputable def f_X11_fail_0_J17 (N : Nat) (y1 : Int32) (y2 : Int64) (z1 : Int32) (σ : fd_St) : Option (Int64 × fd_St) := fd_lt (fd_sI 0 z1 σ) (fun σ7 => if (σ7.1 0) ≤ 0 then (fd_gd (vp_in y1 32) (fd_lt (σ7.2.2 6 y1.toNatClampNeg) (fun x10 => fd_gd (vp_in y1 32) (fd_lt (fd_sL 6 y1 y2 σ7) (fun σ12 => fd_bd (f_X11_changed_0 N σ12) (fun _ σ15 => some (x10, σ15))))))) else (some ((0 : Int64), σ7)))
noncomputable def f_X11_fail_0 (N : Nat) (p1 : Int32) (p2 : Int64) (σ : fd_St) : Option (Int64 × fd_St) := fd_bd (f_X11_isIn N p1 (σ.1 3) σ) (fun v2 σ3 => if v2 = 0 then (f_X11_fail_0_J17 N p1 p2 (1 : Int32) σ3) else (f_X11_fail_0_J17 N p1 p2 (0 : Int32) σ3))
set_option maxHeartbeats 4000000 in
set_option maxRecDepth 100000 in
theorem m_X11_fail_0 (l : Launch) (D : va_G) (a : Nat → Nat) (k : Nat → ClassId) (sz : Nat) (hI : fd_I 29 a) (N : Nat) (p1 : Int32) (p2 : Int64) (σ : fd_St) (r : Int64 × fd_St) (hf : f_X11_fail_0 N p1 p2 σ = some r) : Met l yX11_fail wsX11_fail ({ frames := 1, cells := 0, slots := 0, locals := 21 }) (va_Pc [.ref (a 0), .int p1, .long p2] (fd_PM D a k sz σ)) (va_Ql (fun v u => (v, u) = r) (fd_BM D a k) (fd_A 29 a sz)) 0 0 (fd_A 29 a sz) := by
  refine Met.ofW (cc := cX11_fail) (maxL := 6) (ret := (some .long)) (by decide) rfl ?_
  intro p e s m args below meth c s₁ B hml hv
  obtain ⟨rfl, hsz, hP, hK⟩ := hv
  have hx := B.exec
  have hb := B.bytes
  have hr := B.returns
  have hts := atoms_spec (ws := wsX11_fail) B.pre
  have hown : s.vm.findClass RX11 = some m.cls := findClass_of_methodNamed B.named
  have hlocks := B.notSynchronized
  subst hsz
  have hJ : ∀ i, i < 29 → fd_A 29 a s.heap.size (a i) := fun i hi => Or.inl ⟨i, hi, rfl⟩
  have hS : va_S (fd_A 29 a s.heap.size) s.heap s.heap [] := va_S.rf
  have hl := lv_entry ([.ref (a 0), .int p1, .long p2]) (n := 6) (Nat.le_of_ble_eq_true rfl)
  rw [lg_entry_eq]
  generalize (lg_sl ([.ref (a 0), .int p1, .long p2]) ++ List.replicate (6 - (lg_sl ([.ref (a 0), .int p1, .long p2])).length) Slot.unset).toArray = ls at hl ⊢
  have hl : lv_has ls 6 [(0, .ref (a 0)), (1, .int p1), (2, .long p2)] := hl
  have h9X11 : ∀ w ∈ u_ws RX11 TX11 43, w ∈ wsX11_fail := fd_su [14, 15, 16, 17, 18, 19, 20, 21, 22, 23, 24, 25, 26, 27, 28, 29, 30, 31, 32, 33, 34, 35, 36, 37, 38, 39, 40, 41, 42, 43, 44, 45, 46, 47, 48, 49, 50, 51, 52, 53, 54, 55, 56] (by eq_refl)
  have hL17 : ∀ (y1 : Int32) (y2 : Int64) (z1 : Int32) (σ : fd_St) (H : Heap) (locs : List Loc) (ls : Array Slot), va_P D vwCl (fd_WM a k σ) H → va_S (fd_A 29 a s.heap.size) s.heap H locs → lv_has ls 6 [(0, .ref (a 0)), (1, .int y1), (2, .long y2)] → f_X11_fail_0_J17 N y1 y2 z1 σ = some r → W p l e ((headSpec wsX11_fail ({ frames := 1, cells := 0, slots := 0, locals := 21 })).room) s m ([.ref (a 0), .int p1, .long p2].toArray) below meth c H locs 0 0 (MQ below (va_Ql (fun v u => (v, u) = r) (fd_BM D a k) (fd_A 29 a s.heap.size)) ([.ref (a 0), .int p1, .long p2].toArray) s 0 0 (fd_A 29 a s.heap.size)) (F0 m 17 ls [.int z1, .ref (a 0)]) := by
    intro y1 y2 z1 σ H locs ls hP hS hl hf
    unfold f_X11_fail_0_J17 at hf
    obtain ⟨σ7, eσ7, hf⟩ := fd_lts hf
    refine va_put (ci := 11) (v := .int z1) (ty := .int) (C := RX11) (T := TX11) (N := 43) hx hb hts h9X11 tyX11 tyX11_ok nmX11 hown hK hP (fd_DM hI hJ) hS 0 fd_WM_0 rfl 0 (by decide) (hts (.fieldLink RX11 99 "FailDiagnoseModel" "thrown" "I") (List.mem_of_getElem? (i := 2) (by eq_refl))) (fun _ h9 => h9) rfl (by decide +kernel) rfl rfl (Nat.le_of_ble_eq_true rfl) dX11_fail_17 (fun H locs hP _ hS => ?_)
    have hP : va_P D vwCl (fd_WM a k σ7) H := by rw [eσ7]; exact fd_sP fd_WMi_0 hP
    refine lv_aload_n hx hb dX11_fail_20 rfl (lv_at hl 0 rfl) ?_
    refine va_get (ci := 11) (v := .int (σ7.1 0)) (C := RX11) (T := TX11) (N := 43) hx hb hts h9X11 hown hK hP 0 fd_WM_0 rfl 0 (by decide) (hts (.fieldLink RX11 99 "FailDiagnoseModel" "thrown" "I") (List.mem_of_getElem? (i := 2) (by eq_refl))) (fun _ h9 => h9) rfl dX11_fail_21 ?_
    refine lv_if_le (tgt := 29) hx hb dX11_fail_24 (by decide) (fun c8 => ?_) (fun c8 => ?_)
    · have hf := fd_itp c8 hf
      refine lv_aload_n hx hb dX11_fail_29 rfl (lv_at hl 0 rfl) ?_
      refine va_get (ci := 11) (v := .ref (a 6)) (C := RX11) (T := TX11) (N := 43) hx hb hts h9X11 hown hK hP 0 fd_WM_0 rfl 9 (by decide) (hts (.fieldLink RX11 26 "FailDiagnoseModel" "fails" "[J") (List.mem_of_getElem? (i := 3) (by eq_refl))) (fun _ h9 => h9) rfl dX11_fail_30 ?_
      refine lv_iload_n hx hb dX11_fail_33 rfl (lv_at hl 1 rfl) ?_
      obtain ⟨g9, hf⟩ := fd_gds hf
      refine va_lald hx hb hK hP 6 5 fd_WM_6 fd_tyM_6 g9 dX11_fail_34 ?_
      obtain ⟨x10, ex10, hf⟩ := fd_lts hf
      refine fd_nl ex10 ?_
      refine lv_lstore (lv' := [(4, .long x10), (0, .ref (a 0)), (1, .int y1), (2, .long y2)]) hx hb dX11_fail_35 hl (by decide) rfl (fun ls hl => ?_)
      refine lv_aload_n hx hb dX11_fail_37 rfl (lv_at hl 1 rfl) ?_
      refine va_get (ci := 11) (v := .ref (a 6)) (C := RX11) (T := TX11) (N := 43) hx hb hts h9X11 hown hK hP 0 fd_WM_0 rfl 9 (by decide) (hts (.fieldLink RX11 26 "FailDiagnoseModel" "fails" "[J") (List.mem_of_getElem? (i := 3) (by eq_refl))) (fun _ h9 => h9) rfl dX11_fail_38 ?_
      refine lv_iload_n hx hb dX11_fail_41 rfl (lv_at hl 2 rfl) ?_
      refine lv_lload_n hx hb dX11_fail_42 rfl (lv_at hl 3 rfl) ?_
      obtain ⟨g11, hf⟩ := fd_gds hf
      obtain ⟨σ12, eσ12, hf⟩ := fd_lts hf
      refine va_last hx hb hK hP (fd_DM hI hJ) hS 6 5 fd_WM_6 fd_tyM_6 g11 dX11_fail_43 (fun H locs hP _ hS => ?_)
      have hP : va_P D vwCl (fd_WM a k σ12) H := by rw [eσ12]; exact fd_sP fd_WMa_6 hP
      refine lv_aload_n hx hb dX11_fail_44 rfl (lv_at hl 1 rfl) ?_
      obtain ⟨w16, τ17, hc13, hf⟩ := fd_bds hf
      refine va_callv (va_runV (As := []) (rest := []) ⟨hx, hb, hml, hown, hts⟩ (m_X11_changed_0 l D a k H.size hI N σ12 _ hc13) (cwV 0 hts gX11_fail_X11_changed rfl rfl rfl (by decide +kernel) ⟨Nat.le_of_ble_eq_true rfl, Nat.le_of_ble_eq_true rfl⟩) ⟨fd_blM, va_recv hK hP (ci := 11) (q0 := 0) rfl fd_WM_0, fd_prM hP hK⟩ rfl rfl hl.1 rfl (lv_room (Nat.le_of_ble_eq_true rfl)) dX11_fail_45 ⟨Nat.zero_le _, Nat.zero_le _⟩) hS (fun q _ h => fd_A_mono hS.1 h) (fun q h => fd_A_mono hS.1 h) (fun u t H1 locs ht hvm hw hB hz hk hS => ?_)
      obtain ⟨hP1, hK1⟩ := hB
      rw [ht] at hP1
      have e2 := (Prod.mk.inj hw).2
      subst e2
      obtain ⟨σ15, rfl⟩ : ∃ z, z = u := ⟨_, rfl⟩
      have hP := hP1
      generalize H1 = H at hP hS ⊢
      refine lv_lload hx hb dX11_fail_48 (lv_at hl 0 rfl) ?_
      exact W.lret (v := x10) hx hb hr (fun t ht hW => ⟨⟨x10, σ15, rfl, Option.some.inj hf, by rw [ht]; exact hP, va_K.moved hW.alike hK⟩, hS.F ht⟩) hS.2.2 dX11_fail_50
    · have hf := fd_itn c8 hf
      refine lv_lconst (v := (0 : Int64)) hx hb dX11_fail_27 (by decide) ?_
      exact W.lret (v := (0 : Int64)) hx hb hr (fun t ht hW => ⟨⟨(0 : Int64), σ7, rfl, Option.some.inj hf, by rw [ht]; exact hP, va_K.moved hW.alike hK⟩, hS.F ht⟩) hS.2.2 dX11_fail_28
  unfold f_X11_fail_0 at hf
  refine lv_aload_n hx hb dX11_fail_0 rfl (lv_at hl 0 rfl) ?_
  refine lv_iload_n hx hb dX11_fail_1 rfl (lv_at hl 1 rfl) ?_
  refine lv_aload_n hx hb dX11_fail_2 rfl (lv_at hl 0 rfl) ?_
  refine va_get (ci := 11) (v := .int (σ.1 3)) (C := RX11) (T := TX11) (N := 43) hx hb hts h9X11 hown hK hP 0 fd_WM_0 rfl 7 (by decide) (hts (.fieldLink RX11 123 "FailDiagnoseModel" "outputs" "I") (List.mem_of_getElem? (i := 1) (by eq_refl))) (fun _ h9 => h9) rfl dX11_fail_3 ?_
  obtain ⟨w4, τ5, hc1, hf⟩ := fd_bds hf
  refine va_calli (va_runS (As := [.int p1, .int (σ.1 3)]) (rest := [.ref (a 0)]) ⟨hx, hb, hml, hown, hts⟩ (m_X11_isIn l D a k s.heap.size hI N p1 (σ.1 3) σ _ hc1) (va_cwS 2 hts gX11_fail_X11_isIn rfl rfl rfl (by decide +kernel) ⟨Nat.le_of_ble_eq_true rfl, Nat.le_of_ble_eq_true rfl⟩) ⟨fd_blM, fd_prM hP hK⟩ rfl rfl hl.1 rfl (lv_room (Nat.le_of_ble_eq_true rfl)) dX11_fail_6 ⟨Nat.zero_le _, Nat.zero_le _⟩) hS (fun q _ h => fd_A_mono hS.1 h) (fun q h => fd_A_mono hS.1 h) (fun v2 u t H1 locs ht hvm hw hB hz hk hS => ?_)
  obtain ⟨hP1, hK1⟩ := hB
  rw [ht] at hP1
  obtain ⟨e1, e2⟩ := Prod.mk.inj hw
  subst e1
  subst e2
  obtain ⟨σ3, rfl⟩ : ∃ z, z = u := ⟨_, rfl⟩
  have hP := hP1
  generalize H1 = H at hP hS ⊢
  refine lv_if_eq (tgt := 16) hx hb dX11_fail_9 (by decide) (fun c6 => ?_) (fun c6 => ?_)
  · have hf := fd_itp c6 hf
    refine lv_iconst (v := (1 : Int32)) hx hb dX11_fail_16 (by decide) ?_
    exact hL17 p1 p2 (1 : Int32) σ3 _ _ _ hP hS (lv_sub hl [0, 1, 2] rfl) hf
  · have hf := fd_itn c6 hf
    refine lv_iconst (v := (0 : Int32)) hx hb dX11_fail_12 (by decide) ?_
    refine lv_goto (tgt := 17) hx hb dX11_fail_13 (by decide) ?_
    exact hL17 p1 p2 (0 : Int32) σ3 _ _ _ hP hS (lv_sub hl [0, 1, 2] rfl) hf
noncomputable def f_X4_size_3 (N : Nat) (σ : fd_St) : Option (Int32 × fd_St) := some (σ.1 5, σ)
set_option maxHeartbeats 4000000 in
set_option maxRecDepth 100000 in
theorem m_X4_size_3 (l : Launch) (D : va_G) (a : Nat → Nat) (k : Nat → ClassId) (sz : Nat) (hI : fd_I 39 a) (N : Nat) (σ : fd_St) (r : Int32 × fd_St) (hf : f_X4_size_3 N σ = some r) : Met l yX4_size wsX4_size ({ frames := 0, cells := 0, slots := 0, locals := 0 }) (va_Pc [.ref (a 3)] (fd_PC D a k sz σ)) (va_Qi (fun v u => (v, u) = r) (fd_BC D a k) (fd_A 39 a sz)) 0 0 (fd_A 39 a sz) := by
  refine Met.ofW (cc := cX4_size) (maxL := 1) (ret := (some .int)) (by decide) rfl ?_
  intro p e s m args below meth c s₁ B hml hv
  obtain ⟨rfl, hsz, hP, hK⟩ := hv
  have hx := B.exec
  have hb := B.bytes
  have hr := B.returns
  have hts := atoms_spec (ws := wsX4_size) B.pre
  have hown : s.vm.findClass RX4 = some m.cls := findClass_of_methodNamed B.named
  have hlocks := B.notSynchronized
  subst hsz
  have hJ : ∀ i, i < 39 → fd_A 39 a s.heap.size (a i) := fun i hi => Or.inl ⟨i, hi, rfl⟩
  have hS : va_S (fd_A 39 a s.heap.size) s.heap s.heap [] := va_S.rf
  have hl := lv_entry ([.ref (a 3)]) (n := 1) (Nat.le_of_ble_eq_true rfl)
  rw [lg_entry_eq]
  generalize (lg_sl ([.ref (a 3)]) ++ List.replicate (1 - (lg_sl ([.ref (a 3)])).length) Slot.unset).toArray = ls at hl ⊢
  have hl : lv_has ls 1 [(0, .ref (a 3))] := hl
  have h9X4 : ∀ w ∈ u_ws RX4 TX4 3, w ∈ wsX4_size := fd_su [2, 3, 4] (by eq_refl)
  unfold f_X4_size_3 at hf
  refine lv_aload_n hx hb dX4_size_0 rfl (lv_at hl 0 rfl) ?_
  refine va_get (ci := 4) (v := .int (σ.1 5)) (C := RX4) (T := TX4) (N := 3) hx hb hts h9X4 hown hK hP 3 fd_WC_3 rfl 2 (by decide) (hts (.fieldLink RX4 18 "FailDiagnose$NearPairs" "size" "I") (List.mem_of_getElem? (i := 1) (by eq_refl))) (fun _ h9 => h9) rfl dX4_size_1 ?_
  exact W.iret (v := (σ.1 5)) hx hb hr (fun t ht hW => ⟨⟨σ.1 5, σ, rfl, Option.some.inj hf, by rw [ht]; exact hP, va_K.moved hW.alike hK⟩, hS.F ht⟩) hS.2.2 dX4_size_4
