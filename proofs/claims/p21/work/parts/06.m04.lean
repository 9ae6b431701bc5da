noncomputable def f_X9_sum_8 (N : Nat) (σ : fd_St) : Option (Int32 × fd_St) := some (((2 : Int32) * (σ.1 13)) + (σ.1 14), σ)
set_option maxHeartbeats 4000000 in
set_option maxRecDepth 100000 in
theorem m_X9_sum_8 (l : Launch) (D : va_G) (a : Nat → Nat) (k : Nat → ClassId) (sz : Nat) (hI : fd_I 39 a) (N : Nat) (σ : fd_St) (r : Int32 × fd_St) (hf : f_X9_sum_8 N σ = some r) : Met l yX9_sum wsX9_sum ({ frames := 0, cells := 0, slots := 0, locals := 0 }) (va_Pc [.ref (a 8)] (fd_PC D a k sz σ)) (va_Qi (fun v u => (v, u) = r) (fd_BC D a k) (fd_A 39 a sz)) 0 0 (fd_A 39 a sz) := by
  refine Met.ofW (cc := cX9_sum) (maxL := 1) (ret := (some .int)) (by decide) rfl ?_
  intro p e s m args below meth c s₁ B hml hv
  obtain ⟨rfl, hsz, hP, hK⟩ := hv
  have hx := B.exec
  have hb := B.bytes
  have hr := B.returns
  have hts := atoms_spec (ws := wsX9_sum) B.pre
  have hown : s.vm.findClass RX9 = some m.cls := findClass_of_methodNamed B.named
  have hlocks := B.notSynchronized
  subst hsz
  have hJ : ∀ i, i < 39 → fd_A 39 a s.heap.size (a i) := fun i hi => Or.inl ⟨i, hi, rfl⟩
  have hS : va_S (fd_A 39 a s.heap.size) s.heap s.heap [] := va_S.rf
  have hl := lv_entry ([.ref (a 8)]) (n := 1) (Nat.le_of_ble_eq_true rfl)
  rw [lg_entry_eq]
  generalize (lg_sl ([.ref (a 8)]) ++ List.replicate (1 - (lg_sl ([.ref (a 8)])).length) Slot.unset).toArray = ls at hl ⊢
  have hl : lv_has ls 1 [(0, .ref (a 8))] := hl
  have h9X9 : ∀ w ∈ u_ws RX9 TX9 3, w ∈ wsX9_sum := fd_su [3, 4, 5] (by eq_refl)
  unfold f_X9_sum_8 at hf
  refine lv_iconst (v := (2 : Int32)) hx hb dX9_sum_0 (by decide) ?_
  refine lv_aload_n hx hb dX9_sum_1 rfl (lv_at hl 0 rfl) ?_
  refine va_get (ci := 9) (v := .int (σ.1 13)) (C := RX9) (T := TX9) (N := 3) hx hb hts h9X9 hown hK hP 8 fd_WC_8 rfl 1 (by decide) (hts (.fieldLink RX9 13 "FailDiagnose$Tally" "missed" "I") (List.mem_of_getElem? (i := 1) (by eq_refl))) (fun _ h9 => h9) rfl dX9_sum_2 ?_
  refine lv_imul hx hb dX9_sum_5 ?_
  refine lv_aload_n hx hb dX9_sum_6 rfl (lv_at hl 0 rfl) ?_
  refine va_get (ci := 9) (v := .int (σ.1 14)) (C := RX9) (T := TX9) (N := 3) hx hb hts h9X9 hown hK hP 8 fd_WC_8 rfl 2 (by decide) (hts (.fieldLink RX9 16 "FailDiagnose$Tally" "wrong" "I") (List.mem_of_getElem? (i := 2) (by eq_refl))) (fun _ h9 => h9) rfl dX9_sum_7 ?_
  refine lv_iadd hx hb dX9_sum_10 ?_
  exact W.iret (v := (((2 : Int32) * (σ.1 13)) + (σ.1 14))) hx hb hr (fun t ht hW => ⟨⟨((2 : Int32) * (σ.1 13)) + (σ.1 14), σ, rfl, Option.some.inj hf, by rw [ht]; exact hP, va_K.moved hW.alike hK⟩, hS.F ht⟩) hS.2.2 dX9_sum_11
noncomputable def f_X8_add_5_8_J107 (N : Nat) (y4 : Int32) (σ : fd_St) : Option (Unit × fd_St) := fd_gd (vp_in y4 480) (fd_lt (fd_sA 28 y4 (σ.1 6) σ) (fun σ29 => fd_lt (fd_sI 6 ((σ29.1 6) + (1 : Int32)) σ29) (fun σ30 => some ((), σ30))))
noncomputable def f_X8_add_5_8_L65 (N : Nat) : Nat → Int32 → fd_St → Option (Unit × fd_St)
  | 0 => fun _ _ => none
  | n + 1 => fun y4 σ => if y4 ≤ 0 then (f_X8_add_5_8_J107 N y4 σ) else (fd_bd (f_X8_sum_5 N (y4 - (1 : Int32)) σ) (fun v32 σ33 => fd_bd (f_X9_sum_8 N σ33) (fun v37 σ38 => if v32 ≤ v37 then (f_X8_add_5_8_J107 N y4 σ38) else (fd_gd (vp_in (y4 - (1 : Int32)) 480) (fd_gd (vp_in y4 480) (fd_lt (fd_sA 28 y4 (σ38.2.1 28 (y4 - (1 : Int32)).toNatClampNeg) σ38) (fun σ44 => fd_lt (y4 + (-1 : Int32)) (fun x45 => (f_X8_add_5_8_L65 N n) x45 σ44))))))))
noncomputable def f_X8_add_5_8 (N : Nat) (p1 : Int32) (p2 : Int32) (σ : fd_St) : Option (Unit × fd_St) := fd_gd (vp_in (σ.1 6) 480) (fd_lt (fd_sA 23 (σ.1 6) p1 σ) (fun σ2 => fd_gd (vp_in (σ2.1 6) 480) (fd_lt (fd_sA 24 (σ2.1 6) p2 σ2) (fun σ4 => fd_bd (f_X9_explained_8 N σ4) (fun v6 σ7 => fd_gd (vp_in (σ4.1 6) 480) (fd_lt (fd_sA 25 (σ4.1 6) v6 σ7) (fun σ11 => fd_bd (f_X9_missed_8 N σ11) (fun v13 σ14 => fd_gd (vp_in (σ11.1 6) 480) (fd_lt (fd_sA 26 (σ11.1 6) v13 σ14) (fun σ18 => fd_bd (f_X9_wrong_8 N σ18) (fun v20 σ21 => fd_gd (vp_in (σ18.1 6) 480) (fd_lt (fd_sA 27 (σ18.1 6) v20 σ21) (fun σ25 => fd_lt (σ25.1 6) (fun x26 => f_X8_add_5_8_L65 N N x26 σ25))))))))))))))
set_option maxHeartbeats 4000000 in
set_option maxRecDepth 100000 in
theorem m_X8_add_5_8 (l : Launch) (D : va_G) (a : Nat → Nat) (k : Nat → ClassId) (sz : Nat) (hI : fd_I 39 a) (N : Nat) (p1 : Int32) (p2 : Int32) (σ : fd_St) (r : Unit × fd_St) (hf : f_X8_add_5_8 N p1 p2 σ = some r) : Met l yX8_add wsX8_add ({ frames := 2, cells := 0, slots := 0, locals := 42 }) (va_Pc [.ref (a 5), .int p1, .int p2, .ref (a 8)] (fd_PC D a k sz σ)) (va_Qv (fun u => ((), u) = r) (fd_BC D a k) (fd_A 39 a sz)) 0 0 (fd_A 39 a sz) := by
  refine Met.ofW (cc := cX8_add) (maxL := 5) (ret := none) (by decide) rfl ?_
  intro p e s m args below meth c s₁ B hml hv
  obtain ⟨rfl, hsz, hP, hK⟩ := hv
  have hx := B.exec
  have hb := B.bytes
  have hr := B.returns
  have hts := atoms_spec (ws := wsX8_add) B.pre
  have hown : s.vm.findClass RX8 = some m.cls := findClass_of_methodNamed B.named
  have hlocks := B.notSynchronized
  subst hsz
  have hJ : ∀ i, i < 39 → fd_A 39 a s.heap.size (a i) := fun i hi => Or.inl ⟨i, hi, rfl⟩
  have hS : va_S (fd_A 39 a s.heap.size) s.heap s.heap [] := va_S.rf
  have hl := lv_entry ([.ref (a 5), .int p1, .int p2, .ref (a 8)]) (n := 5) (Nat.le_of_ble_eq_true rfl)
  rw [lg_entry_eq]
  generalize (lg_sl ([.ref (a 5), .int p1, .int p2, .ref (a 8)]) ++ List.replicate (5 - (lg_sl ([.ref (a 5), .int p1, .int p2, .ref (a 8)])).length) Slot.unset).toArray = ls at hl ⊢
  have hl : lv_has ls 5 [(0, .ref (a 5)), (1, .int p1), (2, .int p2), (3, .ref (a 8))] := hl
  have h9X8 : ∀ w ∈ u_ws RX8 TX8 7, w ∈ wsX8_add := fd_su [41, 42, 43, 44, 45, 46, 47] (by eq_refl)
  have hL107 : ∀ (y4 : Int32) (σ : fd_St) (H : Heap) (locs : List Loc) (ls : Array Slot), va_P D vwCl (fd_WC a k σ) H → va_S (fd_A 39 a s.heap.size) s.heap H locs → lv_has ls 5 [(0, .ref (a 5)), (4, .int y4)] → f_X8_add_5_8_J107 N y4 σ = some r → W p l e ((headSpec wsX8_add ({ frames := 2, cells := 0, slots := 0, locals := 42 })).room) s m ([.ref (a 5), .int p1, .int p2, .ref (a 8)].toArray) below meth c H locs 0 0 (MQ below (va_Qv (fun u => ((), u) = r) (fd_BC D a k) (fd_A 39 a s.heap.size)) ([.ref (a 5), .int p1, .int p2, .ref (a 8)].toArray) s 0 0 (fd_A 39 a s.heap.size)) (F0 m 107 ls []) := by
    intro y4 σ H locs ls hP hS hl hf
    unfold f_X8_add_5_8_J107 at hf
    refine lv_aload_n hx hb dX8_add_107 rfl (lv_at hl 0 rfl) ?_
    refine va_get (ci := 8) (v := .ref (a 28)) (C := RX8) (T := TX8) (N := 7) hx hb hts h9X8 hown hK hP 5 fd_WC_5 rfl 5 (by decide) (hts (.fieldLink RX8 27 "FailDiagnose$Suspects" "order" "[I") (List.mem_of_getElem? (i := 7) (by eq_refl))) (fun _ h9 => h9) rfl dX8_add_108 ?_
    refine lv_iload hx hb dX8_add_111 (lv_at hl 1 rfl) ?_
    refine lv_aload_n hx hb dX8_add_113 rfl (lv_at hl 0 rfl) ?_
    refine va_get (ci := 8) (v := .int (σ.1 6)) (C := RX8) (T := TX8) (N := 7) hx hb hts h9X8 hown hK hP 5 fd_WC_5 rfl 6 (by decide) (hts (.fieldLink RX8 30 "FailDiagnose$Suspects" "size" "I") (List.mem_of_getElem? (i := 2) (by eq_refl))) (fun _ h9 => h9) rfl dX8_add_114 ?_
    obtain ⟨g28, hf⟩ := fd_gds hf
    obtain ⟨σ29, eσ29, hf⟩ := fd_lts hf
    refine va_iast hx hb hK hP (fd_DC hI hJ) hS 28 16 fd_WC_28 fd_tyC_28 g28 dX8_add_117 (fun H locs hP _ hS => ?_)
    have hP : va_P D vwCl (fd_WC a k σ29) H := by rw [eσ29]; exact fd_sP fd_WCa_28 hP
    refine lv_aload_n hx hb dX8_add_118 rfl (lv_at hl 0 rfl) ?_
    refine lv_dup hx hb dX8_add_119 rfl ?_
    refine va_get (ci := 8) (v := .int (σ29.1 6)) (C := RX8) (T := TX8) (N := 7) hx hb hts h9X8 hown hK hP 5 fd_WC_5 rfl 6 (by decide) (hts (.fieldLink RX8 30 "FailDiagnose$Suspects" "size" "I") (List.mem_of_getElem? (i := 2) (by eq_refl))) (fun _ h9 => h9) rfl dX8_add_120 ?_
    refine lv_iconst (v := (1 : Int32)) hx hb dX8_add_123 (by decide) ?_
    refine lv_iadd hx hb dX8_add_124 ?_
    obtain ⟨σ30, eσ30, hf⟩ := fd_lts hf
    refine va_put (ci := 8) (v := .int ((σ29.1 6) + (1 : Int32))) (ty := .int) (C := RX8) (T := TX8) (N := 7) hx hb hts h9X8 tyX8 tyX8_ok nmX8 hown hK hP (fd_DC hI hJ) hS 5 fd_WC_5 rfl 6 (by decide) (hts (.fieldLink RX8 30 "FailDiagnose$Suspects" "size" "I") (List.mem_of_getElem? (i := 2) (by eq_refl))) (fun _ h9 => h9) rfl (by decide +kernel) rfl rfl (Nat.le_of_ble_eq_true rfl) dX8_add_125 (fun H locs hP _ hS => ?_)
    have hP : va_P D vwCl (fd_WC a k σ30) H := by rw [eσ30]; exact fd_sP fd_WCi_6 hP
    exact W.vret hx hb hr (fun t ht hW => ⟨⟨σ30, rfl, Option.some.inj hf, by rw [ht]; exact hP, va_K.moved hW.alike hK⟩, hS.F ht⟩) hS.2.2 dX8_add_128
  have hL65 : ∀ (n : Nat), ∀ (y4 : Int32) (σ : fd_St) (H : Heap) (locs : List Loc) (ls : Array Slot), va_P D vwCl (fd_WC a k σ) H → va_S (fd_A 39 a s.heap.size) s.heap H locs → lv_has ls 5 [(0, .ref (a 5)), (3, .ref (a 8)), (4, .int y4)] → f_X8_add_5_8_L65 N n y4 σ = some r → W p l e ((headSpec wsX8_add ({ frames := 2, cells := 0, slots := 0, locals := 42 })).room) s m ([.ref (a 5), .int p1, .int p2, .ref (a 8)].toArray) below meth c H locs 0 0 (MQ below (va_Qv (fun u => ((), u) = r) (fd_BC D a k) (fd_A 39 a s.heap.size)) ([.ref (a 5), .int p1, .int p2, .ref (a 8)].toArray) s 0 0 (fd_A 39 a s.heap.size)) (F0 m 65 ls []) := by
    intro n
    induction n with
    | zero =>
      intro _ _ _ _ _ _ _ _ hf
      cases hf
    | succ n ih =>
      intro y4 σ H locs ls hP hS hl hf
      unfold f_X8_add_5_8_L65 at hf
      refine lv_iload hx hb dX8_add_65 (lv_at hl 2 rfl) ?_
      refine lv_if_le (tgt := 107) hx hb dX8_add_67 (by decide) (fun c27 => ?_) (fun c27 => ?_)
      · have hf := fd_itp c27 hf
        exact hL107 y4 σ _ _ _ hP hS (lv_sub hl [0, 2] rfl) hf
      · have hf := fd_itn c27 hf
        refine lv_aload_n hx hb dX8_add_70 rfl (lv_at hl 0 rfl) ?_
        refine lv_iload hx hb dX8_add_71 (lv_at hl 2 rfl) ?_
        refine lv_iconst (v := (1 : Int32)) hx hb dX8_add_73 (by decide) ?_
        refine lv_isub hx hb dX8_add_74 ?_
        obtain ⟨w34, τ35, hc31, hf⟩ := fd_bds hf
        refine va_calli (va_runV (As := [.int (y4 - (1 : Int32))]) (rest := []) ⟨hx, hb, hml, hown, hts⟩ (m_X8_sum_5 l D a k H.size hI N (y4 - (1 : Int32)) σ _ hc31) (cwV 1 hts gX8_add_X8_sum rfl rfl rfl (by decide +kernel) ⟨Nat.le_of_ble_eq_true rfl, Nat.le_of_ble_eq_true rfl⟩) ⟨fd_blC, va_recv hK hP (ci := 8) (q0 := 5) rfl fd_WC_5, fd_prC hP hK⟩ rfl rfl hl.1 rfl (lv_room (Nat.le_of_ble_eq_true rfl)) dX8_add_75 ⟨Nat.zero_le _, Nat.zero_le _⟩) hS (fun q _ h => fd_A_mono hS.1 h) (fun q h => fd_A_mono hS.1 h) (fun v32 u t H1 locs ht hvm hw hB hz hk hS => ?_)
        obtain ⟨hP1, hK1⟩ := hB
        rw [ht] at hP1
        obtain ⟨e1, e2⟩ := Prod.mk.inj hw
        subst e1
        subst e2
        obtain ⟨σ33, rfl⟩ : ∃ z, z = u := ⟨_, rfl⟩
        have hP := hP1
        generalize H1 = H at hP hS ⊢
        refine lv_aload_n hx hb dX8_add_78 rfl (lv_at hl 1 rfl) ?_
        obtain ⟨w39, τ40, hc36, hf⟩ := fd_bds hf
        refine va_calli (va_runV (As := []) (rest := [.int v32]) ⟨hx, hb, hml, hown, hts⟩ (m_X9_sum_8 l D a k H.size hI N σ33 _ hc36) (cwV 0 hts gX8_add_X9_sum rfl rfl rfl (by decide +kernel) ⟨Nat.le_of_ble_eq_true rfl, Nat.le_of_ble_eq_true rfl⟩) ⟨fd_blC, va_recv hK hP (ci := 9) (q0 := 8) rfl fd_WC_8, fd_prC hP hK⟩ rfl rfl hl.1 rfl (lv_room (Nat.le_of_ble_eq_true rfl)) dX8_add_79 ⟨Nat.zero_le _, Nat.zero_le _⟩) hS (fun q _ h => fd_A_mono hS.1 h) (fun q h => fd_A_mono hS.1 h) (fun v37 u t H1 locs ht hvm hw hB hz hk hS => ?_)
        obtain ⟨hP1, hK1⟩ := hB
        rw [ht] at hP1
        obtain ⟨e1, e2⟩ := Prod.mk.inj hw
        subst e1
        subst e2
        obtain ⟨σ38, rfl⟩ : ∃ z, z = u := ⟨_, rfl⟩
        have hP := hP1
        generalize H1 = H at hP hS ⊢
        refine lv_icmp_le (tgt := 107) hx hb dX8_add_82 (by decide) (fun c41 => ?_) (fun c41 => ?_)
        · have hf := fd_itp c41 hf
          exact hL107 y4 σ38 _ _ _ hP hS (lv_sub hl [0, 2] rfl) hf
        · have hf := fd_itn c41 hf
          refine lv_aload_n hx hb dX8_add_85 rfl (lv_at hl 0 rfl) ?_
          refine va_get (ci := 8) (v := .ref (a 28)) (C := RX8) (T := TX8) (N := 7) hx hb hts h9X8 hown hK hP 5 fd_WC_5 rfl 5 (by decide) (hts (.fieldLink RX8 27 "FailDiagnose$Suspects" "order" "[I") (List.mem_of_getElem? (i := 7) (by eq_refl))) (fun _ h9 => h9) rfl dX8_add_86 ?_
          refine lv_iload hx hb dX8_add_89 (lv_at hl 2 rfl) ?_
          refine lv_aload_n hx hb dX8_add_91 rfl (lv_at hl 0 rfl) ?_
          refine va_get (ci := 8) (v := .ref (a 28)) (C := RX8) (T := TX8) (N := 7) hx hb hts h9X8 hown hK hP 5 fd_WC_5 rfl 5 (by decide) (hts (.fieldLink RX8 27 "FailDiagnose$Suspects" "order" "[I") (List.mem_of_getElem? (i := 7) (by eq_refl))) (fun _ h9 => h9) rfl dX8_add_92 ?_
          refine lv_iload hx hb dX8_add_95 (lv_at hl 2 rfl) ?_
          refine lv_iconst (v := (1 : Int32)) hx hb dX8_add_97 (by decide) ?_
          refine lv_isub hx hb dX8_add_98 ?_
          obtain ⟨g42, hf⟩ := fd_gds hf
          refine va_iald hx hb hK hP 28 16 fd_WC_28 fd_tyC_28 g42 dX8_add_99 ?_
          obtain ⟨g43, hf⟩ := fd_gds hf
          obtain ⟨σ44, eσ44, hf⟩ := fd_lts hf
          refine va_iast hx hb hK hP (fd_DC hI hJ) hS 28 16 fd_WC_28 fd_tyC_28 g43 dX8_add_100 (fun H locs hP _ hS => ?_)
          have hP : va_P D vwCl (fd_WC a k σ44) H := by rw [eσ44]; exact fd_sP fd_WCa_28 hP
          obtain ⟨x45, ex45, hf⟩ := fd_lts hf
          refine lv_iinc (v := x45) (lv' := [(4, .int x45), (0, .ref (a 5)), (3, .ref (a 8))]) hx hb dX8_add_101 hl (k := 2) rfl (by rw [ex45]; rfl) (by decide) rfl (fun ls hl => ?_)
          refine lv_goto (tgt := 65) hx hb dX8_add_104 (by decide) ?_
          exact ih x45 σ44 _ _ _ hP hS (lv_sub hl [1, 2, 0] rfl) hf
  unfold f_X8_add_5_8 at hf
  refine lv_aload_n hx hb dX8_add_0 rfl (lv_at hl 0 rfl) ?_
  refine va_get (ci := 8) (v := .ref (a 23)) (C := RX8) (T := TX8) (N := 7) hx hb hts h9X8 hown hK hP 5 fd_WC_5 rfl 0 (by decide) (hts (.fieldLink RX8 9 "FailDiagnose$Suspects" "kinds" "[I") (List.mem_of_getElem? (i := 1) (by eq_refl))) (fun _ h9 => h9) rfl dX8_add_1 ?_
  refine lv_aload_n hx hb dX8_add_4 rfl (lv_at hl 0 rfl) ?_
  refine va_get (ci := 8) (v := .int (σ.1 6)) (C := RX8) (T := TX8) (N := 7) hx hb hts h9X8 hown hK hP 5 fd_WC_5 rfl 6 (by decide) (hts (.fieldLink RX8 30 "FailDiagnose$Suspects" "size" "I") (List.mem_of_getElem? (i := 2) (by eq_refl))) (fun _ h9 => h9) rfl dX8_add_5 ?_
  refine lv_iload_n hx hb dX8_add_8 rfl (lv_at hl 1 rfl) ?_
  obtain ⟨g1, hf⟩ := fd_gds hf
  obtain ⟨σ2, eσ2, hf⟩ := fd_lts hf
  refine va_iast hx hb hK hP (fd_DC hI hJ) hS 23 11 fd_WC_23 fd_tyC_23 g1 dX8_add_9 (fun H locs hP _ hS => ?_)
  have hP : va_P D vwCl (fd_WC a k σ2) H := by rw [eσ2]; exact fd_sP fd_WCa_23 hP
  refine lv_aload_n hx hb dX8_add_10 rfl (lv_at hl 0 rfl) ?_
  refine va_get (ci := 8) (v := .ref (a 24)) (C := RX8) (T := TX8) (N := 7) hx hb hts h9X8 hown hK hP 5 fd_WC_5 rfl 1 (by decide) (hts (.fieldLink RX8 15 "FailDiagnose$Suspects" "numbers" "[I") (List.mem_of_getElem? (i := 3) (by eq_refl))) (fun _ h9 => h9) rfl dX8_add_11 ?_
  refine lv_aload_n hx hb dX8_add_14 rfl (lv_at hl 0 rfl) ?_
  refine va_get (ci := 8) (v := .int (σ2.1 6)) (C := RX8) (T := TX8) (N := 7) hx hb hts h9X8 hown hK hP 5 fd_WC_5 rfl 6 (by decide) (hts (.fieldLink RX8 30 "FailDiagnose$Suspects" "size" "I") (List.mem_of_getElem? (i := 2) (by eq_refl))) (fun _ h9 => h9) rfl dX8_add_15 ?_
  refine lv_iload_n hx hb dX8_add_18 rfl (lv_at hl 2 rfl) ?_
  obtain ⟨g3, hf⟩ := fd_gds hf
  obtain ⟨σ4, eσ4, hf⟩ := fd_lts hf
  refine va_iast hx hb hK hP (fd_DC hI hJ) hS 24 12 fd_WC_24 fd_tyC_24 g3 dX8_add_19 (fun H locs hP _ hS => ?_)
  have hP : va_P D vwCl (fd_WC a k σ4) H := by rw [eσ4]; exact fd_sP fd_WCa_24 hP
  refine lv_aload_n hx hb dX8_add_20 rfl (lv_at hl 0 rfl) ?_
  refine va_get (ci := 8) (v := .ref (a 25)) (C := RX8) (T := TX8) (N := 7) hx hb hts h9X8 hown hK hP 5 fd_WC_5 rfl 2 (by decide) (hts (.fieldLink RX8 18 "FailDiagnose$Suspects" "explained" "[I") (List.mem_of_getElem? (i := 4) (by eq_refl))) (fun _ h9 => h9) rfl dX8_add_21 ?_
  refine lv_aload_n hx hb dX8_add_24 rfl (lv_at hl 0 rfl) ?_
  refine va_get (ci := 8) (v := .int (σ4.1 6)) (C := RX8) (T := TX8) (N := 7) hx hb hts h9X8 hown hK hP 5 fd_WC_5 rfl 6 (by decide) (hts (.fieldLink RX8 30 "FailDiagnose$Suspects" "size" "I") (List.mem_of_getElem? (i := 2) (by eq_refl))) (fun _ h9 => h9) rfl dX8_add_25 ?_
  refine lv_aload_n hx hb dX8_add_28 rfl (lv_at hl 3 rfl) ?_
  obtain ⟨w8, τ9, hc5, hf⟩ := fd_bds hf
  refine va_calli (va_runV (As := []) (rest := [.int (σ4.1 6), .ref (a 25)]) ⟨hx, hb, hml, hown, hts⟩ (m_X9_explained_8 l D a k H.size hI N σ4 _ hc5) (cwV 0 hts gX8_add_X9_explained rfl rfl rfl (by decide +kernel) ⟨Nat.le_of_ble_eq_true rfl, Nat.le_of_ble_eq_true rfl⟩) ⟨fd_blC, va_recv hK hP (ci := 9) (q0 := 8) rfl fd_WC_8, fd_prC hP hK⟩ rfl rfl hl.1 rfl (lv_room (Nat.le_of_ble_eq_true rfl)) dX8_add_29 ⟨Nat.zero_le _, Nat.zero_le _⟩) hS (fun q _ h => fd_A_mono hS.1 h) (fun q h => fd_A_mono hS.1 h) (fun v6 u t H1 locs ht hvm hw hB hz hk hS => ?_)
  obtain ⟨hP1, hK1⟩ := hB
  rw [ht] at hP1
  obtain ⟨e1, e2⟩ := Prod.mk.inj hw
  subst e1
  subst e2
  obtain ⟨σ7, rfl⟩ : ∃ z, z = u := ⟨_, rfl⟩
  have hP := hP1
  generalize H1 = H at hP hS ⊢
  obtain ⟨g10, hf⟩ := fd_gds hf
  obtain ⟨σ11, eσ11, hf⟩ := fd_lts hf
  refine va_iast hx hb hK hP (fd_DC hI hJ) hS 25 13 fd_WC_25 fd_tyC_25 g10 dX8_add_32 (fun H locs hP _ hS => ?_)
  have hP : va_P D vwCl (fd_WC a k σ11) H := by rw [eσ11]; exact fd_sP fd_WCa_25 hP
  refine lv_aload_n hx hb dX8_add_33 rfl (lv_at hl 0 rfl) ?_
  refine va_get (ci := 8) (v := .ref (a 26)) (C := RX8) (T := TX8) (N := 7) hx hb hts h9X8 hown hK hP 5 fd_WC_5 rfl 3 (by decide) (hts (.fieldLink RX8 21 "FailDiagnose$Suspects" "missed" "[I") (List.mem_of_getElem? (i := 5) (by eq_refl))) (fun _ h9 => h9) rfl dX8_add_34 ?_
  refine lv_aload_n hx hb dX8_add_37 rfl (lv_at hl 0 rfl) ?_
  refine va_get (ci := 8) (v := .int (σ11.1 6)) (C := RX8) (T := TX8) (N := 7) hx hb hts h9X8 hown hK hP 5 fd_WC_5 rfl 6 (by decide) (hts (.fieldLink RX8 30 "FailDiagnose$Suspects" "size" "I") (List.mem_of_getElem? (i := 2) (by eq_refl))) (fun _ h9 => h9) rfl dX8_add_38 ?_
  refine lv_aload_n hx hb dX8_add_41 rfl (lv_at hl 3 rfl) ?_
  obtain ⟨w15, τ16, hc12, hf⟩ := fd_bds hf
  refine va_calli (va_runV (As := []) (rest := [.int (σ11.1 6), .ref (a 26)]) ⟨hx, hb, hml, hown, hts⟩ (m_X9_missed_8 l D a k H.size hI N σ11 _ hc12) (cwV 0 hts gX8_add_X9_missed rfl rfl rfl (by decide +kernel) ⟨Nat.le_of_ble_eq_true rfl, Nat.le_of_ble_eq_true rfl⟩) ⟨fd_blC, va_recv hK hP (ci := 9) (q0 := 8) rfl fd_WC_8, fd_prC hP hK⟩ rfl rfl hl.1 rfl (lv_room (Nat.le_of_ble_eq_true rfl)) dX8_add_42 ⟨Nat.zero_le _, Nat.zero_le _⟩) hS (fun q _ h => fd_A_mono hS.1 h) (fun q h => fd_A_mono hS.1 h) (fun v13 u t H1 locs ht hvm hw hB hz hk hS => ?_)
  obtain ⟨hP1, hK1⟩ := hB
  rw [ht] at hP1
  obtain ⟨e1, e2⟩ := Prod.mk.inj hw
  subst e1
  subst e2
  obtain ⟨σ14, rfl⟩ : ∃ z, z = u := ⟨_, rfl⟩
  have hP := hP1
  generalize H1 = H at hP hS ⊢
  obtain ⟨g17, hf⟩ := fd_gds hf
  obtain ⟨σ18, eσ18, hf⟩ := fd_lts hf
  refine va_iast hx hb hK hP (fd_DC hI hJ) hS 26 14 fd_WC_26 fd_tyC_26 g17 dX8_add_45 (fun H locs hP _ hS => ?_)
  have hP : va_P D vwCl (fd_WC a k σ18) H := by rw [eσ18]; exact fd_sP fd_WCa_26 hP
  refine lv_aload_n hx hb dX8_add_46 rfl (lv_at hl 0 rfl) ?_
  refine va_get (ci := 8) (v := .ref (a 27)) (C := RX8) (T := TX8) (N := 7) hx hb hts h9X8 hown hK hP 5 fd_WC_5 rfl 4 (by decide) (hts (.fieldLink RX8 24 "FailDiagnose$Suspects" "wrong" "[I") (List.mem_of_getElem? (i := 6) (by eq_refl))) (fun _ h9 => h9) rfl dX8_add_47 ?_
  refine lv_aload_n hx hb dX8_add_50 rfl (lv_at hl 0 rfl) ?_
  refine va_get (ci := 8) (v := .int (σ18.1 6)) (C := RX8) (T := TX8) (N := 7) hx hb hts h9X8 hown hK hP 5 fd_WC_5 rfl 6 (by decide) (hts (.fieldLink RX8 30 "FailDiagnose$Suspects" "size" "I") (List.mem_of_getElem? (i := 2) (by eq_refl))) (fun _ h9 => h9) rfl dX8_add_51 ?_
  refine lv_aload_n hx hb dX8_add_54 rfl (lv_at hl 3 rfl) ?_
  obtain ⟨w22, τ23, hc19, hf⟩ := fd_bds hf
  refine va_calli (va_runV (As := []) (rest := [.int (σ18.1 6), .ref (a 27)]) ⟨hx, hb, hml, hown, hts⟩ (m_X9_wrong_8 l D a k H.size hI N σ18 _ hc19) (cwV 0 hts gX8_add_X9_wrong rfl rfl rfl (by decide +kernel) ⟨Nat.le_of_ble_eq_true rfl, Nat.le_of_ble_eq_true rfl⟩) ⟨fd_blC, va_recv hK hP (ci := 9) (q0 := 8) rfl fd_WC_8, fd_prC hP hK⟩ rfl rfl hl.1 rfl (lv_room (Nat.le_of_ble_eq_true rfl)) dX8_add_55 ⟨Nat.zero_le _, Nat.zero_le _⟩) hS (fun q _ h => fd_A_mono hS.1 h) (fun q h => fd_A_mono hS.1 h) (fun v20 u t H1 locs ht hvm hw hB hz hk hS => ?_)
  obtain ⟨hP1, hK1⟩ := hB
  rw [ht] at hP1
  obtain ⟨e1, e2⟩ := Prod.mk.inj hw
  subst e1
  subst e2
  obtain ⟨σ21, rfl⟩ : ∃ z, z = u := ⟨_, rfl⟩
  have hP := hP1
  generalize H1 = H at hP hS ⊢
  obtain ⟨g24, hf⟩ := fd_gds hf
  obtain ⟨σ25, eσ25, hf⟩ := fd_lts hf
  refine va_iast hx hb hK hP (fd_DC hI hJ) hS 27 15 fd_WC_27 fd_tyC_27 g24 dX8_add_58 (fun H locs hP _ hS => ?_)
  have hP : va_P D vwCl (fd_WC a k σ25) H := by rw [eσ25]; exact fd_sP fd_WCa_27 hP
  refine lv_aload_n hx hb dX8_add_59 rfl (lv_at hl 0 rfl) ?_
  refine va_get (ci := 8) (v := .int (σ25.1 6)) (C := RX8) (T := TX8) (N := 7) hx hb hts h9X8 hown hK hP 5 fd_WC_5 rfl 6 (by decide) (hts (.fieldLink RX8 30 "FailDiagnose$Suspects" "size" "I") (List.mem_of_getElem? (i := 2) (by eq_refl))) (fun _ h9 => h9) rfl dX8_add_60 ?_
  obtain ⟨x26, ex26, hf⟩ := fd_lts hf
  refine fd_ni ex26 ?_
  refine lv_istore (lv' := [(4, .int x26), (0, .ref (a 5)), (1, .int p1), (2, .int p2), (3, .ref (a 8))]) hx hb dX8_add_63 hl (by decide) rfl (fun ls hl => ?_)
  exact hL65 N x26 σ25 _ _ _ hP hS (lv_sub hl [1, 4, 0] rfl) hf
noncomputable def f_X3_findSuspects_4_J60 (N : Nat) (k9 : Int32 → fd_St → Option (Unit × fd_St)) (k22 : Int32 → Int32 → Int32 → fd_St → Option (Unit × fd_St)) (y1 : Int32) (y2 : Int32) (y3 : Int32) (σ : fd_St) : Option (Unit × fd_St) := fd_lt (y3 + (1 : Int32)) (fun x30 => k22 y1 y2 x30 σ)
noncomputable def f_X3_findSuspects_4_L22 (N : Nat) (k9 : Int32 → fd_St → Option (Unit × fd_St)) : Nat → Int32 → Int32 → Int32 → fd_St → Option (Unit × fd_St)
  | 0 => fun _ _ _ _ => none
  | n + 1 => fun y1 y2 y3 σ => if y2 ≤ y3 then (fd_lt (y1 + (1 : Int32)) (fun x13 => k9 x13 σ)) else (fd_bd (f_X3_tryFault_4 N y1 y3 σ) (fun _ σ16 => fd_bd (f_X3_compareWithFails_4 N σ16) (fun _ σ21 => fd_bd (f_X9_explained_8 N σ21) (fun v25 σ26 => if v25 ≤ 0 then (f_X3_findSuspects_4_J60 N k9 (f_X3_findSuspects_4_L22 N k9 n) y1 y2 y3 σ26) else (fd_bd (f_X8_add_5_8 N y1 y3 σ26) (fun _ σ33 => f_X3_findSuspects_4_J60 N k9 (f_X3_findSuspects_4_L22 N k9 n) y1 y2 y3 σ33))))))
noncomputable def f_X3_findSuspects_4_L9 (N : Nat) : Nat → Int32 → fd_St → Option (Unit × fd_St)
  | 0 => fun _ _ => none
  | n + 1 => fun y1 σ => if (3 : Int32) < y1 then (some ((), σ)) else (fd_bd (f_X3_faultsOf_4 N y1 σ) (fun v8 σ9 => f_X3_findSuspects_4_L22 N (f_X3_findSuspects_4_L9 N n) N y1 v8 (0 : Int32) σ9))
noncomputable def f_X3_findSuspects_4 (N : Nat) (σ : fd_St) : Option (Unit × fd_St) := fd_bd (f_X8_reset_5 N σ) (fun _ σ3 => f_X3_findSuspects_4_L9 N N (0 : Int32) σ3)
set_option maxHeartbeats 4000000 in
set_option maxRecDepth 100000 in
theorem m_X3_findSuspects_4 (l : Launch) (D : va_G) (a : Nat → Nat) (k : Nat → ClassId) (sz : Nat) (hI : fd_I 39 a) (N : Nat) (σ : fd_St) (r : Unit × fd_St) (hf : f_X3_findSuspects_4 N σ = some r) : Met l yX3_findSuspects wsX3_findSuspects ({ frames := 4, cells := 0, slots := 0, locals := 154 }) (va_Pc [.ref (a 4)] (fd_PC D a k sz σ)) (va_Qv (fun u => ((), u) = r) (fd_BC D a k) (fd_A 39 a sz)) 0 0 (fd_A 39 a sz) := by
  refine Met.ofW (cc := cX3_findSuspects) (maxL := 4) (ret := none) (by decide) rfl ?_
  intro p e s m args below meth c s₁ B hml hv
  obtain ⟨rfl, hsz, hP, hK⟩ := hv
  have hx := B.exec
  have hb := B.bytes
  have hr := B.returns
  have hts := atoms_spec (ws := wsX3_findSuspects) B.pre
  have hown : s.vm.findClass RX3 = some m.cls := findClass_of_methodNamed B.named
  have hlocks := B.notSynchronized
  subst hsz
  have hJ : ∀ i, i < 39 → fd_A 39 a s.heap.size (a i) := fun i hi => Or.inl ⟨i, hi, rfl⟩
  have hS : va_S (fd_A 39 a s.heap.size) s.heap s.heap [] := va_S.rf
  have hl := lv_entry ([.ref (a 4)]) (n := 4) (Nat.le_of_ble_eq_true rfl)
  rw [lg_entry_eq]
  generalize (lg_sl ([.ref (a 4)]) ++ List.replicate (4 - (lg_sl ([.ref (a 4)])).length) Slot.unset).toArray = ls at hl ⊢
  have hl : lv_has ls 4 [(0, .ref (a 4))] := hl
  have h9X3 : ∀ w ∈ u_ws RX3 TX3 7, w ∈ wsX3_findSuspects := fd_su [165, 166, 167, 168, 169, 170, 171] (by eq_refl)
  have hL60 : ∀ (k9 : Int32 → fd_St → Option (Unit × fd_St)) (hk9 : ∀ (y1 : Int32) (σ : fd_St) (H : Heap) (locs : List Loc) (ls : Array Slot), va_P D vwCl (fd_WC a k σ) H → va_S (fd_A 39 a s.heap.size) s.heap H locs → lv_has ls 4 [(0, .ref (a 4)), (1, .int y1)] → k9 y1 σ = some r → W p l e ((headSpec wsX3_findSuspects ({ frames := 4, cells := 0, slots := 0, locals := 154 })).room) s m ([.ref (a 4)].toArray) below meth c H locs 0 0 (MQ below (va_Qv (fun u => ((), u) = r) (fd_BC D a k) (fd_A 39 a s.heap.size)) ([.ref (a 4)].toArray) s 0 0 (fd_A 39 a s.heap.size)) (F0 m 9 ls [])) (k22 : Int32 → Int32 → Int32 → fd_St → Option (Unit × fd_St)) (hk22 : ∀ (y1 : Int32) (y2 : Int32) (y3 : Int32) (σ : fd_St) (H : Heap) (locs : List Loc) (ls : Array Slot), va_P D vwCl (fd_WC a k σ) H → va_S (fd_A 39 a s.heap.size) s.heap H locs → lv_has ls 4 [(0, .ref (a 4)), (1, .int y1), (2, .int y2), (3, .int y3)] → k22 y1 y2 y3 σ = some r → W p l e ((headSpec wsX3_findSuspects ({ frames := 4, cells := 0, slots := 0, locals := 154 })).room) s m ([.ref (a 4)].toArray) below meth c H locs 0 0 (MQ below (va_Qv (fun u => ((), u) = r) (fd_BC D a k) (fd_A 39 a s.heap.size)) ([.ref (a 4)].toArray) s 0 0 (fd_A 39 a s.heap.size)) (F0 m 22 ls [])), ∀ (y1 : Int32) (y2 : Int32) (y3 : Int32) (σ : fd_St) (H : Heap) (locs : List Loc) (ls : Array Slot), va_P D vwCl (fd_WC a k σ) H → va_S (fd_A 39 a s.heap.size) s.heap H locs → lv_has ls 4 [(0, .ref (a 4)), (1, .int y1), (2, .int y2), (3, .int y3)] → f_X3_findSuspects_4_J60 N k9 k22 y1 y2 y3 σ = some r → W p l e ((headSpec wsX3_findSuspects ({ frames := 4, cells := 0, slots := 0, locals := 154 })).room) s m ([.ref (a 4)].toArray) below meth c H locs 0 0 (MQ below (va_Qv (fun u => ((), u) = r) (fd_BC D a k) (fd_A 39 a s.heap.size)) ([.ref (a 4)].toArray) s 0 0 (fd_A 39 a s.heap.size)) (F0 m 60 ls []) := by
    intro k9 hk9 k22 hk22 y1 y2 y3 σ H locs ls hP hS hl hf
    unfold f_X3_findSuspects_4_J60 at hf
    obtain ⟨x30, ex30, hf⟩ := fd_lts hf
    refine lv_iinc (v := x30) (lv' := [(3, .int x30), (0, .ref (a 4)), (1, .int y1), (2, .int y2)]) hx hb dX3_findSuspects_60 hl (k := 3) rfl (by rw [ex30]; rfl) (by decide) rfl (fun ls hl => ?_)
    refine lv_goto (tgt := 22) hx hb dX3_findSuspects_63 (by decide) ?_
    exact hk22 y1 y2 x30 σ _ _ _ hP hS (lv_sub hl [1, 2, 3, 0] rfl) hf
  have hL22 : ∀ (k9 : Int32 → fd_St → Option (Unit × fd_St)) (hk9 : ∀ (y1 : Int32) (σ : fd_St) (H : Heap) (locs : List Loc) (ls : Array Slot), va_P D vwCl (fd_WC a k σ) H → va_S (fd_A 39 a s.heap.size) s.heap H locs → lv_has ls 4 [(0, .ref (a 4)), (1, .int y1)] → k9 y1 σ = some r → W p l e ((headSpec wsX3_findSuspects ({ frames := 4, cells := 0, slots := 0, locals := 154 })).room) s m ([.ref (a 4)].toArray) below meth c H locs 0 0 (MQ below (va_Qv (fun u => ((), u) = r) (fd_BC D a k) (fd_A 39 a s.heap.size)) ([.ref (a 4)].toArray) s 0 0 (fd_A 39 a s.heap.size)) (F0 m 9 ls [])) (n : Nat), ∀ (y1 : Int32) (y2 : Int32) (y3 : Int32) (σ : fd_St) (H : Heap) (locs : List Loc) (ls : Array Slot), va_P D vwCl (fd_WC a k σ) H → va_S (fd_A 39 a s.heap.size) s.heap H locs → lv_has ls 4 [(0, .ref (a 4)), (1, .int y1), (2, .int y2), (3, .int y3)] → f_X3_findSuspects_4_L22 N k9 n y1 y2 y3 σ = some r → W p l e ((headSpec wsX3_findSuspects ({ frames := 4, cells := 0, slots := 0, locals := 154 })).room) s m ([.ref (a 4)].toArray) below meth c H locs 0 0 (MQ below (va_Qv (fun u => ((), u) = r) (fd_BC D a k) (fd_A 39 a s.heap.size)) ([.ref (a 4)].toArray) s 0 0 (fd_A 39 a s.heap.size)) (F0 m 22 ls []) := by
    intro k9 hk9 n
    induction n with
    | zero =>
      intro _ _ _ _ _ _ _ _ _ _ hf
      cases hf
    | succ n ih =>
      intro y1 y2 y3 σ H locs ls hP hS hl hf
      unfold f_X3_findSuspects_4_L22 at hf
      refine lv_iload_n hx hb dX3_findSuspects_22 rfl (lv_at hl 3 rfl) ?_
      refine lv_iload_n hx hb dX3_findSuspects_23 rfl (lv_at hl 2 rfl) ?_
      refine lv_icmp_ge (tgt := 66) hx hb dX3_findSuspects_24 (by decide) (fun c12 => ?_) (fun c12 => ?_)
      · have hf := fd_itp c12 hf
        obtain ⟨x13, ex13, hf⟩ := fd_lts hf
        refine lv_iinc (v := x13) (lv' := [(1, .int x13), (0, .ref (a 4)), (2, .int y2), (3, .int y3)]) hx hb dX3_findSuspects_66 hl (k := 1) rfl (by rw [ex13]; rfl) (by decide) rfl (fun ls hl => ?_)
        refine lv_goto (tgt := 9) hx hb dX3_findSuspects_69 (by decide) ?_
        exact hk9 x13 σ _ _ _ hP hS (lv_sub hl [1, 0] rfl) hf
      · have hf := fd_itn c12 hf
        refine lv_aload_n hx hb dX3_findSuspects_27 rfl (lv_at hl 0 rfl) ?_
        refine lv_iload_n hx hb dX3_findSuspects_28 rfl (lv_at hl 1 rfl) ?_
        refine lv_iload_n hx hb dX3_findSuspects_29 rfl (lv_at hl 3 rfl) ?_
        obtain ⟨w17, τ18, hc14, hf⟩ := fd_bds hf
        refine va_callv (va_runV (As := [.int y1, .int y3]) (rest := []) ⟨hx, hb, hml, hown, hts⟩ (m_X3_tryFault_4 l D a k H.size hI N y1 y3 σ _ hc14) (cwV 2 hts gX3_findSuspects_X3_tryFault rfl rfl rfl (by decide +kernel) ⟨Nat.le_of_ble_eq_true rfl, Nat.le_of_ble_eq_true rfl⟩) ⟨fd_blC, va_recv hK hP (ci := 3) (q0 := 4) rfl fd_WC_4, fd_prC hP hK⟩ rfl rfl hl.1 rfl (lv_room (Nat.le_of_ble_eq_true rfl)) dX3_findSuspects_30 ⟨Nat.zero_le _, Nat.zero_le _⟩) hS (fun q _ h => fd_A_mono hS.1 h) (fun q h => fd_A_mono hS.1 h) (fun u t H1 locs ht hvm hw hB hz hk hS => ?_)
        obtain ⟨hP1, hK1⟩ := hB
        rw [ht] at hP1
        have e2 := (Prod.mk.inj hw).2
        subst e2
        obtain ⟨σ16, rfl⟩ : ∃ z, z = u := ⟨_, rfl⟩
        have hP := hP1
        generalize H1 = H at hP hS ⊢
        refine lv_aload_n hx hb dX3_findSuspects_33 rfl (lv_at hl 0 rfl) ?_
        obtain ⟨w22, τ23, hc19, hf⟩ := fd_bds hf
        refine va_callv (va_runV (As := []) (rest := []) ⟨hx, hb, hml, hown, hts⟩ (m_X3_compareWithFails_4 l D a k H.size hI N σ16 _ hc19) (cwV 0 hts gX3_findSuspects_X3_compareWithFails rfl rfl rfl (by decide +kernel) ⟨Nat.le_of_ble_eq_true rfl, Nat.le_of_ble_eq_true rfl⟩) ⟨fd_blC, va_recv hK hP (ci := 3) (q0 := 4) rfl fd_WC_4, fd_prC hP hK⟩ rfl rfl hl.1 rfl (lv_room (Nat.le_of_ble_eq_true rfl)) dX3_findSuspects_34 ⟨Nat.zero_le _, Nat.zero_le _⟩) hS (fun q _ h => fd_A_mono hS.1 h) (fun q h => fd_A_mono hS.1 h) (fun u t H1 locs ht hvm hw hB hz hk hS => ?_)
        obtain ⟨hP1, hK1⟩ := hB
        rw [ht] at hP1
        have e2 := (Prod.mk.inj hw).2
        subst e2
        obtain ⟨σ21, rfl⟩ : ∃ z, z = u := ⟨_, rfl⟩
        have hP := hP1
        generalize H1 = H at hP hS ⊢
        refine lv_aload_n hx hb dX3_findSuspects_37 rfl (lv_at hl 0 rfl) ?_
        refine va_get (ci := 3) (v := .ref (a 8)) (C := RX3) (T := TX3) (N := 7) hx hb hts h9X3 hown hK hP 4 fd_WC_4 rfl 5 (by decide) (hts (.fieldLink RX3 28 "FailDiagnose$Diagnosis" "tally" "LFailDiagnose$Tally;") (List.mem_of_getElem? (i := 2) (by eq_refl))) (fun _ h9 => h9) rfl dX3_findSuspects_38 ?_
        obtain ⟨w27, τ28, hc24, hf⟩ := fd_bds hf
        refine va_calli (va_runV (As := []) (rest := []) ⟨hx, hb, hml, hown, hts⟩ (m_X9_explained_8 l D a k H.size hI N σ21 _ hc24) (cwV 0 hts gX3_findSuspects_X9_explained rfl rfl rfl (by decide +kernel) ⟨Nat.le_of_ble_eq_true rfl, Nat.le_of_ble_eq_true rfl⟩) ⟨fd_blC, va_recv hK hP (ci := 9) (q0 := 8) rfl fd_WC_8, fd_prC hP hK⟩ rfl rfl hl.1 rfl (lv_room (Nat.le_of_ble_eq_true rfl)) dX3_findSuspects_41 ⟨Nat.zero_le _, Nat.zero_le _⟩) hS (fun q _ h => fd_A_mono hS.1 h) (fun q h => fd_A_mono hS.1 h) (fun v25 u t H1 locs ht hvm hw hB hz hk hS => ?_)
        obtain ⟨hP1, hK1⟩ := hB
        rw [ht] at hP1
        obtain ⟨e1, e2⟩ := Prod.mk.inj hw
        subst e1
        subst e2
        obtain ⟨σ26, rfl⟩ : ∃ z, z = u := ⟨_, rfl⟩
        have hP := hP1
        generalize H1 = H at hP hS ⊢
        refine lv_if_le (tgt := 60) hx hb dX3_findSuspects_44 (by decide) (fun c29 => ?_) (fun c29 => ?_)
        · have hf := fd_itp c29 hf
          exact hL60 k9 hk9 (f_X3_findSuspects_4_L22 N k9 n) ih y1 y2 y3 σ26 _ _ _ hP hS (lv_sub hl [0, 1, 2, 3] rfl) hf
        · have hf := fd_itn c29 hf
          refine lv_aload_n hx hb dX3_findSuspects_47 rfl (lv_at hl 0 rfl) ?_
          refine va_get (ci := 3) (v := .ref (a 5)) (C := RX3) (T := TX3) (N := 7) hx hb hts h9X3 hown hK hP 4 fd_WC_4 rfl 3 (by decide) (hts (.fieldLink RX3 12 "FailDiagnose$Diagnosis" "suspects" "LFailDiagnose$Suspects;") (List.mem_of_getElem? (i := 1) (by eq_refl))) (fun _ h9 => h9) rfl dX3_findSuspects_48 ?_
          refine lv_iload_n hx hb dX3_findSuspects_51 rfl (lv_at hl 1 rfl) ?_
          refine lv_iload_n hx hb dX3_findSuspects_52 rfl (lv_at hl 3 rfl) ?_
          refine lv_aload_n hx hb dX3_findSuspects_53 rfl (lv_at hl 0 rfl) ?_
          refine va_get (ci := 3) (v := .ref (a 8)) (C := RX3) (T := TX3) (N := 7) hx hb hts h9X3 hown hK hP 4 fd_WC_4 rfl 5 (by decide) (hts (.fieldLink RX3 28 "FailDiagnose$Diagnosis" "tally" "LFailDiagnose$Tally;") (List.mem_of_getElem? (i := 2) (by eq_refl))) (fun _ h9 => h9) rfl dX3_findSuspects_54 ?_
          obtain ⟨w34, τ35, hc31, hf⟩ := fd_bds hf
          refine va_callv (va_runV (As := [.int y1, .int y3, .ref (a 8)]) (rest := []) ⟨hx, hb, hml, hown, hts⟩ (m_X8_add_5_8 l D a k H.size hI N y1 y3 σ26 _ hc31) (cwV 3 hts gX3_findSuspects_X8_add rfl rfl rfl (by decide +kernel) ⟨Nat.le_of_ble_eq_true rfl, Nat.le_of_ble_eq_true rfl⟩) ⟨fd_blC, va_recv hK hP (ci := 8) (q0 := 5) rfl fd_WC_5, fd_prC hP hK⟩ rfl rfl hl.1 rfl (lv_room (Nat.le_of_ble_eq_true rfl)) dX3_findSuspects_57 ⟨Nat.zero_le _, Nat.zero_le _⟩) hS (fun q _ h => fd_A_mono hS.1 h) (fun q h => fd_A_mono hS.1 h) (fun u t H1 locs ht hvm hw hB hz hk hS => ?_)
          obtain ⟨hP1, hK1⟩ := hB
          rw [ht] at hP1
          have e2 := (Prod.mk.inj hw).2
          subst e2
          obtain ⟨σ33, rfl⟩ : ∃ z, z = u := ⟨_, rfl⟩
          have hP := hP1
          generalize H1 = H at hP hS ⊢
          exact hL60 k9 hk9 (f_X3_findSuspects_4_L22 N k9 n) ih y1 y2 y3 σ33 _ _ _ hP hS (lv_sub hl [0, 1, 2, 3] rfl) hf
  have hL9 : ∀ (n : Nat), ∀ (y1 : Int32) (σ : fd_St) (H : Heap) (locs : List Loc) (ls : Array Slot), va_P D vwCl (fd_WC a k σ) H → va_S (fd_A 39 a s.heap.size) s.heap H locs → lv_has ls 4 [(0, .ref (a 4)), (1, .int y1)] → f_X3_findSuspects_4_L9 N n y1 σ = some r → W p l e ((headSpec wsX3_findSuspects ({ frames := 4, cells := 0, slots := 0, locals := 154 })).room) s m ([.ref (a 4)].toArray) below meth c H locs 0 0 (MQ below (va_Qv (fun u => ((), u) = r) (fd_BC D a k) (fd_A 39 a s.heap.size)) ([.ref (a 4)].toArray) s 0 0 (fd_A 39 a s.heap.size)) (F0 m 9 ls []) := by
    intro n
    induction n with
    | zero =>
      intro _ _ _ _ _ _ _ _ hf
      cases hf
    | succ n ih =>
      intro y1 σ H locs ls hP hS hl hf
      unfold f_X3_findSuspects_4_L9 at hf
      refine lv_iload_n hx hb dX3_findSuspects_9 rfl (lv_at hl 1 rfl) ?_
      refine lv_iconst (v := (3 : Int32)) hx hb dX3_findSuspects_10 (by decide) ?_
      refine lv_icmp_gt (tgt := 72) hx hb dX3_findSuspects_11 (by decide) (fun c6 => ?_) (fun c6 => ?_)
      · have hf := fd_itp c6 hf
        exact W.vret hx hb hr (fun t ht hW => ⟨⟨σ, rfl, Option.some.inj hf, by rw [ht]; exact hP, va_K.moved hW.alike hK⟩, hS.F ht⟩) hS.2.2 dX3_findSuspects_72
      · have hf := fd_itn c6 hf
        refine lv_aload_n hx hb dX3_findSuspects_14 rfl (lv_at hl 0 rfl) ?_
        refine lv_iload_n hx hb dX3_findSuspects_15 rfl (lv_at hl 1 rfl) ?_
        obtain ⟨w10, τ11, hc7, hf⟩ := fd_bds hf
        refine va_calli (va_runV (As := [.int y1]) (rest := []) ⟨hx, hb, hml, hown, hts⟩ (m_X3_faultsOf_4 l D a k H.size hI N y1 σ _ hc7) (cwV 1 hts gX3_findSuspects_X3_faultsOf rfl rfl rfl (by decide +kernel) ⟨Nat.le_of_ble_eq_true rfl, Nat.le_of_ble_eq_true rfl⟩) ⟨fd_blC, va_recv hK hP (ci := 3) (q0 := 4) rfl fd_WC_4, fd_prC hP hK⟩ rfl rfl hl.1 rfl (lv_room (Nat.le_of_ble_eq_true rfl)) dX3_findSuspects_16 ⟨Nat.zero_le _, Nat.zero_le _⟩) hS (fun q _ h => fd_A_mono hS.1 h) (fun q h => fd_A_mono hS.1 h) (fun v8 u t H1 locs ht hvm hw hB hz hk hS => ?_)
        obtain ⟨hP1, hK1⟩ := hB
        rw [ht] at hP1
        obtain ⟨e1, e2⟩ := Prod.mk.inj hw
        subst e1
        subst e2
        obtain ⟨σ9, rfl⟩ : ∃ z, z = u := ⟨_, rfl⟩
        have hP := hP1
        generalize H1 = H at hP hS ⊢
        refine lv_istore_n (lv' := [(2, .int v8), (0, .ref (a 4)), (1, .int y1)]) hx hb dX3_findSuspects_19 rfl hl (by decide) rfl (fun ls hl => ?_)
        refine lv_iconst (v := (0 : Int32)) hx hb dX3_findSuspects_20 (by decide) ?_
        refine lv_istore_n (lv' := [(3, .int (0 : Int32)), (2, .int v8), (0, .ref (a 4)), (1, .int y1)]) hx hb dX3_findSuspects_21 rfl hl (by decide) rfl (fun ls hl => ?_)
        exact hL22 (f_X3_findSuspects_4_L9 N n) ih N y1 v8 (0 : Int32) σ9 _ _ _ hP hS (lv_sub hl [2, 3, 1, 0] rfl) hf
  unfold f_X3_findSuspects_4 at hf
  refine lv_aload_n hx hb dX3_findSuspects_0 rfl (lv_at hl 0 rfl) ?_
  refine va_get (ci := 3) (v := .ref (a 5)) (C := RX3) (T := TX3) (N := 7) hx hb hts h9X3 hown hK hP 4 fd_WC_4 rfl 3 (by decide) (hts (.fieldLink RX3 12 "FailDiagnose$Diagnosis" "suspects" "LFailDiagnose$Suspects;") (List.mem_of_getElem? (i := 1) (by eq_refl))) (fun _ h9 => h9) rfl dX3_findSuspects_1 ?_
  obtain ⟨w4, τ5, hc1, hf⟩ := fd_bds hf
  refine va_callv (va_runV (As := []) (rest := []) ⟨hx, hb, hml, hown, hts⟩ (m_X8_reset_5 l D a k s.heap.size hI N σ _ hc1) (cwV 0 hts gX3_findSuspects_X8_reset rfl rfl rfl (by decide +kernel) ⟨Nat.le_of_ble_eq_true rfl, Nat.le_of_ble_eq_true rfl⟩) ⟨fd_blC, va_recv hK hP (ci := 8) (q0 := 5) rfl fd_WC_5, fd_prC hP hK⟩ rfl rfl hl.1 rfl (lv_room (Nat.le_of_ble_eq_true rfl)) dX3_findSuspects_4 ⟨Nat.zero_le _, Nat.zero_le _⟩) hS (fun q _ h => fd_A_mono hS.1 h) (fun q h => fd_A_mono hS.1 h) (fun u t H1 locs ht hvm hw hB hz hk hS => ?_)
  obtain ⟨hP1, hK1⟩ := hB
  rw [ht] at hP1
  have e2 := (Prod.mk.inj hw).2
  subst e2
  obtain ⟨σ3, rfl⟩ : ∃ z, z = u := ⟨_, rfl⟩
  have hP := hP1
  generalize H1 = H at hP hS ⊢
  refine lv_iconst (v := (0 : Int32)) hx hb dX3_findSuspects_7 (by decide) ?_
  refine lv_istore_n (lv' := [(1, .int (0 : Int32)), (0, .ref (a 4))]) hx hb dX3_findSuspects_8 rfl hl (by decide) rfl (fun ls hl => ?_)
  exact hL9 N (0 : Int32) σ3 _ _ _ hP hS (lv_sub hl [1, 0] rfl) hf
noncomputable def f_X9_reset_7 (N : Nat) (σ : fd_St) : Option (Unit × fd_St) := fd_lt (fd_sI 9 (0 : Int32) σ) (fun σ1 => fd_lt (fd_sI 10 (0 : Int32) σ1) (fun σ2 => fd_lt (fd_sI 11 (0 : Int32) σ2) (fun σ3 => some ((), σ3))))
set_option maxHeartbeats 4000000 in
set_option maxRecDepth 100000 in
theorem m_X9_reset_7 (l : Launch) (D : va_G) (a : Nat → Nat) (k : Nat → ClassId) (sz : Nat) (hI : fd_I 39 a) (N : Nat) (σ : fd_St) (r : Unit × fd_St) (hf : f_X9_reset_7 N σ = some r) : Met l yX9_reset wsX9_reset ({ frames := 0, cells := 0, slots := 0, locals := 0 }) (va_Pc [.ref (a 7)] (fd_PC D a k sz σ)) (va_Qv (fun u => ((), u) = r) (fd_BC D a k) (fd_A 39 a sz)) 0 0 (fd_A 39 a sz) := by
  refine Met.ofW (cc := cX9_reset) (maxL := 1) (ret := none) (by decide) rfl ?_
  intro p e s m args below meth c s₁ B hml hv
  obtain ⟨rfl, hsz, hP, hK⟩ := hv
  have hx := B.exec
  have hb := B.bytes
  have hr := B.returns
  have hts := atoms_spec (ws := wsX9_reset) B.pre
  have hown : s.vm.findClass RX9 = some m.cls := findClass_of_methodNamed B.named
  have hlocks := B.notSynchronized
  subst hsz
  have hJ : ∀ i, i < 39 → fd_A 39 a s.heap.size (a i) := fun i hi => Or.inl ⟨i, hi, rfl⟩
  have hS : va_S (fd_A 39 a s.heap.size) s.heap s.heap [] := va_S.rf
  have hl := lv_entry ([.ref (a 7)]) (n := 1) (Nat.le_of_ble_eq_true rfl)
  rw [lg_entry_eq]
  generalize (lg_sl ([.ref (a 7)]) ++ List.replicate (1 - (lg_sl ([.ref (a 7)])).length) Slot.unset).toArray = ls at hl ⊢
  have hl : lv_has ls 1 [(0, .ref (a 7))] := hl
  have h9X9 : ∀ w ∈ u_ws RX9 TX9 3, w ∈ wsX9_reset := fd_su [4, 5, 6] (by eq_refl)
  unfold f_X9_reset_7 at hf
  refine lv_aload_n hx hb dX9_reset_0 rfl (lv_at hl 0 rfl) ?_
  refine lv_iconst (v := (0 : Int32)) hx hb dX9_reset_1 (by decide) ?_
  obtain ⟨σ1, eσ1, hf⟩ := fd_lts hf
  refine va_put (ci := 9) (v := .int (0 : Int32)) (ty := .int) (C := RX9) (T := TX9) (N := 3) hx hb hts h9X9 tyX9 tyX9_ok nmX9 hown hK hP (fd_DC hI hJ) hS 7 fd_WC_7 rfl 0 (by decide) (hts (.fieldLink RX9 7 "FailDiagnose$Tally" "explained" "I") (List.mem_of_getElem? (i := 1) (by eq_refl))) (fun _ h9 => h9) rfl (by decide +kernel) rfl rfl (Nat.le_of_ble_eq_true rfl) dX9_reset_2 (fun H locs hP _ hS => ?_)
  have hP : va_P D vwCl (fd_WC a k σ1) H := by rw [eσ1]; exact fd_sP fd_WCi_9 hP
  refine lv_aload_n hx hb dX9_reset_5 rfl (lv_at hl 0 rfl) ?_
  refine lv_iconst (v := (0 : Int32)) hx hb dX9_reset_6 (by decide) ?_
  obtain ⟨σ2, eσ2, hf⟩ := fd_lts hf
  refine va_put (ci := 9) (v := .int (0 : Int32)) (ty := .int) (C := RX9) (T := TX9) (N := 3) hx hb hts h9X9 tyX9 tyX9_ok nmX9 hown hK hP (fd_DC hI hJ) hS 7 fd_WC_7 rfl 1 (by decide) (hts (.fieldLink RX9 13 "FailDiagnose$Tally" "missed" "I") (List.mem_of_getElem? (i := 2) (by eq_refl))) (fun _ h9 => h9) rfl (by decide +kernel) rfl rfl (Nat.le_of_ble_eq_true rfl) dX9_reset_7 (fun H locs hP _ hS => ?_)
  have hP : va_P D vwCl (fd_WC a k σ2) H := by rw [eσ2]; exact fd_sP fd_WCi_10 hP
  refine lv_aload_n hx hb dX9_reset_10 rfl (lv_at hl 0 rfl) ?_
  refine lv_iconst (v := (0 : Int32)) hx hb dX9_reset_11 (by decide) ?_
  obtain ⟨σ3, eσ3, hf⟩ := fd_lts hf
  refine va_put (ci := 9) (v := .int (0 : Int32)) (ty := .int) (C := RX9) (T := TX9) (N := 3) hx hb hts h9X9 tyX9 tyX9_ok nmX9 hown hK hP (fd_DC hI hJ) hS 7 fd_WC_7 rfl 2 (by decide) (hts (.fieldLink RX9 16 "FailDiagnose$Tally" "wrong" "I") (List.mem_of_getElem? (i := 3) (by eq_refl))) (fun _ h9 => h9) rfl (by decide +kernel) rfl rfl (Nat.le_of_ble_eq_true rfl) dX9_reset_12 (fun H locs hP _ hS => ?_)
  have hP : va_P D vwCl (fd_WC a k σ3) H := by rw [eσ3]; exact fd_sP fd_WCi_11 hP
  exact W.vret hx hb hr (fun t ht hW => ⟨⟨σ3, rfl, Option.some.inj hf, by rw [ht]; exact hP, va_K.moved hW.alike hK⟩, hS.F ht⟩) hS.2.2 dX9_reset_15
noncomputable def f_X0_reset_6 (N : Nat) (σ : fd_St) : Option (Unit × fd_St) := fd_lt (fd_sI 7 (-1 : Int32) σ) (fun σ1 => fd_lt (fd_sI 8 (-1 : Int32) σ1) (fun σ2 => fd_bd (f_X9_reset_7 N σ2) (fun _ σ5 => some ((), σ5))))
set_option maxHeartbeats 4000000 in
set_option maxRecDepth 100000 in
theorem m_X0_reset_6 (l : Launch) (D : va_G) (a : Nat → Nat) (k : Nat → ClassId) (sz : Nat) (hI : fd_I 39 a) (N : Nat) (σ : fd_St) (r : Unit × fd_St) (hf : f_X0_reset_6 N σ = some r) : Met l yX0_reset wsX0_reset ({ frames := 1, cells := 0, slots := 0, locals := 20 }) (va_Pc [.ref (a 6)] (fd_PC D a k sz σ)) (va_Qv (fun u => ((), u) = r) (fd_BC D a k) (fd_A 39 a sz)) 0 0 (fd_A 39 a sz) := by
  refine Met.ofW (cc := cX0_reset) (maxL := 1) (ret := none) (by decide) rfl ?_
  intro p e s m args below meth c s₁ B hml hv
  obtain ⟨rfl, hsz, hP, hK⟩ := hv
  have hx := B.exec
  have hb := B.bytes
  have hr := B.returns
  have hts := atoms_spec (ws := wsX0_reset) B.pre
  have hown : s.vm.findClass RX0 = some m.cls := findClass_of_methodNamed B.named
  have hlocks := B.notSynchronized
  subst hsz
  have hJ : ∀ i, i < 39 → fd_A 39 a s.heap.size (a i) := fun i hi => Or.inl ⟨i, hi, rfl⟩
  have hS : va_S (fd_A 39 a s.heap.size) s.heap s.heap [] := va_S.rf
  have hl := lv_entry ([.ref (a 6)]) (n := 1) (Nat.le_of_ble_eq_true rfl)
  rw [lg_entry_eq]
  generalize (lg_sl ([.ref (a 6)]) ++ List.replicate (1 - (lg_sl ([.ref (a 6)])).length) Slot.unset).toArray = ls at hl ⊢
  have hl : lv_has ls 1 [(0, .ref (a 6))] := hl
  have h9X0 : ∀ w ∈ u_ws RX0 TX0 3, w ∈ wsX0_reset := fd_su [12, 13, 14] (by eq_refl)
  unfold f_X0_reset_6 at hf
  refine lv_aload_n hx hb dX0_reset_0 rfl (lv_at hl 0 rfl) ?_
  refine lv_iconst (v := (-1 : Int32)) hx hb dX0_reset_1 (by decide) ?_
  obtain ⟨σ1, eσ1, hf⟩ := fd_lts hf
  refine va_put (ci := 0) (v := .int (-1 : Int32)) (ty := .int) (C := RX0) (T := TX0) (N := 3) hx hb hts h9X0 tyX0 tyX0_ok nmX0 hown hK hP (fd_DC hI hJ) hS 6 fd_WC_6 rfl 1 (by decide) (hts (.fieldLink RX0 18 "FailDiagnose$BestPair" "first" "I") (List.mem_of_getElem? (i := 1) (by eq_refl))) (fun _ h9 => h9) rfl (by decide +kernel) rfl rfl (Nat.le_of_ble_eq_true rfl) dX0_reset_2 (fun H locs hP _ hS => ?_)
  have hP : va_P D vwCl (fd_WC a k σ1) H := by rw [eσ1]; exact fd_sP fd_WCi_7 hP
  refine lv_aload_n hx hb dX0_reset_5 rfl (lv_at hl 0 rfl) ?_
  refine lv_iconst (v := (-1 : Int32)) hx hb dX0_reset_6 (by decide) ?_
  obtain ⟨σ2, eσ2, hf⟩ := fd_lts hf
  refine va_put (ci := 0) (v := .int (-1 : Int32)) (ty := .int) (C := RX0) (T := TX0) (N := 3) hx hb hts h9X0 tyX0 tyX0_ok nmX0 hown hK hP (fd_DC hI hJ) hS 6 fd_WC_6 rfl 2 (by decide) (hts (.fieldLink RX0 22 "FailDiagnose$BestPair" "second" "I") (List.mem_of_getElem? (i := 2) (by eq_refl))) (fun _ h9 => h9) rfl (by decide +kernel) rfl rfl (Nat.le_of_ble_eq_true rfl) dX0_reset_7 (fun H locs hP _ hS => ?_)
  have hP : va_P D vwCl (fd_WC a k σ2) H := by rw [eσ2]; exact fd_sP fd_WCi_8 hP
  refine lv_aload_n hx hb dX0_reset_10 rfl (lv_at hl 0 rfl) ?_
  refine va_get (ci := 0) (v := .ref (a 7)) (C := RX0) (T := TX0) (N := 3) hx hb hts h9X0 hown hK hP 6 fd_WC_6 rfl 0 (by decide) (hts (.fieldLink RX0 12 "FailDiagnose$BestPair" "tally" "LFailDiagnose$Tally;") (List.mem_of_getElem? (i := 3) (by eq_refl))) (fun _ h9 => h9) rfl dX0_reset_11 ?_
  obtain ⟨w6, τ7, hc3, hf⟩ := fd_bds hf
  refine va_callv (va_runV (As := []) (rest := []) ⟨hx, hb, hml, hown, hts⟩ (m_X9_reset_7 l D a k H.size hI N σ2 _ hc3) (cwV 0 hts gX0_reset_X9_reset rfl rfl rfl (by decide +kernel) ⟨Nat.le_of_ble_eq_true rfl, Nat.le_of_ble_eq_true rfl⟩) ⟨fd_blC, va_recv hK hP (ci := 9) (q0 := 7) rfl fd_WC_7, fd_prC hP hK⟩ rfl rfl hl.1 rfl (lv_room (Nat.le_of_ble_eq_true rfl)) dX0_reset_14 ⟨Nat.zero_le _, Nat.zero_le _⟩) hS (fun q _ h => fd_A_mono hS.1 h) (fun q h => fd_A_mono hS.1 h) (fun u t H1 locs ht hvm hw hB hz hk hS => ?_)
  obtain ⟨hP1, hK1⟩ := hB
  rw [ht] at hP1
  have e2 := (Prod.mk.inj hw).2
  subst e2
  obtain ⟨σ5, rfl⟩ : ∃ z, z = u := ⟨_, rfl⟩
  have hP := hP1
  generalize H1 = H at hP hS ⊢
  exact W.vret hx hb hr (fun t ht hW => ⟨⟨σ5, rfl, Option.some.inj hf, by rw [ht]; exact hP, va_K.moved hW.alike hK⟩, hS.F ht⟩) hS.2.2 dX0_reset_17
noncomputable def f_X8_size_5 (N : Nat) (σ : fd_St) : Option (Int32 × fd_St) := some (σ.1 6, σ)
set_option maxHeartbeats 4000000 in
set_option maxRecDepth 100000 in
theorem m_X8_size_5 (l : Launch) (D : va_G) (a : Nat → Nat) (k : Nat → ClassId) (sz : Nat) (hI : fd_I 39 a) (N : Nat) (σ : fd_St) (r : Int32 × fd_St) (hf : f_X8_size_5 N σ = some r) : Met l yX8_size wsX8_size ({ frames := 0, cells := 0, slots := 0, locals := 0 }) (va_Pc [.ref (a 5)] (fd_PC D a k sz σ)) (va_Qi (fun v u => (v, u) = r) (fd_BC D a k) (fd_A 39 a sz)) 0 0 (fd_A 39 a sz) := by
  refine Met.ofW (cc := cX8_size) (maxL := 1) (ret := (some .int)) (by decide) rfl ?_
  intro p e s m args below meth c s₁ B hml hv
  obtain ⟨rfl, hsz, hP, hK⟩ := hv
  have hx := B.exec
  have hb := B.bytes
  have hr := B.returns
  have hts := atoms_spec (ws := wsX8_size) B.pre
  have hown : s.vm.findClass RX8 = some m.cls := findClass_of_methodNamed B.named
  have hlocks := B.notSynchronized
  subst hsz
  have hJ : ∀ i, i < 39 → fd_A 39 a s.heap.size (a i) := fun i hi => Or.inl ⟨i, hi, rfl⟩
  have hS : va_S (fd_A 39 a s.heap.size) s.heap s.heap [] := va_S.rf
  have hl := lv_entry ([.ref (a 5)]) (n := 1) (Nat.le_of_ble_eq_true rfl)
  rw [lg_entry_eq]
  generalize (lg_sl ([.ref (a 5)]) ++ List.replicate (1 - (lg_sl ([.ref (a 5)])).length) Slot.unset).toArray = ls at hl ⊢
  have hl : lv_has ls 1 [(0, .ref (a 5))] := hl
  have h9X8 : ∀ w ∈ u_ws RX8 TX8 7, w ∈ wsX8_size := fd_su [2, 3, 4, 5, 6, 7, 8] (by eq_refl)
  unfold f_X8_size_5 at hf
  refine lv_aload_n hx hb dX8_size_0 rfl (lv_at hl 0 rfl) ?_
  refine va_get (ci := 8) (v := .int (σ.1 6)) (C := RX8) (T := TX8) (N := 7) hx hb hts h9X8 hown hK hP 5 fd_WC_5 rfl 6 (by decide) (hts (.fieldLink RX8 30 "FailDiagnose$Suspects" "size" "I") (List.mem_of_getElem? (i := 1) (by eq_refl))) (fun _ h9 => h9) rfl dX8_size_1 ?_
  exact W.iret (v := (σ.1 6)) hx hb hr (fun t ht hW => ⟨⟨σ.1 6, σ, rfl, Option.some.inj hf, by rw [ht]; exact hP, va_K.moved hW.alike hK⟩, hS.F ht⟩) hS.2.2 dX8_size_4
noncomputable def f_X8_kind_5 (N : Nat) (p1 : Int32) (σ : fd_St) : Option (Int32 × fd_St) := fd_gd (vp_in p1 480) (fd_gd (vp_in (σ.2.1 28 p1.toNatClampNeg) 480) (some (σ.2.1 23 (σ.2.1 28 p1.toNatClampNeg).toNatClampNeg, σ)))
set_option maxHeartbeats 4000000 in
set_option maxRecDepth 100000 in
theorem m_X8_kind_5 (l : Launch) (D : va_G) (a : Nat → Nat) (k : Nat → ClassId) (sz : Nat) (hI : fd_I 39 a) (N : Nat) (p1 : Int32) (σ : fd_St) (r : Int32 × fd_St) (hf : f_X8_kind_5 N p1 σ = some r) : Met l yX8_kind wsX8_kind ({ frames := 0, cells := 0, slots := 0, locals := 0 }) (va_Pc [.ref (a 5), .int p1] (fd_PC D a k sz σ)) (va_Qi (fun v u => (v, u) = r) (fd_BC D a k) (fd_A 39 a sz)) 0 0 (fd_A 39 a sz) := by
  refine Met.ofW (cc := cX8_kind) (maxL := 2) (ret := (some .int)) (by decide) rfl ?_
  intro p e s m args below meth c s₁ B hml hv
  obtain ⟨rfl, hsz, hP, hK⟩ := hv
  have hx := B.exec
  have hb := B.bytes
  have hr := B.returns
  have hts := atoms_spec (ws := wsX8_kind) B.pre
  have hown : s.vm.findClass RX8 = some m.cls := findClass_of_methodNamed B.named
  have hlocks := B.notSynchronized
  subst hsz
  have hJ : ∀ i, i < 39 → fd_A 39 a s.heap.size (a i) := fun i hi => Or.inl ⟨i, hi, rfl⟩
  have hS : va_S (fd_A 39 a s.heap.size) s.heap s.heap [] := va_S.rf
  have hl := lv_entry ([.ref (a 5), .int p1]) (n := 2) (Nat.le_of_ble_eq_true rfl)
  rw [lg_entry_eq]
  generalize (lg_sl ([.ref (a 5), .int p1]) ++ List.replicate (2 - (lg_sl ([.ref (a 5), .int p1])).length) Slot.unset).toArray = ls at hl ⊢
  have hl : lv_has ls 2 [(0, .ref (a 5)), (1, .int p1)] := hl
  have h9X8 : ∀ w ∈ u_ws RX8 TX8 7, w ∈ wsX8_kind := fd_su [3, 4, 5, 6, 7, 8, 9] (by eq_refl)
  unfold f_X8_kind_5 at hf
  refine lv_aload_n hx hb dX8_kind_0 rfl (lv_at hl 0 rfl) ?_
  refine va_get (ci := 8) (v := .ref (a 23)) (C := RX8) (T := TX8) (N := 7) hx hb hts h9X8 hown hK hP 5 fd_WC_5 rfl 0 (by decide) (hts (.fieldLink RX8 9 "FailDiagnose$Suspects" "kinds" "[I") (List.mem_of_getElem? (i := 1) (by eq_refl))) (fun _ h9 => h9) rfl dX8_kind_1 ?_
  refine lv_aload_n hx hb dX8_kind_4 rfl (lv_at hl 0 rfl) ?_
  refine va_get (ci := 8) (v := .ref (a 28)) (C := RX8) (T := TX8) (N := 7) hx hb hts h9X8 hown hK hP 5 fd_WC_5 rfl 5 (by decide) (hts (.fieldLink RX8 27 "FailDiagnose$Suspects" "order" "[I") (List.mem_of_getElem? (i := 2) (by eq_refl))) (fun _ h9 => h9) rfl dX8_kind_5 ?_
  refine lv_iload_n hx hb dX8_kind_8 rfl (lv_at hl 1 rfl) ?_
  obtain ⟨g1, hf⟩ := fd_gds hf
  refine va_iald hx hb hK hP 28 16 fd_WC_28 fd_tyC_28 g1 dX8_kind_9 ?_
  obtain ⟨g2, hf⟩ := fd_gds hf
  refine va_iald hx hb hK hP 23 11 fd_WC_23 fd_tyC_23 g2 dX8_kind_10 ?_
  exact W.iret (v := (σ.2.1 23 (σ.2.1 28 p1.toNatClampNeg).toNatClampNeg)) hx hb hr (fun t ht hW => ⟨⟨σ.2.1 23 (σ.2.1 28 p1.toNatClampNeg).toNatClampNeg, σ, rfl, Option.some.inj hf, by rw [ht]; exact hP, va_K.moved hW.alike hK⟩, hS.F ht⟩) hS.2.2 dX8_kind_11
noncomputable def f_X8_isStuck_5 (N : Nat) (p1 : Int32) (σ : fd_St) : Option (Int32 × fd_St) := fd_bd (f_X8_kind_5 N p1 σ) (fun v2 σ3 => if (1 : Int32) < v2 then (some ((0 : Int32), σ3)) else (some ((1 : Int32), σ3)))
set_option maxHeartbeats 4000000 in
set_option maxRecDepth 100000 in
theorem m_X8_isStuck_5 (l : Launch) (D : va_G) (a : Nat → Nat) (k : Nat → ClassId) (sz : Nat) (hI : fd_I 39 a) (N : Nat) (p1 : Int32) (σ : fd_St) (r : Int32 × fd_St) (hf : f_X8_isStuck_5 N p1 σ = some r) : Met l yX8_isStuck wsX8_isStuck ({ frames := 1, cells := 0, slots := 0, locals := 21 }) (va_Pc [.ref (a 5), .int p1] (fd_PC D a k sz σ)) (va_Qi (fun v u => (v, u) = r) (fd_BC D a k) (fd_A 39 a sz)) 0 0 (fd_A 39 a sz) := by
  refine Met.ofW (cc := cX8_isStuck) (maxL := 2) (ret := (some .boolean)) (by decide) rfl ?_
  intro p e s m args below meth c s₁ B hml hv
  obtain ⟨rfl, hsz, hP, hK⟩ := hv
  have hx := B.exec
  have hb := B.bytes
  have hr := B.returns
  have hts := atoms_spec (ws := wsX8_isStuck) B.pre
  have hown : s.vm.findClass RX8 = some m.cls := findClass_of_methodNamed B.named
  have hlocks := B.notSynchronized
  subst hsz
  have hJ : ∀ i, i < 39 → fd_A 39 a s.heap.size (a i) := fun i hi => Or.inl ⟨i, hi, rfl⟩
  have hS : va_S (fd_A 39 a s.heap.size) s.heap s.heap [] := va_S.rf
  have hl := lv_entry ([.ref (a 5), .int p1]) (n := 2) (Nat.le_of_ble_eq_true rfl)
  rw [lg_entry_eq]
  generalize (lg_sl ([.ref (a 5), .int p1]) ++ List.replicate (2 - (lg_sl ([.ref (a 5), .int p1])).length) Slot.unset).toArray = ls at hl ⊢
  have hl : lv_has ls 2 [(0, .ref (a 5)), (1, .int p1)] := hl
  unfold f_X8_isStuck_5 at hf
  refine lv_aload_n hx hb dX8_isStuck_0 rfl (lv_at hl 0 rfl) ?_
  refine lv_iload_n hx hb dX8_isStuck_1 rfl (lv_at hl 1 rfl) ?_
  obtain ⟨w4, τ5, hc1, hf⟩ := fd_bds hf
  refine va_calli (va_runV (As := [.int p1]) (rest := []) ⟨hx, hb, hml, hown, hts⟩ (m_X8_kind_5 l D a k s.heap.size hI N p1 σ _ hc1) (cwV 1 hts gX8_isStuck_X8_kind rfl rfl rfl (by decide +kernel) ⟨Nat.le_of_ble_eq_true rfl, Nat.le_of_ble_eq_true rfl⟩) ⟨fd_blC, va_recv hK hP (ci := 8) (q0 := 5) rfl fd_WC_5, fd_prC hP hK⟩ rfl rfl hl.1 rfl (lv_room (Nat.le_of_ble_eq_true rfl)) dX8_isStuck_2 ⟨Nat.zero_le _, Nat.zero_le _⟩) hS (fun q _ h => fd_A_mono hS.1 h) (fun q h => fd_A_mono hS.1 h) (fun v2 u t H1 locs ht hvm hw hB hz hk hS => ?_)
  obtain ⟨hP1, hK1⟩ := hB
  rw [ht] at hP1
  obtain ⟨e1, e2⟩ := Prod.mk.inj hw
  subst e1
  subst e2
  obtain ⟨σ3, rfl⟩ : ∃ z, z = u := ⟨_, rfl⟩
  have hP := hP1
  generalize H1 = H at hP hS ⊢
  refine lv_iconst (v := (1 : Int32)) hx hb dX8_isStuck_5 (by decide) ?_
  refine lv_icmp_gt (tgt := 13) hx hb dX8_isStuck_6 (by decide) (fun c6 => ?_) (fun c6 => ?_)
  · have hf := fd_itp c6 hf
    refine lv_iconst (v := (0 : Int32)) hx hb dX8_isStuck_13 (by decide) ?_
    exact W.zret (v := (0 : Int32)) (ty := .boolean) hx hb hr rfl (fun t ht hW => ⟨⟨(0 : Int32), σ3, rfl, Option.some.inj hf, by rw [ht]; exact hP, va_K.moved hW.alike hK⟩, hS.F ht⟩) hS.2.2 dX8_isStuck_14
  · have hf := fd_itn c6 hf
    refine lv_iconst (v := (1 : Int32)) hx hb dX8_isStuck_9 (by decide) ?_
    refine lv_goto (tgt := 14) hx hb dX8_isStuck_10 (by decide) ?_
    exact W.zret (v := (1 : Int32)) (ty := .boolean) hx hb hr rfl (fun t ht hW => ⟨⟨(1 : Int32), σ3, rfl, Option.some.inj hf, by rw [ht]; exact hP, va_K.moved hW.alike hK⟩, hS.F ht⟩) hS.2.2 dX8_isStuck_14
noncomputable def f_X3_chooseForPairs_4_J42 (N : Nat) (k4 : Int32 → Int32 → fd_St → Option (Int32 × fd_St)) (y1 : Int32) (y2 : Int32) (σ : fd_St) : Option (Int32 × fd_St) := fd_lt (y2 + (1 : Int32)) (fun x14 => k4 y1 x14 σ)
noncomputable def f_X3_chooseForPairs_4_L4 (N : Nat) : Nat → Int32 → Int32 → fd_St → Option (Int32 × fd_St)
  | 0 => fun _ _ _ => none
  | n + 1 => fun y1 y2 σ => fd_bd (f_X8_size_5 N σ) (fun v2 σ3 => if v2 ≤ y2 then (some (y1, σ3)) else (if (12 : Int32) ≤ y1 then (some (y1, σ3)) else (fd_bd (f_X8_isStuck_5 N y2 σ3) (fun v9 σ10 => if v9 = 0 then (f_X3_chooseForPairs_4_J42 N (f_X3_chooseForPairs_4_L4 N n) y1 y2 σ10) else (fd_gd (vp_in y1 12) (fd_lt (fd_sA 22 y1 y2 σ10) (fun σ16 => fd_lt (y1 + (1 : Int32)) (fun x17 => f_X3_chooseForPairs_4_J42 N (f_X3_chooseForPairs_4_L4 N n) x17 y2 σ16))))))))
noncomputable def f_X3_chooseForPairs_4 (N : Nat) (σ : fd_St) : Option (Int32 × fd_St) := f_X3_chooseForPairs_4_L4 N N (0 : Int32) (0 : Int32) σ
set_option maxHeartbeats 4000000 in
set_option maxRecDepth 100000 in
theorem m_X3_chooseForPairs_4 (l : Launch) (D : va_G) (a : Nat → Nat) (k : Nat → ClassId) (sz : Nat) (hI : fd_I 39 a) (N : Nat) (σ : fd_St) (r : Int32 × fd_St) (hf : f_X3_chooseForPairs_4 N σ = some r) : Met l yX3_chooseForPairs wsX3_chooseForPairs ({ frames := 2, cells := 0, slots := 0, locals := 42 }) (va_Pc [.ref (a 4)] (fd_PC D a k sz σ)) (va_Qi (fun v u => (v, u) = r) (fd_BC D a k) (fd_A 39 a sz)) 0 0 (fd_A 39 a sz) := by
  refine Met.ofW (cc := cX3_chooseForPairs) (maxL := 3) (ret := (some .int)) (by decide) rfl ?_
  intro p e s m args below meth c s₁ B hml hv
  obtain ⟨rfl, hsz, hP, hK⟩ := hv
  have hx := B.exec
  have hb := B.bytes
  have hr := B.returns
  have hts := atoms_spec (ws := wsX3_chooseForPairs) B.pre
  have hown : s.vm.findClass RX3 = some m.cls := findClass_of_methodNamed B.named
  have hlocks := B.notSynchronized
  subst hsz
  have hJ : ∀ i, i < 39 → fd_A 39 a s.heap.size (a i) := fun i hi => Or.inl ⟨i, hi, rfl⟩
  have hS : va_S (fd_A 39 a s.heap.size) s.heap s.heap [] := va_S.rf
  have hl := lv_entry ([.ref (a 4)]) (n := 3) (Nat.le_of_ble_eq_true rfl)
  rw [lg_entry_eq]
  generalize (lg_sl ([.ref (a 4)]) ++ List.replicate (3 - (lg_sl ([.ref (a 4)])).length) Slot.unset).toArray = ls at hl ⊢
  have hl : lv_has ls 3 [(0, .ref (a 4))] := hl
  have h9X3 : ∀ w ∈ u_ws RX3 TX3 7, w ∈ wsX3_chooseForPairs := fd_su [19, 20, 21, 22, 23, 24, 25] (by eq_refl)
  have hL42 : ∀ (k4 : Int32 → Int32 → fd_St → Option (Int32 × fd_St)) (hk4 : ∀ (y1 : Int32) (y2 : Int32) (σ : fd_St) (H : Heap) (locs : List Loc) (ls : Array Slot), va_P D vwCl (fd_WC a k σ) H → va_S (fd_A 39 a s.heap.size) s.heap H locs → lv_has ls 3 [(0, .ref (a 4)), (1, .int y1), (2, .int y2)] → k4 y1 y2 σ = some r → W p l e ((headSpec wsX3_chooseForPairs ({ frames := 2, cells := 0, slots := 0, locals := 42 })).room) s m ([.ref (a 4)].toArray) below meth c H locs 0 0 (MQ below (va_Qi (fun v u => (v, u) = r) (fd_BC D a k) (fd_A 39 a s.heap.size)) ([.ref (a 4)].toArray) s 0 0 (fd_A 39 a s.heap.size)) (F0 m 4 ls [])), ∀ (y1 : Int32) (y2 : Int32) (σ : fd_St) (H : Heap) (locs : List Loc) (ls : Array Slot), va_P D vwCl (fd_WC a k σ) H → va_S (fd_A 39 a s.heap.size) s.heap H locs → lv_has ls 3 [(0, .ref (a 4)), (1, .int y1), (2, .int y2)] → f_X3_chooseForPairs_4_J42 N k4 y1 y2 σ = some r → W p l e ((headSpec wsX3_chooseForPairs ({ frames := 2, cells := 0, slots := 0, locals := 42 })).room) s m ([.ref (a 4)].toArray) below meth c H locs 0 0 (MQ below (va_Qi (fun v u => (v, u) = r) (fd_BC D a k) (fd_A 39 a s.heap.size)) ([.ref (a 4)].toArray) s 0 0 (fd_A 39 a s.heap.size)) (F0 m 42 ls []) := by
    intro k4 hk4 y1 y2 σ H locs ls hP hS hl hf
    unfold f_X3_chooseForPairs_4_J42 at hf
    obtain ⟨x14, ex14, hf⟩ := fd_lts hf
    refine lv_iinc (v := x14) (lv' := [(2, .int x14), (0, .ref (a 4)), (1, .int y1)]) hx hb dX3_chooseForPairs_42 hl (k := 2) rfl (by rw [ex14]; rfl) (by decide) rfl (fun ls hl => ?_)
    refine lv_goto (tgt := 4) hx hb dX3_chooseForPairs_45 (by decide) ?_
    exact hk4 y1 x14 σ _ _ _ hP hS (lv_sub hl [1, 2, 0] rfl) hf
  have hL4 : ∀ (n : Nat), ∀ (y1 : Int32) (y2 : Int32) (σ : fd_St) (H : Heap) (locs : List Loc) (ls : Array Slot), va_P D vwCl (fd_WC a k σ) H → va_S (fd_A 39 a s.heap.size) s.heap H locs → lv_has ls 3 [(0, .ref (a 4)), (1, .int y1), (2, .int y2)] → f_X3_chooseForPairs_4_L4 N n y1 y2 σ = some r → W p l e ((headSpec wsX3_chooseForPairs ({ frames := 2, cells := 0, slots := 0, locals := 42 })).room) s m ([.ref (a 4)].toArray) below meth c H locs 0 0 (MQ below (va_Qi (fun v u => (v, u) = r) (fd_BC D a k) (fd_A 39 a s.heap.size)) ([.ref (a 4)].toArray) s 0 0 (fd_A 39 a s.heap.size)) (F0 m 4 ls []) := by
    intro n
    induction n with
    | zero =>
      intro _ _ _ _ _ _ _ _ _ hf
      cases hf
    | succ n ih =>
      intro y1 y2 σ H locs ls hP hS hl hf
      unfold f_X3_chooseForPairs_4_L4 at hf
      refine lv_iload_n hx hb dX3_chooseForPairs_4 rfl (lv_at hl 2 rfl) ?_
      refine lv_aload_n hx hb dX3_chooseForPairs_5 rfl (lv_at hl 0 rfl) ?_
      refine va_get (ci := 3) (v := .ref (a 5)) (C := RX3) (T := TX3) (N := 7) hx hb hts h9X3 hown hK hP 4 fd_WC_4 rfl 3 (by decide) (hts (.fieldLink RX3 12 "FailDiagnose$Diagnosis" "suspects" "LFailDiagnose$Suspects;") (List.mem_of_getElem? (i := 1) (by eq_refl))) (fun _ h9 => h9) rfl dX3_chooseForPairs_6 ?_
      obtain ⟨w4, τ5, hc1, hf⟩ := fd_bds hf
      refine va_calli (va_runV (As := []) (rest := [.int y2]) ⟨hx, hb, hml, hown, hts⟩ (m_X8_size_5 l D a k H.size hI N σ _ hc1) (cwV 0 hts gX3_chooseForPairs_X8_size rfl rfl rfl (by decide +kernel) ⟨Nat.le_of_ble_eq_true rfl, Nat.le_of_ble_eq_true rfl⟩) ⟨fd_blC, va_recv hK hP (ci := 8) (q0 := 5) rfl fd_WC_5, fd_prC hP hK⟩ rfl rfl hl.1 rfl (lv_room (Nat.le_of_ble_eq_true rfl)) dX3_chooseForPairs_9 ⟨Nat.zero_le _, Nat.zero_le _⟩) hS (fun q _ h => fd_A_mono hS.1 h) (fun q h => fd_A_mono hS.1 h) (fun v2 u t H1 locs ht hvm hw hB hz hk hS => ?_)
      obtain ⟨hP1, hK1⟩ := hB
      rw [ht] at hP1
      obtain ⟨e1, e2⟩ := Prod.mk.inj hw
      subst e1
      subst e2
      obtain ⟨σ3, rfl⟩ : ∃ z, z = u := ⟨_, rfl⟩
      have hP := hP1
      generalize H1 = H at hP hS ⊢
      refine lv_icmp_ge (tgt := 48) hx hb dX3_chooseForPairs_12 (by decide) (fun c6 => ?_) (fun c6 => ?_)
      · have hf := fd_itp c6 hf
        refine lv_iload_n hx hb dX3_chooseForPairs_48 rfl (lv_at hl 1 rfl) ?_
        exact W.iret (v := y1) hx hb hr (fun t ht hW => ⟨⟨y1, σ3, rfl, Option.some.inj hf, by rw [ht]; exact hP, va_K.moved hW.alike hK⟩, hS.F ht⟩) hS.2.2 dX3_chooseForPairs_49
      · have hf := fd_itn c6 hf
        refine lv_iload_n hx hb dX3_chooseForPairs_15 rfl (lv_at hl 1 rfl) ?_
        refine lv_bipush (v := (12 : Int32)) hx hb dX3_chooseForPairs_16 (by decide) ?_
        refine lv_icmp_ge (tgt := 48) hx hb dX3_chooseForPairs_18 (by decide) (fun c7 => ?_) (fun c7 => ?_)
        · have hf := fd_itp c7 hf
          refine lv_iload_n hx hb dX3_chooseForPairs_48 rfl (lv_at hl 1 rfl) ?_
          exact W.iret (v := y1) hx hb hr (fun t ht hW => ⟨⟨y1, σ3, rfl, Option.some.inj hf, by rw [ht]; exact hP, va_K.moved hW.alike hK⟩, hS.F ht⟩) hS.2.2 dX3_chooseForPairs_49
        · have hf := fd_itn c7 hf
          refine lv_aload_n hx hb dX3_chooseForPairs_21 rfl (lv_at hl 0 rfl) ?_
          refine va_get (ci := 3) (v := .ref (a 5)) (C := RX3) (T := TX3) (N := 7) hx hb hts h9X3 hown hK hP 4 fd_WC_4 rfl 3 (by decide) (hts (.fieldLink RX3 12 "FailDiagnose$Diagnosis" "suspects" "LFailDiagnose$Suspects;") (List.mem_of_getElem? (i := 1) (by eq_refl))) (fun _ h9 => h9) rfl dX3_chooseForPairs_22 ?_
          refine lv_iload_n hx hb dX3_chooseForPairs_25 rfl (lv_at hl 2 rfl) ?_
          obtain ⟨w11, τ12, hc8, hf⟩ := fd_bds hf
          refine va_calli (va_runV (As := [.int y2]) (rest := []) ⟨hx, hb, hml, hown, hts⟩ (m_X8_isStuck_5 l D a k H.size hI N y2 σ3 _ hc8) (cwV 1 hts gX3_chooseForPairs_X8_isStuck rfl rfl rfl (by decide +kernel) ⟨Nat.le_of_ble_eq_true rfl, Nat.le_of_ble_eq_true rfl⟩) ⟨fd_blC, va_recv hK hP (ci := 8) (q0 := 5) rfl fd_WC_5, fd_prC hP hK⟩ rfl rfl hl.1 rfl (lv_room (Nat.le_of_ble_eq_true rfl)) dX3_chooseForPairs_26 ⟨Nat.zero_le _, Nat.zero_le _⟩) hS (fun q _ h => fd_A_mono hS.1 h) (fun q h => fd_A_mono hS.1 h) (fun v9 u t H1 locs ht hvm hw hB hz hk hS => ?_)
          obtain ⟨hP1, hK1⟩ := hB
          rw [ht] at hP1
          obtain ⟨e1, e2⟩ := Prod.mk.inj hw
          subst e1
          subst e2
          obtain ⟨σ10, rfl⟩ : ∃ z, z = u := ⟨_, rfl⟩
          have hP := hP1
          generalize H1 = H at hP hS ⊢
          refine lv_if_eq (tgt := 42) hx hb dX3_chooseForPairs_29 (by decide) (fun c13 => ?_) (fun c13 => ?_)
          · have hf := fd_itp c13 hf
            exact hL42 (f_X3_chooseForPairs_4_L4 N n) ih y1 y2 σ10 _ _ _ hP hS (lv_sub hl [0, 1, 2] rfl) hf
          · have hf := fd_itn c13 hf
            refine lv_aload_n hx hb dX3_chooseForPairs_32 rfl (lv_at hl 0 rfl) ?_
            refine va_get (ci := 3) (v := .ref (a 22)) (C := RX3) (T := TX3) (N := 7) hx hb hts h9X3 hown hK hP 4 fd_WC_4 rfl 6 (by decide) (hts (.fieldLink RX3 32 "FailDiagnose$Diagnosis" "triedInPairs" "[I") (List.mem_of_getElem? (i := 2) (by eq_refl))) (fun _ h9 => h9) rfl dX3_chooseForPairs_33 ?_
            refine lv_iload_n hx hb dX3_chooseForPairs_36 rfl (lv_at hl 1 rfl) ?_
            refine lv_iload_n hx hb dX3_chooseForPairs_37 rfl (lv_at hl 2 rfl) ?_
            obtain ⟨g15, hf⟩ := fd_gds hf
            obtain ⟨σ16, eσ16, hf⟩ := fd_lts hf
            refine va_iast hx hb hK hP (fd_DC hI hJ) hS 22 10 fd_WC_22 fd_tyC_22 g15 dX3_chooseForPairs_38 (fun H locs hP _ hS => ?_)
            have hP : va_P D vwCl (fd_WC a k σ16) H := by rw [eσ16]; exact fd_sP fd_WCa_22 hP
            obtain ⟨x17, ex17, hf⟩ := fd_lts hf
            refine lv_iinc (v := x17) (lv' := [(1, .int x17), (0, .ref (a 4)), (2, .int y2)]) hx hb dX3_chooseForPairs_39 hl (k := 1) rfl (by rw [ex17]; rfl) (by decide) rfl (fun ls hl => ?_)
            exact hL42 (f_X3_chooseForPairs_4_L4 N n) ih x17 y2 σ16 _ _ _ hP hS (lv_sub hl [1, 0, 2] rfl) hf
  unfold f_X3_chooseForPairs_4 at hf
  refine lv_iconst (v := (0 : Int32)) hx hb dX3_chooseForPairs_0 (by decide) ?_
  refine lv_istore_n (lv' := [(1, .int (0 : Int32)), (0, .ref (a 4))]) hx hb dX3_chooseForPairs_1 rfl hl (by decide) rfl (fun ls hl => ?_)
  refine lv_iconst (v := (0 : Int32)) hx hb dX3_chooseForPairs_2 (by decide) ?_
  refine lv_istore_n (lv' := [(2, .int (0 : Int32)), (1, .int (0 : Int32)), (0, .ref (a 4))]) hx hb dX3_chooseForPairs_3 rfl hl (by decide) rfl (fun ls hl => ?_)
  exact hL4 N (0 : Int32) (0 : Int32) σ _ _ _ hP hS (lv_sub hl [2, 1, 0] rfl) hf
noncomputable def f_X8_number_5 (N : Nat) (p1 : Int32) (σ : fd_St) : Option (Int32 × fd_St) := fd_gd (vp_in p1 480) (fd_gd (vp_in (σ.2.1 28 p1.toNatClampNeg) 480) (some (σ.2.1 24 (σ.2.1 28 p1.toNatClampNeg).toNatClampNeg, σ)))
set_option maxHeartbeats 4000000 in
set_option maxRecDepth 100000 in
theorem m_X8_number_5 (l : Launch) (D : va_G) (a : Nat → Nat) (k : Nat → ClassId) (sz : Nat) (hI : fd_I 39 a) (N : Nat) (p1 : Int32) (σ : fd_St) (r : Int32 × fd_St) (hf : f_X8_number_5 N p1 σ = some r) : Met l yX8_number wsX8_number ({ frames := 0, cells := 0, slots := 0, locals := 0 }) (va_Pc [.ref (a 5), .int p1] (fd_PC D a k sz σ)) (va_Qi (fun v u => (v, u) = r) (fd_BC D a k) (fd_A 39 a sz)) 0 0 (fd_A 39 a sz) := by
  refine Met.ofW (cc := cX8_number) (maxL := 2) (ret := (some .int)) (by decide) rfl ?_
  intro p e s m args below meth c s₁ B hml hv
  obtain ⟨rfl, hsz, hP, hK⟩ := hv
  have hx := B.exec
  have hb := B.bytes
  have hr := B.returns
  have hts := atoms_spec (ws := wsX8_number) B.pre
  have hown : s.vm.findClass RX8 = some m.cls := findClass_of_methodNamed B.named
  have hlocks := B.notSynchronized
  subst hsz
  have hJ : ∀ i, i < 39 → fd_A 39 a s.heap.size (a i) := fun i hi => Or.inl ⟨i, hi, rfl⟩
  have hS : va_S (fd_A 39 a s.heap.size) s.heap s.heap [] := va_S.rf
  have hl := lv_entry ([.ref (a 5), .int p1]) (n := 2) (Nat.le_of_ble_eq_true rfl)
  rw [lg_entry_eq]
  generalize (lg_sl ([.ref (a 5), .int p1]) ++ List.replicate (2 - (lg_sl ([.ref (a 5), .int p1])).length) Slot.unset).toArray = ls at hl ⊢
  have hl : lv_has ls 2 [(0, .ref (a 5)), (1, .int p1)] := hl
  have h9X8 : ∀ w ∈ u_ws RX8 TX8 7, w ∈ wsX8_number := fd_su [3, 4, 5, 6, 7, 8, 9] (by eq_refl)
  unfold f_X8_number_5 at hf
  refine lv_aload_n hx hb dX8_number_0 rfl (lv_at hl 0 rfl) ?_
  refine va_get (ci := 8) (v := .ref (a 24)) (C := RX8) (T := TX8) (N := 7) hx hb hts h9X8 hown hK hP 5 fd_WC_5 rfl 1 (by decide) (hts (.fieldLink RX8 15 "FailDiagnose$Suspects" "numbers" "[I") (List.mem_of_getElem? (i := 1) (by eq_refl))) (fun _ h9 => h9) rfl dX8_number_1 ?_
  refine lv_aload_n hx hb dX8_number_4 rfl (lv_at hl 0 rfl) ?_
  refine va_get (ci := 8) (v := .ref (a 28)) (C := RX8) (T := TX8) (N := 7) hx hb hts h9X8 hown hK hP 5 fd_WC_5 rfl 5 (by decide) (hts (.fieldLink RX8 27 "FailDiagnose$Suspects" "order" "[I") (List.mem_of_getElem? (i := 2) (by eq_refl))) (fun _ h9 => h9) rfl dX8_number_5 ?_
  refine lv_iload_n hx hb dX8_number_8 rfl (lv_at hl 1 rfl) ?_
  obtain ⟨g1, hf⟩ := fd_gds hf
  refine va_iald hx hb hK hP 28 16 fd_WC_28 fd_tyC_28 g1 dX8_number_9 ?_
  obtain ⟨g2, hf⟩ := fd_gds hf
  refine va_iald hx hb hK hP 24 12 fd_WC_24 fd_tyC_24 g2 dX8_number_10 ?_
  exact W.iret (v := (σ.2.1 24 (σ.2.1 28 p1.toNatClampNeg).toNatClampNeg)) hx hb hr (fun t ht hW => ⟨⟨σ.2.1 24 (σ.2.1 28 p1.toNatClampNeg).toNatClampNeg, σ, rfl, Option.some.inj hf, by rw [ht]; exact hP, va_K.moved hW.alike hK⟩, hS.F ht⟩) hS.2.2 dX8_number_11
noncomputable def f_X9_copy_7_8 (N : Nat) (σ : fd_St) : Option (Unit × fd_St) := fd_lt (fd_sI 9 (σ.1 12) σ) (fun σ1 => fd_lt (fd_sI 10 (σ1.1 13) σ1) (fun σ2 => fd_lt (fd_sI 11 (σ2.1 14) σ2) (fun σ3 => some ((), σ3))))
set_option maxHeartbeats 4000000 in
set_option maxRecDepth 100000 in
theorem m_X9_copy_7_8 (l : Launch) (D : va_G) (a : Nat → Nat) (k : Nat → ClassId) (sz : Nat) (hI : fd_I 39 a) (N : Nat) (σ : fd_St) (r : Unit × fd_St) (hf : f_X9_copy_7_8 N σ = some r) : Met l yX9_copy wsX9_copy ({ frames := 0, cells := 0, slots := 0, locals := 0 }) (va_Pc [.ref (a 7), .ref (a 8)] (fd_PC D a k sz σ)) (va_Qv (fun u => ((), u) = r) (fd_BC D a k) (fd_A 39 a sz)) 0 0 (fd_A 39 a sz) := by
  refine Met.ofW (cc := cX9_copy) (maxL := 2) (ret := none) (by decide) rfl ?_
  intro p e s m args below meth c s₁ B hml hv
  obtain ⟨rfl, hsz, hP, hK⟩ := hv
  have hx := B.exec
  have hb := B.bytes
  have hr := B.returns
  have hts := atoms_spec (ws := wsX9_copy) B.pre
  have hown : s.vm.findClass RX9 = some m.cls := findClass_of_methodNamed B.named
  have hlocks := B.notSynchronized
  subst hsz
  have hJ : ∀ i, i < 39 → fd_A 39 a s.heap.size (a i) := fun i hi => Or.inl ⟨i, hi, rfl⟩
  have hS : va_S (fd_A 39 a s.heap.size) s.heap s.heap [] := va_S.rf
  have hl := lv_entry ([.ref (a 7), .ref (a 8)]) (n := 2) (Nat.le_of_ble_eq_true rfl)
  rw [lg_entry_eq]
  generalize (lg_sl ([.ref (a 7), .ref (a 8)]) ++ List.replicate (2 - (lg_sl ([.ref (a 7), .ref (a 8)])).length) Slot.unset).toArray = ls at hl ⊢
  have hl : lv_has ls 2 [(0, .ref (a 7)), (1, .ref (a 8))] := hl
  have h9X9 : ∀ w ∈ u_ws RX9 TX9 3, w ∈ wsX9_copy := fd_su [4, 5, 6] (by eq_refl)
  unfold f_X9_copy_7_8 at hf
  refine lv_aload_n hx hb dX9_copy_0 rfl (lv_at hl 0 rfl) ?_
  refine lv_aload_n hx hb dX9_copy_1 rfl (lv_at hl 1 rfl) ?_
  refine va_get (ci := 9) (v := .int (σ.1 12)) (C := RX9) (T := TX9) (N := 3) hx hb hts h9X9 hown hK hP 8 fd_WC_8 rfl 0 (by decide) (hts (.fieldLink RX9 7 "FailDiagnose$Tally" "explained" "I") (List.mem_of_getElem? (i := 1) (by eq_refl))) (fun _ h9 => h9) rfl dX9_copy_2 ?_
  obtain ⟨σ1, eσ1, hf⟩ := fd_lts hf
  refine va_put (ci := 9) (v := .int (σ.1 12)) (ty := .int) (C := RX9) (T := TX9) (N := 3) hx hb hts h9X9 tyX9 tyX9_ok nmX9 hown hK hP (fd_DC hI hJ) hS 7 fd_WC_7 rfl 0 (by decide) (hts (.fieldLink RX9 7 "FailDiagnose$Tally" "explained" "I") (List.mem_of_getElem? (i := 1) (by eq_refl))) (fun _ h9 => h9) rfl (by decide +kernel) rfl rfl (Nat.le_of_ble_eq_true rfl) dX9_copy_5 (fun H locs hP _ hS => ?_)
  have hP : va_P D vwCl (fd_WC a k σ1) H := by rw [eσ1]; exact fd_sP fd_WCi_9 hP
  refine lv_aload_n hx hb dX9_copy_8 rfl (lv_at hl 0 rfl) ?_
  refine lv_aload_n hx hb dX9_copy_9 rfl (lv_at hl 1 rfl) ?_
  refine va_get (ci := 9) (v := .int (σ1.1 13)) (C := RX9) (T := TX9) (N := 3) hx hb hts h9X9 hown hK hP 8 fd_WC_8 rfl 1 (by decide) (hts (.fieldLink RX9 13 "FailDiagnose$Tally" "missed" "I") (List.mem_of_getElem? (i := 2) (by eq_refl))) (fun _ h9 => h9) rfl dX9_copy_10 ?_
  obtain ⟨σ2, eσ2, hf⟩ := fd_lts hf
  refine va_put (ci := 9) (v := .int (σ1.1 13)) (ty := .int) (C := RX9) (T := TX9) (N := 3) hx hb hts h9X9 tyX9 tyX9_ok nmX9 hown hK hP (fd_DC hI hJ) hS 7 fd_WC_7 rfl 1 (by decide) (hts (.fieldLink RX9 13 "FailDiagnose$Tally" "missed" "I") (List.mem_of_getElem? (i := 2) (by eq_refl))) (fun _ h9 => h9) rfl (by decide +kernel) rfl rfl (Nat.le_of_ble_eq_true rfl) dX9_copy_13 (fun H locs hP _ hS => ?_)
  have hP : va_P D vwCl (fd_WC a k σ2) H := by rw [eσ2]; exact fd_sP fd_WCi_10 hP
  refine lv_aload_n hx hb dX9_copy_16 rfl (lv_at hl 0 rfl) ?_
  refine lv_aload_n hx hb dX9_copy_17 rfl (lv_at hl 1 rfl) ?_
  refine va_get (ci := 9) (v := .int (σ2.1 14)) (C := RX9) (T := TX9) (N := 3) hx hb hts h9X9 hown hK hP 8 fd_WC_8 rfl 2 (by decide) (hts (.fieldLink RX9 16 "FailDiagnose$Tally" "wrong" "I") (List.mem_of_getElem? (i := 3) (by eq_refl))) (fun _ h9 => h9) rfl dX9_copy_18 ?_
  obtain ⟨σ3, eσ3, hf⟩ := fd_lts hf
  refine va_put (ci := 9) (v := .int (σ2.1 14)) (ty := .int) (C := RX9) (T := TX9) (N := 3) hx hb hts h9X9 tyX9 tyX9_ok nmX9 hown hK hP (fd_DC hI hJ) hS 7 fd_WC_7 rfl 2 (by decide) (hts (.fieldLink RX9 16 "FailDiagnose$Tally" "wrong" "I") (List.mem_of_getElem? (i := 3) (by eq_refl))) (fun _ h9 => h9) rfl (by decide +kernel) rfl rfl (Nat.le_of_ble_eq_true rfl) dX9_copy_21 (fun H locs hP _ hS => ?_)
  have hP : va_P D vwCl (fd_WC a k σ3) H := by rw [eσ3]; exact fd_sP fd_WCi_11 hP
  exact W.vret hx hb hr (fun t ht hW => ⟨⟨σ3, rfl, Option.some.inj hf, by rw [ht]; exact hP, va_K.moved hW.alike hK⟩, hS.F ht⟩) hS.2.2 dX9_copy_24
noncomputable def f_X9_sum_7 (N : Nat) (σ : fd_St) : Option (Int32 × fd_St) := some (((2 : Int32) * (σ.1 10)) + (σ.1 11), σ)
set_option maxHeartbeats 4000000 in
set_option maxRecDepth 100000 in
theorem m_X9_sum_7 (l : Launch) (D : va_G) (a : Nat → Nat) (k : Nat → ClassId) (sz : Nat) (hI : fd_I 39 a) (N : Nat) (σ : fd_St) (r : Int32 × fd_St) (hf : f_X9_sum_7 N σ = some r) : Met l yX9_sum wsX9_sum ({ frames := 0, cells := 0, slots := 0, locals := 0 }) (va_Pc [.ref (a 7)] (fd_PC D a k sz σ)) (va_Qi (fun v u => (v, u) = r) (fd_BC D a k) (fd_A 39 a sz)) 0 0 (fd_A 39 a sz) := by
  refine Met.ofW (cc := cX9_sum) (maxL := 1) (ret := (some .int)) (by decide) rfl ?_
  intro p e s m args below meth c s₁ B hml hv
  obtain ⟨rfl, hsz, hP, hK⟩ := hv
  have hx := B.exec
  have hb := B.bytes
  have hr := B.returns
  have hts := atoms_spec (ws := wsX9_sum) B.pre
  have hown : s.vm.findClass RX9 = some m.cls := findClass_of_methodNamed B.named
  have hlocks := B.notSynchronized
  subst hsz
  have hJ : ∀ i, i < 39 → fd_A 39 a s.heap.size (a i) := fun i hi => Or.inl ⟨i, hi, rfl⟩
  have hS : va_S (fd_A 39 a s.heap.size) s.heap s.heap [] := va_S.rf
  have hl := lv_entry ([.ref (a 7)]) (n := 1) (Nat.le_of_ble_eq_true rfl)
  rw [lg_entry_eq]
  generalize (lg_sl ([.ref (a 7)]) ++ List.replicate (1 - (lg_sl ([.ref (a 7)])).length) Slot.unset).toArray = ls at hl ⊢
  have hl : lv_has ls 1 [(0, .ref (a 7))] := hl
  have h9X9 : ∀ w ∈ u_ws RX9 TX9 3, w ∈ wsX9_sum := fd_su [3, 4, 5] (by eq_refl)
  unfold f_X9_sum_7 at hf
  refine lv_iconst (v := (2 : Int32)) hx hb dX9_sum_0 (by decide) ?_
  refine lv_aload_n hx hb dX9_sum_1 rfl (lv_at hl 0 rfl) ?_
  refine va_get (ci := 9) (v := .int (σ.1 10)) (C := RX9) (T := TX9) (N := 3) hx hb hts h9X9 hown hK hP 7 fd_WC_7 rfl 1 (by decide) (hts (.fieldLink RX9 13 "FailDiagnose$Tally" "missed" "I") (List.mem_of_getElem? (i := 1) (by eq_refl))) (fun _ h9 => h9) rfl dX9_sum_2 ?_
  refine lv_imul hx hb dX9_sum_5 ?_
  refine lv_aload_n hx hb dX9_sum_6 rfl (lv_at hl 0 rfl) ?_
  refine va_get (ci := 9) (v := .int (σ.1 11)) (C := RX9) (T := TX9) (N := 3) hx hb hts h9X9 hown hK hP 7 fd_WC_7 rfl 2 (by decide) (hts (.fieldLink RX9 16 "FailDiagnose$Tally" "wrong" "I") (List.mem_of_getElem? (i := 2) (by eq_refl))) (fun _ h9 => h9) rfl dX9_sum_7 ?_
  refine lv_iadd hx hb dX9_sum_10 ?_
  exact W.iret (v := (((2 : Int32) * (σ.1 10)) + (σ.1 11))) hx hb hr (fun t ht hW => ⟨⟨((2 : Int32) * (σ.1 10)) + (σ.1 11), σ, rfl, Option.some.inj hf, by rw [ht]; exact hP, va_K.moved hW.alike hK⟩, hS.F ht⟩) hS.2.2 dX9_sum_11
noncomputable def f_X0_offer_6_8_J22 (N : Nat) (y1 : Int32) (y2 : Int32) (σ : fd_St) : Option (Unit × fd_St) := fd_lt (fd_sI 7 y1 σ) (fun σ2 => fd_lt (fd_sI 8 y2 σ2) (fun σ3 => fd_bd (f_X9_copy_7_8 N σ3) (fun _ σ6 => some ((), σ6))))
noncomputable def f_X0_offer_6_8 (N : Nat) (p1 : Int32) (p2 : Int32) (σ : fd_St) : Option (Unit × fd_St) := if (σ.1 7) = (-1 : Int32) then (f_X0_offer_6_8_J22 N p1 p2 σ) else (fd_bd (f_X9_sum_8 N σ) (fun v10 σ11 => fd_bd (f_X9_sum_7 N σ11) (fun v15 σ16 => if v15 ≤ v10 then (some ((), σ16)) else (f_X0_offer_6_8_J22 N p1 p2 σ16))))
set_option maxHeartbeats 4000000 in
set_option maxRecDepth 100000 in
theorem m_X0_offer_6_8 (l : Launch) (D : va_G) (a : Nat → Nat) (k : Nat → ClassId) (sz : Nat) (hI : fd_I 39 a) (N : Nat) (p1 : Int32) (p2 : Int32) (σ : fd_St) (r : Unit × fd_St) (hf : f_X0_offer_6_8 N p1 p2 σ = some r) : Met l yX0_offer wsX0_offer ({ frames := 1, cells := 0, slots := 0, locals := 21 }) (va_Pc [.ref (a 6), .int p1, .int p2, .ref (a 8)] (fd_PC D a k sz σ)) (va_Qv (fun u => ((), u) = r) (fd_BC D a k) (fd_A 39 a sz)) 0 0 (fd_A 39 a sz) := by
  refine Met.ofW (cc := cX0_offer) (maxL := 4) (ret := none) (by decide) rfl ?_
  intro p e s m args below meth c s₁ B hml hv
  obtain ⟨rfl, hsz, hP, hK⟩ := hv
  have hx := B.exec
  have hb := B.bytes
  have hr := B.returns
  have hts := atoms_spec (ws := wsX0_offer) B.pre
  have hown : s.vm.findClass RX0 = some m.cls := findClass_of_methodNamed B.named
  have hlocks := B.notSynchronized
  subst hsz
  have hJ : ∀ i, i < 39 → fd_A 39 a s.heap.size (a i) := fun i hi => Or.inl ⟨i, hi, rfl⟩
  have hS : va_S (fd_A 39 a s.heap.size) s.heap s.heap [] := va_S.rf
  have hl := lv_entry ([.ref (a 6), .int p1, .int p2, .ref (a 8)]) (n := 4) (Nat.le_of_ble_eq_true rfl)
  rw [lg_entry_eq]
  generalize (lg_sl ([.ref (a 6), .int p1, .int p2, .ref (a 8)]) ++ List.replicate (4 - (lg_sl ([.ref (a 6), .int p1, .int p2, .ref (a 8)])).length) Slot.unset).toArray = ls at hl ⊢
  have hl : lv_has ls 4 [(0, .ref (a 6)), (1, .int p1), (2, .int p2), (3, .ref (a 8))] := hl
  have h9X0 : ∀ w ∈ u_ws RX0 TX0 3, w ∈ wsX0_offer := fd_su [16, 17, 18] (by eq_refl)
  have hL22 : ∀ (y1 : Int32) (y2 : Int32) (σ : fd_St) (H : Heap) (locs : List Loc) (ls : Array Slot), va_P D vwCl (fd_WC a k σ) H → va_S (fd_A 39 a s.heap.size) s.heap H locs → lv_has ls 4 [(0, .ref (a 6)), (1, .int y1), (2, .int y2), (3, .ref (a 8))] → f_X0_offer_6_8_J22 N y1 y2 σ = some r → W p l e ((headSpec wsX0_offer ({ frames := 1, cells := 0, slots := 0, locals := 21 })).room) s m ([.ref (a 6), .int p1, .int p2, .ref (a 8)].toArray) below meth c H locs 0 0 (MQ below (va_Qv (fun u => ((), u) = r) (fd_BC D a k) (fd_A 39 a s.heap.size)) ([.ref (a 6), .int p1, .int p2, .ref (a 8)].toArray) s 0 0 (fd_A 39 a s.heap.size)) (F0 m 22 ls []) := by
    intro y1 y2 σ H locs ls hP hS hl hf
    unfold f_X0_offer_6_8_J22 at hf
    refine lv_aload_n hx hb dX0_offer_22 rfl (lv_at hl 0 rfl) ?_
    refine lv_iload_n hx hb dX0_offer_23 rfl (lv_at hl 1 rfl) ?_
    obtain ⟨σ2, eσ2, hf⟩ := fd_lts hf
    refine va_put (ci := 0) (v := .int y1) (ty := .int) (C := RX0) (T := TX0) (N := 3) hx hb hts h9X0 tyX0 tyX0_ok nmX0 hown hK hP (fd_DC hI hJ) hS 6 fd_WC_6 rfl 1 (by decide) (hts (.fieldLink RX0 18 "FailDiagnose$BestPair" "first" "I") (List.mem_of_getElem? (i := 1) (by eq_refl))) (fun _ h9 => h9) rfl (by decide +kernel) rfl rfl (Nat.le_of_ble_eq_true rfl) dX0_offer_24 (fun H locs hP _ hS => ?_)
    have hP : va_P D vwCl (fd_WC a k σ2) H := by rw [eσ2]; exact fd_sP fd_WCi_7 hP
    refine lv_aload_n hx hb dX0_offer_27 rfl (lv_at hl 0 rfl) ?_
    refine lv_iload_n hx hb dX0_offer_28 rfl (lv_at hl 2 rfl) ?_
    obtain ⟨σ3, eσ3, hf⟩ := fd_lts hf
    refine va_put (ci := 0) (v := .int y2) (ty := .int) (C := RX0) (T := TX0) (N := 3) hx hb hts h9X0 tyX0 tyX0_ok nmX0 hown hK hP (fd_DC hI hJ) hS 6 fd_WC_6 rfl 2 (by decide) (hts (.fieldLink RX0 22 "FailDiagnose$BestPair" "second" "I") (List.mem_of_getElem? (i := 3) (by eq_refl))) (fun _ h9 => h9) rfl (by decide +kernel) rfl rfl (Nat.le_of_ble_eq_true rfl) dX0_offer_29 (fun H locs hP _ hS => ?_)
    have hP : va_P D vwCl (fd_WC a k σ3) H := by rw [eσ3]; exact fd_sP fd_WCi_8 hP
    refine lv_aload_n hx hb dX0_offer_32 rfl (lv_at hl 0 rfl) ?_
    refine va_get (ci := 0) (v := .ref (a 7)) (C := RX0) (T := TX0) (N := 3) hx hb hts h9X0 hown hK hP 6 fd_WC_6 rfl 0 (by decide) (hts (.fieldLink RX0 12 "FailDiagnose$BestPair" "tally" "LFailDiagnose$Tally;") (List.mem_of_getElem? (i := 2) (by eq_refl))) (fun _ h9 => h9) rfl dX0_offer_33 ?_
    refine lv_aload_n hx hb dX0_offer_36 rfl (lv_at hl 3 rfl) ?_
    obtain ⟨w7, τ8, hc4, hf⟩ := fd_bds hf
    refine va_callv (va_runV (As := [.ref (a 8)]) (rest := []) ⟨hx, hb, hml, hown, hts⟩ (m_X9_copy_7_8 l D a k H.size hI N σ3 _ hc4) (cwV 1 hts gX0_offer_X9_copy rfl rfl rfl (by decide +kernel) ⟨Nat.le_of_ble_eq_true rfl, Nat.le_of_ble_eq_true rfl⟩) ⟨fd_blC, va_recv hK hP (ci := 9) (q0 := 7) rfl fd_WC_7, fd_prC hP hK⟩ rfl rfl hl.1 rfl (lv_room (Nat.le_of_ble_eq_true rfl)) dX0_offer_37 ⟨Nat.zero_le _, Nat.zero_le _⟩) hS (fun q _ h => fd_A_mono hS.1 h) (fun q h => fd_A_mono hS.1 h) (fun u t H1 locs ht hvm hw hB hz hk hS => ?_)
    obtain ⟨hP1, hK1⟩ := hB
    rw [ht] at hP1
    have e2 := (Prod.mk.inj hw).2
    subst e2
    obtain ⟨σ6, rfl⟩ : ∃ z, z = u := ⟨_, rfl⟩
    have hP := hP1
    generalize H1 = H at hP hS ⊢
    exact W.vret hx hb hr (fun t ht hW => ⟨⟨σ6, rfl, Option.some.inj hf, by rw [ht]; exact hP, va_K.moved hW.alike hK⟩, hS.F ht⟩) hS.2.2 dX0_offer_40
  unfold f_X0_offer_6_8 at hf
  refine lv_aload_n hx hb dX0_offer_0 rfl (lv_at hl 0 rfl) ?_
  refine va_get (ci := 0) (v := .int (σ.1 7)) (C := RX0) (T := TX0) (N := 3) hx hb hts h9X0 hown hK hP 6 fd_WC_6 rfl 1 (by decide) (hts (.fieldLink RX0 18 "FailDiagnose$BestPair" "first" "I") (List.mem_of_getElem? (i := 1) (by eq_refl))) (fun _ h9 => h9) rfl dX0_offer_1 ?_
  refine lv_iconst (v := (-1 : Int32)) hx hb dX0_offer_4 (by decide) ?_
  refine lv_icmp_eq (tgt := 22) hx hb dX0_offer_5 (by decide) (fun c1 => ?_) (fun c1 => ?_)
  · have hf := fd_itp c1 hf
    exact hL22 p1 p2 σ _ _ _ hP hS (lv_sub hl [0, 1, 2, 3] rfl) hf
  · have hf := fd_itn c1 hf
    refine lv_aload_n hx hb dX0_offer_8 rfl (lv_at hl 3 rfl) ?_
    obtain ⟨w12, τ13, hc9, hf⟩ := fd_bds hf
    refine va_calli (va_runV (As := []) (rest := []) ⟨hx, hb, hml, hown, hts⟩ (m_X9_sum_8 l D a k s.heap.size hI N σ _ hc9) (cwV 0 hts gX0_offer_X9_sum rfl rfl rfl (by decide +kernel) ⟨Nat.le_of_ble_eq_true rfl, Nat.le_of_ble_eq_true rfl⟩) ⟨fd_blC, va_recv hK hP (ci := 9) (q0 := 8) rfl fd_WC_8, fd_prC hP hK⟩ rfl rfl hl.1 rfl (lv_room (Nat.le_of_ble_eq_true rfl)) dX0_offer_9 ⟨Nat.zero_le _, Nat.zero_le _⟩) hS (fun q _ h => fd_A_mono hS.1 h) (fun q h => fd_A_mono hS.1 h) (fun v10 u t H1 locs ht hvm hw hB hz hk hS => ?_)
    obtain ⟨hP1, hK1⟩ := hB
    rw [ht] at hP1
    obtain ⟨e1, e2⟩ := Prod.mk.inj hw
    subst e1
    subst e2
    obtain ⟨σ11, rfl⟩ : ∃ z, z = u := ⟨_, rfl⟩
    have hP := hP1
    generalize H1 = H at hP hS ⊢
    refine lv_aload_n hx hb dX0_offer_12 rfl (lv_at hl 0 rfl) ?_
    refine va_get (ci := 0) (v := .ref (a 7)) (C := RX0) (T := TX0) (N := 3) hx hb hts h9X0 hown hK hP 6 fd_WC_6 rfl 0 (by decide) (hts (.fieldLink RX0 12 "FailDiagnose$BestPair" "tally" "LFailDiagnose$Tally;") (List.mem_of_getElem? (i := 2) (by eq_refl))) (fun _ h9 => h9) rfl dX0_offer_13 ?_
    obtain ⟨w17, τ18, hc14, hf⟩ := fd_bds hf
    refine va_calli (va_runV (As := []) (rest := [.int v10]) ⟨hx, hb, hml, hown, hts⟩ (m_X9_sum_7 l D a k H.size hI N σ11 _ hc14) (cwV 0 hts gX0_offer_X9_sum rfl rfl rfl (by decide +kernel) ⟨Nat.le_of_ble_eq_true rfl, Nat.le_of_ble_eq_true rfl⟩) ⟨fd_blC, va_recv hK hP (ci := 9) (q0 := 7) rfl fd_WC_7, fd_prC hP hK⟩ rfl rfl hl.1 rfl (lv_room (Nat.le_of_ble_eq_true rfl)) dX0_offer_16 ⟨Nat.zero_le _, Nat.zero_le _⟩) hS (fun q _ h => fd_A_mono hS.1 h) (fun q h => fd_A_mono hS.1 h) (fun v15 u t H1 locs ht hvm hw hB hz hk hS => ?_)
    obtain ⟨hP1, hK1⟩ := hB
    rw [ht] at hP1
    obtain ⟨e1, e2⟩ := Prod.mk.inj hw
    subst e1
    subst e2
    obtain ⟨σ16, rfl⟩ : ∃ z, z = u := ⟨_, rfl⟩
    have hP := hP1
    generalize H1 = H at hP hS ⊢
    refine lv_icmp_ge (tgt := 40) hx hb dX0_offer_19 (by decide) (fun c19 => ?_) (fun c19 => ?_)
    · have hf := fd_itp c19 hf
      exact W.vret hx hb hr (fun t ht hW => ⟨⟨σ16, rfl, Option.some.inj hf, by rw [ht]; exact hP, va_K.moved hW.alike hK⟩, hS.F ht⟩) hS.2.2 dX0_offer_40
    · have hf := fd_itn c19 hf
      exact hL22 p1 p2 σ16 _ _ _ hP hS (lv_sub hl [0, 1, 2, 3] rfl) hf
noncomputable def f_X3_offerPair_4 (N : Nat) (p1 : Int32) (p2 : Int32) (σ : fd_St) : Option (Unit × fd_St) := fd_bd (f_X8_number_5 N p1 σ) (fun v2 σ3 => fd_bd (f_X8_number_5 N p2 σ3) (fun v7 σ8 => if v2 = v7 then (some ((), σ8)) else (fd_bd (f_X8_kind_5 N p1 σ8) (fun v13 σ14 => fd_bd (f_X8_kind_5 N p2 σ14) (fun v18 σ19 => fd_bd (f_X2_holdStuck_1 N v2 v13 v7 v18 σ19) (fun _ σ24 => fd_bd (f_X3_compareWithFails_4 N σ24) (fun _ σ29 => fd_bd (f_X9_explained_8 N σ29) (fun v33 σ34 => if v33 ≤ 0 then (some ((), σ34)) else (fd_bd (f_X0_offer_6_8 N p1 p2 σ34) (fun _ σ40 => some ((), σ40)))))))))))
set_option maxHeartbeats 4000000 in
set_option maxRecDepth 100000 in
theorem m_X3_offerPair_4 (l : Launch) (D : va_G) (a : Nat → Nat) (k : Nat → ClassId) (sz : Nat) (hI : fd_I 39 a) (N : Nat) (p1 : Int32) (p2 : Int32) (σ : fd_St) (r : Unit × fd_St) (hf : f_X3_offerPair_4 N p1 p2 σ = some r) : Met l yX3_offerPair wsX3_offerPair ({ frames := 3, cells := 0, slots := 0, locals := 131 }) (va_Pc [.ref (a 4), .int p1, .int p2] (fd_PC D a k sz σ)) (va_Qv (fun u => ((), u) = r) (fd_BC D a k) (fd_A 39 a sz)) 0 0 (fd_A 39 a sz) := by
  refine Met.ofW (cc := cX3_offerPair) (maxL := 5) (ret := none) (by decide) rfl ?_
  intro p e s m args below meth c s₁ B hml hv
  obtain ⟨rfl, hsz, hP, hK⟩ := hv
  have hx := B.exec
  have hb := B.bytes
  have hr := B.returns
  have hts := atoms_spec (ws := wsX3_offerPair) B.pre
  have hown : s.vm.findClass RX3 = some m.cls := findClass_of_methodNamed B.named
  have hlocks := B.notSynchronized
  subst hsz
  have hJ : ∀ i, i < 39 → fd_A 39 a s.heap.size (a i) := fun i hi => Or.inl ⟨i, hi, rfl⟩
  have hS : va_S (fd_A 39 a s.heap.size) s.heap s.heap [] := va_S.rf
  have hl := lv_entry ([.ref (a 4), .int p1, .int p2]) (n := 5) (Nat.le_of_ble_eq_true rfl)
  rw [lg_entry_eq]
  generalize (lg_sl ([.ref (a 4), .int p1, .int p2]) ++ List.replicate (5 - (lg_sl ([.ref (a 4), .int p1, .int p2])).length) Slot.unset).toArray = ls at hl ⊢
  have hl : lv_has ls 5 [(0, .ref (a 4)), (1, .int p1), (2, .int p2)] := hl
  have h9X3 : ∀ w ∈ u_ws RX3 TX3 7, w ∈ wsX3_offerPair := fd_su [120, 121, 122, 123, 124, 125, 126] (by eq_refl)
  unfold f_X3_offerPair_4 at hf
  refine lv_aload_n hx hb dX3_offerPair_0 rfl (lv_at hl 0 rfl) ?_
  refine va_get (ci := 3) (v := .ref (a 5)) (C := RX3) (T := TX3) (N := 7) hx hb hts h9X3 hown hK hP 4 fd_WC_4 rfl 3 (by decide) (hts (.fieldLink RX3 12 "FailDiagnose$Diagnosis" "suspects" "LFailDiagnose$Suspects;") (List.mem_of_getElem? (i := 1) (by eq_refl))) (fun _ h9 => h9) rfl dX3_offerPair_1 ?_
  refine lv_iload_n hx hb dX3_offerPair_4 rfl (lv_at hl 1 rfl) ?_
  obtain ⟨w4, τ5, hc1, hf⟩ := fd_bds hf
  refine va_calli (va_runV (As := [.int p1]) (rest := []) ⟨hx, hb, hml, hown, hts⟩ (m_X8_number_5 l D a k s.heap.size hI N p1 σ _ hc1) (cwV 1 hts gX3_offerPair_X8_number rfl rfl rfl (by decide +kernel) ⟨Nat.le_of_ble_eq_true rfl, Nat.le_of_ble_eq_true rfl⟩) ⟨fd_blC, va_recv hK hP (ci := 8) (q0 := 5) rfl fd_WC_5, fd_prC hP hK⟩ rfl rfl hl.1 rfl (lv_room (Nat.le_of_ble_eq_true rfl)) dX3_offerPair_5 ⟨Nat.zero_le _, Nat.zero_le _⟩) hS (fun q _ h => fd_A_mono hS.1 h) (fun q h => fd_A_mono hS.1 h) (fun v2 u t H1 locs ht hvm hw hB hz hk hS => ?_)
  obtain ⟨hP1, hK1⟩ := hB
  rw [ht] at hP1
  obtain ⟨e1, e2⟩ := Prod.mk.inj hw
  subst e1
  subst e2
  obtain ⟨σ3, rfl⟩ : ∃ z, z = u := ⟨_, rfl⟩
  have hP := hP1
  generalize H1 = H at hP hS ⊢
  refine lv_istore_n (lv' := [(3, .int v2), (0, .ref (a 4)), (1, .int p1), (2, .int p2)]) hx hb dX3_offerPair_8 rfl hl (by decide) rfl (fun ls hl => ?_)
  refine lv_aload_n hx hb dX3_offerPair_9 rfl (lv_at hl 1 rfl) ?_
  refine va_get (ci := 3) (v := .ref (a 5)) (C := RX3) (T := TX3) (N := 7) hx hb hts h9X3 hown hK hP 4 fd_WC_4 rfl 3 (by decide) (hts (.fieldLink RX3 12 "FailDiagnose$Diagnosis" "suspects" "LFailDiagnose$Suspects;") (List.mem_of_getElem? (i := 1) (by eq_refl))) (fun _ h9 => h9) rfl dX3_offerPair_10 ?_
  refine lv_iload_n hx hb dX3_offerPair_13 rfl (lv_at hl 3 rfl) ?_
  obtain ⟨w9, τ10, hc6, hf⟩ := fd_bds hf
  refine va_calli (va_runV (As := [.int p2]) (rest := []) ⟨hx, hb, hml, hown, hts⟩ (m_X8_number_5 l D a k H.size hI N p2 σ3 _ hc6) (cwV 1 hts gX3_offerPair_X8_number rfl rfl rfl (by decide +kernel) ⟨Nat.le_of_ble_eq_true rfl, Nat.le_of_ble_eq_true rfl⟩) ⟨fd_blC, va_recv hK hP (ci := 8) (q0 := 5) rfl fd_WC_5, fd_prC hP hK⟩ rfl rfl hl.1 rfl (lv_room (Nat.le_of_ble_eq_true rfl)) dX3_offerPair_14 ⟨Nat.zero_le _, Nat.zero_le _⟩) hS (fun q _ h => fd_A_mono hS.1 h) (fun q h => fd_A_mono hS.1 h) (fun v7 u t H1 locs ht hvm hw hB hz hk hS => ?_)
  obtain ⟨hP1, hK1⟩ := hB
  rw [ht] at hP1
  obtain ⟨e1, e2⟩ := Prod.mk.inj hw
  subst e1
  subst e2
  obtain ⟨σ8, rfl⟩ : ∃ z, z = u := ⟨_, rfl⟩
  have hP := hP1
  generalize H1 = H at hP hS ⊢
  refine lv_istore (lv' := [(4, .int v7), (3, .int v2), (0, .ref (a 4)), (1, .int p1), (2, .int p2)]) hx hb dX3_offerPair_17 hl (by decide) rfl (fun ls hl => ?_)
  refine lv_iload_n hx hb dX3_offerPair_19 rfl (lv_at hl 1 rfl) ?_
  refine lv_iload hx hb dX3_offerPair_20 (lv_at hl 0 rfl) ?_
  refine lv_icmp_ne (tgt := 26) hx hb dX3_offerPair_22 (by decide) (fun c11 => ?_) (fun c11 => ?_)
  · have hf := fd_itn c11 hf
    refine lv_aload_n hx hb dX3_offerPair_26 rfl (lv_at hl 2 rfl) ?_
    refine va_get (ci := 3) (v := .ref (a 1)) (C := RX3) (T := TX3) (N := 7) hx hb hts h9X3 hown hK hP 4 fd_WC_4 rfl 0 (by decide) (hts (.fieldLink RX3 36 "FailDiagnose$Diagnosis" "circuit" "LFailDiagnose$Circuit;") (List.mem_of_getElem? (i := 2) (by eq_refl))) (fun _ h9 => h9) rfl dX3_offerPair_27 ?_
    refine lv_iload_n hx hb dX3_offerPair_30 rfl (lv_at hl 1 rfl) ?_
    refine lv_aload_n hx hb dX3_offerPair_31 rfl (lv_at hl 2 rfl) ?_
    refine va_get (ci := 3) (v := .ref (a 5)) (C := RX3) (T := TX3) (N := 7) hx hb hts h9X3 hown hK hP 4 fd_WC_4 rfl 3 (by decide) (hts (.fieldLink RX3 12 "FailDiagnose$Diagnosis" "suspects" "LFailDiagnose$Suspects;") (List.mem_of_getElem? (i := 1) (by eq_refl))) (fun _ h9 => h9) rfl dX3_offerPair_32 ?_
    refine lv_iload_n hx hb dX3_offerPair_35 rfl (lv_at hl 3 rfl) ?_
    obtain ⟨w15, τ16, hc12, hf⟩ := fd_bds hf
    refine va_calli (va_runV (As := [.int p1]) (rest := [.int v2, .ref (a 1)]) ⟨hx, hb, hml, hown, hts⟩ (m_X8_kind_5 l D a k H.size hI N p1 σ8 _ hc12) (cwV 1 hts gX3_offerPair_X8_kind rfl rfl rfl (by decide +kernel) ⟨Nat.le_of_ble_eq_true rfl, Nat.le_of_ble_eq_true rfl⟩) ⟨fd_blC, va_recv hK hP (ci := 8) (q0 := 5) rfl fd_WC_5, fd_prC hP hK⟩ rfl rfl hl.1 rfl (lv_room (Nat.le_of_ble_eq_true rfl)) dX3_offerPair_36 ⟨Nat.zero_le _, Nat.zero_le _⟩) hS (fun q _ h => fd_A_mono hS.1 h) (fun q h => fd_A_mono hS.1 h) (fun v13 u t H1 locs ht hvm hw hB hz hk hS => ?_)
    obtain ⟨hP1, hK1⟩ := hB
    rw [ht] at hP1
    obtain ⟨e1, e2⟩ := Prod.mk.inj hw
    subst e1
    subst e2
    obtain ⟨σ14, rfl⟩ : ∃ z, z = u := ⟨_, rfl⟩
    have hP := hP1
    generalize H1 = H at hP hS ⊢
    refine lv_iload hx hb dX3_offerPair_39 (lv_at hl 0 rfl) ?_
    refine lv_aload_n hx hb dX3_offerPair_41 rfl (lv_at hl 2 rfl) ?_
    refine va_get (ci := 3) (v := .ref (a 5)) (C := RX3) (T := TX3) (N := 7) hx hb hts h9X3 hown hK hP 4 fd_WC_4 rfl 3 (by decide) (hts (.fieldLink RX3 12 "FailDiagnose$Diagnosis" "suspects" "LFailDiagnose$Suspects;") (List.mem_of_getElem? (i := 1) (by eq_refl))) (fun _ h9 => h9) rfl dX3_offerPair_42 ?_
    refine lv_iload_n hx hb dX3_offerPair_45 rfl (lv_at hl 4 rfl) ?_
    obtain ⟨w20, τ21, hc17, hf⟩ := fd_bds hf
    refine va_calli (va_runV (As := [.int p2]) (rest := [.int v7, .int v13, .int v2, .ref (a 1)]) ⟨hx, hb, hml, hown, hts⟩ (m_X8_kind_5 l D a k H.size hI N p2 σ14 _ hc17) (cwV 1 hts gX3_offerPair_X8_kind rfl rfl rfl (by decide +kernel) ⟨Nat.le_of_ble_eq_true rfl, Nat.le_of_ble_eq_true rfl⟩) ⟨fd_blC, va_recv hK hP (ci := 8) (q0 := 5) rfl fd_WC_5, fd_prC hP hK⟩ rfl rfl hl.1 rfl (lv_room (Nat.le_of_ble_eq_true rfl)) dX3_offerPair_46 ⟨Nat.zero_le _, Nat.zero_le _⟩) hS (fun q _ h => fd_A_mono hS.1 h) (fun q h => fd_A_mono hS.1 h) (fun v18 u t H1 locs ht hvm hw hB hz hk hS => ?_)
    obtain ⟨hP1, hK1⟩ := hB
    rw [ht] at hP1
    obtain ⟨e1, e2⟩ := Prod.mk.inj hw
    subst e1
    subst e2
    obtain ⟨σ19, rfl⟩ : ∃ z, z = u := ⟨_, rfl⟩
    have hP := hP1
    generalize H1 = H at hP hS ⊢
    obtain ⟨w25, τ26, hc22, hf⟩ := fd_bds hf
    refine va_callv (va_runV (As := [.int v2, .int v13, .int v7, .int v18]) (rest := []) ⟨hx, hb, hml, hown, hts⟩ (m_X2_holdStuck_1 l D a k H.size hI N v2 v13 v7 v18 σ19 _ hc22) (cwV 4 hts gX3_offerPair_X2_holdStuck rfl rfl rfl (by decide +kernel) ⟨Nat.le_of_ble_eq_true rfl, Nat.le_of_ble_eq_true rfl⟩) ⟨fd_blC, va_recv hK hP (ci := 2) (q0 := 1) rfl fd_WC_1, fd_prC hP hK⟩ rfl rfl hl.1 rfl (lv_room (Nat.le_of_ble_eq_true rfl)) dX3_offerPair_49 ⟨Nat.zero_le _, Nat.zero_le _⟩) hS (fun q _ h => fd_A_mono hS.1 h) (fun q h => fd_A_mono hS.1 h) (fun u t H1 locs ht hvm hw hB hz hk hS => ?_)
    obtain ⟨hP1, hK1⟩ := hB
    rw [ht] at hP1
    have e2 := (Prod.mk.inj hw).2
    subst e2
    obtain ⟨σ24, rfl⟩ : ∃ z, z = u := ⟨_, rfl⟩
    have hP := hP1
    generalize H1 = H at hP hS ⊢
    refine lv_aload_n hx hb dX3_offerPair_52 rfl (lv_at hl 2 rfl) ?_
    obtain ⟨w30, τ31, hc27, hf⟩ := fd_bds hf
    refine va_callv (va_runV (As := []) (rest := []) ⟨hx, hb, hml, hown, hts⟩ (m_X3_compareWithFails_4 l D a k H.size hI N σ24 _ hc27) (cwV 0 hts gX3_offerPair_X3_compareWithFails rfl rfl rfl (by decide +kernel) ⟨Nat.le_of_ble_eq_true rfl, Nat.le_of_ble_eq_true rfl⟩) ⟨fd_blC, va_recv hK hP (ci := 3) (q0 := 4) rfl fd_WC_4, fd_prC hP hK⟩ rfl rfl hl.1 rfl (lv_room (Nat.le_of_ble_eq_true rfl)) dX3_offerPair_53 ⟨Nat.zero_le _, Nat.zero_le _⟩) hS (fun q _ h => fd_A_mono hS.1 h) (fun q h => fd_A_mono hS.1 h) (fun u t H1 locs ht hvm hw hB hz hk hS => ?_)
    obtain ⟨hP1, hK1⟩ := hB
    rw [ht] at hP1
    have e2 := (Prod.mk.inj hw).2
    subst e2
    obtain ⟨σ29, rfl⟩ : ∃ z, z = u := ⟨_, rfl⟩
    have hP := hP1
    generalize H1 = H at hP hS ⊢
    refine lv_aload_n hx hb dX3_offerPair_56 rfl (lv_at hl 2 rfl) ?_
    refine va_get (ci := 3) (v := .ref (a 8)) (C := RX3) (T := TX3) (N := 7) hx hb hts h9X3 hown hK hP 4 fd_WC_4 rfl 5 (by decide) (hts (.fieldLink RX3 28 "FailDiagnose$Diagnosis" "tally" "LFailDiagnose$Tally;") (List.mem_of_getElem? (i := 3) (by eq_refl))) (fun _ h9 => h9) rfl dX3_offerPair_57 ?_
    obtain ⟨w35, τ36, hc32, hf⟩ := fd_bds hf
    refine va_calli (va_runV (As := []) (rest := []) ⟨hx, hb, hml, hown, hts⟩ (m_X9_explained_8 l D a k H.size hI N σ29 _ hc32) (cwV 0 hts gX3_offerPair_X9_explained rfl rfl rfl (by decide +kernel) ⟨Nat.le_of_ble_eq_true rfl, Nat.le_of_ble_eq_true rfl⟩) ⟨fd_blC, va_recv hK hP (ci := 9) (q0 := 8) rfl fd_WC_8, fd_prC hP hK⟩ rfl rfl hl.1 rfl (lv_room (Nat.le_of_ble_eq_true rfl)) dX3_offerPair_60 ⟨Nat.zero_le _, Nat.zero_le _⟩) hS (fun q _ h => fd_A_mono hS.1 h) (fun q h => fd_A_mono hS.1 h) (fun v33 u t H1 locs ht hvm hw hB hz hk hS => ?_)
    obtain ⟨hP1, hK1⟩ := hB
    rw [ht] at hP1
    obtain ⟨e1, e2⟩ := Prod.mk.inj hw
    subst e1
    subst e2
    obtain ⟨σ34, rfl⟩ : ∃ z, z = u := ⟨_, rfl⟩
    have hP := hP1
    generalize H1 = H at hP hS ⊢
    refine lv_if_le (tgt := 79) hx hb dX3_offerPair_63 (by decide) (fun c37 => ?_) (fun c37 => ?_)
    · have hf := fd_itp c37 hf
      exact W.vret hx hb hr (fun t ht hW => ⟨⟨σ34, rfl, Option.some.inj hf, by rw [ht]; exact hP, va_K.moved hW.alike hK⟩, hS.F ht⟩) hS.2.2 dX3_offerPair_79
    · have hf := fd_itn c37 hf
      refine lv_aload_n hx hb dX3_offerPair_66 rfl (lv_at hl 2 rfl) ?_
      refine va_get (ci := 3) (v := .ref (a 6)) (C := RX3) (T := TX3) (N := 7) hx hb hts h9X3 hown hK hP 4 fd_WC_4 rfl 4 (by decide) (hts (.fieldLink RX3 21 "FailDiagnose$Diagnosis" "bestPair" "LFailDiagnose$BestPair;") (List.mem_of_getElem? (i := 4) (by eq_refl))) (fun _ h9 => h9) rfl dX3_offerPair_67 ?_
      refine lv_iload_n hx hb dX3_offerPair_70 rfl (lv_at hl 3 rfl) ?_
      refine lv_iload_n hx hb dX3_offerPair_71 rfl (lv_at hl 4 rfl) ?_
      refine lv_aload_n hx hb dX3_offerPair_72 rfl (lv_at hl 2 rfl) ?_
      refine va_get (ci := 3) (v := .ref (a 8)) (C := RX3) (T := TX3) (N := 7) hx hb hts h9X3 hown hK hP 4 fd_WC_4 rfl 5 (by decide) (hts (.fieldLink RX3 28 "FailDiagnose$Diagnosis" "tally" "LFailDiagnose$Tally;") (List.mem_of_getElem? (i := 3) (by eq_refl))) (fun _ h9 => h9) rfl dX3_offerPair_73 ?_
      obtain ⟨w41, τ42, hc38, hf⟩ := fd_bds hf
      refine va_callv (va_runV (As := [.int p1, .int p2, .ref (a 8)]) (rest := []) ⟨hx, hb, hml, hown, hts⟩ (m_X0_offer_6_8 l D a k H.size hI N p1 p2 σ34 _ hc38) (cwV 3 hts gX3_offerPair_X0_offer rfl rfl rfl (by decide +kernel) ⟨Nat.le_of_ble_eq_true rfl, Nat.le_of_ble_eq_true rfl⟩) ⟨fd_blC, va_recv hK hP (ci := 0) (q0 := 6) rfl fd_WC_6, fd_prC hP hK⟩ rfl rfl hl.1 rfl (lv_room (Nat.le_of_ble_eq_true rfl)) dX3_offerPair_76 ⟨Nat.zero_le _, Nat.zero_le _⟩) hS (fun q _ h => fd_A_mono hS.1 h) (fun q h => fd_A_mono hS.1 h) (fun u t H1 locs ht hvm hw hB hz hk hS => ?_)
      obtain ⟨hP1, hK1⟩ := hB
      rw [ht] at hP1
      have e2 := (Prod.mk.inj hw).2
      subst e2
      obtain ⟨σ40, rfl⟩ : ∃ z, z = u := ⟨_, rfl⟩
      have hP := hP1
      generalize H1 = H at hP hS ⊢
      exact W.vret hx hb hr (fun t ht hW => ⟨⟨σ40, rfl, Option.some.inj hf, by rw [ht]; exact hP, va_K.moved hW.alike hK⟩, hS.F ht⟩) hS.2.2 dX3_offerPair_79
  · have hf := fd_itp c11 hf
    exact W.vret hx hb hr (fun t ht hW => ⟨⟨σ8, rfl, Option.some.inj hf, by rw [ht]; exact hP, va_K.moved hW.alike hK⟩, hS.F ht⟩) hS.2.2 dX3_offerPair_25
noncomputable def f_X3_findBestPair_4_L23 (N : Nat) (k14 : Int32 → Int32 → fd_St → Option (Unit × fd_St)) : Nat → Int32 → Int32 → Int32 → fd_St → Option (Unit × fd_St)
  | 0 => fun _ _ _ _ => none
  | n + 1 => fun y1 y2 y3 σ => if y1 ≤ y3 then (fd_lt (y2 + (1 : Int32)) (fun x14 => k14 y1 x14 σ)) else (fd_gd (vp_in y2 12) (fd_gd (vp_in y3 12) (fd_bd (f_X3_offerPair_4 N (σ.2.1 22 y2.toNatClampNeg) (σ.2.1 22 y3.toNatClampNeg) σ) (fun _ σ19 => fd_lt (y3 + (1 : Int32)) (fun x22 => (f_X3_findBestPair_4_L23 N k14 n) y1 y2 x22 σ19)))))
noncomputable def f_X3_findBestPair_4_L14 (N : Nat) : Nat → Int32 → Int32 → fd_St → Option (Unit × fd_St)
  | 0 => fun _ _ _ => none
  | n + 1 => fun y1 y2 σ => if y1 ≤ y2 then (some ((), σ)) else (fd_lt (y2 + (1 : Int32)) (fun x12 => f_X3_findBestPair_4_L23 N (f_X3_findBestPair_4_L14 N n) N y1 y2 x12 σ))
noncomputable def f_X3_findBestPair_4 (N : Nat) (σ : fd_St) : Option (Unit × fd_St) := fd_bd (f_X0_reset_6 N σ) (fun _ σ3 => fd_bd (f_X3_chooseForPairs_4 N σ3) (fun v7 σ8 => f_X3_findBestPair_4_L14 N N v7 (0 : Int32) σ8))
set_option maxHeartbeats 4000000 in
set_option maxRecDepth 100000 in
theorem m_X3_findBestPair_4 (l : Launch) (D : va_G) (a : Nat → Nat) (k : Nat → ClassId) (sz : Nat) (hI : fd_I 39 a) (N : Nat) (σ : fd_St) (r : Unit × fd_St) (hf : f_X3_findBestPair_4 N σ = some r) : Met l yX3_findBestPair wsX3_findBestPair ({ frames := 4, cells := 0, slots := 0, locals := 155 }) (va_Pc [.ref (a 4)] (fd_PC D a k sz σ)) (va_Qv (fun u => ((), u) = r) (fd_BC D a k) (fd_A 39 a sz)) 0 0 (fd_A 39 a sz) := by
  refine Met.ofW (cc := cX3_findBestPair) (maxL := 4) (ret := none) (by decide) rfl ?_
  intro p e s m args below meth c s₁ B hml hv
  obtain ⟨rfl, hsz, hP, hK⟩ := hv
  have hx := B.exec
  have hb := B.bytes
  have hr := B.returns
  have hts := atoms_spec (ws := wsX3_findBestPair) B.pre
  have hown : s.vm.findClass RX3 = some m.cls := findClass_of_methodNamed B.named
  have hlocks := B.notSynchronized
  subst hsz
  have hJ : ∀ i, i < 39 → fd_A 39 a s.heap.size (a i) := fun i hi => Or.inl ⟨i, hi, rfl⟩
  have hS : va_S (fd_A 39 a s.heap.size) s.heap s.heap [] := va_S.rf
  have hl := lv_entry ([.ref (a 4)]) (n := 4) (Nat.le_of_ble_eq_true rfl)
  rw [lg_entry_eq]
  generalize (lg_sl ([.ref (a 4)]) ++ List.replicate (4 - (lg_sl ([.ref (a 4)])).length) Slot.unset).toArray = ls at hl ⊢
  have hl : lv_has ls 4 [(0, .ref (a 4))] := hl
  have h9X3 : ∀ w ∈ u_ws RX3 TX3 7, w ∈ wsX3_findBestPair := fd_su [144, 145, 146, 147, 148, 149, 150] (by eq_refl)
  have hL23 : ∀ (k14 : Int32 → Int32 → fd_St → Option (Unit × fd_St)) (hk14 : ∀ (y1 : Int32) (y2 : Int32) (σ : fd_St) (H : Heap) (locs : List Loc) (ls : Array Slot), va_P D vwCl (fd_WC a k σ) H → va_S (fd_A 39 a s.heap.size) s.heap H locs → lv_has ls 4 [(0, .ref (a 4)), (1, .int y1), (2, .int y2)] → k14 y1 y2 σ = some r → W p l e ((headSpec wsX3_findBestPair ({ frames := 4, cells := 0, slots := 0, locals := 155 })).room) s m ([.ref (a 4)].toArray) below meth c H locs 0 0 (MQ below (va_Qv (fun u => ((), u) = r) (fd_BC D a k) (fd_A 39 a s.heap.size)) ([.ref (a 4)].toArray) s 0 0 (fd_A 39 a s.heap.size)) (F0 m 14 ls [])) (n : Nat), ∀ (y1 : Int32) (y2 : Int32) (y3 : Int32) (σ : fd_St) (H : Heap) (locs : List Loc) (ls : Array Slot), va_P D vwCl (fd_WC a k σ) H → va_S (fd_A 39 a s.heap.size) s.heap H locs → lv_has ls 4 [(0, .ref (a 4)), (1, .int y1), (2, .int y2), (3, .int y3)] → f_X3_findBestPair_4_L23 N k14 n y1 y2 y3 σ = some r → W p l e ((headSpec wsX3_findBestPair ({ frames := 4, cells := 0, slots := 0, locals := 155 })).room) s m ([.ref (a 4)].toArray) below meth c H locs 0 0 (MQ below (va_Qv (fun u => ((), u) = r) (fd_BC D a k) (fd_A 39 a s.heap.size)) ([.ref (a 4)].toArray) s 0 0 (fd_A 39 a s.heap.size)) (F0 m 23 ls []) := by
    intro k14 hk14 n
    induction n with
    | zero =>
      intro _ _ _ _ _ _ _ _ _ _ hf
      cases hf
    | succ n ih =>
      intro y1 y2 y3 σ H locs ls hP hS hl hf
      unfold f_X3_findBestPair_4_L23 at hf
      refine lv_iload_n hx hb dX3_findBestPair_23 rfl (lv_at hl 3 rfl) ?_
      refine lv_iload_n hx hb dX3_findBestPair_24 rfl (lv_at hl 1 rfl) ?_
      refine lv_icmp_ge (tgt := 50) hx hb dX3_findBestPair_25 (by decide) (fun c13 => ?_) (fun c13 => ?_)
      · have hf := fd_itp c13 hf
        obtain ⟨x14, ex14, hf⟩ := fd_lts hf
        refine lv_iinc (v := x14) (lv' := [(2, .int x14), (0, .ref (a 4)), (1, .int y1), (3, .int y3)]) hx hb dX3_findBestPair_50 hl (k := 2) rfl (by rw [ex14]; rfl) (by decide) rfl (fun ls hl => ?_)
        refine lv_goto (tgt := 14) hx hb dX3_findBestPair_53 (by decide) ?_
        exact hk14 y1 x14 σ _ _ _ hP hS (lv_sub hl [1, 2, 0] rfl) hf
      · have hf := fd_itn c13 hf
        refine lv_aload_n hx hb dX3_findBestPair_28 rfl (lv_at hl 0 rfl) ?_
        refine lv_aload_n hx hb dX3_findBestPair_29 rfl (lv_at hl 0 rfl) ?_
        refine va_get (ci := 3) (v := .ref (a 22)) (C := RX3) (T := TX3) (N := 7) hx hb hts h9X3 hown hK hP 4 fd_WC_4 rfl 6 (by decide) (hts (.fieldLink RX3 32 "FailDiagnose$Diagnosis" "triedInPairs" "[I") (List.mem_of_getElem? (i := 2) (by eq_refl))) (fun _ h9 => h9) rfl dX3_findBestPair_30 ?_
        refine lv_iload_n hx hb dX3_findBestPair_33 rfl (lv_at hl 2 rfl) ?_
        obtain ⟨g15, hf⟩ := fd_gds hf
        refine va_iald hx hb hK hP 22 10 fd_WC_22 fd_tyC_22 g15 dX3_findBestPair_34 ?_
        refine lv_aload_n hx hb dX3_findBestPair_35 rfl (lv_at hl 0 rfl) ?_
        refine va_get (ci := 3) (v := .ref (a 22)) (C := RX3) (T := TX3) (N := 7) hx hb hts h9X3 hown hK hP 4 fd_WC_4 rfl 6 (by decide) (hts (.fieldLink RX3 32 "FailDiagnose$Diagnosis" "triedInPairs" "[I") (List.mem_of_getElem? (i := 2) (by eq_refl))) (fun _ h9 => h9) rfl dX3_findBestPair_36 ?_
        refine lv_iload_n hx hb dX3_findBestPair_39 rfl (lv_at hl 3 rfl) ?_
        obtain ⟨g16, hf⟩ := fd_gds hf
        refine va_iald hx hb hK hP 22 10 fd_WC_22 fd_tyC_22 g16 dX3_findBestPair_40 ?_
        obtain ⟨w20, τ21, hc17, hf⟩ := fd_bds hf
        refine va_callv (va_runV (As := [.int (σ.2.1 22 y2.toNatClampNeg), .int (σ.2.1 22 y3.toNatClampNeg)]) (rest := []) ⟨hx, hb, hml, hown, hts⟩ (m_X3_offerPair_4 l D a k H.size hI N (σ.2.1 22 y2.toNatClampNeg) (σ.2.1 22 y3.toNatClampNeg) σ _ hc17) (cwV 2 hts gX3_findBestPair_X3_offerPair rfl rfl rfl (by decide +kernel) ⟨Nat.le_of_ble_eq_true rfl, Nat.le_of_ble_eq_true rfl⟩) ⟨fd_blC, va_recv hK hP (ci := 3) (q0 := 4) rfl fd_WC_4, fd_prC hP hK⟩ rfl rfl hl.1 rfl (lv_room (Nat.le_of_ble_eq_true rfl)) dX3_findBestPair_41 ⟨Nat.zero_le _, Nat.zero_le _⟩) hS (fun q _ h => fd_A_mono hS.1 h) (fun q h => fd_A_mono hS.1 h) (fun u t H1 locs ht hvm hw hB hz hk hS => ?_)
        obtain ⟨hP1, hK1⟩ := hB
        rw [ht] at hP1
        have e2 := (Prod.mk.inj hw).2
        subst e2
        obtain ⟨σ19, rfl⟩ : ∃ z, z = u := ⟨_, rfl⟩
        have hP := hP1
        generalize H1 = H at hP hS ⊢
        obtain ⟨x22, ex22, hf⟩ := fd_lts hf
        refine lv_iinc (v := x22) (lv' := [(3, .int x22), (0, .ref (a 4)), (1, .int y1), (2, .int y2)]) hx hb dX3_findBestPair_44 hl (k := 3) rfl (by rw [ex22]; rfl) (by decide) rfl (fun ls hl => ?_)
        refine lv_goto (tgt := 23) hx hb dX3_findBestPair_47 (by decide) ?_
        exact ih y1 y2 x22 σ19 _ _ _ hP hS (lv_sub hl [1, 2, 3, 0] rfl) hf
  have hL14 : ∀ (n : Nat), ∀ (y1 : Int32) (y2 : Int32) (σ : fd_St) (H : Heap) (locs : List Loc) (ls : Array Slot), va_P D vwCl (fd_WC a k σ) H → va_S (fd_A 39 a s.heap.size) s.heap H locs → lv_has ls 4 [(0, .ref (a 4)), (1, .int y1), (2, .int y2)] → f_X3_findBestPair_4_L14 N n y1 y2 σ = some r → W p l e ((headSpec wsX3_findBestPair ({ frames := 4, cells := 0, slots := 0, locals := 155 })).room) s m ([.ref (a 4)].toArray) below meth c H locs 0 0 (MQ below (va_Qv (fun u => ((), u) = r) (fd_BC D a k) (fd_A 39 a s.heap.size)) ([.ref (a 4)].toArray) s 0 0 (fd_A 39 a s.heap.size)) (F0 m 14 ls []) := by
    intro n
    induction n with
    | zero =>
      intro _ _ _ _ _ _ _ _ _ hf
      cases hf
    | succ n ih =>
      intro y1 y2 σ H locs ls hP hS hl hf
      unfold f_X3_findBestPair_4_L14 at hf
      refine lv_iload_n hx hb dX3_findBestPair_14 rfl (lv_at hl 2 rfl) ?_
      refine lv_iload_n hx hb dX3_findBestPair_15 rfl (lv_at hl 1 rfl) ?_
      refine lv_icmp_ge (tgt := 56) hx hb dX3_findBestPair_16 (by decide) (fun c11 => ?_) (fun c11 => ?_)
      · have hf := fd_itp c11 hf
        exact W.vret hx hb hr (fun t ht hW => ⟨⟨σ, rfl, Option.some.inj hf, by rw [ht]; exact hP, va_K.moved hW.alike hK⟩, hS.F ht⟩) hS.2.2 dX3_findBestPair_56
      · have hf := fd_itn c11 hf
        refine lv_iload_n hx hb dX3_findBestPair_19 rfl (lv_at hl 2 rfl) ?_
        refine lv_iconst (v := (1 : Int32)) hx hb dX3_findBestPair_20 (by decide) ?_
        refine lv_iadd hx hb dX3_findBestPair_21 ?_
        obtain ⟨x12, ex12, hf⟩ := fd_lts hf
        refine fd_ni ex12 ?_
        refine lv_istore_n (lv' := [(3, .int x12), (0, .ref (a 4)), (1, .int y1), (2, .int y2)]) hx hb dX3_findBestPair_22 rfl hl (by decide) rfl (fun ls hl => ?_)
        exact hL23 (f_X3_findBestPair_4_L14 N n) ih N y1 y2 x12 σ _ _ _ hP hS (lv_sub hl [1, 2, 3, 0] rfl) hf
  unfold f_X3_findBestPair_4 at hf
  refine lv_aload_n hx hb dX3_findBestPair_0 rfl (lv_at hl 0 rfl) ?_
  refine va_get (ci := 3) (v := .ref (a 6)) (C := RX3) (T := TX3) (N := 7) hx hb hts h9X3 hown hK hP 4 fd_WC_4 rfl 4 (by decide) (hts (.fieldLink RX3 21 "FailDiagnose$Diagnosis" "bestPair" "LFailDiagnose$BestPair;") (List.mem_of_getElem? (i := 1) (by eq_refl))) (fun _ h9 => h9) rfl dX3_findBestPair_1 ?_
  obtain ⟨w4, τ5, hc1, hf⟩ := fd_bds hf
  refine va_callv (va_runV (As := []) (rest := []) ⟨hx, hb, hml, hown, hts⟩ (m_X0_reset_6 l D a k s.heap.size hI N σ _ hc1) (cwV 0 hts gX3_findBestPair_X0_reset rfl rfl rfl (by decide +kernel) ⟨Nat.le_of_ble_eq_true rfl, Nat.le_of_ble_eq_true rfl⟩) ⟨fd_blC, va_recv hK hP (ci := 0) (q0 := 6) rfl fd_WC_6, fd_prC hP hK⟩ rfl rfl hl.1 rfl (lv_room (Nat.le_of_ble_eq_true rfl)) dX3_findBestPair_4 ⟨Nat.zero_le _, Nat.zero_le _⟩) hS (fun q _ h => fd_A_mono hS.1 h) (fun q h => fd_A_mono hS.1 h) (fun u t H1 locs ht hvm hw hB hz hk hS => ?_)
  obtain ⟨hP1, hK1⟩ := hB
  rw [ht] at hP1
  have e2 := (Prod.mk.inj hw).2
  subst e2
  obtain ⟨σ3, rfl⟩ : ∃ z, z = u := ⟨_, rfl⟩
  have hP := hP1
  generalize H1 = H at hP hS ⊢
  refine lv_aload_n hx hb dX3_findBestPair_7 rfl (lv_at hl 0 rfl) ?_
  obtain ⟨w9, τ10, hc6, hf⟩ := fd_bds hf
  refine va_calli (va_runV (As := []) (rest := []) ⟨hx, hb, hml, hown, hts⟩ (m_X3_chooseForPairs_4 l D a k H.size hI N σ3 _ hc6) (cwV 0 hts gX3_findBestPair_X3_chooseForPairs rfl rfl rfl (by decide +kernel) ⟨Nat.le_of_ble_eq_true rfl, Nat.le_of_ble_eq_true rfl⟩) ⟨fd_blC, va_recv hK hP (ci := 3) (q0 := 4) rfl fd_WC_4, fd_prC hP hK⟩ rfl rfl hl.1 rfl (lv_room (Nat.le_of_ble_eq_true rfl)) dX3_findBestPair_8 ⟨Nat.zero_le _, Nat.zero_le _⟩) hS (fun q _ h => fd_A_mono hS.1 h) (fun q h => fd_A_mono hS.1 h) (fun v7 u t H1 locs ht hvm hw hB hz hk hS => ?_)
  obtain ⟨hP1, hK1⟩ := hB
  rw [ht] at hP1
  obtain ⟨e1, e2⟩ := Prod.mk.inj hw
  subst e1
  subst e2
  obtain ⟨σ8, rfl⟩ : ∃ z, z = u := ⟨_, rfl⟩
  have hP := hP1
  generalize H1 = H at hP hS ⊢
  refine lv_istore_n (lv' := [(1, .int v7), (0, .ref (a 4))]) hx hb dX3_findBestPair_11 rfl hl (by decide) rfl (fun ls hl => ?_)
  refine lv_iconst (v := (0 : Int32)) hx hb dX3_findBestPair_12 (by decide) ?_
  refine lv_istore_n (lv' := [(2, .int (0 : Int32)), (1, .int v7), (0, .ref (a 4))]) hx hb dX3_findBestPair_13 rfl hl (by decide) rfl (fun ls hl => ?_)
  exact hL14 N v7 (0 : Int32) σ8 _ _ _ hP hS (lv_sub hl [2, 1, 0] rfl) hf
noncomputable def f_X3_find_4 (N : Nat) (σ : fd_St) : Option (Unit × fd_St) := fd_bd (f_X3_findSuspects_4 N σ) (fun _ σ3 => fd_bd (f_X3_findBestPair_4 N σ3) (fun _ σ8 => some ((), σ8)))
set_option maxHeartbeats 4000000 in
set_option maxRecDepth 100000 in
theorem m_X3_find_4 (l : Launch) (D : va_G) (a : Nat → Nat) (k : Nat → ClassId) (sz : Nat) (hI : fd_I 39 a) (N : Nat) (σ : fd_St) (r : Unit × fd_St) (hf : f_X3_find_4 N σ = some r) : Met l yX3_find wsX3_find ({ frames := 5, cells := 0, slots := 0, locals := 178 }) (va_Pc [.ref (a 4)] (fd_PC D a k sz σ)) (va_Qv (fun u => ((), u) = r) (fd_BC D a k) (fd_A 39 a sz)) 0 0 (fd_A 39 a sz) := by
  refine Met.ofW (cc := cX3_find) (maxL := 1) (ret := none) (by decide) rfl ?_
  intro p e s m args below meth c s₁ B hml hv
  obtain ⟨rfl, hsz, hP, hK⟩ := hv
  have hx := B.exec
  have hb := B.bytes
  have hr := B.returns
  have hts := atoms_spec (ws := wsX3_find) B.pre
  have hown : s.vm.findClass RX3 = some m.cls := findClass_of_methodNamed B.named
  have hlocks := B.notSynchronized
  subst hsz
  have hJ : ∀ i, i < 39 → fd_A 39 a s.heap.size (a i) := fun i hi => Or.inl ⟨i, hi, rfl⟩
  have hS : va_S (fd_A 39 a s.heap.size) s.heap s.heap [] := va_S.rf
  have hl := lv_entry ([.ref (a 4)]) (n := 1) (Nat.le_of_ble_eq_true rfl)
  rw [lg_entry_eq]
  generalize (lg_sl ([.ref (a 4)]) ++ List.replicate (1 - (lg_sl ([.ref (a 4)])).length) Slot.unset).toArray = ls at hl ⊢
  have hl : lv_has ls 1 [(0, .ref (a 4))] := hl
  unfold f_X3_find_4 at hf
  refine lv_aload_n hx hb dX3_find_0 rfl (lv_at hl 0 rfl) ?_
  obtain ⟨w4, τ5, hc1, hf⟩ := fd_bds hf
  refine va_callv (va_runV (As := []) (rest := []) ⟨hx, hb, hml, hown, hts⟩ (m_X3_findSuspects_4 l D a k s.heap.size hI N σ _ hc1) (cwV 0 hts gX3_find_X3_findSuspects rfl rfl rfl (by decide +kernel) ⟨Nat.le_of_ble_eq_true rfl, Nat.le_of_ble_eq_true rfl⟩) ⟨fd_blC, va_recv hK hP (ci := 3) (q0 := 4) rfl fd_WC_4, fd_prC hP hK⟩ rfl rfl hl.1 rfl (lv_room (Nat.le_of_ble_eq_true rfl)) dX3_find_1 ⟨Nat.zero_le _, Nat.zero_le _⟩) hS (fun q _ h => fd_A_mono hS.1 h) (fun q h => fd_A_mono hS.1 h) (fun u t H1 locs ht hvm hw hB hz hk hS => ?_)
  obtain ⟨hP1, hK1⟩ := hB
  rw [ht] at hP1
  have e2 := (Prod.mk.inj hw).2
  subst e2
  obtain ⟨σ3, rfl⟩ : ∃ z, z = u := ⟨_, rfl⟩
  have hP := hP1
  generalize H1 = H at hP hS ⊢
  refine lv_aload_n hx hb dX3_find_4 rfl (lv_at hl 0 rfl) ?_
  obtain ⟨w9, τ10, hc6, hf⟩ := fd_bds hf
  refine va_callv (va_runV (As := []) (rest := []) ⟨hx, hb, hml, hown, hts⟩ (m_X3_findBestPair_4 l D a k H.size hI N σ3 _ hc6) (cwV 0 hts gX3_find_X3_findBestPair rfl rfl rfl (by decide +kernel) ⟨Nat.le_of_ble_eq_true rfl, Nat.le_of_ble_eq_true rfl⟩) ⟨fd_blC, va_recv hK hP (ci := 3) (q0 := 4) rfl fd_WC_4, fd_prC hP hK⟩ rfl rfl hl.1 rfl (lv_room (Nat.le_of_ble_eq_true rfl)) dX3_find_5 ⟨Nat.zero_le _, Nat.zero_le _⟩) hS (fun q _ h => fd_A_mono hS.1 h) (fun q h => fd_A_mono hS.1 h) (fun u t H1 locs ht hvm hw hB hz hk hS => ?_)
  obtain ⟨hP1, hK1⟩ := hB
  rw [ht] at hP1
  have e2 := (Prod.mk.inj hw).2
  subst e2
  obtain ⟨σ8, rfl⟩ : ∃ z, z = u := ⟨_, rfl⟩
  have hP := hP1
  generalize H1 = H at hP hS ⊢
  exact W.vret hx hb hr (fun t ht hW => ⟨⟨σ8, rfl, Option.some.inj hf, by rw [ht]; exact hP, va_K.moved hW.alike hK⟩, hS.F ht⟩) hS.2.2 dX3_find_8
noncomputable def f_X3_suspects_4 (N : Nat) (σ : fd_St) : Option (Unit × fd_St) := some ((), σ)
set_option maxHeartbeats 4000000 in
set_option maxRecDepth 100000 in
theorem m_X3_suspects_4 (l : Launch) (D : va_G) (a : Nat → Nat) (k : Nat → ClassId) (sz : Nat) (hI : fd_I 39 a) (N : Nat) (σ : fd_St) (r : Unit × fd_St) (hf : f_X3_suspects_4 N σ = some r) : Met l yX3_suspects wsX3_suspects ({ frames := 0, cells := 0, slots := 0, locals := 0 }) (va_Pc [.ref (a 4)] (fd_PC D a k sz σ)) (va_Qr (fun u => ((), u) = r) (fun u x t => x = a 5 ∧ fd_BC D a k u t) (fd_A 39 a sz)) 0 0 (fd_A 39 a sz) := by
  refine Met.ofW (cc := cX3_suspects) (maxL := 1) (ret := (some (.object "FailDiagnose$Suspects"))) (by decide) rfl ?_
  intro p e s m args below meth c s₁ B hml hv
  obtain ⟨rfl, hsz, hP, hK⟩ := hv
  have hx := B.exec
  have hb := B.bytes
  have hr := B.returns
  have hts := atoms_spec (ws := wsX3_suspects) B.pre
  have hown : s.vm.findClass RX3 = some m.cls := findClass_of_methodNamed B.named
  have hlocks := B.notSynchronized
  subst hsz
  have hJ : ∀ i, i < 39 → fd_A 39 a s.heap.size (a i) := fun i hi => Or.inl ⟨i, hi, rfl⟩
  have hS : va_S (fd_A 39 a s.heap.size) s.heap s.heap [] := va_S.rf
  have hl := lv_entry ([.ref (a 4)]) (n := 1) (Nat.le_of_ble_eq_true rfl)
  rw [lg_entry_eq]
  generalize (lg_sl ([.ref (a 4)]) ++ List.replicate (1 - (lg_sl ([.ref (a 4)])).length) Slot.unset).toArray = ls at hl ⊢
  have hl : lv_has ls 1 [(0, .ref (a 4))] := hl
  have h9X3 : ∀ w ∈ u_ws RX3 TX3 7, w ∈ wsX3_suspects := fd_su [2, 3, 4, 5, 6, 7, 8] (by eq_refl)
  unfold f_X3_suspects_4 at hf
  refine lv_aload_n hx hb dX3_suspects_0 rfl (lv_at hl 0 rfl) ?_
  refine va_get (ci := 3) (v := .ref (a 5)) (C := RX3) (T := TX3) (N := 7) hx hb hts h9X3 hown hK hP 4 fd_WC_4 rfl 3 (by decide) (hts (.fieldLink RX3 12 "FailDiagnose$Diagnosis" "suspects" "LFailDiagnose$Suspects;") (List.mem_of_getElem? (i := 1) (by eq_refl))) (fun _ h9 => h9) rfl dX3_suspects_1 ?_
  exact W.aret (v := .ref (a 5)) (rt := .object "FailDiagnose$Suspects") hx hb hr (Or.inl ⟨_, rfl⟩) (Or.inr ⟨_, rfl⟩) (fun t ht hW => ⟨⟨σ, a 5, rfl, Option.some.inj hf, rfl, by rw [ht]; exact hP, va_K.moved hW.alike hK⟩, hS.F ht⟩) hS.2.2 dX3_suspects_4
noncomputable def f_X10_run_0 (N : Nat) (σ : fd_St) : Option (Int32 × fd_St) := fd_bd (f_X3_find_4 N σ) (fun _ σ3 => fd_lt (fd_sI 0 (1 : Int32) σ3) (fun σ6 => fd_bd (f_X3_suspects_4 N σ6) (fun _ σ9 => fd_bd (f_X8_size_5 N σ9) (fun v13 σ14 => some (v13, σ14)))))
set_option maxHeartbeats 4000000 in
set_option maxRecDepth 100000 in
theorem m_X10_run_0 (l : Launch) (D : va_G) (a : Nat → Nat) (k : Nat → ClassId) (sz : Nat) (hI : fd_I 39 a) (N : Nat) (σ : fd_St) (r : Int32 × fd_St) (hf : f_X10_run_0 N σ = some r) : Met l yX10_run wsX10_run ({ frames := 6, cells := 0, slots := 0, locals := 198 }) (va_Pc [.ref (a 0)] (fd_PC D a k sz σ)) (va_Qi (fun v u => (v, u) = r) (fd_BC D a k) (fd_A 39 a sz)) 0 0 (fd_A 39 a sz) := by
  refine Met.ofW (cc := cX10_run) (maxL := 1) (ret := (some .int)) (by decide) rfl ?_
  intro p e s m args below meth c s₁ B hml hv
  obtain ⟨rfl, hsz, hP, hK⟩ := hv
  have hx := B.exec
  have hb := B.bytes
  have hr := B.returns
  have hts := atoms_spec (ws := wsX10_run) B.pre
  have hown : s.vm.findClass RX10 = some m.cls := findClass_of_methodNamed B.named
  have hlocks := B.notSynchronized
  subst hsz
  have hJ : ∀ i, i < 39 → fd_A 39 a s.heap.size (a i) := fun i hi => Or.inl ⟨i, hi, rfl⟩
  have hS : va_S (fd_A 39 a s.heap.size) s.heap s.heap [] := va_S.rf
  have hl := lv_entry ([.ref (a 0)]) (n := 1) (Nat.le_of_ble_eq_true rfl)
  rw [lg_entry_eq]
  generalize (lg_sl ([.ref (a 0)]) ++ List.replicate (1 - (lg_sl ([.ref (a 0)])).length) Slot.unset).toArray = ls at hl ⊢
  have hl : lv_has ls 1 [(0, .ref (a 0))] := hl
  have h9X10 : ∀ w ∈ u_ws RX10 TX10 8, w ∈ wsX10_run := fd_su [229, 230, 231, 232, 233, 234, 235, 236] (by eq_refl)
  unfold f_X10_run_0 at hf
  refine lv_aload_n hx hb dX10_run_0 rfl (lv_at hl 0 rfl) ?_
  refine va_get (ci := 10) (v := .ref (a 4)) (C := RX10) (T := TX10) (N := 8) hx hb hts h9X10 hown hK hP 0 fd_WC_0 rfl 3 (by decide) (hts (.fieldLink RX10 35 "FailDiagnose" "diagnosis" "LFailDiagnose$Diagnosis;") (List.mem_of_getElem? (i := 1) (by eq_refl))) (fun _ h9 => h9) rfl dX10_run_1 ?_
  obtain ⟨w4, τ5, hc1, hf⟩ := fd_bds hf
  refine va_callv (va_runV (As := []) (rest := []) ⟨hx, hb, hml, hown, hts⟩ (m_X3_find_4 l D a k s.heap.size hI N σ _ hc1) (cwV 0 hts gX10_run_X3_find rfl rfl rfl (by decide +kernel) ⟨Nat.le_of_ble_eq_true rfl, Nat.le_of_ble_eq_true rfl⟩) ⟨fd_blC, va_recv hK hP (ci := 3) (q0 := 4) rfl fd_WC_4, fd_prC hP hK⟩ rfl rfl hl.1 rfl (lv_room (Nat.le_of_ble_eq_true rfl)) dX10_run_4 ⟨Nat.zero_le _, Nat.zero_le _⟩) hS (fun q _ h => fd_A_mono hS.1 h) (fun q h => fd_A_mono hS.1 h) (fun u t H1 locs ht hvm hw hB hz hk hS => ?_)
  obtain ⟨hP1, hK1⟩ := hB
  rw [ht] at hP1
  have e2 := (Prod.mk.inj hw).2
  subst e2
  obtain ⟨σ3, rfl⟩ : ∃ z, z = u := ⟨_, rfl⟩
  have hP := hP1
  generalize H1 = H at hP hS ⊢
  refine lv_aload_n hx hb dX10_run_7 rfl (lv_at hl 0 rfl) ?_
  refine lv_iconst (v := (1 : Int32)) hx hb dX10_run_8 (by decide) ?_
  obtain ⟨σ6, eσ6, hf⟩ := fd_lts hf
  refine va_put (ci := 10) (v := .int (1 : Int32)) (ty := .boolean) (C := RX10) (T := TX10) (N := 8) hx hb hts h9X10 tyX10 tyX10_ok nmX10 hown hK hP (fd_DC hI hJ) hS 0 fd_WC_0 rfl 7 (by decide) (hts (.fieldLink RX10 60 "FailDiagnose" "told" "Z") (List.mem_of_getElem? (i := 2) (by eq_refl))) (fun _ h9 => h9) rfl (by decide +kernel) rfl rfl (Nat.le_of_ble_eq_true rfl) dX10_run_9 (fun H locs hP _ hS => ?_)
  have hP : va_P D vwCl (fd_WC a k σ6) H := by rw [eσ6]; exact fd_sP fd_WCi_0 hP
  refine lv_aload_n hx hb dX10_run_12 rfl (lv_at hl 0 rfl) ?_
  refine va_get (ci := 10) (v := .ref (a 4)) (C := RX10) (T := TX10) (N := 8) hx hb hts h9X10 hown hK hP 0 fd_WC_0 rfl 3 (by decide) (hts (.fieldLink RX10 35 "FailDiagnose" "diagnosis" "LFailDiagnose$Diagnosis;") (List.mem_of_getElem? (i := 1) (by eq_refl))) (fun _ h9 => h9) rfl dX10_run_13 ?_
  obtain ⟨w10, τ11, hc7, hf⟩ := fd_bds hf
  refine va_callr (va_runV (As := []) (rest := []) ⟨hx, hb, hml, hown, hts⟩ (m_X3_suspects_4 l D a k H.size hI N σ6 _ hc7) (cwV 0 hts gX10_run_X3_suspects rfl rfl rfl (by decide +kernel) ⟨Nat.le_of_ble_eq_true rfl, Nat.le_of_ble_eq_true rfl⟩) ⟨fd_blC, va_recv hK hP (ci := 3) (q0 := 4) rfl fd_WC_4, fd_prC hP hK⟩ rfl rfl hl.1 rfl (lv_room (Nat.le_of_ble_eq_true rfl)) dX10_run_16 ⟨Nat.zero_le _, Nat.zero_le _⟩) hS (fun q _ h => fd_A_mono hS.1 h) (fun q h => fd_A_mono hS.1 h) (fun u x t H1 locs ht hvm hw hB hz hk hS => ?_)
  obtain ⟨rfl, hP1, hK1⟩ := hB
  rw [ht] at hP1
  have e2 := (Prod.mk.inj hw).2
  subst e2
  obtain ⟨σ9, rfl⟩ : ∃ z, z = u := ⟨_, rfl⟩
  have hP := hP1
  generalize H1 = H at hP hS ⊢
  obtain ⟨w15, τ16, hc12, hf⟩ := fd_bds hf
  refine va_calli (va_runV (As := []) (rest := []) ⟨hx, hb, hml, hown, hts⟩ (m_X8_size_5 l D a k H.size hI N σ9 _ hc12) (cwV 0 hts gX10_run_X8_size rfl rfl rfl (by decide +kernel) ⟨Nat.le_of_ble_eq_true rfl, Nat.le_of_ble_eq_true rfl⟩) ⟨fd_blC, va_recv hK hP (ci := 8) (q0 := 5) rfl fd_WC_5, fd_prC hP hK⟩ rfl rfl hl.1 rfl (lv_room (Nat.le_of_ble_eq_true rfl)) dX10_run_19 ⟨Nat.zero_le _, Nat.zero_le _⟩) hS (fun q _ h => fd_A_mono hS.1 h) (fun q h => fd_A_mono hS.1 h) (fun v13 u t H1 locs ht hvm hw hB hz hk hS => ?_)
  obtain ⟨hP1, hK1⟩ := hB
  rw [ht] at hP1
  obtain ⟨e1, e2⟩ := Prod.mk.inj hw
  subst e1
  subst e2
  obtain ⟨σ14, rfl⟩ : ∃ z, z = u := ⟨_, rfl⟩
  have hP := hP1
  generalize H1 = H at hP hS ⊢
  exact W.iret (v := v13) hx hb hr (fun t ht hW => ⟨⟨v13, σ14, rfl, Option.some.inj hf, by rw [ht]; exact hP, va_K.moved hW.alike hK⟩, hS.F ht⟩) hS.2.2 dX10_run_22
noncomputable def f_X11_bits_L4 (N : Nat) : Nat → Int64 → Int32 → Int32 → fd_St → Option (Int32 × fd_St)
  | 0 => fun _ _ _ _ => none
  | n + 1 => fun y0 y2 y3 σ => if (64 : Int32) ≤ y3 then (some (y2, σ)) else (fd_lt (y2 + ((((y0.toUInt64 >>> (y3.toInt64.toUInt64 &&& Int64.toUInt64 63)).toInt64) &&& (1 : Int64)).toInt32)) (fun x2 => fd_lt (y3 + (1 : Int32)) (fun x3 => (f_X11_bits_L4 N n) y0 x2 x3 σ)))
noncomputable def f_X11_bits (N : Nat) (p0 : Int64) (σ : fd_St) : Option (Int32 × fd_St) := f_X11_bits_L4 N N p0 (0 : Int32) (0 : Int32) σ
set_option maxHeartbeats 4000000 in
set_option maxRecDepth 100000 in
theorem m_X11_bits (l : Launch) (D : va_G) (a : Nat → Nat) (k : Nat → ClassId) (sz : Nat) (hI : fd_I 29 a) (N : Nat) (p0 : Int64) (σ : fd_St) (r : Int32 × fd_St) (hf : f_X11_bits N p0 σ = some r) : Met l yX11_bits wsX11_bits ({ frames := 0, cells := 0, slots := 0, locals := 0 }) (va_Pc [.long p0] (fd_PM D a k sz σ)) (va_Qi (fun v u => (v, u) = r) (fd_BM D a k) (fd_A 29 a sz)) 0 0 (fd_A 29 a sz) := by
  refine Met.ofW (cc := cX11_bits) (maxL := 4) (ret := (some .int)) (by decide) rfl ?_
  intro p e s m args below meth c s₁ B hml hv
  obtain ⟨rfl, hsz, hP, hK⟩ := hv
  have hx := B.exec
  have hb := B.bytes
  have hr := B.returns
  have hts := atoms_spec (ws := wsX11_bits) B.pre
  have hown : s.vm.findClass RX11 = some m.cls := findClass_of_methodNamed B.named
  have hlocks := B.notSynchronized
  subst hsz
  have hJ : ∀ i, i < 29 → fd_A 29 a s.heap.size (a i) := fun i hi => Or.inl ⟨i, hi, rfl⟩
  have hS : va_S (fd_A 29 a s.heap.size) s.heap s.heap [] := va_S.rf
  have hl := lv_entry ([.long p0]) (n := 4) (Nat.le_of_ble_eq_true rfl)
  rw [lg_entry_eq]
  generalize (lg_sl ([.long p0]) ++ List.replicate (4 - (lg_sl ([.long p0])).length) Slot.unset).toArray = ls at hl ⊢
  have hl : lv_has ls 4 [(0, .long p0)] := hl
  have hL4 : ∀ (n : Nat), ∀ (y0 : Int64) (y2 : Int32) (y3 : Int32) (σ : fd_St) (H : Heap) (locs : List Loc) (ls : Array Slot), va_P D vwCl (fd_WM a k σ) H → va_S (fd_A 29 a s.heap.size) s.heap H locs → lv_has ls 4 [(0, .long y0), (2, .int y2), (3, .int y3)] → f_X11_bits_L4 N n y0 y2 y3 σ = some r → W p l e ((headSpec wsX11_bits ({ frames := 0, cells := 0, slots := 0, locals := 0 })).room) s m ([.long p0].toArray) below meth c H locs 0 0 (MQ below (va_Qi (fun v u => (v, u) = r) (fd_BM D a k) (fd_A 29 a s.heap.size)) ([.long p0].toArray) s 0 0 (fd_A 29 a s.heap.size)) (F0 m 4 ls []) := by
    intro n
    induction n with
    | zero =>
      intro _ _ _ _ _ _ _ _ _ _ hf
      cases hf
    | succ n ih =>
      intro y0 y2 y3 σ H locs ls hP hS hl hf
      unfold f_X11_bits_L4 at hf
      refine lv_iload_n hx hb dX11_bits_4 rfl (lv_at hl 2 rfl) ?_
      refine lv_bipush (v := (64 : Int32)) hx hb dX11_bits_5 (by decide) ?_
      refine lv_icmp_ge (tgt := 25) hx hb dX11_bits_7 (by decide) (fun c1 => ?_) (fun c1 => ?_)
      · have hf := fd_itp c1 hf
        refine lv_iload_n hx hb dX11_bits_25 rfl (lv_at hl 1 rfl) ?_
        exact W.iret (v := y2) hx hb hr (fun t ht hW => ⟨⟨y2, σ, rfl, Option.some.inj hf, by rw [ht]; exact hP, va_K.moved hW.alike hK⟩, hS.F ht⟩) hS.2.2 dX11_bits_26
      · have hf := fd_itn c1 hf
        refine lv_iload_n hx hb dX11_bits_10 rfl (lv_at hl 1 rfl) ?_
        refine lv_lload_n hx hb dX11_bits_11 rfl (lv_at hl 0 rfl) ?_
        refine lv_iload_n hx hb dX11_bits_12 rfl (lv_at hl 2 rfl) ?_
        refine lv_lushr hx hb dX11_bits_13 rfl ?_
        refine lv_lconst (v := (1 : Int64)) hx hb dX11_bits_14 (by decide) ?_
        refine lv_land hx hb dX11_bits_15 ?_
        refine lv_l2i hx hb dX11_bits_16 rfl ?_
        refine lv_iadd hx hb dX11_bits_17 ?_
        obtain ⟨x2, ex2, hf⟩ := fd_lts hf
        refine fd_ni ex2 ?_
        refine lv_istore_n (lv' := [(2, .int x2), (0, .long y0), (3, .int y3)]) hx hb dX11_bits_18 rfl hl (by decide) rfl (fun ls hl => ?_)
        obtain ⟨x3, ex3, hf⟩ := fd_lts hf
        refine lv_iinc (v := x3) (lv' := [(3, .int x3), (2, .int x2), (0, .long y0)]) hx hb dX11_bits_19 hl (k := 2) rfl (by rw [ex3]; rfl) (by decide) rfl (fun ls hl => ?_)
        refine lv_goto (tgt := 4) hx hb dX11_bits_22 (by decide) ?_
        exact ih y0 x2 x3 σ _ _ _ hP hS (lv_sub hl [2, 1, 0] rfl) hf
  unfold f_X11_bits at hf
  refine lv_iconst (v := (0 : Int32)) hx hb dX11_bits_0 (by decide) ?_
  refine lv_istore_n (lv' := [(2, .int (0 : Int32)), (0, .long p0)]) hx hb dX11_bits_1 rfl hl (by decide) rfl (fun ls hl => ?_)
  refine lv_iconst (v := (0 : Int32)) hx hb dX11_bits_2 (by decide) ?_
  refine lv_istore_n (lv' := [(3, .int (0 : Int32)), (2, .int (0 : Int32)), (0, .long p0)]) hx hb dX11_bits_3 rfl hl (by decide) rfl (fun ls hl => ?_)
  exact hL4 N p0 (0 : Int32) (0 : Int32) σ _ _ _ hP hS (lv_sub hl [2, 1, 0] rfl) hf
noncomputable def f_X11_judge_0_L17 (N : Nat) : Nat → Int32 → fd_St → Option (Unit × fd_St)
  | 0 => fun _ _ => none
  | n + 1 => fun y1 σ => if (σ.1 3) ≤ y1 then (some ((), σ)) else (fd_gd (vp_in y1 32) (fd_gd (vp_in (σ.2.1 5 y1.toNatClampNeg) 200) (fd_gd (vp_in y1 32) (fd_gd (vp_in (σ.2.1 5 y1.toNatClampNeg) 200) (fd_lt ((σ.2.2 9 (σ.2.1 5 y1.toNatClampNeg).toNatClampNeg) ^^^ (σ.2.2 10 (σ.2.1 5 y1.toNatClampNeg).toNatClampNeg)) (fun x9 => fd_gd (vp_in y1 32) (fd_bd (f_X11_mask_0 N σ) (fun v12 σ13 => fd_lt ((σ.2.2 6 y1.toNatClampNeg) &&& v12) (fun x16 => fd_bd (f_X11_bits N (x9 &&& x16) σ13) (fun v18 σ19 => fd_lt (fd_sI 8 ((σ13.1 8) + v18) σ19) (fun σ22 => fd_bd (f_X11_bits N (x16 &&& (x9 ^^^ (-1 : Int64))) σ22) (fun v24 σ25 => fd_lt (fd_sI 9 ((σ22.1 9) + v24) σ25) (fun σ28 => fd_bd (f_X11_bits N (x9 &&& (x16 ^^^ (-1 : Int64))) σ28) (fun v30 σ31 => fd_lt (fd_sI 10 ((σ28.1 10) + v30) σ31) (fun σ34 => fd_lt (y1 + (1 : Int32)) (fun x35 => (f_X11_judge_0_L17 N n) x35 σ34))))))))))))))))
noncomputable def f_X11_judge_0 (N : Nat) (σ : fd_St) : Option (Unit × fd_St) := fd_lt (fd_sI 8 (0 : Int32) σ) (fun σ1 => fd_lt (fd_sI 9 (0 : Int32) σ1) (fun σ2 => fd_lt (fd_sI 10 (0 : Int32) σ2) (fun σ3 => f_X11_judge_0_L17 N N (0 : Int32) σ3)))
set_option maxHeartbeats 4000000 in
set_option maxRecDepth 100000 in
theorem m_X11_judge_0 (l : Launch) (D : va_G) (a : Nat → Nat) (k : Nat → ClassId) (sz : Nat) (hI : fd_I 29 a) (N : Nat) (σ : fd_St) (r : Unit × fd_St) (hf : f_X11_judge_0 N σ = some r) : Met l yX11_judge wsX11_judge ({ frames := 1, cells := 0, slots := 0, locals := 23 }) (va_Pc [.ref (a 0)] (fd_PM D a k sz σ)) (va_Qv (fun u => ((), u) = r) (fd_BM D a k) (fd_A 29 a sz)) 0 0 (fd_A 29 a sz) := by
  refine Met.ofW (cc := cX11_judge) (maxL := 6) (ret := none) (by decide) rfl ?_
  intro p e s m args below meth c s₁ B hml hv
  obtain ⟨rfl, hsz, hP, hK⟩ := hv
  have hx := B.exec
  have hb := B.bytes
  have hr := B.returns
  have hts := atoms_spec (ws := wsX11_judge) B.pre
  have hown : s.vm.findClass RX11 = some m.cls := findClass_of_methodNamed B.named
  have hlocks := B.notSynchronized
  subst hsz
  have hJ : ∀ i, i < 29 → fd_A 29 a s.heap.size (a i) := fun i hi => Or.inl ⟨i, hi, rfl⟩
  have hS : va_S (fd_A 29 a s.heap.size) s.heap s.heap [] := va_S.rf
  have hl := lv_entry ([.ref (a 0)]) (n := 6) (Nat.le_of_ble_eq_true rfl)
  rw [lg_entry_eq]
  generalize (lg_sl ([.ref (a 0)]) ++ List.replicate (6 - (lg_sl ([.ref (a 0)])).length) Slot.unset).toArray = ls at hl ⊢
  have hl : lv_has ls 6 [(0, .ref (a 0))] := hl
  have h9X11 : ∀ w ∈ u_ws RX11 TX11 43, w ∈ wsX11_judge := fd_su [19, 20, 21, 22, 23, 24, 25, 26, 27, 28, 29, 30, 31, 32, 33, 34, 35, 36, 37, 38, 39, 40, 41, 42, 43, 44, 45, 46, 47, 48, 49, 50, 51, 52, 53, 54, 55, 56, 57, 58, 59, 60, 61] (by eq_refl)
  have hL17 : ∀ (n : Nat), ∀ (y1 : Int32) (σ : fd_St) (H : Heap) (locs : List Loc) (ls : Array Slot), va_P D vwCl (fd_WM a k σ) H → va_S (fd_A 29 a s.heap.size) s.heap H locs → lv_has ls 6 [(0, .ref (a 0)), (1, .int y1)] → f_X11_judge_0_L17 N n y1 σ = some r → W p l e ((headSpec wsX11_judge ({ frames := 1, cells := 0, slots := 0, locals := 23 })).room) s m ([.ref (a 0)].toArray) below meth c H locs 0 0 (MQ below (va_Qv (fun u => ((), u) = r) (fd_BM D a k) (fd_A 29 a s.heap.size)) ([.ref (a 0)].toArray) s 0 0 (fd_A 29 a s.heap.size)) (F0 m 17 ls []) := by
    intro n
    induction n with
    | zero =>
      intro _ _ _ _ _ _ _ _ hf
      cases hf
    | succ n ih =>
      intro y1 σ H locs ls hP hS hl hf
      unfold f_X11_judge_0_L17 at hf
      refine lv_iload_n hx hb dX11_judge_17 rfl (lv_at hl 1 rfl) ?_
      refine lv_aload_n hx hb dX11_judge_18 rfl (lv_at hl 0 rfl) ?_
      refine va_get (ci := 11) (v := .int (σ.1 3)) (C := RX11) (T := TX11) (N := 43) hx hb hts h9X11 hown hK hP 0 fd_WM_0 rfl 7 (by decide) (hts (.fieldLink RX11 123 "FailDiagnoseModel" "outputs" "I") (List.mem_of_getElem? (i := 4) (by eq_refl))) (fun _ h9 => h9) rfl dX11_judge_19 ?_
      refine lv_icmp_ge (tgt := 124) hx hb dX11_judge_22 (by decide) (fun c4 => ?_) (fun c4 => ?_)
      · have hf := fd_itp c4 hf
        exact W.vret hx hb hr (fun t ht hW => ⟨⟨σ, rfl, Option.some.inj hf, by rw [ht]; exact hP, va_K.moved hW.alike hK⟩, hS.F ht⟩) hS.2.2 dX11_judge_124
      · have hf := fd_itn c4 hf
        refine lv_aload_n hx hb dX11_judge_25 rfl (lv_at hl 0 rfl) ?_
        refine va_get (ci := 11) (v := .ref (a 9)) (C := RX11) (T := TX11) (N := 43) hx hb hts h9X11 hown hK hP 0 fd_WM_0 rfl 14 (by decide) (hts (.fieldLink RX11 35 "FailDiagnoseModel" "plain" "[J") (List.mem_of_getElem? (i := 5) (by eq_refl))) (fun _ h9 => h9) rfl dX11_judge_26 ?_
        refine lv_aload_n hx hb dX11_judge_29 rfl (lv_at hl 0 rfl) ?_
        refine va_get (ci := 11) (v := .ref (a 5)) (C := RX11) (T := TX11) (N := 43) hx hb hts h9X11 hown hK hP 0 fd_WM_0 rfl 8 (by decide) (hts (.fieldLink RX11 23 "FailDiagnoseModel" "outputNets" "[I") (List.mem_of_getElem? (i := 6) (by eq_refl))) (fun _ h9 => h9) rfl dX11_judge_30 ?_
        refine lv_iload_n hx hb dX11_judge_33 rfl (lv_at hl 1 rfl) ?_
        obtain ⟨g5, hf⟩ := fd_gds hf
        refine va_iald hx hb hK hP 5 4 fd_WM_5 fd_tyM_5 g5 dX11_judge_34 ?_
        obtain ⟨g6, hf⟩ := fd_gds hf
        refine va_lald hx hb hK hP 9 8 fd_WM_9 fd_tyM_9 g6 dX11_judge_35 ?_
        refine lv_aload_n hx hb dX11_judge_36 rfl (lv_at hl 0 rfl) ?_
        refine va_get (ci := 11) (v := .ref (a 10)) (C := RX11) (T := TX11) (N := 43) hx hb hts h9X11 hown hK hP 0 fd_WM_0 rfl 15 (by decide) (hts (.fieldLink RX11 38 "FailDiagnoseModel" "faulty" "[J") (List.mem_of_getElem? (i := 7) (by eq_refl))) (fun _ h9 => h9) rfl dX11_judge_37 ?_
        refine lv_aload_n hx hb dX11_judge_40 rfl (lv_at hl 0 rfl) ?_
        refine va_get (ci := 11) (v := .ref (a 5)) (C := RX11) (T := TX11) (N := 43) hx hb hts h9X11 hown hK hP 0 fd_WM_0 rfl 8 (by decide) (hts (.fieldLink RX11 23 "FailDiagnoseModel" "outputNets" "[I") (List.mem_of_getElem? (i := 6) (by eq_refl))) (fun _ h9 => h9) rfl dX11_judge_41 ?_
        refine lv_iload_n hx hb dX11_judge_44 rfl (lv_at hl 1 rfl) ?_
        obtain ⟨g7, hf⟩ := fd_gds hf
        refine va_iald hx hb hK hP 5 4 fd_WM_5 fd_tyM_5 g7 dX11_judge_45 ?_
        obtain ⟨g8, hf⟩ := fd_gds hf
        refine va_lald hx hb hK hP 10 9 fd_WM_10 fd_tyM_10 g8 dX11_judge_46 ?_
        refine lv_lxor hx hb dX11_judge_47 ?_
        obtain ⟨x9, ex9, hf⟩ := fd_lts hf
        refine fd_nl ex9 ?_
        refine lv_lstore_n (lv' := [(2, .long x9), (0, .ref (a 0)), (1, .int y1)]) hx hb dX11_judge_48 rfl hl (by decide) rfl (fun ls hl => ?_)
        refine lv_aload_n hx hb dX11_judge_49 rfl (lv_at hl 1 rfl) ?_
        refine va_get (ci := 11) (v := .ref (a 6)) (C := RX11) (T := TX11) (N := 43) hx hb hts h9X11 hown hK hP 0 fd_WM_0 rfl 9 (by decide) (hts (.fieldLink RX11 26 "FailDiagnoseModel" "fails" "[J") (List.mem_of_getElem? (i := 8) (by eq_refl))) (fun _ h9 => h9) rfl dX11_judge_50 ?_
        refine lv_iload_n hx hb dX11_judge_53 rfl (lv_at hl 2 rfl) ?_
        obtain ⟨g10, hf⟩ := fd_gds hf
        refine va_lald hx hb hK hP 6 5 fd_WM_6 fd_tyM_6 g10 dX11_judge_54 ?_
        refine lv_aload_n hx hb dX11_judge_55 rfl (lv_at hl 1 rfl) ?_
        obtain ⟨w14, τ15, hc11, hf⟩ := fd_bds hf
        refine va_calll (va_runV (As := []) (rest := [.long (σ.2.2 6 y1.toNatClampNeg)]) ⟨hx, hb, hml, hown, hts⟩ (m_X11_mask_0 l D a k H.size hI N σ _ hc11) (cwV 0 hts gX11_judge_X11_mask rfl rfl rfl (by decide +kernel) ⟨Nat.le_of_ble_eq_true rfl, Nat.le_of_ble_eq_true rfl⟩) ⟨fd_blM, va_recv hK hP (ci := 11) (q0 := 0) rfl fd_WM_0, fd_prM hP hK⟩ rfl rfl hl.1 rfl (lv_room (Nat.le_of_ble_eq_true rfl)) dX11_judge_56 ⟨Nat.zero_le _, Nat.zero_le _⟩) hS (fun q _ h => fd_A_mono hS.1 h) (fun q h => fd_A_mono hS.1 h) (fun v12 u t H1 locs ht hvm hw hB hz hk hS => ?_)
        obtain ⟨hP1, hK1⟩ := hB
        rw [ht] at hP1
        obtain ⟨e1, e2⟩ := Prod.mk.inj hw
        subst e1
        subst e2
        obtain ⟨σ13, rfl⟩ : ∃ z, z = u := ⟨_, rfl⟩
        have hP := hP1
        generalize H1 = H at hP hS ⊢
        refine lv_land hx hb dX11_judge_59 ?_
        obtain ⟨x16, ex16, hf⟩ := fd_lts hf
        refine fd_nl ex16 ?_
        refine lv_lstore (lv' := [(4, .long x16), (2, .long x9), (0, .ref (a 0)), (1, .int y1)]) hx hb dX11_judge_60 hl (by decide) rfl (fun ls hl => ?_)
        refine lv_aload_n hx hb dX11_judge_62 rfl (lv_at hl 2 rfl) ?_
        refine lv_aload_n hx hb dX11_judge_63 rfl (lv_at hl 2 rfl) ?_
        refine va_get (ci := 11) (v := .int (σ13.1 8)) (C := RX11) (T := TX11) (N := 43) hx hb hts h9X11 hown hK hP 0 fd_WM_0 rfl 26 (by decide) (hts (.fieldLink RX11 160 "FailDiagnoseModel" "explained" "I") (List.mem_of_getElem? (i := 1) (by eq_refl))) (fun _ h9 => h9) rfl dX11_judge_64 ?_
        refine lv_lload_n hx hb dX11_judge_67 rfl (lv_at hl 1 rfl) ?_
        refine lv_lload hx hb dX11_judge_68 (lv_at hl 0 rfl) ?_
        refine lv_land hx hb dX11_judge_70 ?_
        obtain ⟨w20, τ21, hc17, hf⟩ := fd_bds hf
        refine va_calli (va_runS (As := [.long (x9 &&& x16)]) (rest := [.int (σ13.1 8), .ref (a 0)]) ⟨hx, hb, hml, hown, hts⟩ (m_X11_bits l D a k H.size hI N (x9 &&& x16) σ13 _ hc17) (va_cwS 1 hts gX11_judge_X11_bits rfl rfl rfl (by decide +kernel) ⟨Nat.le_of_ble_eq_true rfl, Nat.le_of_ble_eq_true rfl⟩) ⟨fd_blM, fd_prM hP hK⟩ rfl rfl hl.1 rfl (lv_room (Nat.le_of_ble_eq_true rfl)) dX11_judge_71 ⟨Nat.zero_le _, Nat.zero_le _⟩) hS (fun q _ h => fd_A_mono hS.1 h) (fun q h => fd_A_mono hS.1 h) (fun v18 u t H1 locs ht hvm hw hB hz hk hS => ?_)
        obtain ⟨hP1, hK1⟩ := hB
        rw [ht] at hP1
        obtain ⟨e1, e2⟩ := Prod.mk.inj hw
        subst e1
        subst e2
        obtain ⟨σ19, rfl⟩ : ∃ z, z = u := ⟨_, rfl⟩
        have hP := hP1
        generalize H1 = H at hP hS ⊢
        refine lv_iadd hx hb dX11_judge_74 ?_
        obtain ⟨σ22, eσ22, hf⟩ := fd_lts hf
        refine va_put (ci := 11) (v := .int ((σ13.1 8) + v18)) (ty := .int) (C := RX11) (T := TX11) (N := 43) hx hb hts h9X11 tyX11 tyX11_ok nmX11 hown hK hP (fd_DM hI hJ) hS 0 fd_WM_0 rfl 26 (by decide) (hts (.fieldLink RX11 160 "FailDiagnoseModel" "explained" "I") (List.mem_of_getElem? (i := 1) (by eq_refl))) (fun _ h9 => h9) rfl (by decide +kernel) rfl rfl (Nat.le_of_ble_eq_true rfl) dX11_judge_75 (fun H locs hP _ hS => ?_)
        have hP : va_P D vwCl (fd_WM a k σ22) H := by rw [eσ22]; exact fd_sP fd_WMi_8 hP
        refine lv_aload_n hx hb dX11_judge_78 rfl (lv_at hl 2 rfl) ?_
        refine lv_aload_n hx hb dX11_judge_79 rfl (lv_at hl 2 rfl) ?_
        refine va_get (ci := 11) (v := .int (σ22.1 9)) (C := RX11) (T := TX11) (N := 43) hx hb hts h9X11 hown hK hP 0 fd_WM_0 rfl 27 (by decide) (hts (.fieldLink RX11 163 "FailDiagnoseModel" "missed" "I") (List.mem_of_getElem? (i := 2) (by eq_refl))) (fun _ h9 => h9) rfl dX11_judge_80 ?_
        refine lv_lload hx hb dX11_judge_83 (lv_at hl 0 rfl) ?_
        refine lv_lload_n hx hb dX11_judge_85 rfl (lv_at hl 1 rfl) ?_
        refine lv_ldc2 hx hb hown (hts (.constantLong RX11 129 (-1)) (List.mem_of_getElem? (i := 9) (by eq_refl))) dX11_judge_86 ?_
        refine lv_lxor hx hb dX11_judge_89 ?_
        refine lv_land hx hb dX11_judge_90 ?_
        obtain ⟨w26, τ27, hc23, hf⟩ := fd_bds hf
        refine va_calli (va_runS (As := [.long (x16 &&& (x9 ^^^ (-1 : Int64)))]) (rest := [.int (σ22.1 9), .ref (a 0)]) ⟨hx, hb, hml, hown, hts⟩ (m_X11_bits l D a k H.size hI N (x16 &&& (x9 ^^^ (-1 : Int64))) σ22 _ hc23) (va_cwS 1 hts gX11_judge_X11_bits rfl rfl rfl (by decide +kernel) ⟨Nat.le_of_ble_eq_true rfl, Nat.le_of_ble_eq_true rfl⟩) ⟨fd_blM, fd_prM hP hK⟩ rfl rfl hl.1 rfl (lv_room (Nat.le_of_ble_eq_true rfl)) dX11_judge_91 ⟨Nat.zero_le _, Nat.zero_le _⟩) hS (fun q _ h => fd_A_mono hS.1 h) (fun q h => fd_A_mono hS.1 h) (fun v24 u t H1 locs ht hvm hw hB hz hk hS => ?_)
        obtain ⟨hP1, hK1⟩ := hB
        rw [ht] at hP1
        obtain ⟨e1, e2⟩ := Prod.mk.inj hw
        subst e1
        subst e2
        obtain ⟨σ25, rfl⟩ : ∃ z, z = u := ⟨_, rfl⟩
        have hP := hP1
        generalize H1 = H at hP hS ⊢
        refine lv_iadd hx hb dX11_judge_94 ?_
        obtain ⟨σ28, eσ28, hf⟩ := fd_lts hf
        refine va_put (ci := 11) (v := .int ((σ22.1 9) + v24)) (ty := .int) (C := RX11) (T := TX11) (N := 43) hx hb hts h9X11 tyX11 tyX11_ok nmX11 hown hK hP (fd_DM hI hJ) hS 0 fd_WM_0 rfl 27 (by decide) (hts (.fieldLink RX11 163 "FailDiagnoseModel" "missed" "I") (List.mem_of_getElem? (i := 2) (by eq_refl))) (fun _ h9 => h9) rfl (by decide +kernel) rfl rfl (Nat.le_of_ble_eq_true rfl) dX11_judge_95 (fun H locs hP _ hS => ?_)
        have hP : va_P D vwCl (fd_WM a k σ28) H := by rw [eσ28]; exact fd_sP fd_WMi_9 hP
        refine lv_aload_n hx hb dX11_judge_98 rfl (lv_at hl 2 rfl) ?_
        refine lv_aload_n hx hb dX11_judge_99 rfl (lv_at hl 2 rfl) ?_
        refine va_get (ci := 11) (v := .int (σ28.1 10)) (C := RX11) (T := TX11) (N := 43) hx hb hts h9X11 hown hK hP 0 fd_WM_0 rfl 28 (by decide) (hts (.fieldLink RX11 166 "FailDiagnoseModel" "wrong" "I") (List.mem_of_getElem? (i := 3) (by eq_refl))) (fun _ h9 => h9) rfl dX11_judge_100 ?_
        refine lv_lload_n hx hb dX11_judge_103 rfl (lv_at hl 1 rfl) ?_
        refine lv_lload hx hb dX11_judge_104 (lv_at hl 0 rfl) ?_
        refine lv_ldc2 hx hb hown (hts (.constantLong RX11 129 (-1)) (List.mem_of_getElem? (i := 9) (by eq_refl))) dX11_judge_106 ?_
        refine lv_lxor hx hb dX11_judge_109 ?_
        refine lv_land hx hb dX11_judge_110 ?_
        obtain ⟨w32, τ33, hc29, hf⟩ := fd_bds hf
        refine va_calli (va_runS (As := [.long (x9 &&& (x16 ^^^ (-1 : Int64)))]) (rest := [.int (σ28.1 10), .ref (a 0)]) ⟨hx, hb, hml, hown, hts⟩ (m_X11_bits l D a k H.size hI N (x9 &&& (x16 ^^^ (-1 : Int64))) σ28 _ hc29) (va_cwS 1 hts gX11_judge_X11_bits rfl rfl rfl (by decide +kernel) ⟨Nat.le_of_ble_eq_true rfl, Nat.le_of_ble_eq_true rfl⟩) ⟨fd_blM, fd_prM hP hK⟩ rfl rfl hl.1 rfl (lv_room (Nat.le_of_ble_eq_true rfl)) dX11_judge_111 ⟨Nat.zero_le _, Nat.zero_le _⟩) hS (fun q _ h => fd_A_mono hS.1 h) (fun q h => fd_A_mono hS.1 h) (fun v30 u t H1 locs ht hvm hw hB hz hk hS => ?_)
        obtain ⟨hP1, hK1⟩ := hB
        rw [ht] at hP1
        obtain ⟨e1, e2⟩ := Prod.mk.inj hw
        subst e1
        subst e2
        obtain ⟨σ31, rfl⟩ : ∃ z, z = u := ⟨_, rfl⟩
        have hP := hP1
        generalize H1 = H at hP hS ⊢
        refine lv_iadd hx hb dX11_judge_114 ?_
        obtain ⟨σ34, eσ34, hf⟩ := fd_lts hf
        refine va_put (ci := 11) (v := .int ((σ28.1 10) + v30)) (ty := .int) (C := RX11) (T := TX11) (N := 43) hx hb hts h9X11 tyX11 tyX11_ok nmX11 hown hK hP (fd_DM hI hJ) hS 0 fd_WM_0 rfl 28 (by decide) (hts (.fieldLink RX11 166 "FailDiagnoseModel" "wrong" "I") (List.mem_of_getElem? (i := 3) (by eq_refl))) (fun _ h9 => h9) rfl (by decide +kernel) rfl rfl (Nat.le_of_ble_eq_true rfl) dX11_judge_115 (fun H locs hP _ hS => ?_)
        have hP : va_P D vwCl (fd_WM a k σ34) H := by rw [eσ34]; exact fd_sP fd_WMi_10 hP
        obtain ⟨x35, ex35, hf⟩ := fd_lts hf
        refine lv_iinc (v := x35) (lv' := [(1, .int x35), (4, .long x16), (2, .long x9), (0, .ref (a 0))]) hx hb dX11_judge_118 hl (k := 3) rfl (by rw [ex35]; rfl) (by decide) rfl (fun ls hl => ?_)
        refine lv_goto (tgt := 17) hx hb dX11_judge_121 (by decide) ?_
        exact ih x35 σ34 _ _ _ hP hS (lv_sub hl [3, 0] rfl) hf
  unfold f_X11_judge_0 at hf
  refine lv_aload_n hx hb dX11_judge_0 rfl (lv_at hl 0 rfl) ?_
  refine lv_iconst (v := (0 : Int32)) hx hb dX11_judge_1 (by decide) ?_
  obtain ⟨σ1, eσ1, hf⟩ := fd_lts hf
  refine va_put (ci := 11) (v := .int (0 : Int32)) (ty := .int) (C := RX11) (T := TX11) (N := 43) hx hb hts h9X11 tyX11 tyX11_ok nmX11 hown hK hP (fd_DM hI hJ) hS 0 fd_WM_0 rfl 26 (by decide) (hts (.fieldLink RX11 160 "FailDiagnoseModel" "explained" "I") (List.mem_of_getElem? (i := 1) (by eq_refl))) (fun _ h9 => h9) rfl (by decide +kernel) rfl rfl (Nat.le_of_ble_eq_true rfl) dX11_judge_2 (fun H locs hP _ hS => ?_)
  have hP : va_P D vwCl (fd_WM a k σ1) H := by rw [eσ1]; exact fd_sP fd_WMi_8 hP
  refine lv_aload_n hx hb dX11_judge_5 rfl (lv_at hl 0 rfl) ?_
  refine lv_iconst (v := (0 : Int32)) hx hb dX11_judge_6 (by decide) ?_
  obtain ⟨σ2, eσ2, hf⟩ := fd_lts hf
  refine va_put (ci := 11) (v := .int (0 : Int32)) (ty := .int) (C := RX11) (T := TX11) (N := 43) hx hb hts h9X11 tyX11 tyX11_ok nmX11 hown hK hP (fd_DM hI hJ) hS 0 fd_WM_0 rfl 27 (by decide) (hts (.fieldLink RX11 163 "FailDiagnoseModel" "missed" "I") (List.mem_of_getElem? (i := 2) (by eq_refl))) (fun _ h9 => h9) rfl (by decide +kernel) rfl rfl (Nat.le_of_ble_eq_true rfl) dX11_judge_7 (fun H locs hP _ hS => ?_)
  have hP : va_P D vwCl (fd_WM a k σ2) H := by rw [eσ2]; exact fd_sP fd_WMi_9 hP
  refine lv_aload_n hx hb dX11_judge_10 rfl (lv_at hl 0 rfl) ?_
  refine lv_iconst (v := (0 : Int32)) hx hb dX11_judge_11 (by decide) ?_
  obtain ⟨σ3, eσ3, hf⟩ := fd_lts hf
  refine va_put (ci := 11) (v := .int (0 : Int32)) (ty := .int) (C := RX11) (T := TX11) (N := 43) hx hb hts h9X11 tyX11 tyX11_ok nmX11 hown hK hP (fd_DM hI hJ) hS 0 fd_WM_0 rfl 28 (by decide) (hts (.fieldLink RX11 166 "FailDiagnoseModel" "wrong" "I") (List.mem_of_getElem? (i := 3) (by eq_refl))) (fun _ h9 => h9) rfl (by decide +kernel) rfl rfl (Nat.le_of_ble_eq_true rfl) dX11_judge_12 (fun H locs hP _ hS => ?_)
  have hP : va_P D vwCl (fd_WM a k σ3) H := by rw [eσ3]; exact fd_sP fd_WMi_10 hP
  refine lv_iconst (v := (0 : Int32)) hx hb dX11_judge_15 (by decide) ?_
  refine lv_istore_n (lv' := [(1, .int (0 : Int32)), (0, .ref (a 0))]) hx hb dX11_judge_16 rfl hl (by decide) rfl (fun ls hl => ?_)
  exact hL17 N (0 : Int32) σ3 _ _ _ hP hS (lv_sub hl [1, 0] rfl) hf
noncomputable def f_X11_tryPair_0_J94 (N : Nat) (y1 : Int32) (y2 : Int32) (y3 : Int32) (σ : fd_St) : Option (Unit × fd_St) := fd_gd (vp_in (0 : Int32) 6) (fd_lt (fd_sA 18 (0 : Int32) y1 σ) (fun σ22 => fd_gd (vp_in (1 : Int32) 6) (fd_lt (fd_sA 18 (1 : Int32) y2 σ22) (fun σ24 => fd_gd (vp_in (2 : Int32) 6) (fd_lt (fd_sA 18 (2 : Int32) y3 σ24) (fun σ26 => fd_gd (vp_in (3 : Int32) 6) (fd_lt (fd_sA 18 (3 : Int32) (σ26.1 8) σ26) (fun σ28 => fd_gd (vp_in (4 : Int32) 6) (fd_lt (fd_sA 18 (4 : Int32) (σ28.1 9) σ28) (fun σ30 => fd_gd (vp_in (5 : Int32) 6) (fd_lt (fd_sA 18 (5 : Int32) (σ30.1 10) σ30) (fun σ32 => some ((), σ32)))))))))))))
noncomputable def f_X11_tryPair_0_J47 (N : Nat) (y1 : Int32) (y2 : Int32) (z1 : Int32) (z2 : Int64) (z3 : Int32) (z4 : Int64) (σ : fd_St) : Option (Unit × fd_St) := fd_bd (f_X11_work_0 N z1 z2 z3 z4 σ) (fun _ σ9 => fd_bd (f_X11_judge_0 N σ9) (fun _ σ14 => fd_lt (((2 : Int32) * (σ14.1 9)) + (σ14.1 10)) (fun x17 => if (σ14.1 8) = 0 then (some ((), σ14)) else (fd_gd (vp_in (0 : Int32) 6) (if (σ14.2.1 18 (0 : Int32).toNatClampNeg) = (-1 : Int32) then (f_X11_tryPair_0_J94 N y1 y2 x17 σ14) else (fd_gd (vp_in (2 : Int32) 6) (if x17 < (σ14.2.1 18 (2 : Int32).toNatClampNeg) then (f_X11_tryPair_0_J94 N y1 y2 x17 σ14) else (some ((), σ14)))))))))
noncomputable def f_X11_tryPair_0_J24 (N : Nat) (y1 : Int32) (y2 : Int32) (z1 : Int32) (z2 : Int64) (σ : fd_St) : Option (Unit × fd_St) := fd_gd (vp_in y2 480) (fd_gd (vp_in y2 480) (if (σ.2.1 12 y2.toNatClampNeg) = (1 : Int32) then (f_X11_tryPair_0_J47 N y1 y2 z1 z2 (σ.2.1 13 y2.toNatClampNeg) (-1 : Int64) σ) else (f_X11_tryPair_0_J47 N y1 y2 z1 z2 (σ.2.1 13 y2.toNatClampNeg) (0 : Int64) σ)))
noncomputable def f_X11_tryPair_0 (N : Nat) (p1 : Int32) (p2 : Int32) (σ : fd_St) : Option (Unit × fd_St) := fd_gd (vp_in p1 480) (fd_gd (vp_in p1 480) (if (σ.2.1 12 p1.toNatClampNeg) = (1 : Int32) then (f_X11_tryPair_0_J24 N p1 p2 (σ.2.1 13 p1.toNatClampNeg) (-1 : Int64) σ) else (f_X11_tryPair_0_J24 N p1 p2 (σ.2.1 13 p1.toNatClampNeg) (0 : Int64) σ)))
set_option maxHeartbeats 4000000 in
set_option maxRecDepth 100000 in
theorem m_X11_tryPair_0 (l : Launch) (D : va_G) (a : Nat → Nat) (k : Nat → ClassId) (sz : Nat) (hI : fd_I 29 a) (N : Nat) (p1 : Int32) (p2 : Int32) (σ : fd_St) (r : Unit × fd_St) (hf : f_X11_tryPair_0 N p1 p2 σ = some r) : Met l yX11_tryPair wsX11_tryPair ({ frames := 3, cells := 0, slots := 0, locals := 75 }) (va_Pc [.ref (a 0), .int p1, .int p2] (fd_PM D a k sz σ)) (va_Qv (fun u => ((), u) = r) (fd_BM D a k) (fd_A 29 a sz)) 0 0 (fd_A 29 a sz) := by
  refine Met.ofW (cc := cX11_tryPair) (maxL := 4) (ret := none) (by decide) rfl ?_
  intro p e s m args below meth c s₁ B hml hv
  obtain ⟨rfl, hsz, hP, hK⟩ := hv
  have hx := B.exec
  have hb := B.bytes
  have hr := B.returns
  have hts := atoms_spec (ws := wsX11_tryPair) B.pre
  have hown : s.vm.findClass RX11 = some m.cls := findClass_of_methodNamed B.named
  have hlocks := B.notSynchronized
  subst hsz
  have hJ : ∀ i, i < 29 → fd_A 29 a s.heap.size (a i) := fun i hi => Or.inl ⟨i, hi, rfl⟩
  have hS : va_S (fd_A 29 a s.heap.size) s.heap s.heap [] := va_S.rf
  have hl := lv_entry ([.ref (a 0), .int p1, .int p2]) (n := 4) (Nat.le_of_ble_eq_true rfl)
  rw [lg_entry_eq]
  generalize (lg_sl ([.ref (a 0), .int p1, .int p2]) ++ List.replicate (4 - (lg_sl ([.ref (a 0), .int p1, .int p2])).length) Slot.unset).toArray = ls at hl ⊢
  have hl : lv_has ls 4 [(0, .ref (a 0)), (1, .int p1), (2, .int p2)] := hl
  have h9X11 : ∀ w ∈ u_ws RX11 TX11 43, w ∈ wsX11_tryPair := fd_su [42, 43, 44, 45, 46, 47, 48, 49, 50, 51, 52, 53, 54, 55, 56, 57, 58, 59, 60, 61, 62, 63, 64, 65, 66, 67, 68, 69, 70, 71, 72, 73, 74, 75, 76, 77, 78, 79, 80, 81, 82, 83, 84] (by eq_refl)
  have hL94 : ∀ (y1 : Int32) (y2 : Int32) (y3 : Int32) (σ : fd_St) (H : Heap) (locs : List Loc) (ls : Array Slot), va_P D vwCl (fd_WM a k σ) H → va_S (fd_A 29 a s.heap.size) s.heap H locs → lv_has ls 4 [(0, .ref (a 0)), (1, .int y1), (2, .int y2), (3, .int y3)] → f_X11_tryPair_0_J94 N y1 y2 y3 σ = some r → W p l e ((headSpec wsX11_tryPair ({ frames := 3, cells := 0, slots := 0, locals := 75 })).room) s m ([.ref (a 0), .int p1, .int p2].toArray) below meth c H locs 0 0 (MQ below (va_Qv (fun u => ((), u) = r) (fd_BM D a k) (fd_A 29 a s.heap.size)) ([.ref (a 0), .int p1, .int p2].toArray) s 0 0 (fd_A 29 a s.heap.size)) (F0 m 94 ls []) := by
    intro y1 y2 y3 σ H locs ls hP hS hl hf
    unfold f_X11_tryPair_0_J94 at hf
    refine lv_aload_n hx hb dX11_tryPair_94 rfl (lv_at hl 0 rfl) ?_
    refine va_get (ci := 11) (v := .ref (a 18)) (C := RX11) (T := TX11) (N := 43) hx hb hts h9X11 hown hK hP 0 fd_WM_0 rfl 25 (by decide) (hts (.fieldLink RX11 63 "FailDiagnoseModel" "best" "[I") (List.mem_of_getElem? (i := 7) (by eq_refl))) (fun _ h9 => h9) rfl dX11_tryPair_95 ?_
    refine lv_iconst (v := (0 : Int32)) hx hb dX11_tryPair_98 (by decide) ?_
    refine lv_iload_n hx hb dX11_tryPair_99 rfl (lv_at hl 1 rfl) ?_
    obtain ⟨g21, hf⟩ := fd_gds hf
    obtain ⟨σ22, eσ22, hf⟩ := fd_lts hf
    refine va_iast hx hb hK hP (fd_DM hI hJ) hS 18 17 fd_WM_18 fd_tyM_18 g21 dX11_tryPair_100 (fun H locs hP _ hS => ?_)
    have hP : va_P D vwCl (fd_WM a k σ22) H := by rw [eσ22]; exact fd_sP fd_WMa_18 hP
    refine lv_aload_n hx hb dX11_tryPair_101 rfl (lv_at hl 0 rfl) ?_
    refine va_get (ci := 11) (v := .ref (a 18)) (C := RX11) (T := TX11) (N := 43) hx hb hts h9X11 hown hK hP 0 fd_WM_0 rfl 25 (by decide) (hts (.fieldLink RX11 63 "FailDiagnoseModel" "best" "[I") (List.mem_of_getElem? (i := 7) (by eq_refl))) (fun _ h9 => h9) rfl dX11_tryPair_102 ?_
    refine lv_iconst (v := (1 : Int32)) hx hb dX11_tryPair_105 (by decide) ?_
    refine lv_iload_n hx hb dX11_tryPair_106 rfl (lv_at hl 2 rfl) ?_
    obtain ⟨g23, hf⟩ := fd_gds hf
    obtain ⟨σ24, eσ24, hf⟩ := fd_lts hf
    refine va_iast hx hb hK hP (fd_DM hI hJ) hS 18 17 fd_WM_18 fd_tyM_18 g23 dX11_tryPair_107 (fun H locs hP _ hS => ?_)
    have hP : va_P D vwCl (fd_WM a k σ24) H := by rw [eσ24]; exact fd_sP fd_WMa_18 hP
    refine lv_aload_n hx hb dX11_tryPair_108 rfl (lv_at hl 0 rfl) ?_
    refine va_get (ci := 11) (v := .ref (a 18)) (C := RX11) (T := TX11) (N := 43) hx hb hts h9X11 hown hK hP 0 fd_WM_0 rfl 25 (by decide) (hts (.fieldLink RX11 63 "FailDiagnoseModel" "best" "[I") (List.mem_of_getElem? (i := 7) (by eq_refl))) (fun _ h9 => h9) rfl dX11_tryPair_109 ?_
    refine lv_iconst (v := (2 : Int32)) hx hb dX11_tryPair_112 (by decide) ?_
    refine lv_iload_n hx hb dX11_tryPair_113 rfl (lv_at hl 3 rfl) ?_
    obtain ⟨g25, hf⟩ := fd_gds hf
    obtain ⟨σ26, eσ26, hf⟩ := fd_lts hf
    refine va_iast hx hb hK hP (fd_DM hI hJ) hS 18 17 fd_WM_18 fd_tyM_18 g25 dX11_tryPair_114 (fun H locs hP _ hS => ?_)
    have hP : va_P D vwCl (fd_WM a k σ26) H := by rw [eσ26]; exact fd_sP fd_WMa_18 hP
    refine lv_aload_n hx hb dX11_tryPair_115 rfl (lv_at hl 0 rfl) ?_
    refine va_get (ci := 11) (v := .ref (a 18)) (C := RX11) (T := TX11) (N := 43) hx hb hts h9X11 hown hK hP 0 fd_WM_0 rfl 25 (by decide) (hts (.fieldLink RX11 63 "FailDiagnoseModel" "best" "[I") (List.mem_of_getElem? (i := 7) (by eq_refl))) (fun _ h9 => h9) rfl dX11_tryPair_116 ?_
    refine lv_iconst (v := (3 : Int32)) hx hb dX11_tryPair_119 (by decide) ?_
    refine lv_aload_n hx hb dX11_tryPair_120 rfl (lv_at hl 0 rfl) ?_
    refine va_get (ci := 11) (v := .int (σ26.1 8)) (C := RX11) (T := TX11) (N := 43) hx hb hts h9X11 hown hK hP 0 fd_WM_0 rfl 26 (by decide) (hts (.fieldLink RX11 160 "FailDiagnoseModel" "explained" "I") (List.mem_of_getElem? (i := 6) (by eq_refl))) (fun _ h9 => h9) rfl dX11_tryPair_121 ?_
    obtain ⟨g27, hf⟩ := fd_gds hf
    obtain ⟨σ28, eσ28, hf⟩ := fd_lts hf
    refine va_iast hx hb hK hP (fd_DM hI hJ) hS 18 17 fd_WM_18 fd_tyM_18 g27 dX11_tryPair_124 (fun H locs hP _ hS => ?_)
    have hP : va_P D vwCl (fd_WM a k σ28) H := by rw [eσ28]; exact fd_sP fd_WMa_18 hP
    refine lv_aload_n hx hb dX11_tryPair_125 rfl (lv_at hl 0 rfl) ?_
    refine va_get (ci := 11) (v := .ref (a 18)) (C := RX11) (T := TX11) (N := 43) hx hb hts h9X11 hown hK hP 0 fd_WM_0 rfl 25 (by decide) (hts (.fieldLink RX11 63 "FailDiagnoseModel" "best" "[I") (List.mem_of_getElem? (i := 7) (by eq_refl))) (fun _ h9 => h9) rfl dX11_tryPair_126 ?_
    refine lv_iconst (v := (4 : Int32)) hx hb dX11_tryPair_129 (by decide) ?_
    refine lv_aload_n hx hb dX11_tryPair_130 rfl (lv_at hl 0 rfl) ?_
    refine va_get (ci := 11) (v := .int (σ28.1 9)) (C := RX11) (T := TX11) (N := 43) hx hb hts h9X11 hown hK hP 0 fd_WM_0 rfl 27 (by decide) (hts (.fieldLink RX11 163 "FailDiagnoseModel" "missed" "I") (List.mem_of_getElem? (i := 4) (by eq_refl))) (fun _ h9 => h9) rfl dX11_tryPair_131 ?_
    obtain ⟨g29, hf⟩ := fd_gds hf
    obtain ⟨σ30, eσ30, hf⟩ := fd_lts hf
    refine va_iast hx hb hK hP (fd_DM hI hJ) hS 18 17 fd_WM_18 fd_tyM_18 g29 dX11_tryPair_134 (fun H locs hP _ hS => ?_)
    have hP : va_P D vwCl (fd_WM a k σ30) H := by rw [eσ30]; exact fd_sP fd_WMa_18 hP
    refine lv_aload_n hx hb dX11_tryPair_135 rfl (lv_at hl 0 rfl) ?_
    refine va_get (ci := 11) (v := .ref (a 18)) (C := RX11) (T := TX11) (N := 43) hx hb hts h9X11 hown hK hP 0 fd_WM_0 rfl 25 (by decide) (hts (.fieldLink RX11 63 "FailDiagnoseModel" "best" "[I") (List.mem_of_getElem? (i := 7) (by eq_refl))) (fun _ h9 => h9) rfl dX11_tryPair_136 ?_
    refine lv_iconst (v := (5 : Int32)) hx hb dX11_tryPair_139 (by decide) ?_
    refine lv_aload_n hx hb dX11_tryPair_140 rfl (lv_at hl 0 rfl) ?_
    refine va_get (ci := 11) (v := .int (σ30.1 10)) (C := RX11) (T := TX11) (N := 43) hx hb hts h9X11 hown hK hP 0 fd_WM_0 rfl 28 (by decide) (hts (.fieldLink RX11 166 "FailDiagnoseModel" "wrong" "I") (List.mem_of_getElem? (i := 5) (by eq_refl))) (fun _ h9 => h9) rfl dX11_tryPair_141 ?_
    obtain ⟨g31, hf⟩ := fd_gds hf
    obtain ⟨σ32, eσ32, hf⟩ := fd_lts hf
    refine va_iast hx hb hK hP (fd_DM hI hJ) hS 18 17 fd_WM_18 fd_tyM_18 g31 dX11_tryPair_144 (fun H locs hP _ hS => ?_)
    have hP : va_P D vwCl (fd_WM a k σ32) H := by rw [eσ32]; exact fd_sP fd_WMa_18 hP
    exact W.vret hx hb hr (fun t ht hW => ⟨⟨σ32, rfl, Option.some.inj hf, by rw [ht]; exact hP, va_K.moved hW.alike hK⟩, hS.F ht⟩) hS.2.2 dX11_tryPair_145
  have hL47 : ∀ (y1 : Int32) (y2 : Int32) (z1 : Int32) (z2 : Int64) (z3 : Int32) (z4 : Int64) (σ : fd_St) (H : Heap) (locs : List Loc) (ls : Array Slot), va_P D vwCl (fd_WM a k σ) H → va_S (fd_A 29 a s.heap.size) s.heap H locs → lv_has ls 4 [(0, .ref (a 0)), (1, .int y1), (2, .int y2)] → f_X11_tryPair_0_J47 N y1 y2 z1 z2 z3 z4 σ = some r → W p l e ((headSpec wsX11_tryPair ({ frames := 3, cells := 0, slots := 0, locals := 75 })).room) s m ([.ref (a 0), .int p1, .int p2].toArray) below meth c H locs 0 0 (MQ below (va_Qv (fun u => ((), u) = r) (fd_BM D a k) (fd_A 29 a s.heap.size)) ([.ref (a 0), .int p1, .int p2].toArray) s 0 0 (fd_A 29 a s.heap.size)) (F0 m 47 ls [.long z4, .int z3, .long z2, .int z1, .ref (a 0)]) := by
    intro y1 y2 z1 z2 z3 z4 σ H locs ls hP hS hl hf
    unfold f_X11_tryPair_0_J47 at hf
    obtain ⟨w10, τ11, hc7, hf⟩ := fd_bds hf
    refine va_callv (va_runV (As := [.int z1, .long z2, .int z3, .long z4]) (rest := []) ⟨hx, hb, hml, hown, hts⟩ (m_X11_work_0 l D a k H.size hI N z1 z2 z3 z4 σ _ hc7) (cwV 4 hts gX11_tryPair_X11_work rfl rfl rfl (by decide +kernel) ⟨Nat.le_of_ble_eq_true rfl, Nat.le_of_ble_eq_true rfl⟩) ⟨fd_blM, va_recv hK hP (ci := 11) (q0 := 0) rfl fd_WM_0, fd_prM hP hK⟩ rfl rfl hl.1 rfl (lv_room (Nat.le_of_ble_eq_true rfl)) dX11_tryPair_47 ⟨Nat.zero_le _, Nat.zero_le _⟩) hS (fun q _ h => fd_A_mono hS.1 h) (fun q h => fd_A_mono hS.1 h) (fun u t H1 locs ht hvm hw hB hz hk hS => ?_)
    obtain ⟨hP1, hK1⟩ := hB
    rw [ht] at hP1
    have e2 := (Prod.mk.inj hw).2
    subst e2
    obtain ⟨σ9, rfl⟩ : ∃ z, z = u := ⟨_, rfl⟩
    have hP := hP1
    generalize H1 = H at hP hS ⊢
    refine lv_aload_n hx hb dX11_tryPair_50 rfl (lv_at hl 0 rfl) ?_
    obtain ⟨w15, τ16, hc12, hf⟩ := fd_bds hf
    refine va_callv (va_runV (As := []) (rest := []) ⟨hx, hb, hml, hown, hts⟩ (m_X11_judge_0 l D a k H.size hI N σ9 _ hc12) (cwV 0 hts gX11_tryPair_X11_judge rfl rfl rfl (by decide +kernel) ⟨Nat.le_of_ble_eq_true rfl, Nat.le_of_ble_eq_true rfl⟩) ⟨fd_blM, va_recv hK hP (ci := 11) (q0 := 0) rfl fd_WM_0, fd_prM hP hK⟩ rfl rfl hl.1 rfl (lv_room (Nat.le_of_ble_eq_true rfl)) dX11_tryPair_51 ⟨Nat.zero_le _, Nat.zero_le _⟩) hS (fun q _ h => fd_A_mono hS.1 h) (fun q h => fd_A_mono hS.1 h) (fun u t H1 locs ht hvm hw hB hz hk hS => ?_)
    obtain ⟨hP1, hK1⟩ := hB
    rw [ht] at hP1
    have e2 := (Prod.mk.inj hw).2
    subst e2
    obtain ⟨σ14, rfl⟩ : ∃ z, z = u := ⟨_, rfl⟩
    have hP := hP1
    generalize H1 = H at hP hS ⊢
    refine lv_iconst (v := (2 : Int32)) hx hb dX11_tryPair_54 (by decide) ?_
    refine lv_aload_n hx hb dX11_tryPair_55 rfl (lv_at hl 0 rfl) ?_
    refine va_get (ci := 11) (v := .int (σ14.1 9)) (C := RX11) (T := TX11) (N := 43) hx hb hts h9X11 hown hK hP 0 fd_WM_0 rfl 27 (by decide) (hts (.fieldLink RX11 163 "FailDiagnoseModel" "missed" "I") (List.mem_of_getElem? (i := 4) (by eq_refl))) (fun _ h9 => h9) rfl dX11_tryPair_56 ?_
    refine lv_imul hx hb dX11_tryPair_59 ?_
    refine lv_aload_n hx hb dX11_tryPair_60 rfl (lv_at hl 0 rfl) ?_
    refine va_get (ci := 11) (v := .int (σ14.1 10)) (C := RX11) (T := TX11) (N := 43) hx hb hts h9X11 hown hK hP 0 fd_WM_0 rfl 28 (by decide) (hts (.fieldLink RX11 166 "FailDiagnoseModel" "wrong" "I") (List.mem_of_getElem? (i := 5) (by eq_refl))) (fun _ h9 => h9) rfl dX11_tryPair_61 ?_
    refine lv_iadd hx hb dX11_tryPair_64 ?_
    obtain ⟨x17, ex17, hf⟩ := fd_lts hf
    refine fd_ni ex17 ?_
    refine lv_istore_n (lv' := [(3, .int x17), (0, .ref (a 0)), (1, .int y1), (2, .int y2)]) hx hb dX11_tryPair_65 rfl hl (by decide) rfl (fun ls hl => ?_)
    refine lv_aload_n hx hb dX11_tryPair_66 rfl (lv_at hl 1 rfl) ?_
    refine va_get (ci := 11) (v := .int (σ14.1 8)) (C := RX11) (T := TX11) (N := 43) hx hb hts h9X11 hown hK hP 0 fd_WM_0 rfl 26 (by decide) (hts (.fieldLink RX11 160 "FailDiagnoseModel" "explained" "I") (List.mem_of_getElem? (i := 6) (by eq_refl))) (fun _ h9 => h9) rfl dX11_tryPair_67 ?_
    refine lv_if_eq (tgt := 93) hx hb dX11_tryPair_70 (by decide) (fun c18 => ?_) (fun c18 => ?_)
    · have hf := fd_itp c18 hf
      exact W.vret hx hb hr (fun t ht hW => ⟨⟨σ14, rfl, Option.some.inj hf, by rw [ht]; exact hP, va_K.moved hW.alike hK⟩, hS.F ht⟩) hS.2.2 dX11_tryPair_93
    · have hf := fd_itn c18 hf
      refine lv_aload_n hx hb dX11_tryPair_73 rfl (lv_at hl 1 rfl) ?_
      refine va_get (ci := 11) (v := .ref (a 18)) (C := RX11) (T := TX11) (N := 43) hx hb hts h9X11 hown hK hP 0 fd_WM_0 rfl 25 (by decide) (hts (.fieldLink RX11 63 "FailDiagnoseModel" "best" "[I") (List.mem_of_getElem? (i := 7) (by eq_refl))) (fun _ h9 => h9) rfl dX11_tryPair_74 ?_
      refine lv_iconst (v := (0 : Int32)) hx hb dX11_tryPair_77 (by decide) ?_
      obtain ⟨g19, hf⟩ := fd_gds hf
      refine va_iald hx hb hK hP 18 17 fd_WM_18 fd_tyM_18 g19 dX11_tryPair_78 ?_
      refine lv_iconst (v := (-1 : Int32)) hx hb dX11_tryPair_79 (by decide) ?_
      refine lv_icmp_eq (tgt := 94) hx hb dX11_tryPair_80 (by decide) (fun c20 => ?_) (fun c20 => ?_)
      · have hf := fd_itp c20 hf
        exact hL94 y1 y2 x17 σ14 _ _ _ hP hS (lv_sub hl [1, 2, 3, 0] rfl) hf
      · have hf := fd_itn c20 hf
        refine lv_iload_n hx hb dX11_tryPair_83 rfl (lv_at hl 0 rfl) ?_
        refine lv_aload_n hx hb dX11_tryPair_84 rfl (lv_at hl 1 rfl) ?_
        refine va_get (ci := 11) (v := .ref (a 18)) (C := RX11) (T := TX11) (N := 43) hx hb hts h9X11 hown hK hP 0 fd_WM_0 rfl 25 (by decide) (hts (.fieldLink RX11 63 "FailDiagnoseModel" "best" "[I") (List.mem_of_getElem? (i := 7) (by eq_refl))) (fun _ h9 => h9) rfl dX11_tryPair_85 ?_
        refine lv_iconst (v := (2 : Int32)) hx hb dX11_tryPair_88 (by decide) ?_
        obtain ⟨g33, hf⟩ := fd_gds hf
        refine va_iald hx hb hK hP 18 17 fd_WM_18 fd_tyM_18 g33 dX11_tryPair_89 ?_
        refine lv_icmp_lt (tgt := 94) hx hb dX11_tryPair_90 (by decide) (fun c34 => ?_) (fun c34 => ?_)
        · have hf := fd_itp c34 hf
          exact hL94 y1 y2 x17 σ14 _ _ _ hP hS (lv_sub hl [1, 2, 3, 0] rfl) hf
        · have hf := fd_itn c34 hf
          exact W.vret hx hb hr (fun t ht hW => ⟨⟨σ14, rfl, Option.some.inj hf, by rw [ht]; exact hP, va_K.moved hW.alike hK⟩, hS.F ht⟩) hS.2.2 dX11_tryPair_93
  have hL24 : ∀ (y1 : Int32) (y2 : Int32) (z1 : Int32) (z2 : Int64) (σ : fd_St) (H : Heap) (locs : List Loc) (ls : Array Slot), va_P D vwCl (fd_WM a k σ) H → va_S (fd_A 29 a s.heap.size) s.heap H locs → lv_has ls 4 [(0, .ref (a 0)), (1, .int y1), (2, .int y2)] → f_X11_tryPair_0_J24 N y1 y2 z1 z2 σ = some r → W p l e ((headSpec wsX11_tryPair ({ frames := 3, cells := 0, slots := 0, locals := 75 })).room) s m ([.ref (a 0), .int p1, .int p2].toArray) below meth c H locs 0 0 (MQ below (va_Qv (fun u => ((), u) = r) (fd_BM D a k) (fd_A 29 a s.heap.size)) ([.ref (a 0), .int p1, .int p2].toArray) s 0 0 (fd_A 29 a s.heap.size)) (F0 m 24 ls [.long z2, .int z1, .ref (a 0)]) := by
    intro y1 y2 z1 z2 σ H locs ls hP hS hl hf
    unfold f_X11_tryPair_0_J24 at hf
    refine lv_aload_n hx hb dX11_tryPair_24 rfl (lv_at hl 0 rfl) ?_
    refine va_get (ci := 11) (v := .ref (a 13)) (C := RX11) (T := TX11) (N := 43) hx hb hts h9X11 hown hK hP 0 fd_WM_0 rfl 20 (by decide) (hts (.fieldLink RX11 48 "FailDiagnoseModel" "suspectOf" "[I") (List.mem_of_getElem? (i := 1) (by eq_refl))) (fun _ h9 => h9) rfl dX11_tryPair_25 ?_
    refine lv_iload_n hx hb dX11_tryPair_28 rfl (lv_at hl 2 rfl) ?_
    obtain ⟨g4, hf⟩ := fd_gds hf
    refine va_iald hx hb hK hP 13 12 fd_WM_13 fd_tyM_13 g4 dX11_tryPair_29 ?_
    refine lv_aload_n hx hb dX11_tryPair_30 rfl (lv_at hl 0 rfl) ?_
    refine va_get (ci := 11) (v := .ref (a 12)) (C := RX11) (T := TX11) (N := 43) hx hb hts h9X11 hown hK hP 0 fd_WM_0 rfl 19 (by decide) (hts (.fieldLink RX11 45 "FailDiagnoseModel" "suspectKind" "[I") (List.mem_of_getElem? (i := 2) (by eq_refl))) (fun _ h9 => h9) rfl dX11_tryPair_31 ?_
    refine lv_iload_n hx hb dX11_tryPair_34 rfl (lv_at hl 2 rfl) ?_
    obtain ⟨g5, hf⟩ := fd_gds hf
    refine va_iald hx hb hK hP 12 11 fd_WM_12 fd_tyM_12 g5 dX11_tryPair_35 ?_
    refine lv_iconst (v := (1 : Int32)) hx hb dX11_tryPair_36 (by decide) ?_
    refine lv_icmp_ne (tgt := 46) hx hb dX11_tryPair_37 (by decide) (fun c6 => ?_) (fun c6 => ?_)
    · have hf := fd_itn c6 hf
      refine lv_lconst (v := (0 : Int64)) hx hb dX11_tryPair_46 (by decide) ?_
      exact hL47 y1 y2 z1 z2 (σ.2.1 13 y2.toNatClampNeg) (0 : Int64) σ _ _ _ hP hS (lv_sub hl [0, 1, 2] rfl) hf
    · have hf := fd_itp c6 hf
      refine lv_ldc2 hx hb hown (hts (.constantLong RX11 129 (-1)) (List.mem_of_getElem? (i := 3) (by eq_refl))) dX11_tryPair_40 ?_
      refine lv_goto (tgt := 47) hx hb dX11_tryPair_43 (by decide) ?_
      exact hL47 y1 y2 z1 z2 (σ.2.1 13 y2.toNatClampNeg) (-1 : Int64) σ _ _ _ hP hS (lv_sub hl [0, 1, 2] rfl) hf
  unfold f_X11_tryPair_0 at hf
  refine lv_aload_n hx hb dX11_tryPair_0 rfl (lv_at hl 0 rfl) ?_
  refine lv_aload_n hx hb dX11_tryPair_1 rfl (lv_at hl 0 rfl) ?_
  refine va_get (ci := 11) (v := .ref (a 13)) (C := RX11) (T := TX11) (N := 43) hx hb hts h9X11 hown hK hP 0 fd_WM_0 rfl 20 (by decide) (hts (.fieldLink RX11 48 "FailDiagnoseModel" "suspectOf" "[I") (List.mem_of_getElem? (i := 1) (by eq_refl))) (fun _ h9 => h9) rfl dX11_tryPair_2 ?_
  refine lv_iload_n hx hb dX11_tryPair_5 rfl (lv_at hl 1 rfl) ?_
  obtain ⟨g1, hf⟩ := fd_gds hf
  refine va_iald hx hb hK hP 13 12 fd_WM_13 fd_tyM_13 g1 dX11_tryPair_6 ?_
  refine lv_aload_n hx hb dX11_tryPair_7 rfl (lv_at hl 0 rfl) ?_
  refine va_get (ci := 11) (v := .ref (a 12)) (C := RX11) (T := TX11) (N := 43) hx hb hts h9X11 hown hK hP 0 fd_WM_0 rfl 19 (by decide) (hts (.fieldLink RX11 45 "FailDiagnoseModel" "suspectKind" "[I") (List.mem_of_getElem? (i := 2) (by eq_refl))) (fun _ h9 => h9) rfl dX11_tryPair_8 ?_
  refine lv_iload_n hx hb dX11_tryPair_11 rfl (lv_at hl 1 rfl) ?_
  obtain ⟨g2, hf⟩ := fd_gds hf
  refine va_iald hx hb hK hP 12 11 fd_WM_12 fd_tyM_12 g2 dX11_tryPair_12 ?_
  refine lv_iconst (v := (1 : Int32)) hx hb dX11_tryPair_13 (by decide) ?_
  refine lv_icmp_ne (tgt := 23) hx hb dX11_tryPair_14 (by decide) (fun c3 => ?_) (fun c3 => ?_)
  · have hf := fd_itn c3 hf
    refine lv_lconst (v := (0 : Int64)) hx hb dX11_tryPair_23 (by decide) ?_
    exact hL24 p1 p2 (σ.2.1 13 p1.toNatClampNeg) (0 : Int64) σ _ _ _ hP hS (lv_sub hl [0, 1, 2] rfl) hf
  · have hf := fd_itp c3 hf
    refine lv_ldc2 hx hb hown (hts (.constantLong RX11 129 (-1)) (List.mem_of_getElem? (i := 3) (by eq_refl))) dX11_tryPair_17 ?_
    refine lv_goto (tgt := 24) hx hb dX11_tryPair_20 (by decide) ?_
    exact hL24 p1 p2 (σ.2.1 13 p1.toNatClampNeg) (-1 : Int64) σ _ _ _ hP hS (lv_sub hl [0, 1, 2] rfl) hf
