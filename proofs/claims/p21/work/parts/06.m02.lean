noncomputable def f_X2_isReached_1 (N : Nat) (p1 : Int32) (p2 : Int32) (σ : fd_St) : Option (Int32 × fd_St) := if p1 < p2 then (some ((0 : Int32), σ)) else (fd_gd (vp_in p1 200) (if (σ.2.1 17 p1.toNatClampNeg) = 0 then (some ((0 : Int32), σ)) else (some ((1 : Int32), σ))))
set_option maxHeartbeats 4000000 in
set_option maxRecDepth 100000 in
theorem m_X2_isReached_1 (l : Launch) (D : va_G) (a : Nat → Nat) (k : Nat → ClassId) (sz : Nat) (hI : fd_I 39 a) (N : Nat) (p1 : Int32) (p2 : Int32) (σ : fd_St) (r : Int32 × fd_St) (hf : f_X2_isReached_1 N p1 p2 σ = some r) : Met l yX2_isReached wsX2_isReached ({ frames := 0, cells := 0, slots := 0, locals := 0 }) (va_Pc [.ref (a 1), .int p1, .int p2] (fd_PC D a k sz σ)) (va_Qi (fun v u => (v, u) = r) (fd_BC D a k) (fd_A 39 a sz)) 0 0 (fd_A 39 a sz) := by
  refine Met.ofW (cc := cX2_isReached) (maxL := 3) (ret := (some .boolean)) (by decide) rfl ?_
  intro p e s m args below meth c s₁ B hml hv
  obtain ⟨rfl, hsz, hP, hK⟩ := hv
  have hx := B.exec
  have hb := B.bytes
  have hr := B.returns
  have hts := atoms_spec (ws := wsX2_isReached) B.pre
  have hown : s.vm.findClass RX2 = some m.cls := findClass_of_methodNamed B.named
  have hlocks := B.notSynchronized
  subst hsz
  have hJ : ∀ i, i < 39 → fd_A 39 a s.heap.size (a i) := fun i hi => Or.inl ⟨i, hi, rfl⟩
  have hS : va_S (fd_A 39 a s.heap.size) s.heap s.heap [] := va_S.rf
  have hl := lv_entry ([.ref (a 1), .int p1, .int p2]) (n := 3) (Nat.le_of_ble_eq_true rfl)
  rw [lg_entry_eq]
  generalize (lg_sl ([.ref (a 1), .int p1, .int p2]) ++ List.replicate (3 - (lg_sl ([.ref (a 1), .int p1, .int p2])).length) Slot.unset).toArray = ls at hl ⊢
  have hl : lv_has ls 3 [(0, .ref (a 1)), (1, .int p1), (2, .int p2)] := hl
  have h9X2 : ∀ w ∈ u_ws RX2 TX2 9, w ∈ wsX2_isReached := fd_su [2, 3, 4, 5, 6, 7, 8, 9, 10] (by eq_refl)
  unfold f_X2_isReached_1 at hf
  refine lv_iload_n hx hb dX2_isReached_0 rfl (lv_at hl 1 rfl) ?_
  refine lv_iload_n hx hb dX2_isReached_1 rfl (lv_at hl 2 rfl) ?_
  refine lv_icmp_lt (tgt := 18) hx hb dX2_isReached_2 (by decide) (fun c1 => ?_) (fun c1 => ?_)
  · have hf := fd_itp c1 hf
    refine lv_iconst (v := (0 : Int32)) hx hb dX2_isReached_18 (by decide) ?_
    exact W.zret (v := (0 : Int32)) (ty := .boolean) hx hb hr rfl (fun t ht hW => ⟨⟨(0 : Int32), σ, rfl, Option.some.inj hf, by rw [ht]; exact hP, va_K.moved hW.alike hK⟩, hS.F ht⟩) hS.2.2 dX2_isReached_19
  · have hf := fd_itn c1 hf
    refine lv_aload_n hx hb dX2_isReached_5 rfl (lv_at hl 0 rfl) ?_
    refine va_get (ci := 2) (v := .ref (a 17)) (C := RX2) (T := TX2) (N := 9) hx hb hts h9X2 hown hK hP 1 fd_WC_1 rfl 5 (by decide) (hts (.fieldLink RX2 28 "FailDiagnose$Circuit" "reached" "[Z") (List.mem_of_getElem? (i := 1) (by eq_refl))) (fun _ h9 => h9) rfl dX2_isReached_6 ?_
    refine lv_iload_n hx hb dX2_isReached_9 rfl (lv_at hl 1 rfl) ?_
    obtain ⟨g2, hf⟩ := fd_gds hf
    refine va_zald hx hb hK hP 17 5 fd_WC_17 fd_tyC_17 g2 dX2_isReached_10 ?_
    refine lv_if_eq (tgt := 18) hx hb dX2_isReached_11 (by decide) (fun c3 => ?_) (fun c3 => ?_)
    · have hf := fd_itp c3 hf
      refine lv_iconst (v := (0 : Int32)) hx hb dX2_isReached_18 (by decide) ?_
      exact W.zret (v := (0 : Int32)) (ty := .boolean) hx hb hr rfl (fun t ht hW => ⟨⟨(0 : Int32), σ, rfl, Option.some.inj hf, by rw [ht]; exact hP, va_K.moved hW.alike hK⟩, hS.F ht⟩) hS.2.2 dX2_isReached_19
    · have hf := fd_itn c3 hf
      refine lv_iconst (v := (1 : Int32)) hx hb dX2_isReached_14 (by decide) ?_
      refine lv_goto (tgt := 19) hx hb dX2_isReached_15 (by decide) ?_
      exact W.zret (v := (1 : Int32)) (ty := .boolean) hx hb hr rfl (fun t ht hW => ⟨⟨(1 : Int32), σ, rfl, Option.some.inj hf, by rw [ht]; exact hP, va_K.moved hW.alike hK⟩, hS.F ht⟩) hS.2.2 dX2_isReached_19
noncomputable def f_X2_oneReachesTheOther_1_J84 (N : Nat) (k25 : Int32 → Int32 → Int32 → fd_St → Option (Int32 × fd_St)) (y3 : Int32) (y4 : Int32) (y5 : Int32) (z1 : Int32) (z2 : Int32) (σ : fd_St) : Option (Int32 × fd_St) := fd_gd (vp_in z1 200) (fd_lt (fd_sA 17 z1 (vp_nar .boolean z2) σ) (fun σ12 => fd_lt (y5 + (1 : Int32)) (fun x13 => k25 y3 y4 x13 σ12)))
noncomputable def f_X2_oneReachesTheOther_1_J83 (N : Nat) (k25 : Int32 → Int32 → Int32 → fd_St → Option (Int32 × fd_St)) (y3 : Int32) (y4 : Int32) (y5 : Int32) (z1 : Int32) (σ : fd_St) : Option (Int32 × fd_St) := f_X2_oneReachesTheOther_1_J84 N k25 y3 y4 y5 z1 (0 : Int32) σ
noncomputable def f_X2_oneReachesTheOther_1_J79 (N : Nat) (k25 : Int32 → Int32 → Int32 → fd_St → Option (Int32 × fd_St)) (y3 : Int32) (y4 : Int32) (y5 : Int32) (z1 : Int32) (σ : fd_St) : Option (Int32 × fd_St) := f_X2_oneReachesTheOther_1_J84 N k25 y3 y4 y5 z1 (1 : Int32) σ
noncomputable def f_X2_oneReachesTheOther_1_L25 (N : Nat) : Nat → Int32 → Int32 → Int32 → fd_St → Option (Int32 × fd_St)
  | 0 => fun _ _ _ _ => none
  | n + 1 => fun y3 y4 y5 σ => if y4 < y5 then (fd_gd (vp_in y4 200) (fd_gd (narrow .boolean (.int (σ.2.1 17 y4.toNatClampNeg)) = .int (σ.2.1 17 y4.toNatClampNeg)) (some (σ.2.1 17 y4.toNatClampNeg, σ)))) else (fd_gd (vp_in y5 200) (if (σ.2.1 12 y5.toNatClampNeg) = (-1 : Int32) then (f_X2_oneReachesTheOther_1_J83 N (f_X2_oneReachesTheOther_1_L25 N n) y3 y4 y5 y5 σ) else (fd_gd (vp_in y5 200) (fd_bd (f_X2_isReached_1 N (σ.2.1 13 y5.toNatClampNeg) y3 σ) (fun v16 σ17 => if v16 = 0 then (fd_gd (vp_in y5 200) (fd_bd (f_X2_isReached_1 N (σ17.2.1 14 y5.toNatClampNeg) y3 σ17) (fun v23 σ24 => if v23 = 0 then (f_X2_oneReachesTheOther_1_J83 N (f_X2_oneReachesTheOther_1_L25 N n) y3 y4 y5 y5 σ24) else (f_X2_oneReachesTheOther_1_J79 N (f_X2_oneReachesTheOther_1_L25 N n) y3 y4 y5 y5 σ24)))) else (f_X2_oneReachesTheOther_1_J79 N (f_X2_oneReachesTheOther_1_L25 N n) y3 y4 y5 y5 σ17))))))
noncomputable def f_X2_oneReachesTheOther_1 (N : Nat) (p1 : Int32) (p2 : Int32) (σ : fd_St) : Option (Int32 × fd_St) := fd_lt (if p2 < p1 then p2 else p1) (fun x1 => fd_lt (if p1 < p2 then p2 else p1) (fun x2 => fd_gd (vp_in x1 200) (fd_lt (fd_sA 17 x1 (vp_nar .boolean (1 : Int32)) σ) (fun σ4 => fd_lt (x1 + (1 : Int32)) (fun x5 => f_X2_oneReachesTheOther_1_L25 N N x1 x2 x5 σ4)))))
set_option maxHeartbeats 4000000 in
set_option maxRecDepth 100000 in
theorem m_X2_oneReachesTheOther_1 (l : Launch) (D : va_G) (a : Nat → Nat) (k : Nat → ClassId) (sz : Nat) (hI : fd_I 39 a) (N : Nat) (p1 : Int32) (p2 : Int32) (σ : fd_St) (r : Int32 × fd_St) (hf : f_X2_oneReachesTheOther_1 N p1 p2 σ = some r) : Met l yX2_oneReachesTheOther wsX2_oneReachesTheOther ({ frames := 1, cells := 0, slots := 0, locals := 22 }) (va_Pc [.ref (a 1), .int p1, .int p2] (fd_PC D a k sz σ)) (va_Qi (fun v u => (v, u) = r) (fd_BC D a k) (fd_A 39 a sz)) 0 0 (fd_A 39 a sz) := by
  refine Met.ofW (cc := cX2_oneReachesTheOther) (maxL := 6) (ret := (some .boolean)) (by decide) rfl ?_
  intro p e s m args below meth c s₁ B hml hv
  obtain ⟨rfl, hsz, hP, hK⟩ := hv
  have hx := B.exec
  have hb := B.bytes
  have hr := B.returns
  have hts := atoms_spec (ws := wsX2_oneReachesTheOther) B.pre
  have hown : s.vm.findClass RX2 = some m.cls := findClass_of_methodNamed B.named
  have hlocks := B.notSynchronized
  subst hsz
  have hJ : ∀ i, i < 39 → fd_A 39 a s.heap.size (a i) := fun i hi => Or.inl ⟨i, hi, rfl⟩
  have hS : va_S (fd_A 39 a s.heap.size) s.heap s.heap [] := va_S.rf
  have hl := lv_entry ([.ref (a 1), .int p1, .int p2]) (n := 6) (Nat.le_of_ble_eq_true rfl)
  rw [lg_entry_eq]
  generalize (lg_sl ([.ref (a 1), .int p1, .int p2]) ++ List.replicate (6 - (lg_sl ([.ref (a 1), .int p1, .int p2])).length) Slot.unset).toArray = ls at hl ⊢
  have hl : lv_has ls 6 [(0, .ref (a 1)), (1, .int p1), (2, .int p2)] := hl
  have h9X2 : ∀ w ∈ u_ws RX2 TX2 9, w ∈ wsX2_oneReachesTheOther := fd_su [17, 18, 19, 20, 21, 22, 23, 24, 25] (by eq_refl)
  have hL84 : ∀ (k25 : Int32 → Int32 → Int32 → fd_St → Option (Int32 × fd_St)) (hk25 : ∀ (y3 : Int32) (y4 : Int32) (y5 : Int32) (σ : fd_St) (H : Heap) (locs : List Loc) (ls : Array Slot), va_P D vwCl (fd_WC a k σ) H → va_S (fd_A 39 a s.heap.size) s.heap H locs → lv_has ls 6 [(0, .ref (a 1)), (3, .int y3), (4, .int y4), (5, .int y5)] → k25 y3 y4 y5 σ = some r → W p l e ((headSpec wsX2_oneReachesTheOther ({ frames := 1, cells := 0, slots := 0, locals := 22 })).room) s m ([.ref (a 1), .int p1, .int p2].toArray) below meth c H locs 0 0 (MQ below (va_Qi (fun v u => (v, u) = r) (fd_BC D a k) (fd_A 39 a s.heap.size)) ([.ref (a 1), .int p1, .int p2].toArray) s 0 0 (fd_A 39 a s.heap.size)) (F0 m 25 ls [])), ∀ (y3 : Int32) (y4 : Int32) (y5 : Int32) (z1 : Int32) (z2 : Int32) (σ : fd_St) (H : Heap) (locs : List Loc) (ls : Array Slot), va_P D vwCl (fd_WC a k σ) H → va_S (fd_A 39 a s.heap.size) s.heap H locs → lv_has ls 6 [(0, .ref (a 1)), (3, .int y3), (4, .int y4), (5, .int y5)] → f_X2_oneReachesTheOther_1_J84 N k25 y3 y4 y5 z1 z2 σ = some r → W p l e ((headSpec wsX2_oneReachesTheOther ({ frames := 1, cells := 0, slots := 0, locals := 22 })).room) s m ([.ref (a 1), .int p1, .int p2].toArray) below meth c H locs 0 0 (MQ below (va_Qi (fun v u => (v, u) = r) (fd_BC D a k) (fd_A 39 a s.heap.size)) ([.ref (a 1), .int p1, .int p2].toArray) s 0 0 (fd_A 39 a s.heap.size)) (F0 m 84 ls [.int z2, .int z1, .ref (a 17)]) := by
    intro k25 hk25 y3 y4 y5 z1 z2 σ H locs ls hP hS hl hf
    unfold f_X2_oneReachesTheOther_1_J84 at hf
    obtain ⟨g11, hf⟩ := fd_gds hf
    obtain ⟨σ12, eσ12, hf⟩ := fd_lts hf
    refine va_zast hx hb hK hP (fd_DC hI hJ) hS 17 5 fd_WC_17 fd_tyC_17 g11 dX2_oneReachesTheOther_84 (fun H locs hP _ hS => ?_)
    have hP : va_P D vwCl (fd_WC a k σ12) H := by rw [eσ12]; exact fd_sP fd_WCa_17 hP
    obtain ⟨x13, ex13, hf⟩ := fd_lts hf
    refine lv_iinc (v := x13) (lv' := [(5, .int x13), (0, .ref (a 1)), (3, .int y3), (4, .int y4)]) hx hb dX2_oneReachesTheOther_85 hl (k := 3) rfl (by rw [ex13]; rfl) (by decide) rfl (fun ls hl => ?_)
    refine lv_goto (tgt := 25) hx hb dX2_oneReachesTheOther_88 (by decide) ?_
    exact hk25 y3 y4 x13 σ12 _ _ _ hP hS (lv_sub hl [1, 2, 3, 0] rfl) hf
  have hL83 : ∀ (k25 : Int32 → Int32 → Int32 → fd_St → Option (Int32 × fd_St)) (hk25 : ∀ (y3 : Int32) (y4 : Int32) (y5 : Int32) (σ : fd_St) (H : Heap) (locs : List Loc) (ls : Array Slot), va_P D vwCl (fd_WC a k σ) H → va_S (fd_A 39 a s.heap.size) s.heap H locs → lv_has ls 6 [(0, .ref (a 1)), (3, .int y3), (4, .int y4), (5, .int y5)] → k25 y3 y4 y5 σ = some r → W p l e ((headSpec wsX2_oneReachesTheOther ({ frames := 1, cells := 0, slots := 0, locals := 22 })).room) s m ([.ref (a 1), .int p1, .int p2].toArray) below meth c H locs 0 0 (MQ below (va_Qi (fun v u => (v, u) = r) (fd_BC D a k) (fd_A 39 a s.heap.size)) ([.ref (a 1), .int p1, .int p2].toArray) s 0 0 (fd_A 39 a s.heap.size)) (F0 m 25 ls [])), ∀ (y3 : Int32) (y4 : Int32) (y5 : Int32) (z1 : Int32) (σ : fd_St) (H : Heap) (locs : List Loc) (ls : Array Slot), va_P D vwCl (fd_WC a k σ) H → va_S (fd_A 39 a s.heap.size) s.heap H locs → lv_has ls 6 [(0, .ref (a 1)), (3, .int y3), (4, .int y4), (5, .int y5)] → f_X2_oneReachesTheOther_1_J83 N k25 y3 y4 y5 z1 σ = some r → W p l e ((headSpec wsX2_oneReachesTheOther ({ frames := 1, cells := 0, slots := 0, locals := 22 })).room) s m ([.ref (a 1), .int p1, .int p2].toArray) below meth c H locs 0 0 (MQ below (va_Qi (fun v u => (v, u) = r) (fd_BC D a k) (fd_A 39 a s.heap.size)) ([.ref (a 1), .int p1, .int p2].toArray) s 0 0 (fd_A 39 a s.heap.size)) (F0 m 83 ls [.int z1, .ref (a 17)]) := by
    intro k25 hk25 y3 y4 y5 z1 σ H locs ls hP hS hl hf
    unfold f_X2_oneReachesTheOther_1_J83 at hf
    refine lv_iconst (v := (0 : Int32)) hx hb dX2_oneReachesTheOther_83 (by decide) ?_
    exact hL84 k25 hk25 y3 y4 y5 z1 (0 : Int32) σ _ _ _ hP hS (lv_sub hl [0, 1, 2, 3] rfl) hf
  have hL79 : ∀ (k25 : Int32 → Int32 → Int32 → fd_St → Option (Int32 × fd_St)) (hk25 : ∀ (y3 : Int32) (y4 : Int32) (y5 : Int32) (σ : fd_St) (H : Heap) (locs : List Loc) (ls : Array Slot), va_P D vwCl (fd_WC a k σ) H → va_S (fd_A 39 a s.heap.size) s.heap H locs → lv_has ls 6 [(0, .ref (a 1)), (3, .int y3), (4, .int y4), (5, .int y5)] → k25 y3 y4 y5 σ = some r → W p l e ((headSpec wsX2_oneReachesTheOther ({ frames := 1, cells := 0, slots := 0, locals := 22 })).room) s m ([.ref (a 1), .int p1, .int p2].toArray) below meth c H locs 0 0 (MQ below (va_Qi (fun v u => (v, u) = r) (fd_BC D a k) (fd_A 39 a s.heap.size)) ([.ref (a 1), .int p1, .int p2].toArray) s 0 0 (fd_A 39 a s.heap.size)) (F0 m 25 ls [])), ∀ (y3 : Int32) (y4 : Int32) (y5 : Int32) (z1 : Int32) (σ : fd_St) (H : Heap) (locs : List Loc) (ls : Array Slot), va_P D vwCl (fd_WC a k σ) H → va_S (fd_A 39 a s.heap.size) s.heap H locs → lv_has ls 6 [(0, .ref (a 1)), (3, .int y3), (4, .int y4), (5, .int y5)] → f_X2_oneReachesTheOther_1_J79 N k25 y3 y4 y5 z1 σ = some r → W p l e ((headSpec wsX2_oneReachesTheOther ({ frames := 1, cells := 0, slots := 0, locals := 22 })).room) s m ([.ref (a 1), .int p1, .int p2].toArray) below meth c H locs 0 0 (MQ below (va_Qi (fun v u => (v, u) = r) (fd_BC D a k) (fd_A 39 a s.heap.size)) ([.ref (a 1), .int p1, .int p2].toArray) s 0 0 (fd_A 39 a s.heap.size)) (F0 m 79 ls [.int z1, .ref (a 17)]) := by
    intro k25 hk25 y3 y4 y5 z1 σ H locs ls hP hS hl hf
    unfold f_X2_oneReachesTheOther_1_J79 at hf
    refine lv_iconst (v := (1 : Int32)) hx hb dX2_oneReachesTheOther_79 (by decide) ?_
    refine lv_goto (tgt := 84) hx hb dX2_oneReachesTheOther_80 (by decide) ?_
    exact hL84 k25 hk25 y3 y4 y5 z1 (1 : Int32) σ _ _ _ hP hS (lv_sub hl [0, 1, 2, 3] rfl) hf
  have hL25 : ∀ (n : Nat), ∀ (y3 : Int32) (y4 : Int32) (y5 : Int32) (σ : fd_St) (H : Heap) (locs : List Loc) (ls : Array Slot), va_P D vwCl (fd_WC a k σ) H → va_S (fd_A 39 a s.heap.size) s.heap H locs → lv_has ls 6 [(0, .ref (a 1)), (3, .int y3), (4, .int y4), (5, .int y5)] → f_X2_oneReachesTheOther_1_L25 N n y3 y4 y5 σ = some r → W p l e ((headSpec wsX2_oneReachesTheOther ({ frames := 1, cells := 0, slots := 0, locals := 22 })).room) s m ([.ref (a 1), .int p1, .int p2].toArray) below meth c H locs 0 0 (MQ below (va_Qi (fun v u => (v, u) = r) (fd_BC D a k) (fd_A 39 a s.heap.size)) ([.ref (a 1), .int p1, .int p2].toArray) s 0 0 (fd_A 39 a s.heap.size)) (F0 m 25 ls []) := by
    intro n
    induction n with
    | zero =>
      intro _ _ _ _ _ _ _ _ _ _ hf
      cases hf
    | succ n ih =>
      intro y3 y4 y5 σ H locs ls hP hS hl hf
      unfold f_X2_oneReachesTheOther_1_L25 at hf
      refine lv_iload hx hb dX2_oneReachesTheOther_25 (lv_at hl 3 rfl) ?_
      refine lv_iload hx hb dX2_oneReachesTheOther_27 (lv_at hl 2 rfl) ?_
      refine lv_icmp_gt (tgt := 91) hx hb dX2_oneReachesTheOther_29 (by decide) (fun c6 => ?_) (fun c6 => ?_)
      · have hf := fd_itp c6 hf
        refine lv_aload_n hx hb dX2_oneReachesTheOther_91 rfl (lv_at hl 0 rfl) ?_
        refine va_get (ci := 2) (v := .ref (a 17)) (C := RX2) (T := TX2) (N := 9) hx hb hts h9X2 hown hK hP 1 fd_WC_1 rfl 5 (by decide) (hts (.fieldLink RX2 28 "FailDiagnose$Circuit" "reached" "[Z") (List.mem_of_getElem? (i := 8) (by eq_refl))) (fun _ h9 => h9) rfl dX2_oneReachesTheOther_92 ?_
        refine lv_iload hx hb dX2_oneReachesTheOther_95 (lv_at hl 2 rfl) ?_
        obtain ⟨g7, hf⟩ := fd_gds hf
        refine va_zald hx hb hK hP 17 5 fd_WC_17 fd_tyC_17 g7 dX2_oneReachesTheOther_97 ?_
        obtain ⟨g8, hf⟩ := fd_gds hf
        exact W.zret (v := σ.2.1 17 y4.toNatClampNeg) (ty := .boolean) hx hb hr g8 (fun t ht hW => ⟨⟨σ.2.1 17 y4.toNatClampNeg, σ, rfl, Option.some.inj hf, by rw [ht]; exact hP, va_K.moved hW.alike hK⟩, hS.F ht⟩) hS.2.2 dX2_oneReachesTheOther_98
      · have hf := fd_itn c6 hf
        refine lv_aload_n hx hb dX2_oneReachesTheOther_32 rfl (lv_at hl 0 rfl) ?_
        refine va_get (ci := 2) (v := .ref (a 17)) (C := RX2) (T := TX2) (N := 9) hx hb hts h9X2 hown hK hP 1 fd_WC_1 rfl 5 (by decide) (hts (.fieldLink RX2 28 "FailDiagnose$Circuit" "reached" "[Z") (List.mem_of_getElem? (i := 8) (by eq_refl))) (fun _ h9 => h9) rfl dX2_oneReachesTheOther_33 ?_
        refine lv_iload hx hb dX2_oneReachesTheOther_36 (lv_at hl 3 rfl) ?_
        refine lv_aload_n hx hb dX2_oneReachesTheOther_38 rfl (lv_at hl 0 rfl) ?_
        refine va_get (ci := 2) (v := .ref (a 12)) (C := RX2) (T := TX2) (N := 9) hx hb hts h9X2 hown hK hP 1 fd_WC_1 rfl 0 (by decide) (hts (.fieldLink RX2 9 "FailDiagnose$Circuit" "kinds" "[I") (List.mem_of_getElem? (i := 9) (by eq_refl))) (fun _ h9 => h9) rfl dX2_oneReachesTheOther_39 ?_
        refine lv_iload hx hb dX2_oneReachesTheOther_42 (lv_at hl 3 rfl) ?_
        obtain ⟨g9, hf⟩ := fd_gds hf
        refine va_iald hx hb hK hP 12 0 fd_WC_12 fd_tyC_12 g9 dX2_oneReachesTheOther_44 ?_
        refine lv_iconst (v := (-1 : Int32)) hx hb dX2_oneReachesTheOther_45 (by decide) ?_
        refine lv_icmp_eq (tgt := 83) hx hb dX2_oneReachesTheOther_46 (by decide) (fun c10 => ?_) (fun c10 => ?_)
        · have hf := fd_itp c10 hf
          exact hL83 (f_X2_oneReachesTheOther_1_L25 N n) ih y3 y4 y5 y5 σ _ _ _ hP hS (lv_sub hl [0, 1, 2, 3] rfl) hf
        · have hf := fd_itn c10 hf
          refine lv_aload_n hx hb dX2_oneReachesTheOther_49 rfl (lv_at hl 0 rfl) ?_
          refine lv_aload_n hx hb dX2_oneReachesTheOther_50 rfl (lv_at hl 0 rfl) ?_
          refine va_get (ci := 2) (v := .ref (a 13)) (C := RX2) (T := TX2) (N := 9) hx hb hts h9X2 hown hK hP 1 fd_WC_1 rfl 1 (by decide) (hts (.fieldLink RX2 15 "FailDiagnose$Circuit" "firsts" "[I") (List.mem_of_getElem? (i := 10) (by eq_refl))) (fun _ h9 => h9) rfl dX2_oneReachesTheOther_51 ?_
          refine lv_iload hx hb dX2_oneReachesTheOther_54 (lv_at hl 3 rfl) ?_
          obtain ⟨g14, hf⟩ := fd_gds hf
          refine va_iald hx hb hK hP 13 1 fd_WC_13 fd_tyC_13 g14 dX2_oneReachesTheOther_56 ?_
          refine lv_iload_n hx hb dX2_oneReachesTheOther_57 rfl (lv_at hl 1 rfl) ?_
          obtain ⟨w18, τ19, hc15, hf⟩ := fd_bds hf
          refine va_calli (va_runV (As := [.int (σ.2.1 13 y5.toNatClampNeg), .int y3]) (rest := [.int y5, .ref (a 17)]) ⟨hx, hb, hml, hown, hts⟩ (m_X2_isReached_1 l D a k H.size hI N (σ.2.1 13 y5.toNatClampNeg) y3 σ _ hc15) (cwV 2 hts gX2_oneReachesTheOther_X2_isReached rfl rfl rfl (by decide +kernel) ⟨Nat.le_of_ble_eq_true rfl, Nat.le_of_ble_eq_true rfl⟩) ⟨fd_blC, va_recv hK hP (ci := 2) (q0 := 1) rfl fd_WC_1, fd_prC hP hK⟩ rfl rfl hl.1 rfl (lv_room (Nat.le_of_ble_eq_true rfl)) dX2_oneReachesTheOther_58 ⟨Nat.zero_le _, Nat.zero_le _⟩) hS (fun q _ h => fd_A_mono hS.1 h) (fun q h => fd_A_mono hS.1 h) (fun v16 u t H1 locs ht hvm hw hB hz hk hS => ?_)
          obtain ⟨hP1, hK1⟩ := hB
          rw [ht] at hP1
          obtain ⟨e1, e2⟩ := Prod.mk.inj hw
          subst e1
          subst e2
          obtain ⟨σ17, rfl⟩ : ∃ z, z = u := ⟨_, rfl⟩
          have hP := hP1
          generalize H1 = H at hP hS ⊢
          refine lv_if_ne (tgt := 79) hx hb dX2_oneReachesTheOther_61 (by decide) (fun c20 => ?_) (fun c20 => ?_)
          · have hf := fd_itn c20 hf
            exact hL79 (f_X2_oneReachesTheOther_1_L25 N n) ih y3 y4 y5 y5 σ17 _ _ _ hP hS (lv_sub hl [0, 1, 2, 3] rfl) hf
          · have hf := fd_itp c20 hf
            refine lv_aload_n hx hb dX2_oneReachesTheOther_64 rfl (lv_at hl 0 rfl) ?_
            refine lv_aload_n hx hb dX2_oneReachesTheOther_65 rfl (lv_at hl 0 rfl) ?_
            refine va_get (ci := 2) (v := .ref (a 14)) (C := RX2) (T := TX2) (N := 9) hx hb hts h9X2 hown hK hP 1 fd_WC_1 rfl 2 (by decide) (hts (.fieldLink RX2 18 "FailDiagnose$Circuit" "seconds" "[I") (List.mem_of_getElem? (i := 11) (by eq_refl))) (fun _ h9 => h9) rfl dX2_oneReachesTheOther_66 ?_
            refine lv_iload hx hb dX2_oneReachesTheOther_69 (lv_at hl 3 rfl) ?_
            obtain ⟨g21, hf⟩ := fd_gds hf
            refine va_iald hx hb hK hP 14 2 fd_WC_14 fd_tyC_14 g21 dX2_oneReachesTheOther_71 ?_
            refine lv_iload_n hx hb dX2_oneReachesTheOther_72 rfl (lv_at hl 1 rfl) ?_
            obtain ⟨w25, τ26, hc22, hf⟩ := fd_bds hf
            refine va_calli (va_runV (As := [.int (σ17.2.1 14 y5.toNatClampNeg), .int y3]) (rest := [.int y5, .ref (a 17)]) ⟨hx, hb, hml, hown, hts⟩ (m_X2_isReached_1 l D a k H.size hI N (σ17.2.1 14 y5.toNatClampNeg) y3 σ17 _ hc22) (cwV 2 hts gX2_oneReachesTheOther_X2_isReached rfl rfl rfl (by decide +kernel) ⟨Nat.le_of_ble_eq_true rfl, Nat.le_of_ble_eq_true rfl⟩) ⟨fd_blC, va_recv hK hP (ci := 2) (q0 := 1) rfl fd_WC_1, fd_prC hP hK⟩ rfl rfl hl.1 rfl (lv_room (Nat.le_of_ble_eq_true rfl)) dX2_oneReachesTheOther_73 ⟨Nat.zero_le _, Nat.zero_le _⟩) hS (fun q _ h => fd_A_mono hS.1 h) (fun q h => fd_A_mono hS.1 h) (fun v23 u t H1 locs ht hvm hw hB hz hk hS => ?_)
            obtain ⟨hP1, hK1⟩ := hB
            rw [ht] at hP1
            obtain ⟨e1, e2⟩ := Prod.mk.inj hw
            subst e1
            subst e2
            obtain ⟨σ24, rfl⟩ : ∃ z, z = u := ⟨_, rfl⟩
            have hP := hP1
            generalize H1 = H at hP hS ⊢
            refine lv_if_eq (tgt := 83) hx hb dX2_oneReachesTheOther_76 (by decide) (fun c27 => ?_) (fun c27 => ?_)
            · have hf := fd_itp c27 hf
              exact hL83 (f_X2_oneReachesTheOther_1_L25 N n) ih y3 y4 y5 y5 σ24 _ _ _ hP hS (lv_sub hl [0, 1, 2, 3] rfl) hf
            · have hf := fd_itn c27 hf
              exact hL79 (f_X2_oneReachesTheOther_1_L25 N n) ih y3 y4 y5 y5 σ24 _ _ _ hP hS (lv_sub hl [0, 1, 2, 3] rfl) hf
  unfold f_X2_oneReachesTheOther_1 at hf
  refine lv_iload_n hx hb dX2_oneReachesTheOther_0 rfl (lv_at hl 1 rfl) ?_
  refine lv_iload_n hx hb dX2_oneReachesTheOther_1 rfl (lv_at hl 2 rfl) ?_
  refine va_mmin hx hb (hml.trans hl.1.symm) hown (hts (.methodLink RX2 56 Lib.Math.min.name) (List.mem_of_getElem? (i := 1) (by eq_refl))) (hts (.static Lib.Math.min.name) (List.mem_of_getElem? (i := 2) (by eq_refl))) (hts (.initialized "java/lang/Math") (List.mem_of_getElem? (i := 3) (by eq_refl))) (hts (.code Lib.Math.min.name Lib.Math.min.code 2 (some .int)) (List.mem_of_getElem? (i := 4) (by eq_refl))) (Nat.le_of_ble_eq_true rfl) (Nat.le_of_ble_eq_true rfl) (Nat.zero_le _) (Nat.zero_le _) dX2_oneReachesTheOther_2 ?_
  obtain ⟨x1, ex1, hf⟩ := fd_lts hf
  refine fd_ni ex1 ?_
  refine lv_istore_n (lv' := [(3, .int x1), (0, .ref (a 1)), (1, .int p1), (2, .int p2)]) hx hb dX2_oneReachesTheOther_5 rfl hl (by decide) rfl (fun ls hl => ?_)
  refine lv_iload_n hx hb dX2_oneReachesTheOther_6 rfl (lv_at hl 2 rfl) ?_
  refine lv_iload_n hx hb dX2_oneReachesTheOther_7 rfl (lv_at hl 3 rfl) ?_
  refine va_mmax hx hb (hml.trans hl.1.symm) hown (hts (.methodLink RX2 62 Lib.Math.max.name) (List.mem_of_getElem? (i := 5) (by eq_refl))) (hts (.static Lib.Math.max.name) (List.mem_of_getElem? (i := 6) (by eq_refl))) (hts (.initialized "java/lang/Math") (List.mem_of_getElem? (i := 3) (by eq_refl))) (hts (.code Lib.Math.max.name Lib.Math.max.code 2 (some .int)) (List.mem_of_getElem? (i := 7) (by eq_refl))) (Nat.le_of_ble_eq_true rfl) (Nat.le_of_ble_eq_true rfl) (Nat.zero_le _) (Nat.zero_le _) dX2_oneReachesTheOther_8 ?_
  obtain ⟨x2, ex2, hf⟩ := fd_lts hf
  refine fd_ni ex2 ?_
  refine lv_istore (lv' := [(4, .int x2), (3, .int x1), (0, .ref (a 1)), (1, .int p1), (2, .int p2)]) hx hb dX2_oneReachesTheOther_11 hl (by decide) rfl (fun ls hl => ?_)
  refine lv_aload_n hx hb dX2_oneReachesTheOther_13 rfl (lv_at hl 2 rfl) ?_
  refine va_get (ci := 2) (v := .ref (a 17)) (C := RX2) (T := TX2) (N := 9) hx hb hts h9X2 hown hK hP 1 fd_WC_1 rfl 5 (by decide) (hts (.fieldLink RX2 28 "FailDiagnose$Circuit" "reached" "[Z") (List.mem_of_getElem? (i := 8) (by eq_refl))) (fun _ h9 => h9) rfl dX2_oneReachesTheOther_14 ?_
  refine lv_iload_n hx hb dX2_oneReachesTheOther_17 rfl (lv_at hl 1 rfl) ?_
  refine lv_iconst (v := (1 : Int32)) hx hb dX2_oneReachesTheOther_18 (by decide) ?_
  obtain ⟨g3, hf⟩ := fd_gds hf
  obtain ⟨σ4, eσ4, hf⟩ := fd_lts hf
  refine va_zast hx hb hK hP (fd_DC hI hJ) hS 17 5 fd_WC_17 fd_tyC_17 g3 dX2_oneReachesTheOther_19 (fun H locs hP _ hS => ?_)
  have hP : va_P D vwCl (fd_WC a k σ4) H := by rw [eσ4]; exact fd_sP fd_WCa_17 hP
  refine lv_iload_n hx hb dX2_oneReachesTheOther_20 rfl (lv_at hl 1 rfl) ?_
  refine lv_iconst (v := (1 : Int32)) hx hb dX2_oneReachesTheOther_21 (by decide) ?_
  refine lv_iadd hx hb dX2_oneReachesTheOther_22 ?_
  obtain ⟨x5, ex5, hf⟩ := fd_lts hf
  refine fd_ni ex5 ?_
  refine lv_istore (lv' := [(5, .int x5), (4, .int x2), (3, .int x1), (0, .ref (a 1)), (1, .int p1), (2, .int p2)]) hx hb dX2_oneReachesTheOther_23 hl (by decide) rfl (fun ls hl => ?_)
  exact hL25 N x1 x2 x5 σ4 _ _ _ hP hS (lv_sub hl [3, 2, 1, 0] rfl) hf
noncomputable def f_X4_isOf_3 (N : Nat) (p1 : Int32) (p2 : Int32) (p3 : Int32) (σ : fd_St) : Option (Int32 × fd_St) := fd_gd (vp_in p1 40) (if (σ.2.1 20 p1.toNatClampNeg) = p2 then (fd_gd (vp_in p1 40) (if (σ.2.1 21 p1.toNatClampNeg) = p3 then (some ((1 : Int32), σ)) else (some ((0 : Int32), σ)))) else (some ((0 : Int32), σ)))
set_option maxHeartbeats 4000000 in
set_option maxRecDepth 100000 in
theorem m_X4_isOf_3 (l : Launch) (D : va_G) (a : Nat → Nat) (k : Nat → ClassId) (sz : Nat) (hI : fd_I 39 a) (N : Nat) (p1 : Int32) (p2 : Int32) (p3 : Int32) (σ : fd_St) (r : Int32 × fd_St) (hf : f_X4_isOf_3 N p1 p2 p3 σ = some r) : Met l yX4_isOf wsX4_isOf ({ frames := 0, cells := 0, slots := 0, locals := 0 }) (va_Pc [.ref (a 3), .int p1, .int p2, .int p3] (fd_PC D a k sz σ)) (va_Qi (fun v u => (v, u) = r) (fd_BC D a k) (fd_A 39 a sz)) 0 0 (fd_A 39 a sz) := by
  refine Met.ofW (cc := cX4_isOf) (maxL := 4) (ret := (some .boolean)) (by decide) rfl ?_
  intro p e s m args below meth c s₁ B hml hv
  obtain ⟨rfl, hsz, hP, hK⟩ := hv
  have hx := B.exec
  have hb := B.bytes
  have hr := B.returns
  have hts := atoms_spec (ws := wsX4_isOf) B.pre
  have hown : s.vm.findClass RX4 = some m.cls := findClass_of_methodNamed B.named
  have hlocks := B.notSynchronized
  subst hsz
  have hJ : ∀ i, i < 39 → fd_A 39 a s.heap.size (a i) := fun i hi => Or.inl ⟨i, hi, rfl⟩
  have hS : va_S (fd_A 39 a s.heap.size) s.heap s.heap [] := va_S.rf
  have hl := lv_entry ([.ref (a 3), .int p1, .int p2, .int p3]) (n := 4) (Nat.le_of_ble_eq_true rfl)
  rw [lg_entry_eq]
  generalize (lg_sl ([.ref (a 3), .int p1, .int p2, .int p3]) ++ List.replicate (4 - (lg_sl ([.ref (a 3), .int p1, .int p2, .int p3])).length) Slot.unset).toArray = ls at hl ⊢
  have hl : lv_has ls 4 [(0, .ref (a 3)), (1, .int p1), (2, .int p2), (3, .int p3)] := hl
  have h9X4 : ∀ w ∈ u_ws RX4 TX4 3, w ∈ wsX4_isOf := fd_su [3, 4, 5] (by eq_refl)
  unfold f_X4_isOf_3 at hf
  refine lv_aload_n hx hb dX4_isOf_0 rfl (lv_at hl 0 rfl) ?_
  refine va_get (ci := 4) (v := .ref (a 20)) (C := RX4) (T := TX4) (N := 3) hx hb hts h9X4 hown hK hP 3 fd_WC_3 rfl 0 (by decide) (hts (.fieldLink RX4 9 "FailDiagnose$NearPairs" "firsts" "[I") (List.mem_of_getElem? (i := 1) (by eq_refl))) (fun _ h9 => h9) rfl dX4_isOf_1 ?_
  refine lv_iload_n hx hb dX4_isOf_4 rfl (lv_at hl 1 rfl) ?_
  obtain ⟨g1, hf⟩ := fd_gds hf
  refine va_iald hx hb hK hP 20 8 fd_WC_20 fd_tyC_20 g1 dX4_isOf_5 ?_
  refine lv_iload_n hx hb dX4_isOf_6 rfl (lv_at hl 2 rfl) ?_
  refine lv_icmp_ne (tgt := 24) hx hb dX4_isOf_7 (by decide) (fun c2 => ?_) (fun c2 => ?_)
  · have hf := fd_itn c2 hf
    refine lv_iconst (v := (0 : Int32)) hx hb dX4_isOf_24 (by decide) ?_
    exact W.zret (v := (0 : Int32)) (ty := .boolean) hx hb hr rfl (fun t ht hW => ⟨⟨(0 : Int32), σ, rfl, Option.some.inj hf, by rw [ht]; exact hP, va_K.moved hW.alike hK⟩, hS.F ht⟩) hS.2.2 dX4_isOf_25
  · have hf := fd_itp c2 hf
    refine lv_aload_n hx hb dX4_isOf_10 rfl (lv_at hl 0 rfl) ?_
    refine va_get (ci := 4) (v := .ref (a 21)) (C := RX4) (T := TX4) (N := 3) hx hb hts h9X4 hown hK hP 3 fd_WC_3 rfl 1 (by decide) (hts (.fieldLink RX4 15 "FailDiagnose$NearPairs" "seconds" "[I") (List.mem_of_getElem? (i := 2) (by eq_refl))) (fun _ h9 => h9) rfl dX4_isOf_11 ?_
    refine lv_iload_n hx hb dX4_isOf_14 rfl (lv_at hl 1 rfl) ?_
    obtain ⟨g3, hf⟩ := fd_gds hf
    refine va_iald hx hb hK hP 21 9 fd_WC_21 fd_tyC_21 g3 dX4_isOf_15 ?_
    refine lv_iload_n hx hb dX4_isOf_16 rfl (lv_at hl 3 rfl) ?_
    refine lv_icmp_ne (tgt := 24) hx hb dX4_isOf_17 (by decide) (fun c4 => ?_) (fun c4 => ?_)
    · have hf := fd_itn c4 hf
      refine lv_iconst (v := (0 : Int32)) hx hb dX4_isOf_24 (by decide) ?_
      exact W.zret (v := (0 : Int32)) (ty := .boolean) hx hb hr rfl (fun t ht hW => ⟨⟨(0 : Int32), σ, rfl, Option.some.inj hf, by rw [ht]; exact hP, va_K.moved hW.alike hK⟩, hS.F ht⟩) hS.2.2 dX4_isOf_25
    · have hf := fd_itp c4 hf
      refine lv_iconst (v := (1 : Int32)) hx hb dX4_isOf_20 (by decide) ?_
      refine lv_goto (tgt := 25) hx hb dX4_isOf_21 (by decide) ?_
      exact W.zret (v := (1 : Int32)) (ty := .boolean) hx hb hr rfl (fun t ht hW => ⟨⟨(1 : Int32), σ, rfl, Option.some.inj hf, by rw [ht]; exact hP, va_K.moved hW.alike hK⟩, hS.F ht⟩) hS.2.2 dX4_isOf_25
noncomputable def f_X4_findOrAdd_3_L2 (N : Nat) : Nat → Int32 → Int32 → Int32 → fd_St → Option (Int32 × fd_St)
  | 0 => fun _ _ _ _ => none
  | n + 1 => fun y1 y2 y3 σ => if (σ.1 5) ≤ y3 then (fd_gd (vp_in (σ.1 5) 40) (fd_lt (fd_sA 20 (σ.1 5) y1 σ) (fun σ3 => fd_gd (vp_in (σ3.1 5) 40) (fd_lt (fd_sA 21 (σ3.1 5) y2 σ3) (fun σ5 => fd_lt (fd_sI 5 ((σ5.1 5) + (1 : Int32)) σ5) (fun σ6 => some ((σ6.1 5) - (1 : Int32), σ6))))))) else (fd_bd (f_X4_isOf_3 N y3 y1 y2 σ) (fun v8 σ9 => if v8 = 0 then (fd_bd (f_X4_isOf_3 N y3 y2 y1 σ9) (fun v14 σ15 => if v14 = 0 then (fd_lt (y3 + (1 : Int32)) (fun x19 => (f_X4_findOrAdd_3_L2 N n) y1 y2 x19 σ15)) else (some (y3, σ15)))) else (some (y3, σ9))))
noncomputable def f_X4_findOrAdd_3 (N : Nat) (p1 : Int32) (p2 : Int32) (σ : fd_St) : Option (Int32 × fd_St) := f_X4_findOrAdd_3_L2 N N p1 p2 (0 : Int32) σ
set_option maxHeartbeats 4000000 in
set_option maxRecDepth 100000 in
theorem m_X4_findOrAdd_3 (l : Launch) (D : va_G) (a : Nat → Nat) (k : Nat → ClassId) (sz : Nat) (hI : fd_I 39 a) (N : Nat) (p1 : Int32) (p2 : Int32) (σ : fd_St) (r : Int32 × fd_St) (hf : f_X4_findOrAdd_3 N p1 p2 σ = some r) : Met l yX4_findOrAdd wsX4_findOrAdd ({ frames := 1, cells := 0, slots := 0, locals := 23 }) (va_Pc [.ref (a 3), .int p1, .int p2] (fd_PC D a k sz σ)) (va_Qi (fun v u => (v, u) = r) (fd_BC D a k) (fd_A 39 a sz)) 0 0 (fd_A 39 a sz) := by
  refine Met.ofW (cc := cX4_findOrAdd) (maxL := 4) (ret := (some .int)) (by decide) rfl ?_
  intro p e s m args below meth c s₁ B hml hv
  obtain ⟨rfl, hsz, hP, hK⟩ := hv
  have hx := B.exec
  have hb := B.bytes
  have hr := B.returns
  have hts := atoms_spec (ws := wsX4_findOrAdd) B.pre
  have hown : s.vm.findClass RX4 = some m.cls := findClass_of_methodNamed B.named
  have hlocks := B.notSynchronized
  subst hsz
  have hJ : ∀ i, i < 39 → fd_A 39 a s.heap.size (a i) := fun i hi => Or.inl ⟨i, hi, rfl⟩
  have hS : va_S (fd_A 39 a s.heap.size) s.heap s.heap [] := va_S.rf
  have hl := lv_entry ([.ref (a 3), .int p1, .int p2]) (n := 4) (Nat.le_of_ble_eq_true rfl)
  rw [lg_entry_eq]
  generalize (lg_sl ([.ref (a 3), .int p1, .int p2]) ++ List.replicate (4 - (lg_sl ([.ref (a 3), .int p1, .int p2])).length) Slot.unset).toArray = ls at hl ⊢
  have hl : lv_has ls 4 [(0, .ref (a 3)), (1, .int p1), (2, .int p2)] := hl
  have h9X4 : ∀ w ∈ u_ws RX4 TX4 3, w ∈ wsX4_findOrAdd := fd_su [9, 10, 11] (by eq_refl)
  have hL2 : ∀ (n : Nat), ∀ (y1 : Int32) (y2 : Int32) (y3 : Int32) (σ : fd_St) (H : Heap) (locs : List Loc) (ls : Array Slot), va_P D vwCl (fd_WC a k σ) H → va_S (fd_A 39 a s.heap.size) s.heap H locs → lv_has ls 4 [(0, .ref (a 3)), (1, .int y1), (2, .int y2), (3, .int y3)] → f_X4_findOrAdd_3_L2 N n y1 y2 y3 σ = some r → W p l e ((headSpec wsX4_findOrAdd ({ frames := 1, cells := 0, slots := 0, locals := 23 })).room) s m ([.ref (a 3), .int p1, .int p2].toArray) below meth c H locs 0 0 (MQ below (va_Qi (fun v u => (v, u) = r) (fd_BC D a k) (fd_A 39 a s.heap.size)) ([.ref (a 3), .int p1, .int p2].toArray) s 0 0 (fd_A 39 a s.heap.size)) (F0 m 2 ls []) := by
    intro n
    induction n with
    | zero =>
      intro _ _ _ _ _ _ _ _ _ _ hf
      cases hf
    | succ n ih =>
      intro y1 y2 y3 σ H locs ls hP hS hl hf
      unfold f_X4_findOrAdd_3_L2 at hf
      refine lv_iload_n hx hb dX4_findOrAdd_2 rfl (lv_at hl 3 rfl) ?_
      refine lv_aload_n hx hb dX4_findOrAdd_3 rfl (lv_at hl 0 rfl) ?_
      refine va_get (ci := 4) (v := .int (σ.1 5)) (C := RX4) (T := TX4) (N := 3) hx hb hts h9X4 hown hK hP 3 fd_WC_3 rfl 2 (by decide) (hts (.fieldLink RX4 18 "FailDiagnose$NearPairs" "size" "I") (List.mem_of_getElem? (i := 1) (by eq_refl))) (fun _ h9 => h9) rfl dX4_findOrAdd_4 ?_
      refine lv_icmp_ge (tgt := 38) hx hb dX4_findOrAdd_7 (by decide) (fun c1 => ?_) (fun c1 => ?_)
      · have hf := fd_itp c1 hf
        refine lv_aload_n hx hb dX4_findOrAdd_38 rfl (lv_at hl 0 rfl) ?_
        refine va_get (ci := 4) (v := .ref (a 20)) (C := RX4) (T := TX4) (N := 3) hx hb hts h9X4 hown hK hP 3 fd_WC_3 rfl 0 (by decide) (hts (.fieldLink RX4 9 "FailDiagnose$NearPairs" "firsts" "[I") (List.mem_of_getElem? (i := 2) (by eq_refl))) (fun _ h9 => h9) rfl dX4_findOrAdd_39 ?_
        refine lv_aload_n hx hb dX4_findOrAdd_42 rfl (lv_at hl 0 rfl) ?_
        refine va_get (ci := 4) (v := .int (σ.1 5)) (C := RX4) (T := TX4) (N := 3) hx hb hts h9X4 hown hK hP 3 fd_WC_3 rfl 2 (by decide) (hts (.fieldLink RX4 18 "FailDiagnose$NearPairs" "size" "I") (List.mem_of_getElem? (i := 1) (by eq_refl))) (fun _ h9 => h9) rfl dX4_findOrAdd_43 ?_
        refine lv_iload_n hx hb dX4_findOrAdd_46 rfl (lv_at hl 1 rfl) ?_
        obtain ⟨g2, hf⟩ := fd_gds hf
        obtain ⟨σ3, eσ3, hf⟩ := fd_lts hf
        refine va_iast hx hb hK hP (fd_DC hI hJ) hS 20 8 fd_WC_20 fd_tyC_20 g2 dX4_findOrAdd_47 (fun H locs hP _ hS => ?_)
        have hP : va_P D vwCl (fd_WC a k σ3) H := by rw [eσ3]; exact fd_sP fd_WCa_20 hP
        refine lv_aload_n hx hb dX4_findOrAdd_48 rfl (lv_at hl 0 rfl) ?_
        refine va_get (ci := 4) (v := .ref (a 21)) (C := RX4) (T := TX4) (N := 3) hx hb hts h9X4 hown hK hP 3 fd_WC_3 rfl 1 (by decide) (hts (.fieldLink RX4 15 "FailDiagnose$NearPairs" "seconds" "[I") (List.mem_of_getElem? (i := 3) (by eq_refl))) (fun _ h9 => h9) rfl dX4_findOrAdd_49 ?_
        refine lv_aload_n hx hb dX4_findOrAdd_52 rfl (lv_at hl 0 rfl) ?_
        refine va_get (ci := 4) (v := .int (σ3.1 5)) (C := RX4) (T := TX4) (N := 3) hx hb hts h9X4 hown hK hP 3 fd_WC_3 rfl 2 (by decide) (hts (.fieldLink RX4 18 "FailDiagnose$NearPairs" "size" "I") (List.mem_of_getElem? (i := 1) (by eq_refl))) (fun _ h9 => h9) rfl dX4_findOrAdd_53 ?_
        refine lv_iload_n hx hb dX4_findOrAdd_56 rfl (lv_at hl 2 rfl) ?_
        obtain ⟨g4, hf⟩ := fd_gds hf
        obtain ⟨σ5, eσ5, hf⟩ := fd_lts hf
        refine va_iast hx hb hK hP (fd_DC hI hJ) hS 21 9 fd_WC_21 fd_tyC_21 g4 dX4_findOrAdd_57 (fun H locs hP _ hS => ?_)
        have hP : va_P D vwCl (fd_WC a k σ5) H := by rw [eσ5]; exact fd_sP fd_WCa_21 hP
        refine lv_aload_n hx hb dX4_findOrAdd_58 rfl (lv_at hl 0 rfl) ?_
        refine lv_dup hx hb dX4_findOrAdd_59 rfl ?_
        refine va_get (ci := 4) (v := .int (σ5.1 5)) (C := RX4) (T := TX4) (N := 3) hx hb hts h9X4 hown hK hP 3 fd_WC_3 rfl 2 (by decide) (hts (.fieldLink RX4 18 "FailDiagnose$NearPairs" "size" "I") (List.mem_of_getElem? (i := 1) (by eq_refl))) (fun _ h9 => h9) rfl dX4_findOrAdd_60 ?_
        refine lv_iconst (v := (1 : Int32)) hx hb dX4_findOrAdd_63 (by decide) ?_
        refine lv_iadd hx hb dX4_findOrAdd_64 ?_
        obtain ⟨σ6, eσ6, hf⟩ := fd_lts hf
        refine va_put (ci := 4) (v := .int ((σ5.1 5) + (1 : Int32))) (ty := .int) (C := RX4) (T := TX4) (N := 3) hx hb hts h9X4 tyX4 tyX4_ok nmX4 hown hK hP (fd_DC hI hJ) hS 3 fd_WC_3 rfl 2 (by decide) (hts (.fieldLink RX4 18 "FailDiagnose$NearPairs" "size" "I") (List.mem_of_getElem? (i := 1) (by eq_refl))) (fun _ h9 => h9) rfl (by decide +kernel) rfl rfl (Nat.le_of_ble_eq_true rfl) dX4_findOrAdd_65 (fun H locs hP _ hS => ?_)
        have hP : va_P D vwCl (fd_WC a k σ6) H := by rw [eσ6]; exact fd_sP fd_WCi_5 hP
        refine lv_aload_n hx hb dX4_findOrAdd_68 rfl (lv_at hl 0 rfl) ?_
        refine va_get (ci := 4) (v := .int (σ6.1 5)) (C := RX4) (T := TX4) (N := 3) hx hb hts h9X4 hown hK hP 3 fd_WC_3 rfl 2 (by decide) (hts (.fieldLink RX4 18 "FailDiagnose$NearPairs" "size" "I") (List.mem_of_getElem? (i := 1) (by eq_refl))) (fun _ h9 => h9) rfl dX4_findOrAdd_69 ?_
        refine lv_iconst (v := (1 : Int32)) hx hb dX4_findOrAdd_72 (by decide) ?_
        refine lv_isub hx hb dX4_findOrAdd_73 ?_
        exact W.iret (v := ((σ6.1 5) - (1 : Int32))) hx hb hr (fun t ht hW => ⟨⟨(σ6.1 5) - (1 : Int32), σ6, rfl, Option.some.inj hf, by rw [ht]; exact hP, va_K.moved hW.alike hK⟩, hS.F ht⟩) hS.2.2 dX4_findOrAdd_74
      · have hf := fd_itn c1 hf
        refine lv_aload_n hx hb dX4_findOrAdd_10 rfl (lv_at hl 0 rfl) ?_
        refine lv_iload_n hx hb dX4_findOrAdd_11 rfl (lv_at hl 3 rfl) ?_
        refine lv_iload_n hx hb dX4_findOrAdd_12 rfl (lv_at hl 1 rfl) ?_
        refine lv_iload_n hx hb dX4_findOrAdd_13 rfl (lv_at hl 2 rfl) ?_
        obtain ⟨w10, τ11, hc7, hf⟩ := fd_bds hf
        refine va_calli (va_runV (As := [.int y3, .int y1, .int y2]) (rest := []) ⟨hx, hb, hml, hown, hts⟩ (m_X4_isOf_3 l D a k H.size hI N y3 y1 y2 σ _ hc7) (cwV 3 hts gX4_findOrAdd_X4_isOf rfl rfl rfl (by decide +kernel) ⟨Nat.le_of_ble_eq_true rfl, Nat.le_of_ble_eq_true rfl⟩) ⟨fd_blC, va_recv hK hP (ci := 4) (q0 := 3) rfl fd_WC_3, fd_prC hP hK⟩ rfl rfl hl.1 rfl (lv_room (Nat.le_of_ble_eq_true rfl)) dX4_findOrAdd_14 ⟨Nat.zero_le _, Nat.zero_le _⟩) hS (fun q _ h => fd_A_mono hS.1 h) (fun q h => fd_A_mono hS.1 h) (fun v8 u t H1 locs ht hvm hw hB hz hk hS => ?_)
        obtain ⟨hP1, hK1⟩ := hB
        rw [ht] at hP1
        obtain ⟨e1, e2⟩ := Prod.mk.inj hw
        subst e1
        subst e2
        obtain ⟨σ9, rfl⟩ : ∃ z, z = u := ⟨_, rfl⟩
        have hP := hP1
        generalize H1 = H at hP hS ⊢
        refine lv_if_ne (tgt := 30) hx hb dX4_findOrAdd_17 (by decide) (fun c12 => ?_) (fun c12 => ?_)
        · have hf := fd_itn c12 hf
          refine lv_iload_n hx hb dX4_findOrAdd_30 rfl (lv_at hl 3 rfl) ?_
          exact W.iret (v := y3) hx hb hr (fun t ht hW => ⟨⟨y3, σ9, rfl, Option.some.inj hf, by rw [ht]; exact hP, va_K.moved hW.alike hK⟩, hS.F ht⟩) hS.2.2 dX4_findOrAdd_31
        · have hf := fd_itp c12 hf
          refine lv_aload_n hx hb dX4_findOrAdd_20 rfl (lv_at hl 0 rfl) ?_
          refine lv_iload_n hx hb dX4_findOrAdd_21 rfl (lv_at hl 3 rfl) ?_
          refine lv_iload_n hx hb dX4_findOrAdd_22 rfl (lv_at hl 2 rfl) ?_
          refine lv_iload_n hx hb dX4_findOrAdd_23 rfl (lv_at hl 1 rfl) ?_
          obtain ⟨w16, τ17, hc13, hf⟩ := fd_bds hf
          refine va_calli (va_runV (As := [.int y3, .int y2, .int y1]) (rest := []) ⟨hx, hb, hml, hown, hts⟩ (m_X4_isOf_3 l D a k H.size hI N y3 y2 y1 σ9 _ hc13) (cwV 3 hts gX4_findOrAdd_X4_isOf rfl rfl rfl (by decide +kernel) ⟨Nat.le_of_ble_eq_true rfl, Nat.le_of_ble_eq_true rfl⟩) ⟨fd_blC, va_recv hK hP (ci := 4) (q0 := 3) rfl fd_WC_3, fd_prC hP hK⟩ rfl rfl hl.1 rfl (lv_room (Nat.le_of_ble_eq_true rfl)) dX4_findOrAdd_24 ⟨Nat.zero_le _, Nat.zero_le _⟩) hS (fun q _ h => fd_A_mono hS.1 h) (fun q h => fd_A_mono hS.1 h) (fun v14 u t H1 locs ht hvm hw hB hz hk hS => ?_)
          obtain ⟨hP1, hK1⟩ := hB
          rw [ht] at hP1
          obtain ⟨e1, e2⟩ := Prod.mk.inj hw
          subst e1
          subst e2
          obtain ⟨σ15, rfl⟩ : ∃ z, z = u := ⟨_, rfl⟩
          have hP := hP1
          generalize H1 = H at hP hS ⊢
          refine lv_if_eq (tgt := 32) hx hb dX4_findOrAdd_27 (by decide) (fun c18 => ?_) (fun c18 => ?_)
          · have hf := fd_itp c18 hf
            obtain ⟨x19, ex19, hf⟩ := fd_lts hf
            refine lv_iinc (v := x19) (lv' := [(3, .int x19), (0, .ref (a 3)), (1, .int y1), (2, .int y2)]) hx hb dX4_findOrAdd_32 hl (k := 3) rfl (by rw [ex19]; rfl) (by decide) rfl (fun ls hl => ?_)
            refine lv_goto (tgt := 2) hx hb dX4_findOrAdd_35 (by decide) ?_
            exact ih y1 y2 x19 σ15 _ _ _ hP hS (lv_sub hl [1, 2, 3, 0] rfl) hf
          · have hf := fd_itn c18 hf
            refine lv_iload_n hx hb dX4_findOrAdd_30 rfl (lv_at hl 3 rfl) ?_
            exact W.iret (v := y3) hx hb hr (fun t ht hW => ⟨⟨y3, σ15, rfl, Option.some.inj hf, by rw [ht]; exact hP, va_K.moved hW.alike hK⟩, hS.F ht⟩) hS.2.2 dX4_findOrAdd_31
  unfold f_X4_findOrAdd_3 at hf
  refine lv_iconst (v := (0 : Int32)) hx hb dX4_findOrAdd_0 (by decide) ?_
  refine lv_istore_n (lv' := [(3, .int (0 : Int32)), (0, .ref (a 3)), (1, .int p1), (2, .int p2)]) hx hb dX4_findOrAdd_1 rfl hl (by decide) rfl (fun ls hl => ?_)
  exact hL2 N p1 p2 (0 : Int32) σ _ _ _ hP hS (lv_sub hl [1, 2, 3, 0] rfl) hf
noncomputable def f_X10_near_0 (N : Nat) (p1 : Int32) (p2 : Int32) (σ : fd_St) : Option ((Int32 ⊕ String) × fd_St) := fd_bx (f_X10_needNet_0 N p1 σ) (fun _ σ3 => fd_bx (f_X10_needNet_0 N p2 σ3) (fun _ σ9 => fd_bd (f_X4_size_3 N σ9) (fun v14 σ15 => if v14 = (40 : Int32) then (some (.inr "java/lang/IllegalStateException", σ15)) else (fd_bd (f_X2_oneReachesTheOther_1 N p1 p2 σ15) (fun v20 σ21 => if v20 = 0 then (fd_lt (fd_sI 0 (0 : Int32) σ21) (fun σ25 => fd_bd (f_X4_findOrAdd_3 N p1 p2 σ25) (fun v27 σ28 => some (.inl v27, σ28)))) else (some (.inr "java/lang/IllegalArgumentException", σ21)))))) (fun E τ => some (.inr E, τ))) (fun E τ => some (.inr E, τ))
set_option maxHeartbeats 4000000 in
set_option maxRecDepth 100000 in
theorem m_X10_near_0 (l : Launch) (hl9 : l.stackTraces = false) (D : va_G) (a : Nat → Nat) (k : Nat → ClassId) (sz : Nat) (hI : fd_I 39 a) (N : Nat) (p1 : Int32) (p2 : Int32) (σ : fd_St) (r : (Int32 ⊕ String) × fd_St) (hf : f_X10_near_0 N p1 p2 σ = some r) : vx_Met l yX10_near wsX10_near ({ frames := 7, cells := fd_mc r, slots := fd_ms r, locals := 111 }) (va_Pc [.ref (a 0), .int p1, .int p2] (fd_PZ D a k sz σ)) (va_Qi (fun v u => (Sum.inl v, u) = r) (fd_BC D a k) (fd_A 39 a sz)) (fd_X D a k (fd_A 39 a sz) r) (fd_mc r) (fd_ms r) (fd_A 39 a sz) := by
  refine vx_ofW (cc := cX10_near) (maxL := 3) (ret := (some .int)) (by decide) rfl ?_
  intro p e s m args below meth c s₁ B hml hex hv
  obtain ⟨rfl, ⟨hsz, hP, hK⟩, hZ⟩ := hv
  have hx := B.exec
  have hb := B.bytes
  have hr := B.returns
  have hts := atoms_spec (ws := wsX10_near) B.pre
  have hown : s.vm.findClass RX10 = some m.cls := findClass_of_methodNamed B.named
  have hlocks := B.notSynchronized
  subst hsz
  have hJ : ∀ i, i < 39 → fd_A 39 a s.heap.size (a i) := fun i hi => Or.inl ⟨i, hi, rfl⟩
  have hS : va_S (fd_A 39 a s.heap.size) s.heap s.heap [] := va_S.rf
  have hl := lv_entry ([.ref (a 0), .int p1, .int p2]) (n := 3) (Nat.le_of_ble_eq_true rfl)
  rw [lg_entry_eq]
  generalize (lg_sl ([.ref (a 0), .int p1, .int p2]) ++ List.replicate (3 - (lg_sl ([.ref (a 0), .int p1, .int p2])).length) Slot.unset).toArray = ls at hl ⊢
  have hl : lv_has ls 3 [(0, .ref (a 0)), (1, .int p1), (2, .int p2)] := hl
  have h9X10 : ∀ w ∈ u_ws RX10 TX10 8, w ∈ wsX10_near := fd_su [56, 57, 58, 59, 60, 61, 62, 63] (by eq_refl)
  unfold f_X10_near_0 at hf
  refine lv_aload_n hx hb dX10_near_0 rfl (lv_at hl 0 rfl) ?_
  refine lv_iload_n hx hb dX10_near_1 rfl (lv_at hl 1 rfl) ?_
  rcases fd_bxs hf with ⟨w4, τ5, hc1, hf⟩ | ⟨E6, τ5, hc1, hf⟩
  · refine vx_callv (vx_runV (As := [.int p1]) (rest := []) ⟨hx, hb, hml, hown, hts⟩ (m_X10_needNet_0 l hl9 D a k s.heap.size hI N p1 σ _ hc1) (cwV 1 hts gX10_near_X10_needNet rfl rfl rfl (by decide +kernel) ⟨Nat.le_of_ble_eq_true rfl, Nat.le_of_ble_eq_true rfl⟩) ⟨fd_blZ, va_recv hK hP (ci := 10) (q0 := 0) rfl fd_WC_0, fd_prZ hP hK hZ hS⟩ rfl rfl hl.1 rfl (lv_room (Nat.le_of_ble_eq_true rfl)) dX10_near_2 ⟨Nat.zero_le _, Nat.zero_le _⟩) hS (fun q _ h => fd_A_mono hS.1 h) (fun q h => fd_A_mono hS.1 h) (fun q _ h => fd_A_mono hS.1 h) (fun E ce q9 u t H1 locs1 ht hvm hp hB => ?_) (fun u t H1 locs ht hvm hw hB hz hk hS => ?_)
    · exact absurd hB.1 (by simp)
    obtain ⟨hP1, hK1⟩ := hB
    rw [ht] at hP1
    have e2 := (Prod.mk.inj hw).2
    subst e2
    obtain ⟨σ3, rfl⟩ : ∃ z, z = u := ⟨_, rfl⟩
    have hP := hP1
    generalize H1 = H at hP hS ⊢
    refine W.cs (cells' := 0) (slots' := 0) rfl rfl ?_
    refine lv_aload_n hx hb dX10_near_5 rfl (lv_at hl 0 rfl) ?_
    refine lv_iload_n hx hb dX10_near_6 rfl (lv_at hl 2 rfl) ?_
    rcases fd_bxs hf with ⟨w10, τ11, hc7, hf⟩ | ⟨E12, τ11, hc7, hf⟩
    · refine vx_callv (vx_runV (As := [.int p2]) (rest := []) ⟨hx, hb, hml, hown, hts⟩ (m_X10_needNet_0 l hl9 D a k H.size hI N p2 σ3 _ hc7) (cwV 1 hts gX10_near_X10_needNet rfl rfl rfl (by decide +kernel) ⟨Nat.le_of_ble_eq_true rfl, Nat.le_of_ble_eq_true rfl⟩) ⟨fd_blZ, va_recv hK hP (ci := 10) (q0 := 0) rfl fd_WC_0, fd_prZ hP hK hZ hS⟩ rfl rfl hl.1 rfl (lv_room (Nat.le_of_ble_eq_true rfl)) dX10_near_7 ⟨Nat.zero_le _, Nat.zero_le _⟩) hS (fun q _ h => fd_A_mono hS.1 h) (fun q h => fd_A_mono hS.1 h) (fun q _ h => fd_A_mono hS.1 h) (fun E ce q9 u t H1 locs1 ht hvm hp hB => ?_) (fun u t H1 locs ht hvm hw hB hz hk hS => ?_)
      · exact absurd hB.1 (by simp)
      obtain ⟨hP1, hK1⟩ := hB
      rw [ht] at hP1
      have e2 := (Prod.mk.inj hw).2
      subst e2
      obtain ⟨σ9, rfl⟩ : ∃ z, z = u := ⟨_, rfl⟩
      have hP := hP1
      generalize H1 = H at hP hS ⊢
      refine W.cs (cells' := 0) (slots' := 0) rfl rfl ?_
      refine lv_aload_n hx hb dX10_near_10 rfl (lv_at hl 0 rfl) ?_
      refine va_get (ci := 10) (v := .ref (a 3)) (C := RX10) (T := TX10) (N := 8) hx hb hts h9X10 hown hK hP 0 fd_WC_0 rfl 2 (by decide) (hts (.fieldLink RX10 26 "FailDiagnose" "nearPairs" "LFailDiagnose$NearPairs;") (List.mem_of_getElem? (i := 5) (by eq_refl))) (fun _ h9 => h9) rfl dX10_near_11 ?_
      obtain ⟨w16, τ17, hc13, hf⟩ := fd_bds hf
      refine va_calli (va_runV (As := []) (rest := []) ⟨hx, hb, hml, hown, hts⟩ (m_X4_size_3 l D a k H.size hI N σ9 _ hc13) (cwV 0 hts gX10_near_X4_size rfl rfl rfl (by decide +kernel) ⟨Nat.le_of_ble_eq_true rfl, Nat.le_of_ble_eq_true rfl⟩) ⟨fd_blC, va_recv hK hP (ci := 4) (q0 := 3) rfl fd_WC_3, fd_prC hP hK⟩ rfl rfl hl.1 rfl (lv_room (Nat.le_of_ble_eq_true rfl)) dX10_near_14 ⟨Nat.zero_le _, Nat.zero_le _⟩) hS (fun q _ h => fd_A_mono hS.1 h) (fun q h => fd_A_mono hS.1 h) (fun v14 u t H1 locs ht hvm hw hB hz hk hS => ?_)
      obtain ⟨hP1, hK1⟩ := hB
      rw [ht] at hP1
      obtain ⟨e1, e2⟩ := Prod.mk.inj hw
      subst e1
      subst e2
      obtain ⟨σ15, rfl⟩ : ∃ z, z = u := ⟨_, rfl⟩
      have hP := hP1
      generalize H1 = H at hP hS ⊢
      refine lv_bipush (v := (40 : Int32)) hx hb dX10_near_17 (by decide) ?_
      refine lv_icmp_ne (tgt := 32) hx hb dX10_near_19 (by decide) (fun c18 => ?_) (fun c18 => ?_)
      · have hf := fd_itn c18 hf
        refine lv_aload_n hx hb dX10_near_32 rfl (lv_at hl 0 rfl) ?_
        refine va_get (ci := 10) (v := .ref (a 1)) (C := RX10) (T := TX10) (N := 8) hx hb hts h9X10 hown hK hP 0 fd_WC_0 rfl 0 (by decide) (hts (.fieldLink RX10 12 "FailDiagnose" "circuit" "LFailDiagnose$Circuit;") (List.mem_of_getElem? (i := 6) (by eq_refl))) (fun _ h9 => h9) rfl dX10_near_33 ?_
        refine lv_iload_n hx hb dX10_near_36 rfl (lv_at hl 1 rfl) ?_
        refine lv_iload_n hx hb dX10_near_37 rfl (lv_at hl 2 rfl) ?_
        obtain ⟨w22, τ23, hc19, hf⟩ := fd_bds hf
        refine va_calli (va_runV (As := [.int p1, .int p2]) (rest := []) ⟨hx, hb, hml, hown, hts⟩ (m_X2_oneReachesTheOther_1 l D a k H.size hI N p1 p2 σ15 _ hc19) (cwV 2 hts gX10_near_X2_oneReachesTheOther rfl rfl rfl (by decide +kernel) ⟨Nat.le_of_ble_eq_true rfl, Nat.le_of_ble_eq_true rfl⟩) ⟨fd_blC, va_recv hK hP (ci := 2) (q0 := 1) rfl fd_WC_1, fd_prC hP hK⟩ rfl rfl hl.1 rfl (lv_room (Nat.le_of_ble_eq_true rfl)) dX10_near_38 ⟨Nat.zero_le _, Nat.zero_le _⟩) hS (fun q _ h => fd_A_mono hS.1 h) (fun q h => fd_A_mono hS.1 h) (fun v20 u t H1 locs ht hvm hw hB hz hk hS => ?_)
        obtain ⟨hP1, hK1⟩ := hB
        rw [ht] at hP1
        obtain ⟨e1, e2⟩ := Prod.mk.inj hw
        subst e1
        subst e2
        obtain ⟨σ21, rfl⟩ : ∃ z, z = u := ⟨_, rfl⟩
        have hP := hP1
        generalize H1 = H at hP hS ⊢
        refine lv_if_eq (tgt := 54) hx hb dX10_near_41 (by decide) (fun c24 => ?_) (fun c24 => ?_)
        · have hf := fd_itp c24 hf
          refine lv_aload_n hx hb dX10_near_54 rfl (lv_at hl 0 rfl) ?_
          refine lv_iconst (v := (0 : Int32)) hx hb dX10_near_55 (by decide) ?_
          obtain ⟨σ25, eσ25, hf⟩ := fd_lts hf
          refine va_put (ci := 10) (v := .int (0 : Int32)) (ty := .boolean) (C := RX10) (T := TX10) (N := 8) hx hb hts h9X10 tyX10 tyX10_ok nmX10 hown hK hP (fd_DC hI hJ) hS 0 fd_WC_0 rfl 7 (by decide) (hts (.fieldLink RX10 60 "FailDiagnose" "told" "Z") (List.mem_of_getElem? (i := 7) (by eq_refl))) (fun _ h9 => h9) rfl (by decide +kernel) rfl rfl (Nat.le_of_ble_eq_true rfl) dX10_near_56 (fun H locs hP _ hS => ?_)
          have hP : va_P D vwCl (fd_WC a k σ25) H := by rw [eσ25]; exact fd_sP fd_WCi_0 hP
          refine lv_aload_n hx hb dX10_near_59 rfl (lv_at hl 0 rfl) ?_
          refine va_get (ci := 10) (v := .ref (a 3)) (C := RX10) (T := TX10) (N := 8) hx hb hts h9X10 hown hK hP 0 fd_WC_0 rfl 2 (by decide) (hts (.fieldLink RX10 26 "FailDiagnose" "nearPairs" "LFailDiagnose$NearPairs;") (List.mem_of_getElem? (i := 5) (by eq_refl))) (fun _ h9 => h9) rfl dX10_near_60 ?_
          refine lv_iload_n hx hb dX10_near_63 rfl (lv_at hl 1 rfl) ?_
          refine lv_iload_n hx hb dX10_near_64 rfl (lv_at hl 2 rfl) ?_
          obtain ⟨w29, τ30, hc26, hf⟩ := fd_bds hf
          refine va_calli (va_runV (As := [.int p1, .int p2]) (rest := []) ⟨hx, hb, hml, hown, hts⟩ (m_X4_findOrAdd_3 l D a k H.size hI N p1 p2 σ25 _ hc26) (cwV 2 hts gX10_near_X4_findOrAdd rfl rfl rfl (by decide +kernel) ⟨Nat.le_of_ble_eq_true rfl, Nat.le_of_ble_eq_true rfl⟩) ⟨fd_blC, va_recv hK hP (ci := 4) (q0 := 3) rfl fd_WC_3, fd_prC hP hK⟩ rfl rfl hl.1 rfl (lv_room (Nat.le_of_ble_eq_true rfl)) dX10_near_65 ⟨Nat.zero_le _, Nat.zero_le _⟩) hS (fun q _ h => fd_A_mono hS.1 h) (fun q h => fd_A_mono hS.1 h) (fun v27 u t H1 locs ht hvm hw hB hz hk hS => ?_)
          obtain ⟨hP1, hK1⟩ := hB
          rw [ht] at hP1
          obtain ⟨e1, e2⟩ := Prod.mk.inj hw
          subst e1
          subst e2
          obtain ⟨σ28, rfl⟩ : ∃ z, z = u := ⟨_, rfl⟩
          have hP := hP1
          generalize H1 = H at hP hS ⊢
          refine vx_ret (W.widen (k := fd_mc r) (n := fd_ms r) (Nat.zero_le _) (Nat.zero_le _) ?_)
          exact W.iret (v := v27) hx hb hr (fun t ht hW => ⟨⟨v27, σ28, rfl, Option.some.inj hf, by rw [ht]; exact hP, va_K.moved hW.alike hK⟩, hS.F ht⟩) hS.2.2 dX10_near_68
        · have hf := fd_itn c24 hf
          have e31 := Option.some.inj hf
          subst e31
          obtain ⟨sa, hsa⟩ := hZ.str 140 "one net reaches the other" (by decide +kernel)
          exact vx_throwS (own := RX10) (cls := "java/lang/IllegalArgumentException") (names := ["java/lang/RuntimeException", "java/lang/Exception"]) hx hb hl9 hown fd_ex_87_91_f fd_ex_n (hts (.classLink RX10 87 "java/lang/IllegalArgumentException") (List.mem_of_getElem? (i := 3) (by eq_refl))) (hts (.initialized "java/lang/IllegalArgumentException") (List.mem_of_getElem? (i := 4) (by eq_refl))) hsa (vx_hat (L := vx_atS RX10 91 "java/lang/IllegalArgumentException" ["java/lang/RuntimeException", "java/lang/Exception"]) (B := fd_bad "java/lang/IllegalArgumentException") (fun w hw => hts w ((fun w h => List.mem_cons_of_mem _ (List.mem_append_left _ (List.mem_append_right _ h)) : ∀ w ∈ (vx_atS RX10 91 "java/lang/IllegalArgumentException" ["java/lang/RuntimeException", "java/lang/Exception"]).filter goodWord, w ∈ wsX10_near) w hw)) fd_ex_87_91_b (hZ.bad "java/lang/IllegalArgumentException" fd_ex_87_91_e)) fd_ex_87_91_g hZ.un hZ.su hS (hl.1.trans hml.symm) dX10_near_44 dX10_near_47 dX10_near_48 dX10_near_50 dX10_near_53 (fun x hx => (hex x hx).elim) (Nat.le_of_ble_eq_true rfl) (Nat.le_of_ble_eq_true rfl) (Nat.le_of_ble_eq_true rfl) (Nat.le_of_ble_eq_true rfl) hlocks (fun t ha hsz hk => ⟨σ21, trivial, ⟨rfl, hP.kept (fun k q hq => hk q.1 (hP k q hq).lt), va_K.moved ha hK⟩, Nat.le_trans hS.1 hsz, fun q h1 h2 => (hk q (Nat.lt_of_lt_of_le h1 hS.1)).trans (hS.2.1 q h1 h2)⟩) hS.2.2 (Nat.le_of_ble_eq_true rfl) (Nat.le_of_ble_eq_true rfl)
      · have hf := fd_itp c18 hf
        have e32 := Option.some.inj hf
        subst e32
        obtain ⟨sa, hsa⟩ := hZ.str 134 "no room for a near pair" (by decide +kernel)
        exact vx_throwS (own := RX10) (cls := "java/lang/IllegalStateException") (names := ["java/lang/RuntimeException", "java/lang/Exception"]) hx hb hl9 hown fd_ex_71_75_f fd_ex_n (hts (.classLink RX10 71 "java/lang/IllegalStateException") (List.mem_of_getElem? (i := 1) (by eq_refl))) (hts (.initialized "java/lang/IllegalStateException") (List.mem_of_getElem? (i := 2) (by eq_refl))) hsa (vx_hat (L := vx_atS RX10 75 "java/lang/IllegalStateException" ["java/lang/RuntimeException", "java/lang/Exception"]) (B := fd_bad "java/lang/IllegalStateException") (fun w hw => hts w ((fun w h => List.mem_cons_of_mem _ (List.mem_append_left _ (List.mem_append_left _ (List.mem_append_right _ h))) : ∀ w ∈ (vx_atS RX10 75 "java/lang/IllegalStateException" ["java/lang/RuntimeException", "java/lang/Exception"]).filter goodWord, w ∈ wsX10_near) w hw)) fd_ex_71_75_b (hZ.bad "java/lang/IllegalStateException" fd_ex_71_75_e)) fd_ex_71_75_g hZ.un hZ.su hS (hl.1.trans hml.symm) dX10_near_22 dX10_near_25 dX10_near_26 dX10_near_28 dX10_near_31 (fun x hx => (hex x hx).elim) (Nat.le_of_ble_eq_true rfl) (Nat.le_of_ble_eq_true rfl) (Nat.le_of_ble_eq_true rfl) (Nat.le_of_ble_eq_true rfl) hlocks (fun t ha hsz hk => ⟨σ15, trivial, ⟨rfl, hP.kept (fun k q hq => hk q.1 (hP k q hq).lt), va_K.moved ha hK⟩, Nat.le_trans hS.1 hsz, fun q h1 h2 => (hk q (Nat.lt_of_lt_of_le h1 hS.1)).trans (hS.2.1 q h1 h2)⟩) hS.2.2 (Nat.le_of_ble_eq_true rfl) (Nat.le_of_ble_eq_true rfl)
    · have er := Option.some.inj hf
      subst er
      refine vx_callv (vx_runV (As := [.int p2]) (rest := []) ⟨hx, hb, hml, hown, hts⟩ (m_X10_needNet_0 l hl9 D a k H.size hI N p2 σ3 _ hc7) (cwV 1 hts gX10_near_X10_needNet rfl rfl rfl (by decide +kernel) ⟨Nat.le_of_ble_eq_true rfl, Nat.le_of_ble_eq_true rfl⟩) ⟨fd_blZ, va_recv hK hP (ci := 10) (q0 := 0) rfl fd_WC_0, fd_prZ hP hK hZ hS⟩ rfl rfl hl.1 rfl (lv_room (Nat.le_of_ble_eq_true rfl)) dX10_near_7 ⟨Nat.le_of_ble_eq_true rfl, Nat.le_of_ble_eq_true rfl⟩) hS (fun q _ h => fd_A_mono hS.1 h) (fun q h => fd_A_mono hS.1 h) (fun q _ h => fd_A_mono hS.1 h) (fun E ce q9 u t H1 locs1 ht hvm hp hB hz hk hS hce hcv hcl => ?_) (fun u t H1 locs ht hvm hw hB hz hk hS => ?_)
      · obtain ⟨hB0, hP1, hK1⟩ := hB
        rw [ht] at hP1
        exact vx_out (E := E) (fun x hx => (hex x hx).elim) hlocks hce hcv hcl (fun t ht ha => ⟨u, trivial, ⟨fd_inr hB0, by rw [ht]; exact hP1, va_K.moved ha hK⟩, hS.F ht⟩) hS.2.2 (Nat.le_of_ble_eq_true rfl) (Nat.le_of_ble_eq_true rfl)
      · exact absurd hw (by simp)
  · have er := Option.some.inj hf
    subst er
    refine vx_callv (vx_runV (As := [.int p1]) (rest := []) ⟨hx, hb, hml, hown, hts⟩ (m_X10_needNet_0 l hl9 D a k s.heap.size hI N p1 σ _ hc1) (cwV 1 hts gX10_near_X10_needNet rfl rfl rfl (by decide +kernel) ⟨Nat.le_of_ble_eq_true rfl, Nat.le_of_ble_eq_true rfl⟩) ⟨fd_blZ, va_recv hK hP (ci := 10) (q0 := 0) rfl fd_WC_0, fd_prZ hP hK hZ hS⟩ rfl rfl hl.1 rfl (lv_room (Nat.le_of_ble_eq_true rfl)) dX10_near_2 ⟨Nat.le_of_ble_eq_true rfl, Nat.le_of_ble_eq_true rfl⟩) hS (fun q _ h => fd_A_mono hS.1 h) (fun q h => fd_A_mono hS.1 h) (fun q _ h => fd_A_mono hS.1 h) (fun E ce q9 u t H1 locs1 ht hvm hp hB hz hk hS hce hcv hcl => ?_) (fun u t H1 locs ht hvm hw hB hz hk hS => ?_)
    · obtain ⟨hB0, hP1, hK1⟩ := hB
      rw [ht] at hP1
      exact vx_out (E := E) (fun x hx => (hex x hx).elim) hlocks hce hcv hcl (fun t ht ha => ⟨u, trivial, ⟨fd_inr hB0, by rw [ht]; exact hP1, va_K.moved ha hK⟩, hS.F ht⟩) hS.2.2 (Nat.le_of_ble_eq_true rfl) (Nat.le_of_ble_eq_true rfl)
    · exact absurd hw (by simp)
noncomputable def f_L_near_0_39 (N : Nat) (p1 : Int32) (p2 : Int32) (σ : fd_St) : Option (Int32 × fd_St) := fd_bx (f_X10_near_0 N p1 p2 σ) (fun v2 τ => fd_lt (fd_mix τ σ) (fun σ6 => fd_gd (vp_in (0 : Int32) 1) (fd_lt (fd_sL 39 (0 : Int32) v2.toInt64 σ6) (fun σ9 => some ((0 : Int32), σ9))))) (fun E τ => if E = "java/lang/IndexOutOfBoundsException" then (fd_lt (fd_mix τ σ) (fun σ11 => some ((1 : Int32), σ11))) else (if E = "java/lang/IllegalStateException" then (fd_lt (fd_mix τ σ) (fun σ13 => some ((2 : Int32), σ13))) else (if E = "java/lang/IllegalArgumentException" then (fd_lt (fd_mix τ σ) (fun σ15 => some ((3 : Int32), σ15))) else (none))))
set_option maxHeartbeats 4000000 in
set_option maxRecDepth 100000 in
theorem m_L_near_0_39 (l : Launch) (hl9 : l.stackTraces = false) (D : va_G) (a : Nat → Nat) (k : Nat → ClassId) (sz : Nat) (hI : fd_I 40 a) (N : Nat) (p1 : Int32) (p2 : Int32) (σ : fd_St) (r : Int32 × fd_St) (hf : f_L_near_0_39 N p1 p2 σ = some r) : Met l yL_near wsL_near ({ frames := 8, cells := 1, slots := 6, locals := 133 }) (va_Pc [.ref (a 0), .int p1, .int p2, .ref (a 39)] (fd_PH D a k sz σ)) (va_Qi (fun v u => (v, u) = r) (fd_BH D a k) (fd_A 40 a sz)) 1 6 (fd_A 40 a sz) := by
  refine fd_ofWT (cc := cL_near) (maxL := 5) (ret := (some .int)) (by decide) rfl ?_
  intro p e s m args below meth c s₁ B hml hTab hv
  obtain ⟨rfl, hsz, hP, hK, hZ⟩ := hv
  have hx := B.exec
  have hb := B.bytes
  have hr := B.returns
  have hts := atoms_spec (ws := wsL_near) B.pre
  have hown : s.vm.findClass RL = some m.cls := findClass_of_methodNamed B.named
  have hlocks := B.notSynchronized
  subst hsz
  have hJ : ∀ i, i < 40 → fd_A 40 a s.heap.size (a i) := fun i hi => Or.inl ⟨i, hi, rfl⟩
  have hS : va_S (fd_A 40 a s.heap.size) s.heap s.heap [] := va_S.rf
  have hl := lv_entry ([.ref (a 0), .int p1, .int p2, .ref (a 39)]) (n := 5) (Nat.le_of_ble_eq_true rfl)
  rw [lg_entry_eq]
  generalize (lg_sl ([.ref (a 0), .int p1, .int p2, .ref (a 39)]) ++ List.replicate (5 - (lg_sl ([.ref (a 0), .int p1, .int p2, .ref (a 39)])).length) Slot.unset).toArray = ls at hl ⊢
  have hl : lv_has ls 5 [(0, .ref (a 0)), (1, .int p1), (2, .int p2), (3, .ref (a 39))] := hl
  unfold f_L_near_0_39 at hf
  refine lv_aload_n hx hb dL_near_0 rfl (lv_at hl 3 rfl) ?_
  refine lv_iconst (v := (0 : Int32)) hx hb dL_near_1 (by decide) ?_
  refine lv_aload_n hx hb dL_near_2 rfl (lv_at hl 0 rfl) ?_
  refine lv_iload_n hx hb dL_near_3 rfl (lv_at hl 1 rfl) ?_
  refine lv_iload_n hx hb dL_near_4 rfl (lv_at hl 2 rfl) ?_
  rcases fd_bxs hf with ⟨w3, τ4, hc1, hf⟩ | ⟨E5, τ4, hc1, hf⟩
  · refine vx_calli (vx_runV (As := [.int p1, .int p2]) (rest := [.int (0 : Int32), .ref (a 39)]) ⟨hx, hb, hml, hown, hts⟩ (m_X10_near_0 l hl9 D a k s.heap.size (fd_I40 hI) N p1 p2 σ _ hc1) (cwV 2 hts gL_near_X10_near rfl rfl rfl (by decide +kernel) ⟨Nat.le_of_ble_eq_true rfl, Nat.le_of_ble_eq_true rfl⟩) ⟨fd_blZ, va_recv (fd_HK hK) (fd_HC hP) (ci := 10) (q0 := 0) rfl fd_WC_0, fd_prHZ hP hK hZ hS⟩ rfl rfl hl.1 rfl (lv_room (Nat.le_of_ble_eq_true rfl)) dL_near_5 ⟨(Nat.zero_le _), (Nat.zero_le _)⟩) hS (fun q _ h => fd_A_sub hS.1 h) (fun q h => fd_A_sub hS.1 h) (fun q _ h => fd_A_sub hS.1 h) (fun E ce q9 u t H1 locs1 ht hvm hp hB => ?_) (fun v2 u t H1 locs ht hvm hw hB hz hk hS => ?_)
    · exact absurd hB.1 (by simp)
    obtain ⟨hP1, hK1⟩ := hB
    rw [ht] at hP1
    obtain ⟨e1, e2⟩ := Prod.mk.inj hw
    obtain e1 := Sum.inl.inj e1
    subst e1
    subst e2
    obtain ⟨σ6, eσ6, hf⟩ := fd_lts hf
    have hP : va_P D vwCl (fd_WH a k σ6) H1 := by rw [eσ6]; exact fd_HJ hI hP hP1 hk
    generalize H1 = H at hP hS ⊢
    refine W.cs (cells' := 0) (slots' := 0) rfl rfl ?_
    refine lv_i2l hx hb dL_near_8 rfl ?_
    obtain ⟨g8, hf⟩ := fd_gds hf
    obtain ⟨σ9, eσ9, hf⟩ := fd_lts hf
    refine va_last hx hb hK hP (fd_DH hI hJ) hS 39 27 fd_WH_39 fd_tyH_39 g8 dL_near_9 (fun H locs hP _ hS => ?_)
    have hP : va_P D vwCl (fd_WH a k σ9) H := by rw [eσ9]; exact fd_sP fd_WHa_39 hP
    refine lv_goto (tgt := 25) hx hb dL_near_10 (by decide) ?_
    refine lv_iconst (v := (0 : Int32)) hx hb dL_near_25 (by decide) ?_
    refine W.widen (k := 1) (n := 6) (Nat.le_of_ble_eq_true rfl) (Nat.le_of_ble_eq_true rfl) ?_
    exact W.iret (v := (0 : Int32)) hx hb hr (fun t ht hW => ⟨⟨(0 : Int32), σ9, rfl, Option.some.inj hf, by rw [ht]; exact hP, va_K.moved hW.alike hK⟩, hS.F ht⟩) hS.2.2 dL_near_26
  · have hE := hf
    by_cases c10 : E5 = "java/lang/IndexOutOfBoundsException"
    · subst c10
      have hf := fd_itp rfl hf
      refine vx_calli (vx_runV (As := [.int p1, .int p2]) (rest := [.int (0 : Int32), .ref (a 39)]) ⟨hx, hb, hml, hown, hts⟩ (m_X10_near_0 l hl9 D a k s.heap.size (fd_I40 hI) N p1 p2 σ _ hc1) (cwV 2 hts gL_near_X10_near rfl rfl rfl (by decide +kernel) ⟨Nat.le_of_ble_eq_true rfl, Nat.le_of_ble_eq_true rfl⟩) ⟨fd_blZ, va_recv (fd_HK hK) (fd_HC hP) (ci := 10) (q0 := 0) rfl fd_WC_0, fd_prHZ hP hK hZ hS⟩ rfl rfl hl.1 rfl (lv_room (Nat.le_of_ble_eq_true rfl)) dL_near_5 ⟨Nat.le_of_ble_eq_true rfl, Nat.le_of_ble_eq_true rfl⟩) hS (fun q _ h => fd_A_sub hS.1 h) (fun q h => fd_A_sub hS.1 h) (fun q _ h => fd_A_sub hS.1 h) (fun E ce q9 u t H1 locs1 ht hvm hp hB hz hk hS hce hcv hcl => ?_) (fun v2 u t H1 locs ht hvm hw hB hz hk hS => ?_)
      · obtain ⟨hB0, hP1, hK1⟩ := hB
        rw [ht] at hP1
        obtain ⟨e1, e2⟩ := Prod.mk.inj hB0
        obtain e1 := Sum.inr.inj e1
        subst e1
        subst e2
        obtain ⟨σ11, eσ11, hf⟩ := fd_lts hf
        have hP : va_P D vwCl (fd_WH a k σ11) H1 := by rw [eσ11]; exact fd_HJ hI hP hP1 hk
        refine fd_catch (own := RL) (name := "java/lang/IndexOutOfBoundsException") (E := "java/lang/IndexOutOfBoundsException") hown [] ⟨0, 10, 13, 19⟩ [⟨0, 10, 17, 13⟩, ⟨0, 10, 21, 21⟩] (by rw [hTab]; rfl) (fun z hz => nomatch hz) (by decide) (by decide) (hts (.classLink RL 19 "java/lang/IndexOutOfBoundsException") (List.mem_of_getElem? (i := 1) (by eq_refl))) (hZ.cast "java/lang/IndexOutOfBoundsException" (by decide +kernel)) hce hcv hcl ?_
        refine W.cs (cells' := 1) (slots' := 6) rfl rfl ?_
        refine lv_astore (lv' := [(4, .ref q9), (0, .ref (a 0)), (1, .int p1), (2, .int p2), (3, .ref (a 39))]) hx hb dL_near_13 hl (by decide) rfl (fun ls hl => ?_)
        refine lv_iconst (v := (1 : Int32)) hx hb dL_near_15 (by decide) ?_
        refine W.widen (k := 1) (n := 6) (Nat.le_of_ble_eq_true rfl) (Nat.le_of_ble_eq_true rfl) ?_
        exact W.iret (v := (1 : Int32)) hx hb hr (fun t ht hW => ⟨⟨(1 : Int32), σ11, rfl, Option.some.inj hf, by rw [ht]; exact hP, va_K.moved hW.alike hK⟩, hS.F ht⟩) hS.2.2 dL_near_16
      · exact absurd hw (by simp)
    have hf := fd_itn c10 hf
    by_cases c12 : E5 = "java/lang/IllegalStateException"
    · subst c12
      have hf := fd_itp rfl hf
      refine vx_calli (vx_runV (As := [.int p1, .int p2]) (rest := [.int (0 : Int32), .ref (a 39)]) ⟨hx, hb, hml, hown, hts⟩ (m_X10_near_0 l hl9 D a k s.heap.size (fd_I40 hI) N p1 p2 σ _ hc1) (cwV 2 hts gL_near_X10_near rfl rfl rfl (by decide +kernel) ⟨Nat.le_of_ble_eq_true rfl, Nat.le_of_ble_eq_true rfl⟩) ⟨fd_blZ, va_recv (fd_HK hK) (fd_HC hP) (ci := 10) (q0 := 0) rfl fd_WC_0, fd_prHZ hP hK hZ hS⟩ rfl rfl hl.1 rfl (lv_room (Nat.le_of_ble_eq_true rfl)) dL_near_5 ⟨Nat.le_of_ble_eq_true rfl, Nat.le_of_ble_eq_true rfl⟩) hS (fun q _ h => fd_A_sub hS.1 h) (fun q h => fd_A_sub hS.1 h) (fun q _ h => fd_A_sub hS.1 h) (fun E ce q9 u t H1 locs1 ht hvm hp hB hz hk hS hce hcv hcl => ?_) (fun v2 u t H1 locs ht hvm hw hB hz hk hS => ?_)
      · obtain ⟨hB0, hP1, hK1⟩ := hB
        rw [ht] at hP1
        obtain ⟨e1, e2⟩ := Prod.mk.inj hB0
        obtain e1 := Sum.inr.inj e1
        subst e1
        subst e2
        obtain ⟨σ13, eσ13, hf⟩ := fd_lts hf
        have hP : va_P D vwCl (fd_WH a k σ13) H1 := by rw [eσ13]; exact fd_HJ hI hP hP1 hk
        refine fd_catch (own := RL) (name := "java/lang/IllegalStateException") (E := "java/lang/IllegalStateException") hown [⟨0, 10, 13, 19⟩] ⟨0, 10, 17, 13⟩ [⟨0, 10, 21, 21⟩] (by rw [hTab]; rfl) (fun z hz => by
            rcases List.mem_cons.mp hz with rfl | hz
            · exact ⟨by decide, by decide, "java/lang/IndexOutOfBoundsException", hts (.classLink RL 19 "java/lang/IndexOutOfBoundsException") (by decide +kernel), hZ.nc "java/lang/IllegalStateException" "java/lang/IndexOutOfBoundsException" (by decide +kernel)⟩
            cases hz) (by decide) (by decide) (hts (.classLink RL 13 "java/lang/IllegalStateException") (List.mem_of_getElem? (i := 2) (by eq_refl))) (hZ.cast "java/lang/IllegalStateException" (by decide +kernel)) hce hcv hcl ?_
        refine W.cs (cells' := 1) (slots' := 6) rfl rfl ?_
        refine lv_astore (lv' := [(4, .ref q9), (0, .ref (a 0)), (1, .int p1), (2, .int p2), (3, .ref (a 39))]) hx hb dL_near_17 hl (by decide) rfl (fun ls hl => ?_)
        refine lv_iconst (v := (2 : Int32)) hx hb dL_near_19 (by decide) ?_
        refine W.widen (k := 1) (n := 6) (Nat.le_of_ble_eq_true rfl) (Nat.le_of_ble_eq_true rfl) ?_
        exact W.iret (v := (2 : Int32)) hx hb hr (fun t ht hW => ⟨⟨(2 : Int32), σ13, rfl, Option.some.inj hf, by rw [ht]; exact hP, va_K.moved hW.alike hK⟩, hS.F ht⟩) hS.2.2 dL_near_20
      · exact absurd hw (by simp)
    have hf := fd_itn c12 hf
    by_cases c14 : E5 = "java/lang/IllegalArgumentException"
    · subst c14
      have hf := fd_itp rfl hf
      refine vx_calli (vx_runV (As := [.int p1, .int p2]) (rest := [.int (0 : Int32), .ref (a 39)]) ⟨hx, hb, hml, hown, hts⟩ (m_X10_near_0 l hl9 D a k s.heap.size (fd_I40 hI) N p1 p2 σ _ hc1) (cwV 2 hts gL_near_X10_near rfl rfl rfl (by decide +kernel) ⟨Nat.le_of_ble_eq_true rfl, Nat.le_of_ble_eq_true rfl⟩) ⟨fd_blZ, va_recv (fd_HK hK) (fd_HC hP) (ci := 10) (q0 := 0) rfl fd_WC_0, fd_prHZ hP hK hZ hS⟩ rfl rfl hl.1 rfl (lv_room (Nat.le_of_ble_eq_true rfl)) dL_near_5 ⟨Nat.le_of_ble_eq_true rfl, Nat.le_of_ble_eq_true rfl⟩) hS (fun q _ h => fd_A_sub hS.1 h) (fun q h => fd_A_sub hS.1 h) (fun q _ h => fd_A_sub hS.1 h) (fun E ce q9 u t H1 locs1 ht hvm hp hB hz hk hS hce hcv hcl => ?_) (fun v2 u t H1 locs ht hvm hw hB hz hk hS => ?_)
      · obtain ⟨hB0, hP1, hK1⟩ := hB
        rw [ht] at hP1
        obtain ⟨e1, e2⟩ := Prod.mk.inj hB0
        obtain e1 := Sum.inr.inj e1
        subst e1
        subst e2
        obtain ⟨σ15, eσ15, hf⟩ := fd_lts hf
        have hP : va_P D vwCl (fd_WH a k σ15) H1 := by rw [eσ15]; exact fd_HJ hI hP hP1 hk
        refine fd_catch (own := RL) (name := "java/lang/IllegalArgumentException") (E := "java/lang/IllegalArgumentException") hown [⟨0, 10, 13, 19⟩, ⟨0, 10, 17, 13⟩] ⟨0, 10, 21, 21⟩ [] (by rw [hTab]; rfl) (fun z hz => by
            rcases List.mem_cons.mp hz with rfl | hz
            · exact ⟨by decide, by decide, "java/lang/IndexOutOfBoundsException", hts (.classLink RL 19 "java/lang/IndexOutOfBoundsException") (by decide +kernel), hZ.nc "java/lang/IllegalArgumentException" "java/lang/IndexOutOfBoundsException" (by decide +kernel)⟩
            rcases List.mem_cons.mp hz with rfl | hz
            · exact ⟨by decide, by decide, "java/lang/IllegalStateException", hts (.classLink RL 13 "java/lang/IllegalStateException") (by decide +kernel), hZ.nc "java/lang/IllegalArgumentException" "java/lang/IllegalStateException" (by decide +kernel)⟩
            cases hz) (by decide) (by decide) (hts (.classLink RL 21 "java/lang/IllegalArgumentException") (List.mem_of_getElem? (i := 3) (by eq_refl))) (hZ.cast "java/lang/IllegalArgumentException" (by decide +kernel)) hce hcv hcl ?_
        refine W.cs (cells' := 1) (slots' := 6) rfl rfl ?_
        refine lv_astore (lv' := [(4, .ref q9), (0, .ref (a 0)), (1, .int p1), (2, .int p2), (3, .ref (a 39))]) hx hb dL_near_21 hl (by decide) rfl (fun ls hl => ?_)
        refine lv_iconst (v := (3 : Int32)) hx hb dL_near_23 (by decide) ?_
        refine W.widen (k := 1) (n := 6) (Nat.le_of_ble_eq_true rfl) (Nat.le_of_ble_eq_true rfl) ?_
        exact W.iret (v := (3 : Int32)) hx hb hr (fun t ht hW => ⟨⟨(3 : Int32), σ15, rfl, Option.some.inj hf, by rw [ht]; exact hP, va_K.moved hW.alike hK⟩, hS.F ht⟩) hS.2.2 dL_near_24
      · exact absurd hw (by simp)
    have hf := fd_itn c14 hf
    cases hf
noncomputable def f_X11_reaches_0_J63 (N : Nat) (k2 : Int32 → Int32 → Int32 → fd_St → Option (Int32 × fd_St)) (y1 : Int32) (y2 : Int32) (y3 : Int32) (z1 : Int32) (z2 : Int32) (σ : fd_St) : Option (Int32 × fd_St) := fd_gd (vp_in z1 200) (fd_lt (fd_sA 11 z1 (vp_nar .boolean z2) σ) (fun σ6 => fd_lt (y3 + (1 : Int32)) (fun x7 => k2 y1 y2 x7 σ6)))
noncomputable def f_X11_reaches_0_J58 (N : Nat) (k2 : Int32 → Int32 → Int32 → fd_St → Option (Int32 × fd_St)) (y1 : Int32) (y2 : Int32) (y3 : Int32) (z1 : Int32) (σ : fd_St) : Option (Int32 × fd_St) := f_X11_reaches_0_J63 N k2 y1 y2 y3 z1 (1 : Int32) σ
noncomputable def f_X11_reaches_0_J62 (N : Nat) (k2 : Int32 → Int32 → Int32 → fd_St → Option (Int32 × fd_St)) (y1 : Int32) (y2 : Int32) (y3 : Int32) (z1 : Int32) (σ : fd_St) : Option (Int32 × fd_St) := f_X11_reaches_0_J63 N k2 y1 y2 y3 z1 (0 : Int32) σ
noncomputable def f_X11_reaches_0_L2 (N : Nat) : Nat → Int32 → Int32 → Int32 → fd_St → Option (Int32 × fd_St)
  | 0 => fun _ _ _ _ => none
  | n + 1 => fun y1 y2 y3 σ => if (σ.1 1) ≤ y3 then (fd_gd (vp_in y2 200) (fd_gd (narrow .boolean (.int (σ.2.1 11 y2.toNatClampNeg)) = .int (σ.2.1 11 y2.toNatClampNeg)) (some (σ.2.1 11 y2.toNatClampNeg, σ)))) else (if y3 = y1 then (f_X11_reaches_0_J58 N (f_X11_reaches_0_L2 N n) y1 y2 y3 y3 σ) else (fd_gd (vp_in y3 200) (if (σ.2.1 1 y3.toNatClampNeg) = (-1 : Int32) then (f_X11_reaches_0_J62 N (f_X11_reaches_0_L2 N n) y1 y2 y3 y3 σ) else (fd_gd (vp_in y3 200) (fd_gd (vp_in (σ.2.1 2 y3.toNatClampNeg) 200) (if (σ.2.1 11 (σ.2.1 2 y3.toNatClampNeg).toNatClampNeg) = 0 then (fd_gd (vp_in y3 200) (fd_gd (vp_in (σ.2.1 3 y3.toNatClampNeg) 200) (if (σ.2.1 11 (σ.2.1 3 y3.toNatClampNeg).toNatClampNeg) = 0 then (f_X11_reaches_0_J62 N (f_X11_reaches_0_L2 N n) y1 y2 y3 y3 σ) else (f_X11_reaches_0_J58 N (f_X11_reaches_0_L2 N n) y1 y2 y3 y3 σ)))) else (f_X11_reaches_0_J58 N (f_X11_reaches_0_L2 N n) y1 y2 y3 y3 σ)))))))
noncomputable def f_X11_reaches_0 (N : Nat) (p1 : Int32) (p2 : Int32) (σ : fd_St) : Option (Int32 × fd_St) := f_X11_reaches_0_L2 N N p1 p2 (0 : Int32) σ
set_option maxHeartbeats 4000000 in
set_option maxRecDepth 100000 in
theorem m_X11_reaches_0 (l : Launch) (D : va_G) (a : Nat → Nat) (k : Nat → ClassId) (sz : Nat) (hI : fd_I 29 a) (N : Nat) (p1 : Int32) (p2 : Int32) (σ : fd_St) (r : Int32 × fd_St) (hf : f_X11_reaches_0 N p1 p2 σ = some r) : Met l yX11_reaches wsX11_reaches ({ frames := 0, cells := 0, slots := 0, locals := 0 }) (va_Pc [.ref (a 0), .int p1, .int p2] (fd_PM D a k sz σ)) (va_Qi (fun v u => (v, u) = r) (fd_BM D a k) (fd_A 29 a sz)) 0 0 (fd_A 29 a sz) := by
  refine Met.ofW (cc := cX11_reaches) (maxL := 4) (ret := (some .boolean)) (by decide) rfl ?_
  intro p e s m args below meth c s₁ B hml hv
  obtain ⟨rfl, hsz, hP, hK⟩ := hv
  have hx := B.exec
  have hb := B.bytes
  have hr := B.returns
  have hts := atoms_spec (ws := wsX11_reaches) B.pre
  have hown : s.vm.findClass RX11 = some m.cls := findClass_of_methodNamed B.named
  have hlocks := B.notSynchronized
  subst hsz
  have hJ : ∀ i, i < 29 → fd_A 29 a s.heap.size (a i) := fun i hi => Or.inl ⟨i, hi, rfl⟩
  have hS : va_S (fd_A 29 a s.heap.size) s.heap s.heap [] := va_S.rf
  have hl := lv_entry ([.ref (a 0), .int p1, .int p2]) (n := 4) (Nat.le_of_ble_eq_true rfl)
  rw [lg_entry_eq]
  generalize (lg_sl ([.ref (a 0), .int p1, .int p2]) ++ List.replicate (4 - (lg_sl ([.ref (a 0), .int p1, .int p2])).length) Slot.unset).toArray = ls at hl ⊢
  have hl : lv_has ls 4 [(0, .ref (a 0)), (1, .int p1), (2, .int p2)] := hl
  have h9X11 : ∀ w ∈ u_ws RX11 TX11 43, w ∈ wsX11_reaches := fd_su [6, 7, 8, 9, 10, 11, 12, 13, 14, 15, 16, 17, 18, 19, 20, 21, 22, 23, 24, 25, 26, 27, 28, 29, 30, 31, 32, 33, 34, 35, 36, 37, 38, 39, 40, 41, 42, 43, 44, 45, 46, 47, 48] (by eq_refl)
  have hL63 : ∀ (k2 : Int32 → Int32 → Int32 → fd_St → Option (Int32 × fd_St)) (hk2 : ∀ (y1 : Int32) (y2 : Int32) (y3 : Int32) (σ : fd_St) (H : Heap) (locs : List Loc) (ls : Array Slot), va_P D vwCl (fd_WM a k σ) H → va_S (fd_A 29 a s.heap.size) s.heap H locs → lv_has ls 4 [(0, .ref (a 0)), (1, .int y1), (2, .int y2), (3, .int y3)] → k2 y1 y2 y3 σ = some r → W p l e ((headSpec wsX11_reaches ({ frames := 0, cells := 0, slots := 0, locals := 0 })).room) s m ([.ref (a 0), .int p1, .int p2].toArray) below meth c H locs 0 0 (MQ below (va_Qi (fun v u => (v, u) = r) (fd_BM D a k) (fd_A 29 a s.heap.size)) ([.ref (a 0), .int p1, .int p2].toArray) s 0 0 (fd_A 29 a s.heap.size)) (F0 m 2 ls [])), ∀ (y1 : Int32) (y2 : Int32) (y3 : Int32) (z1 : Int32) (z2 : Int32) (σ : fd_St) (H : Heap) (locs : List Loc) (ls : Array Slot), va_P D vwCl (fd_WM a k σ) H → va_S (fd_A 29 a s.heap.size) s.heap H locs → lv_has ls 4 [(0, .ref (a 0)), (1, .int y1), (2, .int y2), (3, .int y3)] → f_X11_reaches_0_J63 N k2 y1 y2 y3 z1 z2 σ = some r → W p l e ((headSpec wsX11_reaches ({ frames := 0, cells := 0, slots := 0, locals := 0 })).room) s m ([.ref (a 0), .int p1, .int p2].toArray) below meth c H locs 0 0 (MQ below (va_Qi (fun v u => (v, u) = r) (fd_BM D a k) (fd_A 29 a s.heap.size)) ([.ref (a 0), .int p1, .int p2].toArray) s 0 0 (fd_A 29 a s.heap.size)) (F0 m 63 ls [.int z2, .int z1, .ref (a 11)]) := by
    intro k2 hk2 y1 y2 y3 z1 z2 σ H locs ls hP hS hl hf
    unfold f_X11_reaches_0_J63 at hf
    obtain ⟨g5, hf⟩ := fd_gds hf
    obtain ⟨σ6, eσ6, hf⟩ := fd_lts hf
    refine va_zast hx hb hK hP (fd_DM hI hJ) hS 11 10 fd_WM_11 fd_tyM_11 g5 dX11_reaches_63 (fun H locs hP _ hS => ?_)
    have hP : va_P D vwCl (fd_WM a k σ6) H := by rw [eσ6]; exact fd_sP fd_WMa_11 hP
    obtain ⟨x7, ex7, hf⟩ := fd_lts hf
    refine lv_iinc (v := x7) (lv' := [(3, .int x7), (0, .ref (a 0)), (1, .int y1), (2, .int y2)]) hx hb dX11_reaches_64 hl (k := 3) rfl (by rw [ex7]; rfl) (by decide) rfl (fun ls hl => ?_)
    refine lv_goto (tgt := 2) hx hb dX11_reaches_67 (by decide) ?_
    exact hk2 y1 y2 x7 σ6 _ _ _ hP hS (lv_sub hl [1, 2, 3, 0] rfl) hf
  have hL58 : ∀ (k2 : Int32 → Int32 → Int32 → fd_St → Option (Int32 × fd_St)) (hk2 : ∀ (y1 : Int32) (y2 : Int32) (y3 : Int32) (σ : fd_St) (H : Heap) (locs : List Loc) (ls : Array Slot), va_P D vwCl (fd_WM a k σ) H → va_S (fd_A 29 a s.heap.size) s.heap H locs → lv_has ls 4 [(0, .ref (a 0)), (1, .int y1), (2, .int y2), (3, .int y3)] → k2 y1 y2 y3 σ = some r → W p l e ((headSpec wsX11_reaches ({ frames := 0, cells := 0, slots := 0, locals := 0 })).room) s m ([.ref (a 0), .int p1, .int p2].toArray) below meth c H locs 0 0 (MQ below (va_Qi (fun v u => (v, u) = r) (fd_BM D a k) (fd_A 29 a s.heap.size)) ([.ref (a 0), .int p1, .int p2].toArray) s 0 0 (fd_A 29 a s.heap.size)) (F0 m 2 ls [])), ∀ (y1 : Int32) (y2 : Int32) (y3 : Int32) (z1 : Int32) (σ : fd_St) (H : Heap) (locs : List Loc) (ls : Array Slot), va_P D vwCl (fd_WM a k σ) H → va_S (fd_A 29 a s.heap.size) s.heap H locs → lv_has ls 4 [(0, .ref (a 0)), (1, .int y1), (2, .int y2), (3, .int y3)] → f_X11_reaches_0_J58 N k2 y1 y2 y3 z1 σ = some r → W p l e ((headSpec wsX11_reaches ({ frames := 0, cells := 0, slots := 0, locals := 0 })).room) s m ([.ref (a 0), .int p1, .int p2].toArray) below meth c H locs 0 0 (MQ below (va_Qi (fun v u => (v, u) = r) (fd_BM D a k) (fd_A 29 a s.heap.size)) ([.ref (a 0), .int p1, .int p2].toArray) s 0 0 (fd_A 29 a s.heap.size)) (F0 m 58 ls [.int z1, .ref (a 11)]) := by
    intro k2 hk2 y1 y2 y3 z1 σ H locs ls hP hS hl hf
    unfold f_X11_reaches_0_J58 at hf
    refine lv_iconst (v := (1 : Int32)) hx hb dX11_reaches_58 (by decide) ?_
    refine lv_goto (tgt := 63) hx hb dX11_reaches_59 (by decide) ?_
    exact hL63 k2 hk2 y1 y2 y3 z1 (1 : Int32) σ _ _ _ hP hS (lv_sub hl [0, 1, 2, 3] rfl) hf
  have hL62 : ∀ (k2 : Int32 → Int32 → Int32 → fd_St → Option (Int32 × fd_St)) (hk2 : ∀ (y1 : Int32) (y2 : Int32) (y3 : Int32) (σ : fd_St) (H : Heap) (locs : List Loc) (ls : Array Slot), va_P D vwCl (fd_WM a k σ) H → va_S (fd_A 29 a s.heap.size) s.heap H locs → lv_has ls 4 [(0, .ref (a 0)), (1, .int y1), (2, .int y2), (3, .int y3)] → k2 y1 y2 y3 σ = some r → W p l e ((headSpec wsX11_reaches ({ frames := 0, cells := 0, slots := 0, locals := 0 })).room) s m ([.ref (a 0), .int p1, .int p2].toArray) below meth c H locs 0 0 (MQ below (va_Qi (fun v u => (v, u) = r) (fd_BM D a k) (fd_A 29 a s.heap.size)) ([.ref (a 0), .int p1, .int p2].toArray) s 0 0 (fd_A 29 a s.heap.size)) (F0 m 2 ls [])), ∀ (y1 : Int32) (y2 : Int32) (y3 : Int32) (z1 : Int32) (σ : fd_St) (H : Heap) (locs : List Loc) (ls : Array Slot), va_P D vwCl (fd_WM a k σ) H → va_S (fd_A 29 a s.heap.size) s.heap H locs → lv_has ls 4 [(0, .ref (a 0)), (1, .int y1), (2, .int y2), (3, .int y3)] → f_X11_reaches_0_J62 N k2 y1 y2 y3 z1 σ = some r → W p l e ((headSpec wsX11_reaches ({ frames := 0, cells := 0, slots := 0, locals := 0 })).room) s m ([.ref (a 0), .int p1, .int p2].toArray) below meth c H locs 0 0 (MQ below (va_Qi (fun v u => (v, u) = r) (fd_BM D a k) (fd_A 29 a s.heap.size)) ([.ref (a 0), .int p1, .int p2].toArray) s 0 0 (fd_A 29 a s.heap.size)) (F0 m 62 ls [.int z1, .ref (a 11)]) := by
    intro k2 hk2 y1 y2 y3 z1 σ H locs ls hP hS hl hf
    unfold f_X11_reaches_0_J62 at hf
    refine lv_iconst (v := (0 : Int32)) hx hb dX11_reaches_62 (by decide) ?_
    exact hL63 k2 hk2 y1 y2 y3 z1 (0 : Int32) σ _ _ _ hP hS (lv_sub hl [0, 1, 2, 3] rfl) hf
  have hL2 : ∀ (n : Nat), ∀ (y1 : Int32) (y2 : Int32) (y3 : Int32) (σ : fd_St) (H : Heap) (locs : List Loc) (ls : Array Slot), va_P D vwCl (fd_WM a k σ) H → va_S (fd_A 29 a s.heap.size) s.heap H locs → lv_has ls 4 [(0, .ref (a 0)), (1, .int y1), (2, .int y2), (3, .int y3)] → f_X11_reaches_0_L2 N n y1 y2 y3 σ = some r → W p l e ((headSpec wsX11_reaches ({ frames := 0, cells := 0, slots := 0, locals := 0 })).room) s m ([.ref (a 0), .int p1, .int p2].toArray) below meth c H locs 0 0 (MQ below (va_Qi (fun v u => (v, u) = r) (fd_BM D a k) (fd_A 29 a s.heap.size)) ([.ref (a 0), .int p1, .int p2].toArray) s 0 0 (fd_A 29 a s.heap.size)) (F0 m 2 ls []) := by
    intro n
    induction n with
    | zero =>
      intro _ _ _ _ _ _ _ _ _ _ hf
      cases hf
    | succ n ih =>
      intro y1 y2 y3 σ H locs ls hP hS hl hf
      unfold f_X11_reaches_0_L2 at hf
      refine lv_iload_n hx hb dX11_reaches_2 rfl (lv_at hl 3 rfl) ?_
      refine lv_aload_n hx hb dX11_reaches_3 rfl (lv_at hl 0 rfl) ?_
      refine va_get (ci := 11) (v := .int (σ.1 1)) (C := RX11) (T := TX11) (N := 43) hx hb hts h9X11 hown hK hP 0 fd_WM_0 rfl 1 (by decide) (hts (.fieldLink RX11 113 "FailDiagnoseModel" "nets" "I") (List.mem_of_getElem? (i := 1) (by eq_refl))) (fun _ h9 => h9) rfl dX11_reaches_4 ?_
      refine lv_icmp_ge (tgt := 70) hx hb dX11_reaches_7 (by decide) (fun c1 => ?_) (fun c1 => ?_)
      · have hf := fd_itp c1 hf
        refine lv_aload_n hx hb dX11_reaches_70 rfl (lv_at hl 0 rfl) ?_
        refine va_get (ci := 11) (v := .ref (a 11)) (C := RX11) (T := TX11) (N := 43) hx hb hts h9X11 hown hK hP 0 fd_WM_0 rfl 16 (by decide) (hts (.fieldLink RX11 41 "FailDiagnoseModel" "reached" "[Z") (List.mem_of_getElem? (i := 2) (by eq_refl))) (fun _ h9 => h9) rfl dX11_reaches_71 ?_
        refine lv_iload_n hx hb dX11_reaches_74 rfl (lv_at hl 2 rfl) ?_
        obtain ⟨g2, hf⟩ := fd_gds hf
        refine va_zald hx hb hK hP 11 10 fd_WM_11 fd_tyM_11 g2 dX11_reaches_75 ?_
        obtain ⟨g3, hf⟩ := fd_gds hf
        exact W.zret (v := σ.2.1 11 y2.toNatClampNeg) (ty := .boolean) hx hb hr g3 (fun t ht hW => ⟨⟨σ.2.1 11 y2.toNatClampNeg, σ, rfl, Option.some.inj hf, by rw [ht]; exact hP, va_K.moved hW.alike hK⟩, hS.F ht⟩) hS.2.2 dX11_reaches_76
      · have hf := fd_itn c1 hf
        refine lv_aload_n hx hb dX11_reaches_10 rfl (lv_at hl 0 rfl) ?_
        refine va_get (ci := 11) (v := .ref (a 11)) (C := RX11) (T := TX11) (N := 43) hx hb hts h9X11 hown hK hP 0 fd_WM_0 rfl 16 (by decide) (hts (.fieldLink RX11 41 "FailDiagnoseModel" "reached" "[Z") (List.mem_of_getElem? (i := 2) (by eq_refl))) (fun _ h9 => h9) rfl dX11_reaches_11 ?_
        refine lv_iload_n hx hb dX11_reaches_14 rfl (lv_at hl 3 rfl) ?_
        refine lv_iload_n hx hb dX11_reaches_15 rfl (lv_at hl 3 rfl) ?_
        refine lv_iload_n hx hb dX11_reaches_16 rfl (lv_at hl 1 rfl) ?_
        refine lv_icmp_eq (tgt := 58) hx hb dX11_reaches_17 (by decide) (fun c4 => ?_) (fun c4 => ?_)
        · have hf := fd_itp c4 hf
          exact hL58 (f_X11_reaches_0_L2 N n) ih y1 y2 y3 y3 σ _ _ _ hP hS (lv_sub hl [0, 1, 2, 3] rfl) hf
        · have hf := fd_itn c4 hf
          refine lv_aload_n hx hb dX11_reaches_20 rfl (lv_at hl 0 rfl) ?_
          refine va_get (ci := 11) (v := .ref (a 1)) (C := RX11) (T := TX11) (N := 43) hx hb hts h9X11 hown hK hP 0 fd_WM_0 rfl 2 (by decide) (hts (.fieldLink RX11 7 "FailDiagnoseModel" "kinds" "[I") (List.mem_of_getElem? (i := 3) (by eq_refl))) (fun _ h9 => h9) rfl dX11_reaches_21 ?_
          refine lv_iload_n hx hb dX11_reaches_24 rfl (lv_at hl 3 rfl) ?_
          obtain ⟨g8, hf⟩ := fd_gds hf
          refine va_iald hx hb hK hP 1 0 fd_WM_1 fd_tyM_1 g8 dX11_reaches_25 ?_
          refine lv_iconst (v := (-1 : Int32)) hx hb dX11_reaches_26 (by decide) ?_
          refine lv_icmp_eq (tgt := 62) hx hb dX11_reaches_27 (by decide) (fun c9 => ?_) (fun c9 => ?_)
          · have hf := fd_itp c9 hf
            exact hL62 (f_X11_reaches_0_L2 N n) ih y1 y2 y3 y3 σ _ _ _ hP hS (lv_sub hl [0, 1, 2, 3] rfl) hf
          · have hf := fd_itn c9 hf
            refine lv_aload_n hx hb dX11_reaches_30 rfl (lv_at hl 0 rfl) ?_
            refine va_get (ci := 11) (v := .ref (a 11)) (C := RX11) (T := TX11) (N := 43) hx hb hts h9X11 hown hK hP 0 fd_WM_0 rfl 16 (by decide) (hts (.fieldLink RX11 41 "FailDiagnoseModel" "reached" "[Z") (List.mem_of_getElem? (i := 2) (by eq_refl))) (fun _ h9 => h9) rfl dX11_reaches_31 ?_
            refine lv_aload_n hx hb dX11_reaches_34 rfl (lv_at hl 0 rfl) ?_
            refine va_get (ci := 11) (v := .ref (a 2)) (C := RX11) (T := TX11) (N := 43) hx hb hts h9X11 hown hK hP 0 fd_WM_0 rfl 3 (by decide) (hts (.fieldLink RX11 13 "FailDiagnoseModel" "firsts" "[I") (List.mem_of_getElem? (i := 4) (by eq_refl))) (fun _ h9 => h9) rfl dX11_reaches_35 ?_
            refine lv_iload_n hx hb dX11_reaches_38 rfl (lv_at hl 3 rfl) ?_
            obtain ⟨g10, hf⟩ := fd_gds hf
            refine va_iald hx hb hK hP 2 1 fd_WM_2 fd_tyM_2 g10 dX11_reaches_39 ?_
            obtain ⟨g11, hf⟩ := fd_gds hf
            refine va_zald hx hb hK hP 11 10 fd_WM_11 fd_tyM_11 g11 dX11_reaches_40 ?_
            refine lv_if_ne (tgt := 58) hx hb dX11_reaches_41 (by decide) (fun c12 => ?_) (fun c12 => ?_)
            · have hf := fd_itn c12 hf
              exact hL58 (f_X11_reaches_0_L2 N n) ih y1 y2 y3 y3 σ _ _ _ hP hS (lv_sub hl [0, 1, 2, 3] rfl) hf
            · have hf := fd_itp c12 hf
              refine lv_aload_n hx hb dX11_reaches_44 rfl (lv_at hl 0 rfl) ?_
              refine va_get (ci := 11) (v := .ref (a 11)) (C := RX11) (T := TX11) (N := 43) hx hb hts h9X11 hown hK hP 0 fd_WM_0 rfl 16 (by decide) (hts (.fieldLink RX11 41 "FailDiagnoseModel" "reached" "[Z") (List.mem_of_getElem? (i := 2) (by eq_refl))) (fun _ h9 => h9) rfl dX11_reaches_45 ?_
              refine lv_aload_n hx hb dX11_reaches_48 rfl (lv_at hl 0 rfl) ?_
              refine va_get (ci := 11) (v := .ref (a 3)) (C := RX11) (T := TX11) (N := 43) hx hb hts h9X11 hown hK hP 0 fd_WM_0 rfl 4 (by decide) (hts (.fieldLink RX11 16 "FailDiagnoseModel" "seconds" "[I") (List.mem_of_getElem? (i := 5) (by eq_refl))) (fun _ h9 => h9) rfl dX11_reaches_49 ?_
              refine lv_iload_n hx hb dX11_reaches_52 rfl (lv_at hl 3 rfl) ?_
              obtain ⟨g13, hf⟩ := fd_gds hf
              refine va_iald hx hb hK hP 3 2 fd_WM_3 fd_tyM_3 g13 dX11_reaches_53 ?_
              obtain ⟨g14, hf⟩ := fd_gds hf
              refine va_zald hx hb hK hP 11 10 fd_WM_11 fd_tyM_11 g14 dX11_reaches_54 ?_
              refine lv_if_eq (tgt := 62) hx hb dX11_reaches_55 (by decide) (fun c15 => ?_) (fun c15 => ?_)
              · have hf := fd_itp c15 hf
                exact hL62 (f_X11_reaches_0_L2 N n) ih y1 y2 y3 y3 σ _ _ _ hP hS (lv_sub hl [0, 1, 2, 3] rfl) hf
              · have hf := fd_itn c15 hf
                exact hL58 (f_X11_reaches_0_L2 N n) ih y1 y2 y3 y3 σ _ _ _ hP hS (lv_sub hl [0, 1, 2, 3] rfl) hf
  unfold f_X11_reaches_0 at hf
  refine lv_iconst (v := (0 : Int32)) hx hb dX11_reaches_0 (by decide) ?_
  refine lv_istore_n (lv' := [(3, .int (0 : Int32)), (0, .ref (a 0)), (1, .int p1), (2, .int p2)]) hx hb dX11_reaches_1 rfl hl (by decide) rfl (fun ls hl => ?_)
  exact hL2 N p1 p2 (0 : Int32) σ _ _ _ hP hS (lv_sub hl [1, 2, 3, 0] rfl) hf
noncomputable def f_X11_near_0_J153 (N : Nat) (y1 : Int32) (y2 : Int32) (y4 : Int32) (z1 : Int32) (σ : fd_St) : Option (Int32 × fd_St) := fd_lt (fd_sI 0 z1 σ) (fun σ16 => if (σ16.1 0) ≤ 0 then (fd_bd (f_X11_changed_0 N σ16) (fun _ σ20 => if y4 = (-1 : Int32) then (fd_gd (vp_in (σ20.1 5) 40) (fd_lt (fd_sA 7 (σ20.1 5) y1 σ20) (fun σ25 => fd_gd (vp_in (σ25.1 5) 40) (fd_lt (fd_sA 8 (σ25.1 5) y2 σ25) (fun σ27 => fd_lt (fd_sI 5 ((σ27.1 5) + (1 : Int32)) σ27) (fun σ28 => some ((σ28.1 5) - (1 : Int32), σ28))))))) else (some (y4, σ20)))) else (some ((0 : Int32), σ16)))
noncomputable def f_X11_near_0_J148 (N : Nat) (y1 : Int32) (y2 : Int32) (y4 : Int32) (σ : fd_St) : Option (Int32 × fd_St) := f_X11_near_0_J153 N y1 y2 y4 (3 : Int32) σ
noncomputable def f_X11_near_0_J130 (N : Nat) (y1 : Int32) (y2 : Int32) (y4 : Int32) (σ : fd_St) : Option (Int32 × fd_St) := fd_bd (f_X11_reaches_0 N y1 y2 σ) (fun v11 σ12 => if v11 = 0 then (fd_bd (f_X11_reaches_0 N y2 y1 σ12) (fun v30 σ31 => if v30 = 0 then (f_X11_near_0_J153 N y1 y2 y4 (0 : Int32) σ31) else (f_X11_near_0_J148 N y1 y2 y4 σ31))) else (f_X11_near_0_J148 N y1 y2 y4 σ12))
noncomputable def f_X11_near_0_J94 (N : Nat) (k34 : Int32 → Int32 → Int32 → Int32 → Int32 → fd_St → Option (Int32 × fd_St)) (y1 : Int32) (y2 : Int32) (y3 : Int32) (y5 : Int32) (z0 : Int32) (σ : fd_St) : Option (Int32 × fd_St) := fd_lt (y5 + (1 : Int32)) (fun x40 => k34 y1 y2 y3 z0 x40 σ)
noncomputable def f_X11_near_0_J92 (N : Nat) (k34 : Int32 → Int32 → Int32 → Int32 → Int32 → fd_St → Option (Int32 × fd_St)) (y1 : Int32) (y2 : Int32) (y3 : Int32) (y4 : Int32) (y5 : Int32) (σ : fd_St) : Option (Int32 × fd_St) := f_X11_near_0_J94 N k34 y1 y2 y3 y5 y4 σ
noncomputable def f_X11_near_0_J87 (N : Nat) (k34 : Int32 → Int32 → Int32 → Int32 → Int32 → fd_St → Option (Int32 × fd_St)) (y1 : Int32) (y2 : Int32) (y3 : Int32) (y5 : Int32) (σ : fd_St) : Option (Int32 × fd_St) := f_X11_near_0_J94 N k34 y1 y2 y3 y5 y5 σ
noncomputable def f_X11_near_0_J65 (N : Nat) (k34 : Int32 → Int32 → Int32 → Int32 → Int32 → fd_St → Option (Int32 × fd_St)) (y1 : Int32) (y2 : Int32) (y3 : Int32) (y4 : Int32) (y5 : Int32) (σ : fd_St) : Option (Int32 × fd_St) := fd_gd (vp_in y5 40) (if (σ.2.1 7 y5.toNatClampNeg) = y2 then (fd_gd (vp_in y5 40) (if (σ.2.1 8 y5.toNatClampNeg) = y1 then (f_X11_near_0_J87 N k34 y1 y2 y3 y5 σ) else (f_X11_near_0_J92 N k34 y1 y2 y3 y4 y5 σ))) else (f_X11_near_0_J92 N k34 y1 y2 y3 y4 y5 σ))
noncomputable def f_X11_near_0_L34 (N : Nat) : Nat → Int32 → Int32 → Int32 → Int32 → Int32 → fd_St → Option (Int32 × fd_St)
  | 0 => fun _ _ _ _ _ _ => none
  | n + 1 => fun y1 y2 y3 y4 y5 σ => if (σ.1 5) ≤ y5 then (if y3 = 0 then (f_X11_near_0_J153 N y1 y2 y4 (1 : Int32) σ) else (if y4 = (-1 : Int32) then (if (σ.1 5) = (40 : Int32) then (f_X11_near_0_J153 N y1 y2 y4 (2 : Int32) σ) else (f_X11_near_0_J130 N y1 y2 y4 σ)) else (f_X11_near_0_J130 N y1 y2 y4 σ))) else (fd_gd (vp_in y5 40) (if (σ.2.1 7 y5.toNatClampNeg) = y1 then (fd_gd (vp_in y5 40) (if (σ.2.1 8 y5.toNatClampNeg) = y2 then (f_X11_near_0_J87 N (f_X11_near_0_L34 N n) y1 y2 y3 y5 σ) else (f_X11_near_0_J65 N (f_X11_near_0_L34 N n) y1 y2 y3 y4 y5 σ))) else (f_X11_near_0_J65 N (f_X11_near_0_L34 N n) y1 y2 y3 y4 y5 σ)))
noncomputable def f_X11_near_0_J27 (N : Nat) (y1 : Int32) (y2 : Int32) (z0 : Int32) (σ : fd_St) : Option (Int32 × fd_St) := f_X11_near_0_L34 N N y1 y2 z0 (-1 : Int32) (0 : Int32) σ
noncomputable def f_X11_near_0_J26 (N : Nat) (y1 : Int32) (y2 : Int32) (σ : fd_St) : Option (Int32 × fd_St) := f_X11_near_0_J27 N y1 y2 (0 : Int32) σ
noncomputable def f_X11_near_0 (N : Nat) (p1 : Int32) (p2 : Int32) (σ : fd_St) : Option (Int32 × fd_St) := fd_bd (f_X11_isIn N p1 (σ.1 1) σ) (fun v2 σ3 => if v2 = 0 then (f_X11_near_0_J26 N p1 p2 σ3) else (fd_bd (f_X11_isIn N p2 (σ3.1 1) σ3) (fun v46 σ47 => if v46 = 0 then (f_X11_near_0_J26 N p1 p2 σ47) else (f_X11_near_0_J27 N p1 p2 (1 : Int32) σ47))))
set_option maxHeartbeats 4000000 in
set_option maxRecDepth 100000 in
theorem m_X11_near_0 (l : Launch) (D : va_G) (a : Nat → Nat) (k : Nat → ClassId) (sz : Nat) (hI : fd_I 29 a) (N : Nat) (p1 : Int32) (p2 : Int32) (σ : fd_St) (r : Int32 × fd_St) (hf : f_X11_near_0 N p1 p2 σ = some r) : Met l yX11_near wsX11_near ({ frames := 1, cells := 0, slots := 0, locals := 23 }) (va_Pc [.ref (a 0), .int p1, .int p2] (fd_PM D a k sz σ)) (va_Qi (fun v u => (v, u) = r) (fd_BM D a k) (fd_A 29 a sz)) 0 0 (fd_A 29 a sz) := by
  refine Met.ofW (cc := cX11_near) (maxL := 6) (ret := (some .int)) (by decide) rfl ?_
  intro p e s m args below meth c s₁ B hml hv
  obtain ⟨rfl, hsz, hP, hK⟩ := hv
  have hx := B.exec
  have hb := B.bytes
  have hr := B.returns
  have hts := atoms_spec (ws := wsX11_near) B.pre
  have hown : s.vm.findClass RX11 = some m.cls := findClass_of_methodNamed B.named
  have hlocks := B.notSynchronized
  subst hsz
  have hJ : ∀ i, i < 29 → fd_A 29 a s.heap.size (a i) := fun i hi => Or.inl ⟨i, hi, rfl⟩
  have hS : va_S (fd_A 29 a s.heap.size) s.heap s.heap [] := va_S.rf
  have hl := lv_entry ([.ref (a 0), .int p1, .int p2]) (n := 6) (Nat.le_of_ble_eq_true rfl)
  rw [lg_entry_eq]
  generalize (lg_sl ([.ref (a 0), .int p1, .int p2]) ++ List.replicate (6 - (lg_sl ([.ref (a 0), .int p1, .int p2])).length) Slot.unset).toArray = ls at hl ⊢
  have hl : lv_has ls 6 [(0, .ref (a 0)), (1, .int p1), (2, .int p2)] := hl
  have h9X11 : ∀ w ∈ u_ws RX11 TX11 43, w ∈ wsX11_near := fd_su [24, 25, 26, 27, 28, 29, 30, 31, 32, 33, 34, 35, 36, 37, 38, 39, 40, 41, 42, 43, 44, 45, 46, 47, 48, 49, 50, 51, 52, 53, 54, 55, 56, 57, 58, 59, 60, 61, 62, 63, 64, 65, 66] (by eq_refl)
  have hL153 : ∀ (y1 : Int32) (y2 : Int32) (y4 : Int32) (z1 : Int32) (σ : fd_St) (H : Heap) (locs : List Loc) (ls : Array Slot), va_P D vwCl (fd_WM a k σ) H → va_S (fd_A 29 a s.heap.size) s.heap H locs → lv_has ls 6 [(0, .ref (a 0)), (1, .int y1), (2, .int y2), (4, .int y4)] → f_X11_near_0_J153 N y1 y2 y4 z1 σ = some r → W p l e ((headSpec wsX11_near ({ frames := 1, cells := 0, slots := 0, locals := 23 })).room) s m ([.ref (a 0), .int p1, .int p2].toArray) below meth c H locs 0 0 (MQ below (va_Qi (fun v u => (v, u) = r) (fd_BM D a k) (fd_A 29 a s.heap.size)) ([.ref (a 0), .int p1, .int p2].toArray) s 0 0 (fd_A 29 a s.heap.size)) (F0 m 153 ls [.int z1, .ref (a 0)]) := by
    intro y1 y2 y4 z1 σ H locs ls hP hS hl hf
    unfold f_X11_near_0_J153 at hf
    obtain ⟨σ16, eσ16, hf⟩ := fd_lts hf
    refine va_put (ci := 11) (v := .int z1) (ty := .int) (C := RX11) (T := TX11) (N := 43) hx hb hts h9X11 tyX11 tyX11_ok nmX11 hown hK hP (fd_DM hI hJ) hS 0 fd_WM_0 rfl 0 (by decide) (hts (.fieldLink RX11 99 "FailDiagnoseModel" "thrown" "I") (List.mem_of_getElem? (i := 5) (by eq_refl))) (fun _ h9 => h9) rfl (by decide +kernel) rfl rfl (Nat.le_of_ble_eq_true rfl) dX11_near_153 (fun H locs hP _ hS => ?_)
    have hP : va_P D vwCl (fd_WM a k σ16) H := by rw [eσ16]; exact fd_sP fd_WMi_0 hP
    refine lv_aload_n hx hb dX11_near_156 rfl (lv_at hl 0 rfl) ?_
    refine va_get (ci := 11) (v := .int (σ16.1 0)) (C := RX11) (T := TX11) (N := 43) hx hb hts h9X11 hown hK hP 0 fd_WM_0 rfl 0 (by decide) (hts (.fieldLink RX11 99 "FailDiagnoseModel" "thrown" "I") (List.mem_of_getElem? (i := 5) (by eq_refl))) (fun _ h9 => h9) rfl dX11_near_157 ?_
    refine lv_if_le (tgt := 165) hx hb dX11_near_160 (by decide) (fun c17 => ?_) (fun c17 => ?_)
    · have hf := fd_itp c17 hf
      refine lv_aload_n hx hb dX11_near_165 rfl (lv_at hl 0 rfl) ?_
      obtain ⟨w21, τ22, hc18, hf⟩ := fd_bds hf
      refine va_callv (va_runV (As := []) (rest := []) ⟨hx, hb, hml, hown, hts⟩ (m_X11_changed_0 l D a k H.size hI N σ16 _ hc18) (cwV 0 hts gX11_near_X11_changed rfl rfl rfl (by decide +kernel) ⟨Nat.le_of_ble_eq_true rfl, Nat.le_of_ble_eq_true rfl⟩) ⟨fd_blM, va_recv hK hP (ci := 11) (q0 := 0) rfl fd_WM_0, fd_prM hP hK⟩ rfl rfl hl.1 rfl (lv_room (Nat.le_of_ble_eq_true rfl)) dX11_near_166 ⟨Nat.zero_le _, Nat.zero_le _⟩) hS (fun q _ h => fd_A_mono hS.1 h) (fun q h => fd_A_mono hS.1 h) (fun u t H1 locs ht hvm hw hB hz hk hS => ?_)
      obtain ⟨hP1, hK1⟩ := hB
      rw [ht] at hP1
      have e2 := (Prod.mk.inj hw).2
      subst e2
      obtain ⟨σ20, rfl⟩ : ∃ z, z = u := ⟨_, rfl⟩
      have hP := hP1
      generalize H1 = H at hP hS ⊢
      refine lv_iload hx hb dX11_near_169 (lv_at hl 3 rfl) ?_
      refine lv_iconst (v := (-1 : Int32)) hx hb dX11_near_171 (by decide) ?_
      refine lv_icmp_eq (tgt := 178) hx hb dX11_near_172 (by decide) (fun c23 => ?_) (fun c23 => ?_)
      · have hf := fd_itp c23 hf
        refine lv_aload_n hx hb dX11_near_178 rfl (lv_at hl 0 rfl) ?_
        refine va_get (ci := 11) (v := .ref (a 7)) (C := RX11) (T := TX11) (N := 43) hx hb hts h9X11 hown hK hP 0 fd_WM_0 rfl 12 (by decide) (hts (.fieldLink RX11 29 "FailDiagnoseModel" "pairA" "[I") (List.mem_of_getElem? (i := 3) (by eq_refl))) (fun _ h9 => h9) rfl dX11_near_179 ?_
        refine lv_aload_n hx hb dX11_near_182 rfl (lv_at hl 0 rfl) ?_
        refine va_get (ci := 11) (v := .int (σ20.1 5)) (C := RX11) (T := TX11) (N := 43) hx hb hts h9X11 hown hK hP 0 fd_WM_0 rfl 11 (by decide) (hts (.fieldLink RX11 150 "FailDiagnoseModel" "pairs" "I") (List.mem_of_getElem? (i := 2) (by eq_refl))) (fun _ h9 => h9) rfl dX11_near_183 ?_
        refine lv_iload_n hx hb dX11_near_186 rfl (lv_at hl 1 rfl) ?_
        obtain ⟨g24, hf⟩ := fd_gds hf
        obtain ⟨σ25, eσ25, hf⟩ := fd_lts hf
        refine va_iast hx hb hK hP (fd_DM hI hJ) hS 7 6 fd_WM_7 fd_tyM_7 g24 dX11_near_187 (fun H locs hP _ hS => ?_)
        have hP : va_P D vwCl (fd_WM a k σ25) H := by rw [eσ25]; exact fd_sP fd_WMa_7 hP
        refine lv_aload_n hx hb dX11_near_188 rfl (lv_at hl 0 rfl) ?_
        refine va_get (ci := 11) (v := .ref (a 8)) (C := RX11) (T := TX11) (N := 43) hx hb hts h9X11 hown hK hP 0 fd_WM_0 rfl 13 (by decide) (hts (.fieldLink RX11 32 "FailDiagnoseModel" "pairB" "[I") (List.mem_of_getElem? (i := 4) (by eq_refl))) (fun _ h9 => h9) rfl dX11_near_189 ?_
        refine lv_aload_n hx hb dX11_near_192 rfl (lv_at hl 0 rfl) ?_
        refine va_get (ci := 11) (v := .int (σ25.1 5)) (C := RX11) (T := TX11) (N := 43) hx hb hts h9X11 hown hK hP 0 fd_WM_0 rfl 11 (by decide) (hts (.fieldLink RX11 150 "FailDiagnoseModel" "pairs" "I") (List.mem_of_getElem? (i := 2) (by eq_refl))) (fun _ h9 => h9) rfl dX11_near_193 ?_
        refine lv_iload_n hx hb dX11_near_196 rfl (lv_at hl 2 rfl) ?_
        obtain ⟨g26, hf⟩ := fd_gds hf
        obtain ⟨σ27, eσ27, hf⟩ := fd_lts hf
        refine va_iast hx hb hK hP (fd_DM hI hJ) hS 8 7 fd_WM_8 fd_tyM_8 g26 dX11_near_197 (fun H locs hP _ hS => ?_)
        have hP : va_P D vwCl (fd_WM a k σ27) H := by rw [eσ27]; exact fd_sP fd_WMa_8 hP
        refine lv_aload_n hx hb dX11_near_198 rfl (lv_at hl 0 rfl) ?_
        refine lv_dup hx hb dX11_near_199 rfl ?_
        refine va_get (ci := 11) (v := .int (σ27.1 5)) (C := RX11) (T := TX11) (N := 43) hx hb hts h9X11 hown hK hP 0 fd_WM_0 rfl 11 (by decide) (hts (.fieldLink RX11 150 "FailDiagnoseModel" "pairs" "I") (List.mem_of_getElem? (i := 2) (by eq_refl))) (fun _ h9 => h9) rfl dX11_near_200 ?_
        refine lv_iconst (v := (1 : Int32)) hx hb dX11_near_203 (by decide) ?_
        refine lv_iadd hx hb dX11_near_204 ?_
        obtain ⟨σ28, eσ28, hf⟩ := fd_lts hf
        refine va_put (ci := 11) (v := .int ((σ27.1 5) + (1 : Int32))) (ty := .int) (C := RX11) (T := TX11) (N := 43) hx hb hts h9X11 tyX11 tyX11_ok nmX11 hown hK hP (fd_DM hI hJ) hS 0 fd_WM_0 rfl 11 (by decide) (hts (.fieldLink RX11 150 "FailDiagnoseModel" "pairs" "I") (List.mem_of_getElem? (i := 2) (by eq_refl))) (fun _ h9 => h9) rfl (by decide +kernel) rfl rfl (Nat.le_of_ble_eq_true rfl) dX11_near_205 (fun H locs hP _ hS => ?_)
        have hP : va_P D vwCl (fd_WM a k σ28) H := by rw [eσ28]; exact fd_sP fd_WMi_5 hP
        refine lv_aload_n hx hb dX11_near_208 rfl (lv_at hl 0 rfl) ?_
        refine va_get (ci := 11) (v := .int (σ28.1 5)) (C := RX11) (T := TX11) (N := 43) hx hb hts h9X11 hown hK hP 0 fd_WM_0 rfl 11 (by decide) (hts (.fieldLink RX11 150 "FailDiagnoseModel" "pairs" "I") (List.mem_of_getElem? (i := 2) (by eq_refl))) (fun _ h9 => h9) rfl dX11_near_209 ?_
        refine lv_iconst (v := (1 : Int32)) hx hb dX11_near_212 (by decide) ?_
        refine lv_isub hx hb dX11_near_213 ?_
        exact W.iret (v := ((σ28.1 5) - (1 : Int32))) hx hb hr (fun t ht hW => ⟨⟨(σ28.1 5) - (1 : Int32), σ28, rfl, Option.some.inj hf, by rw [ht]; exact hP, va_K.moved hW.alike hK⟩, hS.F ht⟩) hS.2.2 dX11_near_214
      · have hf := fd_itn c23 hf
        refine lv_iload hx hb dX11_near_175 (lv_at hl 3 rfl) ?_
        exact W.iret (v := y4) hx hb hr (fun t ht hW => ⟨⟨y4, σ20, rfl, Option.some.inj hf, by rw [ht]; exact hP, va_K.moved hW.alike hK⟩, hS.F ht⟩) hS.2.2 dX11_near_177
    · have hf := fd_itn c17 hf
      refine lv_iconst (v := (0 : Int32)) hx hb dX11_near_163 (by decide) ?_
      exact W.iret (v := (0 : Int32)) hx hb hr (fun t ht hW => ⟨⟨(0 : Int32), σ16, rfl, Option.some.inj hf, by rw [ht]; exact hP, va_K.moved hW.alike hK⟩, hS.F ht⟩) hS.2.2 dX11_near_164
  have hL148 : ∀ (y1 : Int32) (y2 : Int32) (y4 : Int32) (σ : fd_St) (H : Heap) (locs : List Loc) (ls : Array Slot), va_P D vwCl (fd_WM a k σ) H → va_S (fd_A 29 a s.heap.size) s.heap H locs → lv_has ls 6 [(0, .ref (a 0)), (1, .int y1), (2, .int y2), (4, .int y4)] → f_X11_near_0_J148 N y1 y2 y4 σ = some r → W p l e ((headSpec wsX11_near ({ frames := 1, cells := 0, slots := 0, locals := 23 })).room) s m ([.ref (a 0), .int p1, .int p2].toArray) below meth c H locs 0 0 (MQ below (va_Qi (fun v u => (v, u) = r) (fd_BM D a k) (fd_A 29 a s.heap.size)) ([.ref (a 0), .int p1, .int p2].toArray) s 0 0 (fd_A 29 a s.heap.size)) (F0 m 148 ls [.ref (a 0)]) := by
    intro y1 y2 y4 σ H locs ls hP hS hl hf
    unfold f_X11_near_0_J148 at hf
    refine lv_iconst (v := (3 : Int32)) hx hb dX11_near_148 (by decide) ?_
    refine lv_goto (tgt := 153) hx hb dX11_near_149 (by decide) ?_
    exact hL153 y1 y2 y4 (3 : Int32) σ _ _ _ hP hS (lv_sub hl [0, 1, 2, 3] rfl) hf
  have hL130 : ∀ (y1 : Int32) (y2 : Int32) (y4 : Int32) (σ : fd_St) (H : Heap) (locs : List Loc) (ls : Array Slot), va_P D vwCl (fd_WM a k σ) H → va_S (fd_A 29 a s.heap.size) s.heap H locs → lv_has ls 6 [(0, .ref (a 0)), (1, .int y1), (2, .int y2), (4, .int y4)] → f_X11_near_0_J130 N y1 y2 y4 σ = some r → W p l e ((headSpec wsX11_near ({ frames := 1, cells := 0, slots := 0, locals := 23 })).room) s m ([.ref (a 0), .int p1, .int p2].toArray) below meth c H locs 0 0 (MQ below (va_Qi (fun v u => (v, u) = r) (fd_BM D a k) (fd_A 29 a s.heap.size)) ([.ref (a 0), .int p1, .int p2].toArray) s 0 0 (fd_A 29 a s.heap.size)) (F0 m 130 ls [.ref (a 0)]) := by
    intro y1 y2 y4 σ H locs ls hP hS hl hf
    unfold f_X11_near_0_J130 at hf
    refine lv_aload_n hx hb dX11_near_130 rfl (lv_at hl 0 rfl) ?_
    refine lv_iload_n hx hb dX11_near_131 rfl (lv_at hl 1 rfl) ?_
    refine lv_iload_n hx hb dX11_near_132 rfl (lv_at hl 2 rfl) ?_
    obtain ⟨w13, τ14, hc10, hf⟩ := fd_bds hf
    refine va_calli (va_runV (As := [.int y1, .int y2]) (rest := [.ref (a 0)]) ⟨hx, hb, hml, hown, hts⟩ (m_X11_reaches_0 l D a k H.size hI N y1 y2 σ _ hc10) (cwV 2 hts gX11_near_X11_reaches rfl rfl rfl (by decide +kernel) ⟨Nat.le_of_ble_eq_true rfl, Nat.le_of_ble_eq_true rfl⟩) ⟨fd_blM, va_recv hK hP (ci := 11) (q0 := 0) rfl fd_WM_0, fd_prM hP hK⟩ rfl rfl hl.1 rfl (lv_room (Nat.le_of_ble_eq_true rfl)) dX11_near_133 ⟨Nat.zero_le _, Nat.zero_le _⟩) hS (fun q _ h => fd_A_mono hS.1 h) (fun q h => fd_A_mono hS.1 h) (fun v11 u t H1 locs ht hvm hw hB hz hk hS => ?_)
    obtain ⟨hP1, hK1⟩ := hB
    rw [ht] at hP1
    obtain ⟨e1, e2⟩ := Prod.mk.inj hw
    subst e1
    subst e2
    obtain ⟨σ12, rfl⟩ : ∃ z, z = u := ⟨_, rfl⟩
    have hP := hP1
    generalize H1 = H at hP hS ⊢
    refine lv_if_ne (tgt := 148) hx hb dX11_near_136 (by decide) (fun c15 => ?_) (fun c15 => ?_)
    · have hf := fd_itn c15 hf
      exact hL148 y1 y2 y4 σ12 _ _ _ hP hS (lv_sub hl [0, 1, 2, 3] rfl) hf
    · have hf := fd_itp c15 hf
      refine lv_aload_n hx hb dX11_near_139 rfl (lv_at hl 0 rfl) ?_
      refine lv_iload_n hx hb dX11_near_140 rfl (lv_at hl 2 rfl) ?_
      refine lv_iload_n hx hb dX11_near_141 rfl (lv_at hl 1 rfl) ?_
      obtain ⟨w32, τ33, hc29, hf⟩ := fd_bds hf
      refine va_calli (va_runV (As := [.int y2, .int y1]) (rest := [.ref (a 0)]) ⟨hx, hb, hml, hown, hts⟩ (m_X11_reaches_0 l D a k H.size hI N y2 y1 σ12 _ hc29) (cwV 2 hts gX11_near_X11_reaches rfl rfl rfl (by decide +kernel) ⟨Nat.le_of_ble_eq_true rfl, Nat.le_of_ble_eq_true rfl⟩) ⟨fd_blM, va_recv hK hP (ci := 11) (q0 := 0) rfl fd_WM_0, fd_prM hP hK⟩ rfl rfl hl.1 rfl (lv_room (Nat.le_of_ble_eq_true rfl)) dX11_near_142 ⟨Nat.zero_le _, Nat.zero_le _⟩) hS (fun q _ h => fd_A_mono hS.1 h) (fun q h => fd_A_mono hS.1 h) (fun v30 u t H1 locs ht hvm hw hB hz hk hS => ?_)
      obtain ⟨hP1, hK1⟩ := hB
      rw [ht] at hP1
      obtain ⟨e1, e2⟩ := Prod.mk.inj hw
      subst e1
      subst e2
      obtain ⟨σ31, rfl⟩ : ∃ z, z = u := ⟨_, rfl⟩
      have hP := hP1
      generalize H1 = H at hP hS ⊢
      refine lv_if_eq (tgt := 152) hx hb dX11_near_145 (by decide) (fun c34 => ?_) (fun c34 => ?_)
      · have hf := fd_itp c34 hf
        refine lv_iconst (v := (0 : Int32)) hx hb dX11_near_152 (by decide) ?_
        exact hL153 y1 y2 y4 (0 : Int32) σ31 _ _ _ hP hS (lv_sub hl [0, 1, 2, 3] rfl) hf
      · have hf := fd_itn c34 hf
        exact hL148 y1 y2 y4 σ31 _ _ _ hP hS (lv_sub hl [0, 1, 2, 3] rfl) hf
  have hL94 : ∀ (k34 : Int32 → Int32 → Int32 → Int32 → Int32 → fd_St → Option (Int32 × fd_St)) (hk34 : ∀ (y1 : Int32) (y2 : Int32) (y3 : Int32) (y4 : Int32) (y5 : Int32) (σ : fd_St) (H : Heap) (locs : List Loc) (ls : Array Slot), va_P D vwCl (fd_WM a k σ) H → va_S (fd_A 29 a s.heap.size) s.heap H locs → lv_has ls 6 [(0, .ref (a 0)), (1, .int y1), (2, .int y2), (3, .int y3), (4, .int y4), (5, .int y5)] → k34 y1 y2 y3 y4 y5 σ = some r → W p l e ((headSpec wsX11_near ({ frames := 1, cells := 0, slots := 0, locals := 23 })).room) s m ([.ref (a 0), .int p1, .int p2].toArray) below meth c H locs 0 0 (MQ below (va_Qi (fun v u => (v, u) = r) (fd_BM D a k) (fd_A 29 a s.heap.size)) ([.ref (a 0), .int p1, .int p2].toArray) s 0 0 (fd_A 29 a s.heap.size)) (F0 m 34 ls [])), ∀ (y1 : Int32) (y2 : Int32) (y3 : Int32) (y5 : Int32) (z0 : Int32) (σ : fd_St) (H : Heap) (locs : List Loc) (ls : Array Slot), va_P D vwCl (fd_WM a k σ) H → va_S (fd_A 29 a s.heap.size) s.heap H locs → lv_has ls 6 [(0, .ref (a 0)), (1, .int y1), (2, .int y2), (3, .int y3), (5, .int y5)] → f_X11_near_0_J94 N k34 y1 y2 y3 y5 z0 σ = some r → W p l e ((headSpec wsX11_near ({ frames := 1, cells := 0, slots := 0, locals := 23 })).room) s m ([.ref (a 0), .int p1, .int p2].toArray) below meth c H locs 0 0 (MQ below (va_Qi (fun v u => (v, u) = r) (fd_BM D a k) (fd_A 29 a s.heap.size)) ([.ref (a 0), .int p1, .int p2].toArray) s 0 0 (fd_A 29 a s.heap.size)) (F0 m 94 ls [.int z0]) := by
    intro k34 hk34 y1 y2 y3 y5 z0 σ H locs ls hP hS hl hf
    unfold f_X11_near_0_J94 at hf
    refine lv_istore (lv' := [(4, .int z0), (0, .ref (a 0)), (1, .int y1), (2, .int y2), (3, .int y3), (5, .int y5)]) hx hb dX11_near_94 hl (by decide) rfl (fun ls hl => ?_)
    obtain ⟨x40, ex40, hf⟩ := fd_lts hf
    refine lv_iinc (v := x40) (lv' := [(5, .int x40), (4, .int z0), (0, .ref (a 0)), (1, .int y1), (2, .int y2), (3, .int y3)]) hx hb dX11_near_96 hl (k := 5) rfl (by rw [ex40]; rfl) (by decide) rfl (fun ls hl => ?_)
    refine lv_goto (tgt := 34) hx hb dX11_near_99 (by decide) ?_
    exact hk34 y1 y2 y3 z0 x40 σ _ _ _ hP hS (lv_sub hl [2, 3, 4, 5, 1, 0] rfl) hf
  have hL92 : ∀ (k34 : Int32 → Int32 → Int32 → Int32 → Int32 → fd_St → Option (Int32 × fd_St)) (hk34 : ∀ (y1 : Int32) (y2 : Int32) (y3 : Int32) (y4 : Int32) (y5 : Int32) (σ : fd_St) (H : Heap) (locs : List Loc) (ls : Array Slot), va_P D vwCl (fd_WM a k σ) H → va_S (fd_A 29 a s.heap.size) s.heap H locs → lv_has ls 6 [(0, .ref (a 0)), (1, .int y1), (2, .int y2), (3, .int y3), (4, .int y4), (5, .int y5)] → k34 y1 y2 y3 y4 y5 σ = some r → W p l e ((headSpec wsX11_near ({ frames := 1, cells := 0, slots := 0, locals := 23 })).room) s m ([.ref (a 0), .int p1, .int p2].toArray) below meth c H locs 0 0 (MQ below (va_Qi (fun v u => (v, u) = r) (fd_BM D a k) (fd_A 29 a s.heap.size)) ([.ref (a 0), .int p1, .int p2].toArray) s 0 0 (fd_A 29 a s.heap.size)) (F0 m 34 ls [])), ∀ (y1 : Int32) (y2 : Int32) (y3 : Int32) (y4 : Int32) (y5 : Int32) (σ : fd_St) (H : Heap) (locs : List Loc) (ls : Array Slot), va_P D vwCl (fd_WM a k σ) H → va_S (fd_A 29 a s.heap.size) s.heap H locs → lv_has ls 6 [(0, .ref (a 0)), (1, .int y1), (2, .int y2), (3, .int y3), (4, .int y4), (5, .int y5)] → f_X11_near_0_J92 N k34 y1 y2 y3 y4 y5 σ = some r → W p l e ((headSpec wsX11_near ({ frames := 1, cells := 0, slots := 0, locals := 23 })).room) s m ([.ref (a 0), .int p1, .int p2].toArray) below meth c H locs 0 0 (MQ below (va_Qi (fun v u => (v, u) = r) (fd_BM D a k) (fd_A 29 a s.heap.size)) ([.ref (a 0), .int p1, .int p2].toArray) s 0 0 (fd_A 29 a s.heap.size)) (F0 m 92 ls []) := by
    intro k34 hk34 y1 y2 y3 y4 y5 σ H locs ls hP hS hl hf
    unfold f_X11_near_0_J92 at hf
    refine lv_iload hx hb dX11_near_92 (lv_at hl 4 rfl) ?_
    exact hL94 k34 hk34 y1 y2 y3 y5 y4 σ _ _ _ hP hS (lv_sub hl [0, 1, 2, 3, 5] rfl) hf
  have hL87 : ∀ (k34 : Int32 → Int32 → Int32 → Int32 → Int32 → fd_St → Option (Int32 × fd_St)) (hk34 : ∀ (y1 : Int32) (y2 : Int32) (y3 : Int32) (y4 : Int32) (y5 : Int32) (σ : fd_St) (H : Heap) (locs : List Loc) (ls : Array Slot), va_P D vwCl (fd_WM a k σ) H → va_S (fd_A 29 a s.heap.size) s.heap H locs → lv_has ls 6 [(0, .ref (a 0)), (1, .int y1), (2, .int y2), (3, .int y3), (4, .int y4), (5, .int y5)] → k34 y1 y2 y3 y4 y5 σ = some r → W p l e ((headSpec wsX11_near ({ frames := 1, cells := 0, slots := 0, locals := 23 })).room) s m ([.ref (a 0), .int p1, .int p2].toArray) below meth c H locs 0 0 (MQ below (va_Qi (fun v u => (v, u) = r) (fd_BM D a k) (fd_A 29 a s.heap.size)) ([.ref (a 0), .int p1, .int p2].toArray) s 0 0 (fd_A 29 a s.heap.size)) (F0 m 34 ls [])), ∀ (y1 : Int32) (y2 : Int32) (y3 : Int32) (y5 : Int32) (σ : fd_St) (H : Heap) (locs : List Loc) (ls : Array Slot), va_P D vwCl (fd_WM a k σ) H → va_S (fd_A 29 a s.heap.size) s.heap H locs → lv_has ls 6 [(0, .ref (a 0)), (1, .int y1), (2, .int y2), (3, .int y3), (5, .int y5)] → f_X11_near_0_J87 N k34 y1 y2 y3 y5 σ = some r → W p l e ((headSpec wsX11_near ({ frames := 1, cells := 0, slots := 0, locals := 23 })).room) s m ([.ref (a 0), .int p1, .int p2].toArray) below meth c H locs 0 0 (MQ below (va_Qi (fun v u => (v, u) = r) (fd_BM D a k) (fd_A 29 a s.heap.size)) ([.ref (a 0), .int p1, .int p2].toArray) s 0 0 (fd_A 29 a s.heap.size)) (F0 m 87 ls []) := by
    intro k34 hk34 y1 y2 y3 y5 σ H locs ls hP hS hl hf
    unfold f_X11_near_0_J87 at hf
    refine lv_iload hx hb dX11_near_87 (lv_at hl 4 rfl) ?_
    refine lv_goto (tgt := 94) hx hb dX11_near_89 (by decide) ?_
    exact hL94 k34 hk34 y1 y2 y3 y5 y5 σ _ _ _ hP hS (lv_sub hl [0, 1, 2, 3, 4] rfl) hf
  have hL65 : ∀ (k34 : Int32 → Int32 → Int32 → Int32 → Int32 → fd_St → Option (Int32 × fd_St)) (hk34 : ∀ (y1 : Int32) (y2 : Int32) (y3 : Int32) (y4 : Int32) (y5 : Int32) (σ : fd_St) (H : Heap) (locs : List Loc) (ls : Array Slot), va_P D vwCl (fd_WM a k σ) H → va_S (fd_A 29 a s.heap.size) s.heap H locs → lv_has ls 6 [(0, .ref (a 0)), (1, .int y1), (2, .int y2), (3, .int y3), (4, .int y4), (5, .int y5)] → k34 y1 y2 y3 y4 y5 σ = some r → W p l e ((headSpec wsX11_near ({ frames := 1, cells := 0, slots := 0, locals := 23 })).room) s m ([.ref (a 0), .int p1, .int p2].toArray) below meth c H locs 0 0 (MQ below (va_Qi (fun v u => (v, u) = r) (fd_BM D a k) (fd_A 29 a s.heap.size)) ([.ref (a 0), .int p1, .int p2].toArray) s 0 0 (fd_A 29 a s.heap.size)) (F0 m 34 ls [])), ∀ (y1 : Int32) (y2 : Int32) (y3 : Int32) (y4 : Int32) (y5 : Int32) (σ : fd_St) (H : Heap) (locs : List Loc) (ls : Array Slot), va_P D vwCl (fd_WM a k σ) H → va_S (fd_A 29 a s.heap.size) s.heap H locs → lv_has ls 6 [(0, .ref (a 0)), (1, .int y1), (2, .int y2), (3, .int y3), (4, .int y4), (5, .int y5)] → f_X11_near_0_J65 N k34 y1 y2 y3 y4 y5 σ = some r → W p l e ((headSpec wsX11_near ({ frames := 1, cells := 0, slots := 0, locals := 23 })).room) s m ([.ref (a 0), .int p1, .int p2].toArray) below meth c H locs 0 0 (MQ below (va_Qi (fun v u => (v, u) = r) (fd_BM D a k) (fd_A 29 a s.heap.size)) ([.ref (a 0), .int p1, .int p2].toArray) s 0 0 (fd_A 29 a s.heap.size)) (F0 m 65 ls []) := by
    intro k34 hk34 y1 y2 y3 y4 y5 σ H locs ls hP hS hl hf
    unfold f_X11_near_0_J65 at hf
    refine lv_aload_n hx hb dX11_near_65 rfl (lv_at hl 0 rfl) ?_
    refine va_get (ci := 11) (v := .ref (a 7)) (C := RX11) (T := TX11) (N := 43) hx hb hts h9X11 hown hK hP 0 fd_WM_0 rfl 12 (by decide) (hts (.fieldLink RX11 29 "FailDiagnoseModel" "pairA" "[I") (List.mem_of_getElem? (i := 3) (by eq_refl))) (fun _ h9 => h9) rfl dX11_near_66 ?_
    refine lv_iload hx hb dX11_near_69 (lv_at hl 5 rfl) ?_
    obtain ⟨g38, hf⟩ := fd_gds hf
    refine va_iald hx hb hK hP 7 6 fd_WM_7 fd_tyM_7 g38 dX11_near_71 ?_
    refine lv_iload_n hx hb dX11_near_72 rfl (lv_at hl 2 rfl) ?_
    refine lv_icmp_ne (tgt := 92) hx hb dX11_near_73 (by decide) (fun c39 => ?_) (fun c39 => ?_)
    · have hf := fd_itn c39 hf
      exact hL92 k34 hk34 y1 y2 y3 y4 y5 σ _ _ _ hP hS (lv_sub hl [0, 1, 2, 3, 4, 5] rfl) hf
    · have hf := fd_itp c39 hf
      refine lv_aload_n hx hb dX11_near_76 rfl (lv_at hl 0 rfl) ?_
      refine va_get (ci := 11) (v := .ref (a 8)) (C := RX11) (T := TX11) (N := 43) hx hb hts h9X11 hown hK hP 0 fd_WM_0 rfl 13 (by decide) (hts (.fieldLink RX11 32 "FailDiagnoseModel" "pairB" "[I") (List.mem_of_getElem? (i := 4) (by eq_refl))) (fun _ h9 => h9) rfl dX11_near_77 ?_
      refine lv_iload hx hb dX11_near_80 (lv_at hl 5 rfl) ?_
      obtain ⟨g41, hf⟩ := fd_gds hf
      refine va_iald hx hb hK hP 8 7 fd_WM_8 fd_tyM_8 g41 dX11_near_82 ?_
      refine lv_iload_n hx hb dX11_near_83 rfl (lv_at hl 1 rfl) ?_
      refine lv_icmp_ne (tgt := 92) hx hb dX11_near_84 (by decide) (fun c42 => ?_) (fun c42 => ?_)
      · have hf := fd_itn c42 hf
        exact hL92 k34 hk34 y1 y2 y3 y4 y5 σ _ _ _ hP hS (lv_sub hl [0, 1, 2, 3, 4, 5] rfl) hf
      · have hf := fd_itp c42 hf
        exact hL87 k34 hk34 y1 y2 y3 y5 σ _ _ _ hP hS (lv_sub hl [0, 1, 2, 3, 5] rfl) hf
  have hL34 : ∀ (n : Nat), ∀ (y1 : Int32) (y2 : Int32) (y3 : Int32) (y4 : Int32) (y5 : Int32) (σ : fd_St) (H : Heap) (locs : List Loc) (ls : Array Slot), va_P D vwCl (fd_WM a k σ) H → va_S (fd_A 29 a s.heap.size) s.heap H locs → lv_has ls 6 [(0, .ref (a 0)), (1, .int y1), (2, .int y2), (3, .int y3), (4, .int y4), (5, .int y5)] → f_X11_near_0_L34 N n y1 y2 y3 y4 y5 σ = some r → W p l e ((headSpec wsX11_near ({ frames := 1, cells := 0, slots := 0, locals := 23 })).room) s m ([.ref (a 0), .int p1, .int p2].toArray) below meth c H locs 0 0 (MQ below (va_Qi (fun v u => (v, u) = r) (fd_BM D a k) (fd_A 29 a s.heap.size)) ([.ref (a 0), .int p1, .int p2].toArray) s 0 0 (fd_A 29 a s.heap.size)) (F0 m 34 ls []) := by
    intro n
    induction n with
    | zero =>
      intro _ _ _ _ _ _ _ _ _ _ _ _ hf
      cases hf
    | succ n ih =>
      intro y1 y2 y3 y4 y5 σ H locs ls hP hS hl hf
      unfold f_X11_near_0_L34 at hf
      refine lv_iload hx hb dX11_near_34 (lv_at hl 5 rfl) ?_
      refine lv_aload_n hx hb dX11_near_36 rfl (lv_at hl 0 rfl) ?_
      refine va_get (ci := 11) (v := .int (σ.1 5)) (C := RX11) (T := TX11) (N := 43) hx hb hts h9X11 hown hK hP 0 fd_WM_0 rfl 11 (by decide) (hts (.fieldLink RX11 150 "FailDiagnoseModel" "pairs" "I") (List.mem_of_getElem? (i := 2) (by eq_refl))) (fun _ h9 => h9) rfl dX11_near_37 ?_
      refine lv_icmp_ge (tgt := 102) hx hb dX11_near_40 (by decide) (fun c7 => ?_) (fun c7 => ?_)
      · have hf := fd_itp c7 hf
        refine lv_aload_n hx hb dX11_near_102 rfl (lv_at hl 0 rfl) ?_
        refine lv_iload_n hx hb dX11_near_103 rfl (lv_at hl 3 rfl) ?_
        refine lv_if_ne (tgt := 111) hx hb dX11_near_104 (by decide) (fun c8 => ?_) (fun c8 => ?_)
        · have hf := fd_itn c8 hf
          refine lv_iload hx hb dX11_near_111 (lv_at hl 4 rfl) ?_
          refine lv_iconst (v := (-1 : Int32)) hx hb dX11_near_113 (by decide) ?_
          refine lv_icmp_ne (tgt := 130) hx hb dX11_near_114 (by decide) (fun c9 => ?_) (fun c9 => ?_)
          · have hf := fd_itn c9 hf
            exact hL130 y1 y2 y4 σ _ _ _ hP hS (lv_sub hl [0, 1, 2, 4] rfl) hf
          · have hf := fd_itp c9 hf
            refine lv_aload_n hx hb dX11_near_117 rfl (lv_at hl 0 rfl) ?_
            refine va_get (ci := 11) (v := .int (σ.1 5)) (C := RX11) (T := TX11) (N := 43) hx hb hts h9X11 hown hK hP 0 fd_WM_0 rfl 11 (by decide) (hts (.fieldLink RX11 150 "FailDiagnoseModel" "pairs" "I") (List.mem_of_getElem? (i := 2) (by eq_refl))) (fun _ h9 => h9) rfl dX11_near_118 ?_
            refine lv_bipush (v := (40 : Int32)) hx hb dX11_near_121 (by decide) ?_
            refine lv_icmp_ne (tgt := 130) hx hb dX11_near_123 (by decide) (fun c35 => ?_) (fun c35 => ?_)
            · have hf := fd_itn c35 hf
              exact hL130 y1 y2 y4 σ _ _ _ hP hS (lv_sub hl [0, 1, 2, 4] rfl) hf
            · have hf := fd_itp c35 hf
              refine lv_iconst (v := (2 : Int32)) hx hb dX11_near_126 (by decide) ?_
              refine lv_goto (tgt := 153) hx hb dX11_near_127 (by decide) ?_
              exact hL153 y1 y2 y4 (2 : Int32) σ _ _ _ hP hS (lv_sub hl [0, 1, 2, 4] rfl) hf
        · have hf := fd_itp c8 hf
          refine lv_iconst (v := (1 : Int32)) hx hb dX11_near_107 (by decide) ?_
          refine lv_goto (tgt := 153) hx hb dX11_near_108 (by decide) ?_
          exact hL153 y1 y2 y4 (1 : Int32) σ _ _ _ hP hS (lv_sub hl [0, 1, 2, 4] rfl) hf
      · have hf := fd_itn c7 hf
        refine lv_aload_n hx hb dX11_near_43 rfl (lv_at hl 0 rfl) ?_
        refine va_get (ci := 11) (v := .ref (a 7)) (C := RX11) (T := TX11) (N := 43) hx hb hts h9X11 hown hK hP 0 fd_WM_0 rfl 12 (by decide) (hts (.fieldLink RX11 29 "FailDiagnoseModel" "pairA" "[I") (List.mem_of_getElem? (i := 3) (by eq_refl))) (fun _ h9 => h9) rfl dX11_near_44 ?_
        refine lv_iload hx hb dX11_near_47 (lv_at hl 5 rfl) ?_
        obtain ⟨g36, hf⟩ := fd_gds hf
        refine va_iald hx hb hK hP 7 6 fd_WM_7 fd_tyM_7 g36 dX11_near_49 ?_
        refine lv_iload_n hx hb dX11_near_50 rfl (lv_at hl 1 rfl) ?_
        refine lv_icmp_ne (tgt := 65) hx hb dX11_near_51 (by decide) (fun c37 => ?_) (fun c37 => ?_)
        · have hf := fd_itn c37 hf
          exact hL65 (f_X11_near_0_L34 N n) ih y1 y2 y3 y4 y5 σ _ _ _ hP hS (lv_sub hl [0, 1, 2, 3, 4, 5] rfl) hf
        · have hf := fd_itp c37 hf
          refine lv_aload_n hx hb dX11_near_54 rfl (lv_at hl 0 rfl) ?_
          refine va_get (ci := 11) (v := .ref (a 8)) (C := RX11) (T := TX11) (N := 43) hx hb hts h9X11 hown hK hP 0 fd_WM_0 rfl 13 (by decide) (hts (.fieldLink RX11 32 "FailDiagnoseModel" "pairB" "[I") (List.mem_of_getElem? (i := 4) (by eq_refl))) (fun _ h9 => h9) rfl dX11_near_55 ?_
          refine lv_iload hx hb dX11_near_58 (lv_at hl 5 rfl) ?_
          obtain ⟨g43, hf⟩ := fd_gds hf
          refine va_iald hx hb hK hP 8 7 fd_WM_8 fd_tyM_8 g43 dX11_near_60 ?_
          refine lv_iload_n hx hb dX11_near_61 rfl (lv_at hl 2 rfl) ?_
          refine lv_icmp_eq (tgt := 87) hx hb dX11_near_62 (by decide) (fun c44 => ?_) (fun c44 => ?_)
          · have hf := fd_itp c44 hf
            exact hL87 (f_X11_near_0_L34 N n) ih y1 y2 y3 y5 σ _ _ _ hP hS (lv_sub hl [0, 1, 2, 3, 5] rfl) hf
          · have hf := fd_itn c44 hf
            exact hL65 (f_X11_near_0_L34 N n) ih y1 y2 y3 y4 y5 σ _ _ _ hP hS (lv_sub hl [0, 1, 2, 3, 4, 5] rfl) hf
  have hL27 : ∀ (y1 : Int32) (y2 : Int32) (z0 : Int32) (σ : fd_St) (H : Heap) (locs : List Loc) (ls : Array Slot), va_P D vwCl (fd_WM a k σ) H → va_S (fd_A 29 a s.heap.size) s.heap H locs → lv_has ls 6 [(0, .ref (a 0)), (1, .int y1), (2, .int y2)] → f_X11_near_0_J27 N y1 y2 z0 σ = some r → W p l e ((headSpec wsX11_near ({ frames := 1, cells := 0, slots := 0, locals := 23 })).room) s m ([.ref (a 0), .int p1, .int p2].toArray) below meth c H locs 0 0 (MQ below (va_Qi (fun v u => (v, u) = r) (fd_BM D a k) (fd_A 29 a s.heap.size)) ([.ref (a 0), .int p1, .int p2].toArray) s 0 0 (fd_A 29 a s.heap.size)) (F0 m 27 ls [.int z0]) := by
    intro y1 y2 z0 σ H locs ls hP hS hl hf
    unfold f_X11_near_0_J27 at hf
    refine lv_istore_n (lv' := [(3, .int z0), (0, .ref (a 0)), (1, .int y1), (2, .int y2)]) hx hb dX11_near_27 rfl hl (by decide) rfl (fun ls hl => ?_)
    refine lv_iconst (v := (-1 : Int32)) hx hb dX11_near_28 (by decide) ?_
    refine lv_istore (lv' := [(4, .int (-1 : Int32)), (3, .int z0), (0, .ref (a 0)), (1, .int y1), (2, .int y2)]) hx hb dX11_near_29 hl (by decide) rfl (fun ls hl => ?_)
    refine lv_iconst (v := (0 : Int32)) hx hb dX11_near_31 (by decide) ?_
    refine lv_istore (lv' := [(5, .int (0 : Int32)), (4, .int (-1 : Int32)), (3, .int z0), (0, .ref (a 0)), (1, .int y1), (2, .int y2)]) hx hb dX11_near_32 hl (by decide) rfl (fun ls hl => ?_)
    exact hL34 N y1 y2 z0 (-1 : Int32) (0 : Int32) σ _ _ _ hP hS (lv_sub hl [3, 4, 5, 2, 1, 0] rfl) hf
  have hL26 : ∀ (y1 : Int32) (y2 : Int32) (σ : fd_St) (H : Heap) (locs : List Loc) (ls : Array Slot), va_P D vwCl (fd_WM a k σ) H → va_S (fd_A 29 a s.heap.size) s.heap H locs → lv_has ls 6 [(0, .ref (a 0)), (1, .int y1), (2, .int y2)] → f_X11_near_0_J26 N y1 y2 σ = some r → W p l e ((headSpec wsX11_near ({ frames := 1, cells := 0, slots := 0, locals := 23 })).room) s m ([.ref (a 0), .int p1, .int p2].toArray) below meth c H locs 0 0 (MQ below (va_Qi (fun v u => (v, u) = r) (fd_BM D a k) (fd_A 29 a s.heap.size)) ([.ref (a 0), .int p1, .int p2].toArray) s 0 0 (fd_A 29 a s.heap.size)) (F0 m 26 ls []) := by
    intro y1 y2 σ H locs ls hP hS hl hf
    unfold f_X11_near_0_J26 at hf
    refine lv_iconst (v := (0 : Int32)) hx hb dX11_near_26 (by decide) ?_
    exact hL27 y1 y2 (0 : Int32) σ _ _ _ hP hS (lv_sub hl [0, 1, 2] rfl) hf
  unfold f_X11_near_0 at hf
  refine lv_iload_n hx hb dX11_near_0 rfl (lv_at hl 1 rfl) ?_
  refine lv_aload_n hx hb dX11_near_1 rfl (lv_at hl 0 rfl) ?_
  refine va_get (ci := 11) (v := .int (σ.1 1)) (C := RX11) (T := TX11) (N := 43) hx hb hts h9X11 hown hK hP 0 fd_WM_0 rfl 1 (by decide) (hts (.fieldLink RX11 113 "FailDiagnoseModel" "nets" "I") (List.mem_of_getElem? (i := 1) (by eq_refl))) (fun _ h9 => h9) rfl dX11_near_2 ?_
  obtain ⟨w4, τ5, hc1, hf⟩ := fd_bds hf
  refine va_calli (va_runS (As := [.int p1, .int (σ.1 1)]) (rest := []) ⟨hx, hb, hml, hown, hts⟩ (m_X11_isIn l D a k s.heap.size hI N p1 (σ.1 1) σ _ hc1) (va_cwS 2 hts gX11_near_X11_isIn rfl rfl rfl (by decide +kernel) ⟨Nat.le_of_ble_eq_true rfl, Nat.le_of_ble_eq_true rfl⟩) ⟨fd_blM, fd_prM hP hK⟩ rfl rfl hl.1 rfl (lv_room (Nat.le_of_ble_eq_true rfl)) dX11_near_5 ⟨Nat.zero_le _, Nat.zero_le _⟩) hS (fun q _ h => fd_A_mono hS.1 h) (fun q h => fd_A_mono hS.1 h) (fun v2 u t H1 locs ht hvm hw hB hz hk hS => ?_)
  obtain ⟨hP1, hK1⟩ := hB
  rw [ht] at hP1
  obtain ⟨e1, e2⟩ := Prod.mk.inj hw
  subst e1
  subst e2
  obtain ⟨σ3, rfl⟩ : ∃ z, z = u := ⟨_, rfl⟩
  have hP := hP1
  generalize H1 = H at hP hS ⊢
  refine lv_if_eq (tgt := 26) hx hb dX11_near_8 (by decide) (fun c6 => ?_) (fun c6 => ?_)
  · have hf := fd_itp c6 hf
    exact hL26 p1 p2 σ3 _ _ _ hP hS (lv_sub hl [0, 1, 2] rfl) hf
  · have hf := fd_itn c6 hf
    refine lv_iload_n hx hb dX11_near_11 rfl (lv_at hl 2 rfl) ?_
    refine lv_aload_n hx hb dX11_near_12 rfl (lv_at hl 0 rfl) ?_
    refine va_get (ci := 11) (v := .int (σ3.1 1)) (C := RX11) (T := TX11) (N := 43) hx hb hts h9X11 hown hK hP 0 fd_WM_0 rfl 1 (by decide) (hts (.fieldLink RX11 113 "FailDiagnoseModel" "nets" "I") (List.mem_of_getElem? (i := 1) (by eq_refl))) (fun _ h9 => h9) rfl dX11_near_13 ?_
    obtain ⟨w48, τ49, hc45, hf⟩ := fd_bds hf
    refine va_calli (va_runS (As := [.int p2, .int (σ3.1 1)]) (rest := []) ⟨hx, hb, hml, hown, hts⟩ (m_X11_isIn l D a k H.size hI N p2 (σ3.1 1) σ3 _ hc45) (va_cwS 2 hts gX11_near_X11_isIn rfl rfl rfl (by decide +kernel) ⟨Nat.le_of_ble_eq_true rfl, Nat.le_of_ble_eq_true rfl⟩) ⟨fd_blM, fd_prM hP hK⟩ rfl rfl hl.1 rfl (lv_room (Nat.le_of_ble_eq_true rfl)) dX11_near_16 ⟨Nat.zero_le _, Nat.zero_le _⟩) hS (fun q _ h => fd_A_mono hS.1 h) (fun q h => fd_A_mono hS.1 h) (fun v46 u t H1 locs ht hvm hw hB hz hk hS => ?_)
    obtain ⟨hP1, hK1⟩ := hB
    rw [ht] at hP1
    obtain ⟨e1, e2⟩ := Prod.mk.inj hw
    subst e1
    subst e2
    obtain ⟨σ47, rfl⟩ : ∃ z, z = u := ⟨_, rfl⟩
    have hP := hP1
    generalize H1 = H at hP hS ⊢
    refine lv_if_eq (tgt := 26) hx hb dX11_near_19 (by decide) (fun c50 => ?_) (fun c50 => ?_)
    · have hf := fd_itp c50 hf
      exact hL26 p1 p2 σ47 _ _ _ hP hS (lv_sub hl [0, 1, 2] rfl) hf
    · have hf := fd_itn c50 hf
      refine lv_iconst (v := (1 : Int32)) hx hb dX11_near_22 (by decide) ?_
      refine lv_goto (tgt := 27) hx hb dX11_near_23 (by decide) ?_
      exact hL27 p1 p2 (1 : Int32) σ47 _ _ _ hP hS (lv_sub hl [0, 1, 2] rfl) hf
noncomputable def f_X3_faultsOf_4 (N : Nat) (p1 : Int32) (σ : fd_St) : Option (Int32 × fd_St) := if (1 : Int32) < p1 then (fd_bd (f_X4_size_3 N σ) (fun v3 σ4 => some (v3, σ4))) else (fd_bd (f_X2_nets_1 N σ) (fun v8 σ9 => some (v8, σ9)))
set_option maxHeartbeats 4000000 in
set_option maxRecDepth 100000 in
theorem m_X3_faultsOf_4 (l : Launch) (D : va_G) (a : Nat → Nat) (k : Nat → ClassId) (sz : Nat) (hI : fd_I 39 a) (N : Nat) (p1 : Int32) (σ : fd_St) (r : Int32 × fd_St) (hf : f_X3_faultsOf_4 N p1 σ = some r) : Met l yX3_faultsOf wsX3_faultsOf ({ frames := 1, cells := 0, slots := 0, locals := 20 }) (va_Pc [.ref (a 4), .int p1] (fd_PC D a k sz σ)) (va_Qi (fun v u => (v, u) = r) (fd_BC D a k) (fd_A 39 a sz)) 0 0 (fd_A 39 a sz) := by
  refine Met.ofW (cc := cX3_faultsOf) (maxL := 2) (ret := (some .int)) (by decide) rfl ?_
  intro p e s m args below meth c s₁ B hml hv
  obtain ⟨rfl, hsz, hP, hK⟩ := hv
  have hx := B.exec
  have hb := B.bytes
  have hr := B.returns
  have hts := atoms_spec (ws := wsX3_faultsOf) B.pre
  have hown : s.vm.findClass RX3 = some m.cls := findClass_of_methodNamed B.named
  have hlocks := B.notSynchronized
  subst hsz
  have hJ : ∀ i, i < 39 → fd_A 39 a s.heap.size (a i) := fun i hi => Or.inl ⟨i, hi, rfl⟩
  have hS : va_S (fd_A 39 a s.heap.size) s.heap s.heap [] := va_S.rf
  have hl := lv_entry ([.ref (a 4), .int p1]) (n := 2) (Nat.le_of_ble_eq_true rfl)
  rw [lg_entry_eq]
  generalize (lg_sl ([.ref (a 4), .int p1]) ++ List.replicate (2 - (lg_sl ([.ref (a 4), .int p1])).length) Slot.unset).toArray = ls at hl ⊢
  have hl : lv_has ls 2 [(0, .ref (a 4)), (1, .int p1)] := hl
  have h9X3 : ∀ w ∈ u_ws RX3 TX3 7, w ∈ wsX3_faultsOf := fd_su [15, 16, 17, 18, 19, 20, 21] (by eq_refl)
  unfold f_X3_faultsOf_4 at hf
  refine lv_iload_n hx hb dX3_faultsOf_0 rfl (lv_at hl 1 rfl) ?_
  refine lv_iconst (v := (1 : Int32)) hx hb dX3_faultsOf_1 (by decide) ?_
  refine lv_icmp_gt (tgt := 15) hx hb dX3_faultsOf_2 (by decide) (fun c1 => ?_) (fun c1 => ?_)
  · have hf := fd_itp c1 hf
    refine lv_aload_n hx hb dX3_faultsOf_15 rfl (lv_at hl 0 rfl) ?_
    refine va_get (ci := 3) (v := .ref (a 3)) (C := RX3) (T := TX3) (N := 7) hx hb hts h9X3 hown hK hP 4 fd_WC_4 rfl 2 (by decide) (hts (.fieldLink RX3 44 "FailDiagnose$Diagnosis" "nearPairs" "LFailDiagnose$NearPairs;") (List.mem_of_getElem? (i := 2) (by eq_refl))) (fun _ h9 => h9) rfl dX3_faultsOf_16 ?_
    obtain ⟨w5, τ6, hc2, hf⟩ := fd_bds hf
    refine va_calli (va_runV (As := []) (rest := []) ⟨hx, hb, hml, hown, hts⟩ (m_X4_size_3 l D a k s.heap.size hI N σ _ hc2) (cwV 0 hts gX3_faultsOf_X4_size rfl rfl rfl (by decide +kernel) ⟨Nat.le_of_ble_eq_true rfl, Nat.le_of_ble_eq_true rfl⟩) ⟨fd_blC, va_recv hK hP (ci := 4) (q0 := 3) rfl fd_WC_3, fd_prC hP hK⟩ rfl rfl hl.1 rfl (lv_room (Nat.le_of_ble_eq_true rfl)) dX3_faultsOf_19 ⟨Nat.zero_le _, Nat.zero_le _⟩) hS (fun q _ h => fd_A_mono hS.1 h) (fun q h => fd_A_mono hS.1 h) (fun v3 u t H1 locs ht hvm hw hB hz hk hS => ?_)
    obtain ⟨hP1, hK1⟩ := hB
    rw [ht] at hP1
    obtain ⟨e1, e2⟩ := Prod.mk.inj hw
    subst e1
    subst e2
    obtain ⟨σ4, rfl⟩ : ∃ z, z = u := ⟨_, rfl⟩
    have hP := hP1
    generalize H1 = H at hP hS ⊢
    exact W.iret (v := v3) hx hb hr (fun t ht hW => ⟨⟨v3, σ4, rfl, Option.some.inj hf, by rw [ht]; exact hP, va_K.moved hW.alike hK⟩, hS.F ht⟩) hS.2.2 dX3_faultsOf_22
  · have hf := fd_itn c1 hf
    refine lv_aload_n hx hb dX3_faultsOf_5 rfl (lv_at hl 0 rfl) ?_
    refine va_get (ci := 3) (v := .ref (a 1)) (C := RX3) (T := TX3) (N := 7) hx hb hts h9X3 hown hK hP 4 fd_WC_4 rfl 0 (by decide) (hts (.fieldLink RX3 36 "FailDiagnose$Diagnosis" "circuit" "LFailDiagnose$Circuit;") (List.mem_of_getElem? (i := 1) (by eq_refl))) (fun _ h9 => h9) rfl dX3_faultsOf_6 ?_
    obtain ⟨w10, τ11, hc7, hf⟩ := fd_bds hf
    refine va_calli (va_runV (As := []) (rest := []) ⟨hx, hb, hml, hown, hts⟩ (m_X2_nets_1 l D a k s.heap.size hI N σ _ hc7) (cwV 0 hts gX3_faultsOf_X2_nets rfl rfl rfl (by decide +kernel) ⟨Nat.le_of_ble_eq_true rfl, Nat.le_of_ble_eq_true rfl⟩) ⟨fd_blC, va_recv hK hP (ci := 2) (q0 := 1) rfl fd_WC_1, fd_prC hP hK⟩ rfl rfl hl.1 rfl (lv_room (Nat.le_of_ble_eq_true rfl)) dX3_faultsOf_9 ⟨Nat.zero_le _, Nat.zero_le _⟩) hS (fun q _ h => fd_A_mono hS.1 h) (fun q h => fd_A_mono hS.1 h) (fun v8 u t H1 locs ht hvm hw hB hz hk hS => ?_)
    obtain ⟨hP1, hK1⟩ := hB
    rw [ht] at hP1
    obtain ⟨e1, e2⟩ := Prod.mk.inj hw
    subst e1
    subst e2
    obtain ⟨σ9, rfl⟩ : ∃ z, z = u := ⟨_, rfl⟩
    have hP := hP1
    generalize H1 = H at hP hS ⊢
    refine lv_goto (tgt := 22) hx hb dX3_faultsOf_12 (by decide) ?_
    exact W.iret (v := v8) hx hb hr (fun t ht hW => ⟨⟨v8, σ9, rfl, Option.some.inj hf, by rw [ht]; exact hP, va_K.moved hW.alike hK⟩, hS.F ht⟩) hS.2.2 dX3_faultsOf_22
noncomputable def f_X3_hasFault_4 (N : Nat) (p1 : Int32) (p2 : Int32) (σ : fd_St) : Option (Int32 × fd_St) := if p1 < 0 then (some ((0 : Int32), σ)) else (if (3 : Int32) < p1 then (some ((0 : Int32), σ)) else (if p2 < 0 then (some ((0 : Int32), σ)) else (fd_bd (f_X3_faultsOf_4 N p1 σ) (fun v5 σ6 => if v5 ≤ p2 then (some ((0 : Int32), σ6)) else (some ((1 : Int32), σ6))))))
set_option maxHeartbeats 4000000 in
set_option maxRecDepth 100000 in
theorem m_X3_hasFault_4 (l : Launch) (D : va_G) (a : Nat → Nat) (k : Nat → ClassId) (sz : Nat) (hI : fd_I 39 a) (N : Nat) (p1 : Int32) (p2 : Int32) (σ : fd_St) (r : Int32 × fd_St) (hf : f_X3_hasFault_4 N p1 p2 σ = some r) : Met l yX3_hasFault wsX3_hasFault ({ frames := 2, cells := 0, slots := 0, locals := 41 }) (va_Pc [.ref (a 4), .int p1, .int p2] (fd_PC D a k sz σ)) (va_Qi (fun v u => (v, u) = r) (fd_BC D a k) (fd_A 39 a sz)) 0 0 (fd_A 39 a sz) := by
  refine Met.ofW (cc := cX3_hasFault) (maxL := 3) (ret := (some .boolean)) (by decide) rfl ?_
  intro p e s m args below meth c s₁ B hml hv
  obtain ⟨rfl, hsz, hP, hK⟩ := hv
  have hx := B.exec
  have hb := B.bytes
  have hr := B.returns
  have hts := atoms_spec (ws := wsX3_hasFault) B.pre
  have hown : s.vm.findClass RX3 = some m.cls := findClass_of_methodNamed B.named
  have hlocks := B.notSynchronized
  subst hsz
  have hJ : ∀ i, i < 39 → fd_A 39 a s.heap.size (a i) := fun i hi => Or.inl ⟨i, hi, rfl⟩
  have hS : va_S (fd_A 39 a s.heap.size) s.heap s.heap [] := va_S.rf
  have hl := lv_entry ([.ref (a 4), .int p1, .int p2]) (n := 3) (Nat.le_of_ble_eq_true rfl)
  rw [lg_entry_eq]
  generalize (lg_sl ([.ref (a 4), .int p1, .int p2]) ++ List.replicate (3 - (lg_sl ([.ref (a 4), .int p1, .int p2])).length) Slot.unset).toArray = ls at hl ⊢
  have hl : lv_has ls 3 [(0, .ref (a 4)), (1, .int p1), (2, .int p2)] := hl
  unfold f_X3_hasFault_4 at hf
  refine lv_iload_n hx hb dX3_hasFault_0 rfl (lv_at hl 1 rfl) ?_
  refine lv_if_lt (tgt := 26) hx hb dX3_hasFault_1 (by decide) (fun c1 => ?_) (fun c1 => ?_)
  · have hf := fd_itp c1 hf
    refine lv_iconst (v := (0 : Int32)) hx hb dX3_hasFault_26 (by decide) ?_
    exact W.zret (v := (0 : Int32)) (ty := .boolean) hx hb hr rfl (fun t ht hW => ⟨⟨(0 : Int32), σ, rfl, Option.some.inj hf, by rw [ht]; exact hP, va_K.moved hW.alike hK⟩, hS.F ht⟩) hS.2.2 dX3_hasFault_27
  · have hf := fd_itn c1 hf
    refine lv_iload_n hx hb dX3_hasFault_4 rfl (lv_at hl 1 rfl) ?_
    refine lv_iconst (v := (3 : Int32)) hx hb dX3_hasFault_5 (by decide) ?_
    refine lv_icmp_gt (tgt := 26) hx hb dX3_hasFault_6 (by decide) (fun c2 => ?_) (fun c2 => ?_)
    · have hf := fd_itp c2 hf
      refine lv_iconst (v := (0 : Int32)) hx hb dX3_hasFault_26 (by decide) ?_
      exact W.zret (v := (0 : Int32)) (ty := .boolean) hx hb hr rfl (fun t ht hW => ⟨⟨(0 : Int32), σ, rfl, Option.some.inj hf, by rw [ht]; exact hP, va_K.moved hW.alike hK⟩, hS.F ht⟩) hS.2.2 dX3_hasFault_27
    · have hf := fd_itn c2 hf
      refine lv_iload_n hx hb dX3_hasFault_9 rfl (lv_at hl 2 rfl) ?_
      refine lv_if_lt (tgt := 26) hx hb dX3_hasFault_10 (by decide) (fun c3 => ?_) (fun c3 => ?_)
      · have hf := fd_itp c3 hf
        refine lv_iconst (v := (0 : Int32)) hx hb dX3_hasFault_26 (by decide) ?_
        exact W.zret (v := (0 : Int32)) (ty := .boolean) hx hb hr rfl (fun t ht hW => ⟨⟨(0 : Int32), σ, rfl, Option.some.inj hf, by rw [ht]; exact hP, va_K.moved hW.alike hK⟩, hS.F ht⟩) hS.2.2 dX3_hasFault_27
      · have hf := fd_itn c3 hf
        refine lv_iload_n hx hb dX3_hasFault_13 rfl (lv_at hl 2 rfl) ?_
        refine lv_aload_n hx hb dX3_hasFault_14 rfl (lv_at hl 0 rfl) ?_
        refine lv_iload_n hx hb dX3_hasFault_15 rfl (lv_at hl 1 rfl) ?_
        obtain ⟨w7, τ8, hc4, hf⟩ := fd_bds hf
        refine va_calli (va_runV (As := [.int p1]) (rest := [.int p2]) ⟨hx, hb, hml, hown, hts⟩ (m_X3_faultsOf_4 l D a k s.heap.size hI N p1 σ _ hc4) (cwV 1 hts gX3_hasFault_X3_faultsOf rfl rfl rfl (by decide +kernel) ⟨Nat.le_of_ble_eq_true rfl, Nat.le_of_ble_eq_true rfl⟩) ⟨fd_blC, va_recv hK hP (ci := 3) (q0 := 4) rfl fd_WC_4, fd_prC hP hK⟩ rfl rfl hl.1 rfl (lv_room (Nat.le_of_ble_eq_true rfl)) dX3_hasFault_16 ⟨Nat.zero_le _, Nat.zero_le _⟩) hS (fun q _ h => fd_A_mono hS.1 h) (fun q h => fd_A_mono hS.1 h) (fun v5 u t H1 locs ht hvm hw hB hz hk hS => ?_)
        obtain ⟨hP1, hK1⟩ := hB
        rw [ht] at hP1
        obtain ⟨e1, e2⟩ := Prod.mk.inj hw
        subst e1
        subst e2
        obtain ⟨σ6, rfl⟩ : ∃ z, z = u := ⟨_, rfl⟩
        have hP := hP1
        generalize H1 = H at hP hS ⊢
        refine lv_icmp_ge (tgt := 26) hx hb dX3_hasFault_19 (by decide) (fun c9 => ?_) (fun c9 => ?_)
        · have hf := fd_itp c9 hf
          refine lv_iconst (v := (0 : Int32)) hx hb dX3_hasFault_26 (by decide) ?_
          exact W.zret (v := (0 : Int32)) (ty := .boolean) hx hb hr rfl (fun t ht hW => ⟨⟨(0 : Int32), σ6, rfl, Option.some.inj hf, by rw [ht]; exact hP, va_K.moved hW.alike hK⟩, hS.F ht⟩) hS.2.2 dX3_hasFault_27
        · have hf := fd_itn c9 hf
          refine lv_iconst (v := (1 : Int32)) hx hb dX3_hasFault_22 (by decide) ?_
          refine lv_goto (tgt := 27) hx hb dX3_hasFault_23 (by decide) ?_
          exact W.zret (v := (1 : Int32)) (ty := .boolean) hx hb hr rfl (fun t ht hW => ⟨⟨(1 : Int32), σ6, rfl, Option.some.inj hf, by rw [ht]; exact hP, va_K.moved hW.alike hK⟩, hS.F ht⟩) hS.2.2 dX3_hasFault_27
noncomputable def f_X4_first_3 (N : Nat) (p1 : Int32) (σ : fd_St) : Option (Int32 × fd_St) := fd_gd (vp_in p1 40) (some (σ.2.1 20 p1.toNatClampNeg, σ))
set_option maxHeartbeats 4000000 in
set_option maxRecDepth 100000 in
theorem m_X4_first_3 (l : Launch) (D : va_G) (a : Nat → Nat) (k : Nat → ClassId) (sz : Nat) (hI : fd_I 39 a) (N : Nat) (p1 : Int32) (σ : fd_St) (r : Int32 × fd_St) (hf : f_X4_first_3 N p1 σ = some r) : Met l yX4_first wsX4_first ({ frames := 0, cells := 0, slots := 0, locals := 0 }) (va_Pc [.ref (a 3), .int p1] (fd_PC D a k sz σ)) (va_Qi (fun v u => (v, u) = r) (fd_BC D a k) (fd_A 39 a sz)) 0 0 (fd_A 39 a sz) := by
  refine Met.ofW (cc := cX4_first) (maxL := 2) (ret := (some .int)) (by decide) rfl ?_
  intro p e s m args below meth c s₁ B hml hv
  obtain ⟨rfl, hsz, hP, hK⟩ := hv
  have hx := B.exec
  have hb := B.bytes
  have hr := B.returns
  have hts := atoms_spec (ws := wsX4_first) B.pre
  have hown : s.vm.findClass RX4 = some m.cls := findClass_of_methodNamed B.named
  have hlocks := B.notSynchronized
  subst hsz
  have hJ : ∀ i, i < 39 → fd_A 39 a s.heap.size (a i) := fun i hi => Or.inl ⟨i, hi, rfl⟩
  have hS : va_S (fd_A 39 a s.heap.size) s.heap s.heap [] := va_S.rf
  have hl := lv_entry ([.ref (a 3), .int p1]) (n := 2) (Nat.le_of_ble_eq_true rfl)
  rw [lg_entry_eq]
  generalize (lg_sl ([.ref (a 3), .int p1]) ++ List.replicate (2 - (lg_sl ([.ref (a 3), .int p1])).length) Slot.unset).toArray = ls at hl ⊢
  have hl : lv_has ls 2 [(0, .ref (a 3)), (1, .int p1)] := hl
  have h9X4 : ∀ w ∈ u_ws RX4 TX4 3, w ∈ wsX4_first := fd_su [2, 3, 4] (by eq_refl)
  unfold f_X4_first_3 at hf
  refine lv_aload_n hx hb dX4_first_0 rfl (lv_at hl 0 rfl) ?_
  refine va_get (ci := 4) (v := .ref (a 20)) (C := RX4) (T := TX4) (N := 3) hx hb hts h9X4 hown hK hP 3 fd_WC_3 rfl 0 (by decide) (hts (.fieldLink RX4 9 "FailDiagnose$NearPairs" "firsts" "[I") (List.mem_of_getElem? (i := 1) (by eq_refl))) (fun _ h9 => h9) rfl dX4_first_1 ?_
  refine lv_iload_n hx hb dX4_first_4 rfl (lv_at hl 1 rfl) ?_
  obtain ⟨g1, hf⟩ := fd_gds hf
  refine va_iald hx hb hK hP 20 8 fd_WC_20 fd_tyC_20 g1 dX4_first_5 ?_
  exact W.iret (v := (σ.2.1 20 p1.toNatClampNeg)) hx hb hr (fun t ht hW => ⟨⟨σ.2.1 20 p1.toNatClampNeg, σ, rfl, Option.some.inj hf, by rw [ht]; exact hP, va_K.moved hW.alike hK⟩, hS.F ht⟩) hS.2.2 dX4_first_6
noncomputable def f_X4_second_3 (N : Nat) (p1 : Int32) (σ : fd_St) : Option (Int32 × fd_St) := fd_gd (vp_in p1 40) (some (σ.2.1 21 p1.toNatClampNeg, σ))
set_option maxHeartbeats 4000000 in
set_option maxRecDepth 100000 in
theorem m_X4_second_3 (l : Launch) (D : va_G) (a : Nat → Nat) (k : Nat → ClassId) (sz : Nat) (hI : fd_I 39 a) (N : Nat) (p1 : Int32) (σ : fd_St) (r : Int32 × fd_St) (hf : f_X4_second_3 N p1 σ = some r) : Met l yX4_second wsX4_second ({ frames := 0, cells := 0, slots := 0, locals := 0 }) (va_Pc [.ref (a 3), .int p1] (fd_PC D a k sz σ)) (va_Qi (fun v u => (v, u) = r) (fd_BC D a k) (fd_A 39 a sz)) 0 0 (fd_A 39 a sz) := by
  refine Met.ofW (cc := cX4_second) (maxL := 2) (ret := (some .int)) (by decide) rfl ?_
  intro p e s m args below meth c s₁ B hml hv
  obtain ⟨rfl, hsz, hP, hK⟩ := hv
  have hx := B.exec
  have hb := B.bytes
  have hr := B.returns
  have hts := atoms_spec (ws := wsX4_second) B.pre
  have hown : s.vm.findClass RX4 = some m.cls := findClass_of_methodNamed B.named
  have hlocks := B.notSynchronized
  subst hsz
  have hJ : ∀ i, i < 39 → fd_A 39 a s.heap.size (a i) := fun i hi => Or.inl ⟨i, hi, rfl⟩
  have hS : va_S (fd_A 39 a s.heap.size) s.heap s.heap [] := va_S.rf
  have hl := lv_entry ([.ref (a 3), .int p1]) (n := 2) (Nat.le_of_ble_eq_true rfl)
  rw [lg_entry_eq]
  generalize (lg_sl ([.ref (a 3), .int p1]) ++ List.replicate (2 - (lg_sl ([.ref (a 3), .int p1])).length) Slot.unset).toArray = ls at hl ⊢
  have hl : lv_has ls 2 [(0, .ref (a 3)), (1, .int p1)] := hl
  have h9X4 : ∀ w ∈ u_ws RX4 TX4 3, w ∈ wsX4_second := fd_su [2, 3, 4] (by eq_refl)
  unfold f_X4_second_3 at hf
  refine lv_aload_n hx hb dX4_second_0 rfl (lv_at hl 0 rfl) ?_
  refine va_get (ci := 4) (v := .ref (a 21)) (C := RX4) (T := TX4) (N := 3) hx hb hts h9X4 hown hK hP 3 fd_WC_3 rfl 1 (by decide) (hts (.fieldLink RX4 15 "FailDiagnose$NearPairs" "seconds" "[I") (List.mem_of_getElem? (i := 1) (by eq_refl))) (fun _ h9 => h9) rfl dX4_second_1 ?_
  refine lv_iload_n hx hb dX4_second_4 rfl (lv_at hl 1 rfl) ?_
  obtain ⟨g1, hf⟩ := fd_gds hf
  refine va_iald hx hb hK hP 21 9 fd_WC_21 fd_tyC_21 g1 dX4_second_5 ?_
  exact W.iret (v := (σ.2.1 21 p1.toNatClampNeg)) hx hb hr (fun t ht hW => ⟨⟨σ.2.1 21 p1.toNatClampNeg, σ, rfl, Option.some.inj hf, by rw [ht]; exact hP, va_K.moved hW.alike hK⟩, hS.F ht⟩) hS.2.2 dX4_second_6
noncomputable def f_X2_gateRow_1_16 (N : Nat) (p1 : Int32) (σ : fd_St) : Option (Int64 × fd_St) := fd_gd (vp_in p1 200) (fd_gd (vp_in (σ.2.1 13 p1.toNatClampNeg) 200) (fd_lt (σ.2.2 16 (σ.2.1 13 p1.toNatClampNeg).toNatClampNeg) (fun x3 => fd_gd (vp_in p1 200) (fd_gd (vp_in (σ.2.1 14 p1.toNatClampNeg) 200) (fd_lt (σ.2.2 16 (σ.2.1 14 p1.toNatClampNeg).toNatClampNeg) (fun x6 => fd_gd (vp_in p1 200) (fd_lt (σ.2.1 12 p1.toNatClampNeg) (fun x8 => if x8 = (0 : Int32) then (some (x3 &&& x6, σ)) else (if x8 = (1 : Int32) then (some (x3 ||| x6, σ)) else (if x8 = (2 : Int32) then (some (x3 ^^^ x6, σ)) else (if x8 = (3 : Int32) then (some ((x3 &&& x6) ^^^ (-1 : Int64), σ)) else (if x8 = (4 : Int32) then (some ((x3 ||| x6) ^^^ (-1 : Int64), σ)) else (if x8 = (5 : Int32) then (some (x3 ^^^ (-1 : Int64), σ)) else (some (x3, σ)))))))))))))))
set_option maxHeartbeats 4000000 in
set_option maxRecDepth 100000 in
theorem m_X2_gateRow_1_16 (l : Launch) (D : va_G) (a : Nat → Nat) (k : Nat → ClassId) (sz : Nat) (hI : fd_I 39 a) (N : Nat) (p1 : Int32) (σ : fd_St) (r : Int64 × fd_St) (hf : f_X2_gateRow_1_16 N p1 σ = some r) : Met l yX2_gateRow wsX2_gateRow ({ frames := 0, cells := 0, slots := 0, locals := 0 }) (va_Pc [.ref (a 1), .int p1, .ref (a 16)] (fd_PC D a k sz σ)) (va_Ql (fun v u => (v, u) = r) (fd_BC D a k) (fd_A 39 a sz)) 0 0 (fd_A 39 a sz) := by
  refine Met.ofW (cc := cX2_gateRow) (maxL := 7) (ret := (some .long)) (by decide) rfl ?_
  intro p e s m args below meth c s₁ B hml hv
  obtain ⟨rfl, hsz, hP, hK⟩ := hv
  have hx := B.exec
  have hb := B.bytes
  have hr := B.returns
  have hts := atoms_spec (ws := wsX2_gateRow) B.pre
  have hown : s.vm.findClass RX2 = some m.cls := findClass_of_methodNamed B.named
  have hlocks := B.notSynchronized
  subst hsz
  have hJ : ∀ i, i < 39 → fd_A 39 a s.heap.size (a i) := fun i hi => Or.inl ⟨i, hi, rfl⟩
  have hS : va_S (fd_A 39 a s.heap.size) s.heap s.heap [] := va_S.rf
  have hl := lv_entry ([.ref (a 1), .int p1, .ref (a 16)]) (n := 7) (Nat.le_of_ble_eq_true rfl)
  rw [lg_entry_eq]
  generalize (lg_sl ([.ref (a 1), .int p1, .ref (a 16)]) ++ List.replicate (7 - (lg_sl ([.ref (a 1), .int p1, .ref (a 16)])).length) Slot.unset).toArray = ls at hl ⊢
  have hl : lv_has ls 7 [(0, .ref (a 1)), (1, .int p1), (2, .ref (a 16))] := hl
  have h9X2 : ∀ w ∈ u_ws RX2 TX2 9, w ∈ wsX2_gateRow := fd_su [5, 6, 7, 8, 9, 10, 11, 12, 13] (by eq_refl)
  unfold f_X2_gateRow_1_16 at hf
  refine lv_aload_n hx hb dX2_gateRow_0 rfl (lv_at hl 2 rfl) ?_
  refine lv_aload_n hx hb dX2_gateRow_1 rfl (lv_at hl 0 rfl) ?_
  refine va_get (ci := 2) (v := .ref (a 13)) (C := RX2) (T := TX2) (N := 9) hx hb hts h9X2 hown hK hP 1 fd_WC_1 rfl 1 (by decide) (hts (.fieldLink RX2 15 "FailDiagnose$Circuit" "firsts" "[I") (List.mem_of_getElem? (i := 1) (by eq_refl))) (fun _ h9 => h9) rfl dX2_gateRow_2 ?_
  refine lv_iload_n hx hb dX2_gateRow_5 rfl (lv_at hl 1 rfl) ?_
  obtain ⟨g1, hf⟩ := fd_gds hf
  refine va_iald hx hb hK hP 13 1 fd_WC_13 fd_tyC_13 g1 dX2_gateRow_6 ?_
  obtain ⟨g2, hf⟩ := fd_gds hf
  refine va_lald hx hb hK hP 16 4 fd_WC_16 fd_tyC_16 g2 dX2_gateRow_7 ?_
  obtain ⟨x3, ex3, hf⟩ := fd_lts hf
  refine fd_nl ex3 ?_
  refine lv_lstore_n (lv' := [(3, .long x3), (0, .ref (a 1)), (1, .int p1), (2, .ref (a 16))]) hx hb dX2_gateRow_8 rfl hl (by decide) rfl (fun ls hl => ?_)
  refine lv_aload_n hx hb dX2_gateRow_9 rfl (lv_at hl 3 rfl) ?_
  refine lv_aload_n hx hb dX2_gateRow_10 rfl (lv_at hl 1 rfl) ?_
  refine va_get (ci := 2) (v := .ref (a 14)) (C := RX2) (T := TX2) (N := 9) hx hb hts h9X2 hown hK hP 1 fd_WC_1 rfl 2 (by decide) (hts (.fieldLink RX2 18 "FailDiagnose$Circuit" "seconds" "[I") (List.mem_of_getElem? (i := 2) (by eq_refl))) (fun _ h9 => h9) rfl dX2_gateRow_11 ?_
  refine lv_iload_n hx hb dX2_gateRow_14 rfl (lv_at hl 2 rfl) ?_
  obtain ⟨g4, hf⟩ := fd_gds hf
  refine va_iald hx hb hK hP 14 2 fd_WC_14 fd_tyC_14 g4 dX2_gateRow_15 ?_
  obtain ⟨g5, hf⟩ := fd_gds hf
  refine va_lald hx hb hK hP 16 4 fd_WC_16 fd_tyC_16 g5 dX2_gateRow_16 ?_
  obtain ⟨x6, ex6, hf⟩ := fd_lts hf
  refine fd_nl ex6 ?_
  refine lv_lstore (lv' := [(5, .long x6), (3, .long x3), (0, .ref (a 1)), (1, .int p1), (2, .ref (a 16))]) hx hb dX2_gateRow_17 hl (by decide) rfl (fun ls hl => ?_)
  refine lv_aload_n hx hb dX2_gateRow_19 rfl (lv_at hl 2 rfl) ?_
  refine va_get (ci := 2) (v := .ref (a 12)) (C := RX2) (T := TX2) (N := 9) hx hb hts h9X2 hown hK hP 1 fd_WC_1 rfl 0 (by decide) (hts (.fieldLink RX2 9 "FailDiagnose$Circuit" "kinds" "[I") (List.mem_of_getElem? (i := 3) (by eq_refl))) (fun _ h9 => h9) rfl dX2_gateRow_20 ?_
  refine lv_iload_n hx hb dX2_gateRow_23 rfl (lv_at hl 3 rfl) ?_
  obtain ⟨g7, hf⟩ := fd_gds hf
  refine va_iald hx hb hK hP 12 0 fd_WC_12 fd_tyC_12 g7 dX2_gateRow_24 ?_
  obtain ⟨x8, ex8, hf⟩ := fd_lts hf
  refine fd_ni ex8 ?_
  by_cases c9 : x8 = (0 : Int32)
  · have hf := fd_itp c9 hf
    refine lv_tableIn (off := 39) (tgt := 64) hx hb dX2_gateRow_25 (by rw [c9]; decide) (by rw [c9]; decide) (by rw [c9]; decide) (by decide) ?_
    refine lv_lload_n hx hb dX2_gateRow_64 rfl (lv_at hl 1 rfl) ?_
    refine lv_lload hx hb dX2_gateRow_65 (lv_at hl 0 rfl) ?_
    refine lv_land hx hb dX2_gateRow_67 ?_
    exact W.lret (v := (x3 &&& x6)) hx hb hr (fun t ht hW => ⟨⟨x3 &&& x6, σ, rfl, Option.some.inj hf, by rw [ht]; exact hP, va_K.moved hW.alike hK⟩, hS.F ht⟩) hS.2.2 dX2_gateRow_68
  have hf := fd_itn c9 hf
  by_cases c10 : x8 = (1 : Int32)
  · have hf := fd_itp c10 hf
    refine lv_tableIn (off := 44) (tgt := 69) hx hb dX2_gateRow_25 (by rw [c10]; decide) (by rw [c10]; decide) (by rw [c10]; decide) (by decide) ?_
    refine lv_lload_n hx hb dX2_gateRow_69 rfl (lv_at hl 1 rfl) ?_
    refine lv_lload hx hb dX2_gateRow_70 (lv_at hl 0 rfl) ?_
    refine lv_lor hx hb dX2_gateRow_72 ?_
    exact W.lret (v := (x3 ||| x6)) hx hb hr (fun t ht hW => ⟨⟨x3 ||| x6, σ, rfl, Option.some.inj hf, by rw [ht]; exact hP, va_K.moved hW.alike hK⟩, hS.F ht⟩) hS.2.2 dX2_gateRow_73
  have hf := fd_itn c10 hf
  by_cases c11 : x8 = (2 : Int32)
  · have hf := fd_itp c11 hf
    refine lv_tableIn (off := 49) (tgt := 74) hx hb dX2_gateRow_25 (by rw [c11]; decide) (by rw [c11]; decide) (by rw [c11]; decide) (by decide) ?_
    refine lv_lload_n hx hb dX2_gateRow_74 rfl (lv_at hl 1 rfl) ?_
    refine lv_lload hx hb dX2_gateRow_75 (lv_at hl 0 rfl) ?_
    refine lv_lxor hx hb dX2_gateRow_77 ?_
    exact W.lret (v := (x3 ^^^ x6)) hx hb hr (fun t ht hW => ⟨⟨x3 ^^^ x6, σ, rfl, Option.some.inj hf, by rw [ht]; exact hP, va_K.moved hW.alike hK⟩, hS.F ht⟩) hS.2.2 dX2_gateRow_78
  have hf := fd_itn c11 hf
  by_cases c12 : x8 = (3 : Int32)
  · have hf := fd_itp c12 hf
    refine lv_tableIn (off := 54) (tgt := 79) hx hb dX2_gateRow_25 (by rw [c12]; decide) (by rw [c12]; decide) (by rw [c12]; decide) (by decide) ?_
    refine lv_lload_n hx hb dX2_gateRow_79 rfl (lv_at hl 1 rfl) ?_
    refine lv_lload hx hb dX2_gateRow_80 (lv_at hl 0 rfl) ?_
    refine lv_land hx hb dX2_gateRow_82 ?_
    refine lv_ldc2 hx hb hown (hts (.constantLong RX2 54 (-1)) (List.mem_of_getElem? (i := 4) (by eq_refl))) dX2_gateRow_83 ?_
    refine lv_lxor hx hb dX2_gateRow_86 ?_
    exact W.lret (v := ((x3 &&& x6) ^^^ (-1 : Int64))) hx hb hr (fun t ht hW => ⟨⟨(x3 &&& x6) ^^^ (-1 : Int64), σ, rfl, Option.some.inj hf, by rw [ht]; exact hP, va_K.moved hW.alike hK⟩, hS.F ht⟩) hS.2.2 dX2_gateRow_87
  have hf := fd_itn c12 hf
  by_cases c13 : x8 = (4 : Int32)
  · have hf := fd_itp c13 hf
    refine lv_tableIn (off := 63) (tgt := 88) hx hb dX2_gateRow_25 (by rw [c13]; decide) (by rw [c13]; decide) (by rw [c13]; decide) (by decide) ?_
    refine lv_lload_n hx hb dX2_gateRow_88 rfl (lv_at hl 1 rfl) ?_
    refine lv_lload hx hb dX2_gateRow_89 (lv_at hl 0 rfl) ?_
    refine lv_lor hx hb dX2_gateRow_91 ?_
    refine lv_ldc2 hx hb hown (hts (.constantLong RX2 54 (-1)) (List.mem_of_getElem? (i := 4) (by eq_refl))) dX2_gateRow_92 ?_
    refine lv_lxor hx hb dX2_gateRow_95 ?_
    exact W.lret (v := ((x3 ||| x6) ^^^ (-1 : Int64))) hx hb hr (fun t ht hW => ⟨⟨(x3 ||| x6) ^^^ (-1 : Int64), σ, rfl, Option.some.inj hf, by rw [ht]; exact hP, va_K.moved hW.alike hK⟩, hS.F ht⟩) hS.2.2 dX2_gateRow_96
  have hf := fd_itn c13 hf
  by_cases c14 : x8 = (5 : Int32)
  · have hf := fd_itp c14 hf
    refine lv_tableIn (off := 72) (tgt := 97) hx hb dX2_gateRow_25 (by rw [c14]; decide) (by rw [c14]; decide) (by rw [c14]; decide) (by decide) ?_
    refine lv_lload_n hx hb dX2_gateRow_97 rfl (lv_at hl 1 rfl) ?_
    refine lv_ldc2 hx hb hown (hts (.constantLong RX2 54 (-1)) (List.mem_of_getElem? (i := 4) (by eq_refl))) dX2_gateRow_98 ?_
    refine lv_lxor hx hb dX2_gateRow_101 ?_
    exact W.lret (v := (x3 ^^^ (-1 : Int64))) hx hb hr (fun t ht hW => ⟨⟨x3 ^^^ (-1 : Int64), σ, rfl, Option.some.inj hf, by rw [ht]; exact hP, va_K.moved hW.alike hK⟩, hS.F ht⟩) hS.2.2 dX2_gateRow_102
  have hf := fd_itn c14 hf
  have nc9 := lv_neT c9 (a := 0) (by decide)
  have nc10 := lv_neT c10 (a := 1) (by decide)
  have nc11 := lv_neT c11 (a := 2) (by decide)
  have nc12 := lv_neT c12 (a := 3) (by decide)
  have nc13 := lv_neT c13 (a := 4) (by decide)
  have nc14 := lv_neT c14 (a := 5) (by decide)
  refine lv_tableOut (tgt := 103) hx hb dX2_gateRow_25 (by omega) (by decide) ?_
  refine lv_lload_n hx hb dX2_gateRow_103 rfl (lv_at hl 1 rfl) ?_
  exact W.lret (v := x3) hx hb hr (fun t ht hW => ⟨⟨x3, σ, rfl, Option.some.inj hf, by rw [ht]; exact hP, va_K.moved hW.alike hK⟩, hS.F ht⟩) hS.2.2 dX2_gateRow_104
noncomputable def f_X2_hold_1_J98 (N : Nat) (k25 : Int32 → Int64 → Int32 → Int64 → Int32 → fd_St → Option (Unit × fd_St)) (y1 : Int32) (y2 : Int64) (y4 : Int32) (y5 : Int64) (y7 : Int32) (σ : fd_St) : Option (Unit × fd_St) := fd_lt (y7 + (1 : Int32)) (fun x13 => k25 y1 y2 y4 y5 x13 σ)
noncomputable def f_X2_hold_1_L25 (N : Nat) : Nat → Int32 → Int64 → Int32 → Int64 → Int32 → fd_St → Option (Unit × fd_St)
  | 0 => fun _ _ _ _ _ _ => none
  | n + 1 => fun y1 y2 y4 y5 y7 σ => if (σ.1 1) ≤ y7 then (some ((), σ)) else (if y7 = y1 then (fd_gd (vp_in y7 200) (fd_lt (fd_sL 16 y7 y2 σ) (fun σ24 => f_X2_hold_1_J98 N (f_X2_hold_1_L25 N n) y1 y2 y4 y5 y7 σ24))) else (if y7 = y4 then (fd_gd (vp_in y7 200) (fd_lt (fd_sL 16 y7 y5 σ) (fun σ22 => f_X2_hold_1_J98 N (f_X2_hold_1_L25 N n) y1 y2 y4 y5 y7 σ22))) else (fd_gd (vp_in y7 200) (if (σ.2.1 12 y7.toNatClampNeg) = (-1 : Int32) then (f_X2_hold_1_J98 N (f_X2_hold_1_L25 N n) y1 y2 y4 y5 y7 σ) else (fd_bd (f_X2_gateRow_1_16 N y7 σ) (fun v15 σ16 => fd_gd (vp_in y7 200) (fd_lt (fd_sL 16 y7 v15 σ16) (fun σ20 => f_X2_hold_1_J98 N (f_X2_hold_1_L25 N n) y1 y2 y4 y5 y7 σ20))))))))
noncomputable def f_X2_hold_1 (N : Nat) (p1 : Int32) (p2 : Int64) (p4 : Int32) (p5 : Int64) (σ : fd_St) : Option (Unit × fd_St) := fd_gd (¬ (0 : Int32) < 0) (fd_gd (¬ (0 : Int32) < 0) (fd_gd (¬ (σ.1 1) < 0) (fd_gd ((0 : Int32).toNatClampNeg + (σ.1 1).toNatClampNeg ≤ 200) (fd_gd ((0 : Int32).toNatClampNeg + (σ.1 1).toNatClampNeg ≤ 200) (fd_lt (fd_cL 15 16 (0 : Int32) (0 : Int32) (σ.1 1) σ) (fun σ6 => fd_lt (if p4 < p1 then p4 else p1) (fun x7 => f_X2_hold_1_L25 N N p1 p2 p4 p5 x7 σ6)))))))
set_option maxHeartbeats 4000000 in
set_option maxRecDepth 100000 in
theorem m_X2_hold_1 (l : Launch) (D : va_G) (a : Nat → Nat) (k : Nat → ClassId) (sz : Nat) (hI : fd_I 39 a) (N : Nat) (p1 : Int32) (p2 : Int64) (p4 : Int32) (p5 : Int64) (σ : fd_St) (r : Unit × fd_St) (hf : f_X2_hold_1 N p1 p2 p4 p5 σ = some r) : Met l yX2_hold wsX2_hold ({ frames := 1, cells := 0, slots := 0, locals := 80 }) (va_Pc [.ref (a 1), .int p1, .long p2, .int p4, .long p5] (fd_PC D a k sz σ)) (va_Qv (fun u => ((), u) = r) (fd_BC D a k) (fd_A 39 a sz)) 0 0 (fd_A 39 a sz) := by
  refine Met.ofW (cc := cX2_hold) (maxL := 8) (ret := none) (by decide) rfl ?_
  intro p e s m args below meth c s₁ B hml hv
  obtain ⟨rfl, hsz, hP, hK⟩ := hv
  have hx := B.exec
  have hb := B.bytes
  have hr := B.returns
  have hts := atoms_spec (ws := wsX2_hold) B.pre
  have hown : s.vm.findClass RX2 = some m.cls := findClass_of_methodNamed B.named
  have hlocks := B.notSynchronized
  subst hsz
  have hJ : ∀ i, i < 39 → fd_A 39 a s.heap.size (a i) := fun i hi => Or.inl ⟨i, hi, rfl⟩
  have hS : va_S (fd_A 39 a s.heap.size) s.heap s.heap [] := va_S.rf
  have hl := lv_entry ([.ref (a 1), .int p1, .long p2, .int p4, .long p5]) (n := 8) (Nat.le_of_ble_eq_true rfl)
  rw [lg_entry_eq]
  generalize (lg_sl ([.ref (a 1), .int p1, .long p2, .int p4, .long p5]) ++ List.replicate (8 - (lg_sl ([.ref (a 1), .int p1, .long p2, .int p4, .long p5])).length) Slot.unset).toArray = ls at hl ⊢
  have hl : lv_has ls 8 [(0, .ref (a 1)), (1, .int p1), (2, .long p2), (4, .int p4), (5, .long p5)] := hl
  have h9X2 : ∀ w ∈ u_ws RX2 TX2 9, w ∈ wsX2_hold := fd_su [21, 22, 23, 24, 25, 26, 27, 28, 29] (by eq_refl)
  have hL98 : ∀ (k25 : Int32 → Int64 → Int32 → Int64 → Int32 → fd_St → Option (Unit × fd_St)) (hk25 : ∀ (y1 : Int32) (y2 : Int64) (y4 : Int32) (y5 : Int64) (y7 : Int32) (σ : fd_St) (H : Heap) (locs : List Loc) (ls : Array Slot), va_P D vwCl (fd_WC a k σ) H → va_S (fd_A 39 a s.heap.size) s.heap H locs → lv_has ls 8 [(0, .ref (a 1)), (1, .int y1), (2, .long y2), (4, .int y4), (5, .long y5), (7, .int y7)] → k25 y1 y2 y4 y5 y7 σ = some r → W p l e ((headSpec wsX2_hold ({ frames := 1, cells := 0, slots := 0, locals := 80 })).room) s m ([.ref (a 1), .int p1, .long p2, .int p4, .long p5].toArray) below meth c H locs 0 0 (MQ below (va_Qv (fun u => ((), u) = r) (fd_BC D a k) (fd_A 39 a s.heap.size)) ([.ref (a 1), .int p1, .long p2, .int p4, .long p5].toArray) s 0 0 (fd_A 39 a s.heap.size)) (F0 m 25 ls [])), ∀ (y1 : Int32) (y2 : Int64) (y4 : Int32) (y5 : Int64) (y7 : Int32) (σ : fd_St) (H : Heap) (locs : List Loc) (ls : Array Slot), va_P D vwCl (fd_WC a k σ) H → va_S (fd_A 39 a s.heap.size) s.heap H locs → lv_has ls 8 [(0, .ref (a 1)), (1, .int y1), (2, .long y2), (4, .int y4), (5, .long y5), (7, .int y7)] → f_X2_hold_1_J98 N k25 y1 y2 y4 y5 y7 σ = some r → W p l e ((headSpec wsX2_hold ({ frames := 1, cells := 0, slots := 0, locals := 80 })).room) s m ([.ref (a 1), .int p1, .long p2, .int p4, .long p5].toArray) below meth c H locs 0 0 (MQ below (va_Qv (fun u => ((), u) = r) (fd_BC D a k) (fd_A 39 a s.heap.size)) ([.ref (a 1), .int p1, .long p2, .int p4, .long p5].toArray) s 0 0 (fd_A 39 a s.heap.size)) (F0 m 98 ls []) := by
    intro k25 hk25 y1 y2 y4 y5 y7 σ H locs ls hP hS hl hf
    unfold f_X2_hold_1_J98 at hf
    obtain ⟨x13, ex13, hf⟩ := fd_lts hf
    refine lv_iinc (v := x13) (lv' := [(7, .int x13), (0, .ref (a 1)), (1, .int y1), (2, .long y2), (4, .int y4), (5, .long y5)]) hx hb dX2_hold_98 hl (k := 5) rfl (by rw [ex13]; rfl) (by decide) rfl (fun ls hl => ?_)
    refine lv_goto (tgt := 25) hx hb dX2_hold_101 (by decide) ?_
    exact hk25 y1 y2 y4 y5 x13 σ _ _ _ hP hS (lv_sub hl [1, 2, 3, 4, 5, 0] rfl) hf
  have hL25 : ∀ (n : Nat), ∀ (y1 : Int32) (y2 : Int64) (y4 : Int32) (y5 : Int64) (y7 : Int32) (σ : fd_St) (H : Heap) (locs : List Loc) (ls : Array Slot), va_P D vwCl (fd_WC a k σ) H → va_S (fd_A 39 a s.heap.size) s.heap H locs → lv_has ls 8 [(0, .ref (a 1)), (1, .int y1), (2, .long y2), (4, .int y4), (5, .long y5), (7, .int y7)] → f_X2_hold_1_L25 N n y1 y2 y4 y5 y7 σ = some r → W p l e ((headSpec wsX2_hold ({ frames := 1, cells := 0, slots := 0, locals := 80 })).room) s m ([.ref (a 1), .int p1, .long p2, .int p4, .long p5].toArray) below meth c H locs 0 0 (MQ below (va_Qv (fun u => ((), u) = r) (fd_BC D a k) (fd_A 39 a s.heap.size)) ([.ref (a 1), .int p1, .long p2, .int p4, .long p5].toArray) s 0 0 (fd_A 39 a s.heap.size)) (F0 m 25 ls []) := by
    intro n
    induction n with
    | zero =>
      intro _ _ _ _ _ _ _ _ _ _ _ _ hf
      cases hf
    | succ n ih =>
      intro y1 y2 y4 y5 y7 σ H locs ls hP hS hl hf
      unfold f_X2_hold_1_L25 at hf
      refine lv_iload hx hb dX2_hold_25 (lv_at hl 5 rfl) ?_
      refine lv_aload_n hx hb dX2_hold_27 rfl (lv_at hl 0 rfl) ?_
      refine va_get (ci := 2) (v := .int (σ.1 1)) (C := RX2) (T := TX2) (N := 9) hx hb hts h9X2 hown hK hP 1 fd_WC_1 rfl 6 (by decide) (hts (.fieldLink RX2 32 "FailDiagnose$Circuit" "nets" "I") (List.mem_of_getElem? (i := 3) (by eq_refl))) (fun _ h9 => h9) rfl dX2_hold_28 ?_
      refine lv_icmp_ge (tgt := 104) hx hb dX2_hold_31 (by decide) (fun c8 => ?_) (fun c8 => ?_)
      · have hf := fd_itp c8 hf
        exact W.vret hx hb hr (fun t ht hW => ⟨⟨σ, rfl, Option.some.inj hf, by rw [ht]; exact hP, va_K.moved hW.alike hK⟩, hS.F ht⟩) hS.2.2 dX2_hold_104
      · have hf := fd_itn c8 hf
        refine lv_iload hx hb dX2_hold_34 (lv_at hl 5 rfl) ?_
        refine lv_iload_n hx hb dX2_hold_36 rfl (lv_at hl 1 rfl) ?_
        refine lv_icmp_ne (tgt := 51) hx hb dX2_hold_37 (by decide) (fun c9 => ?_) (fun c9 => ?_)
        · have hf := fd_itn c9 hf
          refine lv_iload hx hb dX2_hold_51 (lv_at hl 5 rfl) ?_
          refine lv_iload hx hb dX2_hold_53 (lv_at hl 3 rfl) ?_
          refine lv_icmp_ne (tgt := 70) hx hb dX2_hold_55 (by decide) (fun c10 => ?_) (fun c10 => ?_)
          · have hf := fd_itn c10 hf
            refine lv_aload_n hx hb dX2_hold_70 rfl (lv_at hl 0 rfl) ?_
            refine va_get (ci := 2) (v := .ref (a 12)) (C := RX2) (T := TX2) (N := 9) hx hb hts h9X2 hown hK hP 1 fd_WC_1 rfl 0 (by decide) (hts (.fieldLink RX2 9 "FailDiagnose$Circuit" "kinds" "[I") (List.mem_of_getElem? (i := 12) (by eq_refl))) (fun _ h9 => h9) rfl dX2_hold_71 ?_
            refine lv_iload hx hb dX2_hold_74 (lv_at hl 5 rfl) ?_
            obtain ⟨g11, hf⟩ := fd_gds hf
            refine va_iald hx hb hK hP 12 0 fd_WC_12 fd_tyC_12 g11 dX2_hold_76 ?_
            refine lv_iconst (v := (-1 : Int32)) hx hb dX2_hold_77 (by decide) ?_
            refine lv_icmp_eq (tgt := 98) hx hb dX2_hold_78 (by decide) (fun c12 => ?_) (fun c12 => ?_)
            · have hf := fd_itp c12 hf
              exact hL98 (f_X2_hold_1_L25 N n) ih y1 y2 y4 y5 y7 σ _ _ _ hP hS (lv_sub hl [0, 1, 2, 3, 4, 5] rfl) hf
            · have hf := fd_itn c12 hf
              refine lv_aload_n hx hb dX2_hold_81 rfl (lv_at hl 0 rfl) ?_
              refine va_get (ci := 2) (v := .ref (a 16)) (C := RX2) (T := TX2) (N := 9) hx hb hts h9X2 hown hK hP 1 fd_WC_1 rfl 4 (by decide) (hts (.fieldLink RX2 25 "FailDiagnose$Circuit" "faultyRows" "[J") (List.mem_of_getElem? (i := 2) (by eq_refl))) (fun _ h9 => h9) rfl dX2_hold_82 ?_
              refine lv_iload hx hb dX2_hold_85 (lv_at hl 5 rfl) ?_
              refine lv_aload_n hx hb dX2_hold_87 rfl (lv_at hl 0 rfl) ?_
              refine lv_iload hx hb dX2_hold_88 (lv_at hl 5 rfl) ?_
              refine lv_aload_n hx hb dX2_hold_90 rfl (lv_at hl 0 rfl) ?_
              refine va_get (ci := 2) (v := .ref (a 16)) (C := RX2) (T := TX2) (N := 9) hx hb hts h9X2 hown hK hP 1 fd_WC_1 rfl 4 (by decide) (hts (.fieldLink RX2 25 "FailDiagnose$Circuit" "faultyRows" "[J") (List.mem_of_getElem? (i := 2) (by eq_refl))) (fun _ h9 => h9) rfl dX2_hold_91 ?_
              obtain ⟨w17, τ18, hc14, hf⟩ := fd_bds hf
              refine va_calll (va_runV (As := [.int y7, .ref (a 16)]) (rest := [.int y7, .ref (a 16)]) ⟨hx, hb, hml, hown, hts⟩ (m_X2_gateRow_1_16 l D a k H.size hI N y7 σ _ hc14) (cwV 2 hts gX2_hold_X2_gateRow rfl rfl rfl (by decide +kernel) ⟨Nat.le_of_ble_eq_true rfl, Nat.le_of_ble_eq_true rfl⟩) ⟨fd_blC, va_recv hK hP (ci := 2) (q0 := 1) rfl fd_WC_1, fd_prC hP hK⟩ rfl rfl hl.1 rfl (lv_room (Nat.le_of_ble_eq_true rfl)) dX2_hold_94 ⟨Nat.zero_le _, Nat.zero_le _⟩) hS (fun q _ h => fd_A_mono hS.1 h) (fun q h => fd_A_mono hS.1 h) (fun v15 u t H1 locs ht hvm hw hB hz hk hS => ?_)
              obtain ⟨hP1, hK1⟩ := hB
              rw [ht] at hP1
              obtain ⟨e1, e2⟩ := Prod.mk.inj hw
              subst e1
              subst e2
              obtain ⟨σ16, rfl⟩ : ∃ z, z = u := ⟨_, rfl⟩
              have hP := hP1
              generalize H1 = H at hP hS ⊢
              obtain ⟨g19, hf⟩ := fd_gds hf
              obtain ⟨σ20, eσ20, hf⟩ := fd_lts hf
              refine va_last hx hb hK hP (fd_DC hI hJ) hS 16 4 fd_WC_16 fd_tyC_16 g19 dX2_hold_97 (fun H locs hP _ hS => ?_)
              have hP : va_P D vwCl (fd_WC a k σ20) H := by rw [eσ20]; exact fd_sP fd_WCa_16 hP
              exact hL98 (f_X2_hold_1_L25 N n) ih y1 y2 y4 y5 y7 σ20 _ _ _ hP hS (lv_sub hl [0, 1, 2, 3, 4, 5] rfl) hf
          · have hf := fd_itp c10 hf
            refine lv_aload_n hx hb dX2_hold_58 rfl (lv_at hl 0 rfl) ?_
            refine va_get (ci := 2) (v := .ref (a 16)) (C := RX2) (T := TX2) (N := 9) hx hb hts h9X2 hown hK hP 1 fd_WC_1 rfl 4 (by decide) (hts (.fieldLink RX2 25 "FailDiagnose$Circuit" "faultyRows" "[J") (List.mem_of_getElem? (i := 2) (by eq_refl))) (fun _ h9 => h9) rfl dX2_hold_59 ?_
            refine lv_iload hx hb dX2_hold_62 (lv_at hl 5 rfl) ?_
            refine lv_lload hx hb dX2_hold_64 (lv_at hl 4 rfl) ?_
            obtain ⟨g21, hf⟩ := fd_gds hf
            obtain ⟨σ22, eσ22, hf⟩ := fd_lts hf
            refine va_last hx hb hK hP (fd_DC hI hJ) hS 16 4 fd_WC_16 fd_tyC_16 g21 dX2_hold_66 (fun H locs hP _ hS => ?_)
            have hP : va_P D vwCl (fd_WC a k σ22) H := by rw [eσ22]; exact fd_sP fd_WCa_16 hP
            refine lv_goto (tgt := 98) hx hb dX2_hold_67 (by decide) ?_
            exact hL98 (f_X2_hold_1_L25 N n) ih y1 y2 y4 y5 y7 σ22 _ _ _ hP hS (lv_sub hl [0, 1, 2, 3, 4, 5] rfl) hf
        · have hf := fd_itp c9 hf
          refine lv_aload_n hx hb dX2_hold_40 rfl (lv_at hl 0 rfl) ?_
          refine va_get (ci := 2) (v := .ref (a 16)) (C := RX2) (T := TX2) (N := 9) hx hb hts h9X2 hown hK hP 1 fd_WC_1 rfl 4 (by decide) (hts (.fieldLink RX2 25 "FailDiagnose$Circuit" "faultyRows" "[J") (List.mem_of_getElem? (i := 2) (by eq_refl))) (fun _ h9 => h9) rfl dX2_hold_41 ?_
          refine lv_iload hx hb dX2_hold_44 (lv_at hl 5 rfl) ?_
          refine lv_lload_n hx hb dX2_hold_46 rfl (lv_at hl 2 rfl) ?_
          obtain ⟨g23, hf⟩ := fd_gds hf
          obtain ⟨σ24, eσ24, hf⟩ := fd_lts hf
          refine va_last hx hb hK hP (fd_DC hI hJ) hS 16 4 fd_WC_16 fd_tyC_16 g23 dX2_hold_47 (fun H locs hP _ hS => ?_)
          have hP : va_P D vwCl (fd_WC a k σ24) H := by rw [eσ24]; exact fd_sP fd_WCa_16 hP
          refine lv_goto (tgt := 98) hx hb dX2_hold_48 (by decide) ?_
          exact hL98 (f_X2_hold_1_L25 N n) ih y1 y2 y4 y5 y7 σ24 _ _ _ hP hS (lv_sub hl [0, 1, 2, 3, 4, 5] rfl) hf
  unfold f_X2_hold_1 at hf
  refine lv_aload_n hx hb dX2_hold_0 rfl (lv_at hl 0 rfl) ?_
  refine va_get (ci := 2) (v := .ref (a 15)) (C := RX2) (T := TX2) (N := 9) hx hb hts h9X2 hown hK hP 1 fd_WC_1 rfl 3 (by decide) (hts (.fieldLink RX2 21 "FailDiagnose$Circuit" "goodRows" "[J") (List.mem_of_getElem? (i := 1) (by eq_refl))) (fun _ h9 => h9) rfl dX2_hold_1 ?_
  refine lv_iconst (v := (0 : Int32)) hx hb dX2_hold_4 (by decide) ?_
  refine lv_aload_n hx hb dX2_hold_5 rfl (lv_at hl 0 rfl) ?_
  refine va_get (ci := 2) (v := .ref (a 16)) (C := RX2) (T := TX2) (N := 9) hx hb hts h9X2 hown hK hP 1 fd_WC_1 rfl 4 (by decide) (hts (.fieldLink RX2 25 "FailDiagnose$Circuit" "faultyRows" "[J") (List.mem_of_getElem? (i := 2) (by eq_refl))) (fun _ h9 => h9) rfl dX2_hold_6 ?_
  refine lv_iconst (v := (0 : Int32)) hx hb dX2_hold_9 (by decide) ?_
  refine lv_aload_n hx hb dX2_hold_10 rfl (lv_at hl 0 rfl) ?_
  refine va_get (ci := 2) (v := .int (σ.1 1)) (C := RX2) (T := TX2) (N := 9) hx hb hts h9X2 hown hK hP 1 fd_WC_1 rfl 6 (by decide) (hts (.fieldLink RX2 32 "FailDiagnose$Circuit" "nets" "I") (List.mem_of_getElem? (i := 3) (by eq_refl))) (fun _ h9 => h9) rfl dX2_hold_11 ?_
  obtain ⟨g1, hf⟩ := fd_gds hf
  obtain ⟨g2, hf⟩ := fd_gds hf
  obtain ⟨g3, hf⟩ := fd_gds hf
  obtain ⟨g4, hf⟩ := fd_gds hf
  obtain ⟨g5, hf⟩ := fd_gds hf
  obtain ⟨σ6, eσ6, hf⟩ := fd_lts hf
  refine va_copyl (ty := .long) hx hb (hml.trans hl.1.symm) hown (hts (.methodLink RX2 69 arraycopyName) (List.mem_of_getElem? (i := 4) (by eq_refl))) (hts (.native arraycopyName) (List.mem_of_getElem? (i := 5) (by eq_refl))) (hts (.static arraycopyName) (List.mem_of_getElem? (i := 6) (by eq_refl))) (hts (.initialized "java/lang/System") (List.mem_of_getElem? (i := 7) (by eq_refl))) hK hP (fd_DC hI hJ) hS 15 16 3 4 fd_WC_15 fd_WC_16 fd_tyC_15 fd_tyC_16 rfl g1 g2 g3 g4 g5 (fun _ _ => rfl) (Nat.le_of_ble_eq_true rfl) (by decide +kernel) dX2_hold_14 (fun H locs hP _ hS => ?_)
  have hP : va_P D vwCl (fd_WC a k σ6) H := by rw [eσ6]; exact fd_sP rfl hP
  refine lv_iload_n hx hb dX2_hold_17 rfl (lv_at hl 1 rfl) ?_
  refine lv_iload hx hb dX2_hold_18 (lv_at hl 3 rfl) ?_
  refine va_mmin hx hb (hml.trans hl.1.symm) hown (hts (.methodLink RX2 56 Lib.Math.min.name) (List.mem_of_getElem? (i := 8) (by eq_refl))) (hts (.static Lib.Math.min.name) (List.mem_of_getElem? (i := 9) (by eq_refl))) (hts (.initialized "java/lang/Math") (List.mem_of_getElem? (i := 10) (by eq_refl))) (hts (.code Lib.Math.min.name Lib.Math.min.code 2 (some .int)) (List.mem_of_getElem? (i := 11) (by eq_refl))) (Nat.le_of_ble_eq_true rfl) (Nat.le_of_ble_eq_true rfl) (Nat.zero_le _) (Nat.zero_le _) dX2_hold_20 ?_
  obtain ⟨x7, ex7, hf⟩ := fd_lts hf
  refine fd_ni ex7 ?_
  refine lv_istore (lv' := [(7, .int x7), (0, .ref (a 1)), (1, .int p1), (2, .long p2), (4, .int p4), (5, .long p5)]) hx hb dX2_hold_23 hl (by decide) rfl (fun ls hl => ?_)
  exact hL25 N p1 p2 p4 p5 x7 σ6 _ _ _ hP hS (lv_sub hl [1, 2, 3, 4, 5, 0] rfl) hf
noncomputable def f_X2_holdJoined_1_J34 (N : Nat) (y1 : Int32) (y2 : Int32) (z0 : Int64) (σ : fd_St) : Option (Unit × fd_St) := fd_bd (f_X2_hold_1 N y1 z0 y2 z0 σ) (fun _ σ6 => some ((), σ6))
noncomputable def f_X2_holdJoined_1 (N : Nat) (p1 : Int32) (p2 : Int32) (p3 : Int32) (σ : fd_St) : Option (Unit × fd_St) := if p3 = (2 : Int32) then (fd_gd (vp_in p1 200) (fd_gd (vp_in p2 200) (f_X2_holdJoined_1_J34 N p1 p2 ((σ.2.2 15 p1.toNatClampNeg) &&& (σ.2.2 15 p2.toNatClampNeg)) σ))) else (fd_gd (vp_in p1 200) (fd_gd (vp_in p2 200) (f_X2_holdJoined_1_J34 N p1 p2 ((σ.2.2 15 p1.toNatClampNeg) ||| (σ.2.2 15 p2.toNatClampNeg)) σ)))
set_option maxHeartbeats 4000000 in
set_option maxRecDepth 100000 in
theorem m_X2_holdJoined_1 (l : Launch) (D : va_G) (a : Nat → Nat) (k : Nat → ClassId) (sz : Nat) (hI : fd_I 39 a) (N : Nat) (p1 : Int32) (p2 : Int32) (p3 : Int32) (σ : fd_St) (r : Unit × fd_St) (hf : f_X2_holdJoined_1 N p1 p2 p3 σ = some r) : Met l yX2_holdJoined wsX2_holdJoined ({ frames := 2, cells := 0, slots := 0, locals := 107 }) (va_Pc [.ref (a 1), .int p1, .int p2, .int p3] (fd_PC D a k sz σ)) (va_Qv (fun u => ((), u) = r) (fd_BC D a k) (fd_A 39 a sz)) 0 0 (fd_A 39 a sz) := by
  refine Met.ofW (cc := cX2_holdJoined) (maxL := 6) (ret := none) (by decide) rfl ?_
  intro p e s m args below meth c s₁ B hml hv
  obtain ⟨rfl, hsz, hP, hK⟩ := hv
  have hx := B.exec
  have hb := B.bytes
  have hr := B.returns
  have hts := atoms_spec (ws := wsX2_holdJoined) B.pre
  have hown : s.vm.findClass RX2 = some m.cls := findClass_of_methodNamed B.named
  have hlocks := B.notSynchronized
  subst hsz
  have hJ : ∀ i, i < 39 → fd_A 39 a s.heap.size (a i) := fun i hi => Or.inl ⟨i, hi, rfl⟩
  have hS : va_S (fd_A 39 a s.heap.size) s.heap s.heap [] := va_S.rf
  have hl := lv_entry ([.ref (a 1), .int p1, .int p2, .int p3]) (n := 6) (Nat.le_of_ble_eq_true rfl)
  rw [lg_entry_eq]
  generalize (lg_sl ([.ref (a 1), .int p1, .int p2, .int p3]) ++ List.replicate (6 - (lg_sl ([.ref (a 1), .int p1, .int p2, .int p3])).length) Slot.unset).toArray = ls at hl ⊢
  have hl : lv_has ls 6 [(0, .ref (a 1)), (1, .int p1), (2, .int p2), (3, .int p3)] := hl
  have h9X2 : ∀ w ∈ u_ws RX2 TX2 9, w ∈ wsX2_holdJoined := fd_su [25, 26, 27, 28, 29, 30, 31, 32, 33] (by eq_refl)
  have hL34 : ∀ (y1 : Int32) (y2 : Int32) (z0 : Int64) (σ : fd_St) (H : Heap) (locs : List Loc) (ls : Array Slot), va_P D vwCl (fd_WC a k σ) H → va_S (fd_A 39 a s.heap.size) s.heap H locs → lv_has ls 6 [(0, .ref (a 1)), (1, .int y1), (2, .int y2)] → f_X2_holdJoined_1_J34 N y1 y2 z0 σ = some r → W p l e ((headSpec wsX2_holdJoined ({ frames := 2, cells := 0, slots := 0, locals := 107 })).room) s m ([.ref (a 1), .int p1, .int p2, .int p3].toArray) below meth c H locs 0 0 (MQ below (va_Qv (fun u => ((), u) = r) (fd_BC D a k) (fd_A 39 a s.heap.size)) ([.ref (a 1), .int p1, .int p2, .int p3].toArray) s 0 0 (fd_A 39 a s.heap.size)) (F0 m 34 ls [.long z0]) := by
    intro y1 y2 z0 σ H locs ls hP hS hl hf
    unfold f_X2_holdJoined_1_J34 at hf
    refine lv_lstore (lv' := [(4, .long z0), (0, .ref (a 1)), (1, .int y1), (2, .int y2)]) hx hb dX2_holdJoined_34 hl (by decide) rfl (fun ls hl => ?_)
    refine lv_aload_n hx hb dX2_holdJoined_36 rfl (lv_at hl 1 rfl) ?_
    refine lv_iload_n hx hb dX2_holdJoined_37 rfl (lv_at hl 2 rfl) ?_
    refine lv_lload hx hb dX2_holdJoined_38 (lv_at hl 0 rfl) ?_
    refine lv_iload_n hx hb dX2_holdJoined_40 rfl (lv_at hl 3 rfl) ?_
    refine lv_lload hx hb dX2_holdJoined_41 (lv_at hl 0 rfl) ?_
    obtain ⟨w7, τ8, hc4, hf⟩ := fd_bds hf
    refine va_callv (va_runV (As := [.int y1, .long z0, .int y2, .long z0]) (rest := []) ⟨hx, hb, hml, hown, hts⟩ (m_X2_hold_1 l D a k H.size hI N y1 z0 y2 z0 σ _ hc4) (cwV 4 hts gX2_holdJoined_X2_hold rfl rfl rfl (by decide +kernel) ⟨Nat.le_of_ble_eq_true rfl, Nat.le_of_ble_eq_true rfl⟩) ⟨fd_blC, va_recv hK hP (ci := 2) (q0 := 1) rfl fd_WC_1, fd_prC hP hK⟩ rfl rfl hl.1 rfl (lv_room (Nat.le_of_ble_eq_true rfl)) dX2_holdJoined_43 ⟨Nat.zero_le _, Nat.zero_le _⟩) hS (fun q _ h => fd_A_mono hS.1 h) (fun q h => fd_A_mono hS.1 h) (fun u t H1 locs ht hvm hw hB hz hk hS => ?_)
    obtain ⟨hP1, hK1⟩ := hB
    rw [ht] at hP1
    have e2 := (Prod.mk.inj hw).2
    subst e2
    obtain ⟨σ6, rfl⟩ : ∃ z, z = u := ⟨_, rfl⟩
    have hP := hP1
    generalize H1 = H at hP hS ⊢
    exact W.vret hx hb hr (fun t ht hW => ⟨⟨σ6, rfl, Option.some.inj hf, by rw [ht]; exact hP, va_K.moved hW.alike hK⟩, hS.F ht⟩) hS.2.2 dX2_holdJoined_46
  unfold f_X2_holdJoined_1 at hf
  refine lv_iload_n hx hb dX2_holdJoined_0 rfl (lv_at hl 3 rfl) ?_
  refine lv_iconst (v := (2 : Int32)) hx hb dX2_holdJoined_1 (by decide) ?_
  refine lv_icmp_ne (tgt := 21) hx hb dX2_holdJoined_2 (by decide) (fun c1 => ?_) (fun c1 => ?_)
  · have hf := fd_itn c1 hf
    refine lv_aload_n hx hb dX2_holdJoined_21 rfl (lv_at hl 0 rfl) ?_
    refine va_get (ci := 2) (v := .ref (a 15)) (C := RX2) (T := TX2) (N := 9) hx hb hts h9X2 hown hK hP 1 fd_WC_1 rfl 3 (by decide) (hts (.fieldLink RX2 21 "FailDiagnose$Circuit" "goodRows" "[J") (List.mem_of_getElem? (i := 1) (by eq_refl))) (fun _ h9 => h9) rfl dX2_holdJoined_22 ?_
    refine lv_iload_n hx hb dX2_holdJoined_25 rfl (lv_at hl 1 rfl) ?_
    obtain ⟨g2, hf⟩ := fd_gds hf
    refine va_lald hx hb hK hP 15 3 fd_WC_15 fd_tyC_15 g2 dX2_holdJoined_26 ?_
    refine lv_aload_n hx hb dX2_holdJoined_27 rfl (lv_at hl 0 rfl) ?_
    refine va_get (ci := 2) (v := .ref (a 15)) (C := RX2) (T := TX2) (N := 9) hx hb hts h9X2 hown hK hP 1 fd_WC_1 rfl 3 (by decide) (hts (.fieldLink RX2 21 "FailDiagnose$Circuit" "goodRows" "[J") (List.mem_of_getElem? (i := 1) (by eq_refl))) (fun _ h9 => h9) rfl dX2_holdJoined_28 ?_
    refine lv_iload_n hx hb dX2_holdJoined_31 rfl (lv_at hl 2 rfl) ?_
    obtain ⟨g3, hf⟩ := fd_gds hf
    refine va_lald hx hb hK hP 15 3 fd_WC_15 fd_tyC_15 g3 dX2_holdJoined_32 ?_
    refine lv_lor hx hb dX2_holdJoined_33 ?_
    exact hL34 p1 p2 ((σ.2.2 15 p1.toNatClampNeg) ||| (σ.2.2 15 p2.toNatClampNeg)) σ _ _ _ hP hS (lv_sub hl [0, 1, 2] rfl) hf
  · have hf := fd_itp c1 hf
    refine lv_aload_n hx hb dX2_holdJoined_5 rfl (lv_at hl 0 rfl) ?_
    refine va_get (ci := 2) (v := .ref (a 15)) (C := RX2) (T := TX2) (N := 9) hx hb hts h9X2 hown hK hP 1 fd_WC_1 rfl 3 (by decide) (hts (.fieldLink RX2 21 "FailDiagnose$Circuit" "goodRows" "[J") (List.mem_of_getElem? (i := 1) (by eq_refl))) (fun _ h9 => h9) rfl dX2_holdJoined_6 ?_
    refine lv_iload_n hx hb dX2_holdJoined_9 rfl (lv_at hl 1 rfl) ?_
    obtain ⟨g9, hf⟩ := fd_gds hf
    refine va_lald hx hb hK hP 15 3 fd_WC_15 fd_tyC_15 g9 dX2_holdJoined_10 ?_
    refine lv_aload_n hx hb dX2_holdJoined_11 rfl (lv_at hl 0 rfl) ?_
    refine va_get (ci := 2) (v := .ref (a 15)) (C := RX2) (T := TX2) (N := 9) hx hb hts h9X2 hown hK hP 1 fd_WC_1 rfl 3 (by decide) (hts (.fieldLink RX2 21 "FailDiagnose$Circuit" "goodRows" "[J") (List.mem_of_getElem? (i := 1) (by eq_refl))) (fun _ h9 => h9) rfl dX2_holdJoined_12 ?_
    refine lv_iload_n hx hb dX2_holdJoined_15 rfl (lv_at hl 2 rfl) ?_
    obtain ⟨g10, hf⟩ := fd_gds hf
    refine va_lald hx hb hK hP 15 3 fd_WC_15 fd_tyC_15 g10 dX2_holdJoined_16 ?_
    refine lv_land hx hb dX2_holdJoined_17 ?_
    refine lv_goto (tgt := 34) hx hb dX2_holdJoined_18 (by decide) ?_
    exact hL34 p1 p2 ((σ.2.2 15 p1.toNatClampNeg) &&& (σ.2.2 15 p2.toNatClampNeg)) σ _ _ _ hP hS (lv_sub hl [0, 1, 2] rfl) hf
noncomputable def f_X2_stuckRow (N : Nat) (p0 : Int32) (σ : fd_St) : Option (Int64 × fd_St) := if p0 = 0 then (some ((0 : Int64), σ)) else (some ((-1 : Int64), σ))
set_option maxHeartbeats 4000000 in
set_option maxRecDepth 100000 in
theorem m_X2_stuckRow (l : Launch) (D : va_G) (a : Nat → Nat) (k : Nat → ClassId) (sz : Nat) (hI : fd_I 39 a) (N : Nat) (p0 : Int32) (σ : fd_St) (r : Int64 × fd_St) (hf : f_X2_stuckRow N p0 σ = some r) : Met l yX2_stuckRow wsX2_stuckRow ({ frames := 0, cells := 0, slots := 0, locals := 0 }) (va_Pc [.int p0] (fd_PC D a k sz σ)) (va_Ql (fun v u => (v, u) = r) (fd_BC D a k) (fd_A 39 a sz)) 0 0 (fd_A 39 a sz) := by
  refine Met.ofW (cc := cX2_stuckRow) (maxL := 1) (ret := (some .long)) (by decide) rfl ?_
  intro p e s m args below meth c s₁ B hml hv
  obtain ⟨rfl, hsz, hP, hK⟩ := hv
  have hx := B.exec
  have hb := B.bytes
  have hr := B.returns
  have hts := atoms_spec (ws := wsX2_stuckRow) B.pre
  have hown : s.vm.findClass RX2 = some m.cls := findClass_of_methodNamed B.named
  have hlocks := B.notSynchronized
  subst hsz
  have hJ : ∀ i, i < 39 → fd_A 39 a s.heap.size (a i) := fun i hi => Or.inl ⟨i, hi, rfl⟩
  have hS : va_S (fd_A 39 a s.heap.size) s.heap s.heap [] := va_S.rf
  have hl := lv_entry ([.int p0]) (n := 1) (Nat.le_of_ble_eq_true rfl)
  rw [lg_entry_eq]
  generalize (lg_sl ([.int p0]) ++ List.replicate (1 - (lg_sl ([.int p0])).length) Slot.unset).toArray = ls at hl ⊢
  have hl : lv_has ls 1 [(0, .int p0)] := hl
  unfold f_X2_stuckRow at hf
  refine lv_iload_n hx hb dX2_stuckRow_0 rfl (lv_at hl 0 rfl) ?_
  refine lv_if_ne (tgt := 8) hx hb dX2_stuckRow_1 (by decide) (fun c1 => ?_) (fun c1 => ?_)
  · have hf := fd_itn c1 hf
    refine lv_ldc2 hx hb hown (hts (.constantLong RX2 54 (-1)) (List.mem_of_getElem? (i := 1) (by eq_refl))) dX2_stuckRow_8 ?_
    exact W.lret (v := (-1 : Int64)) hx hb hr (fun t ht hW => ⟨⟨(-1 : Int64), σ, rfl, Option.some.inj hf, by rw [ht]; exact hP, va_K.moved hW.alike hK⟩, hS.F ht⟩) hS.2.2 dX2_stuckRow_11
  · have hf := fd_itp c1 hf
    refine lv_lconst (v := (0 : Int64)) hx hb dX2_stuckRow_4 (by decide) ?_
    refine lv_goto (tgt := 11) hx hb dX2_stuckRow_5 (by decide) ?_
    exact W.lret (v := (0 : Int64)) hx hb hr (fun t ht hW => ⟨⟨(0 : Int64), σ, rfl, Option.some.inj hf, by rw [ht]; exact hP, va_K.moved hW.alike hK⟩, hS.F ht⟩) hS.2.2 dX2_stuckRow_11
