theorem fd_ok_iv {α : Type} {o : Option (α × fd_St)} {P : α → fd_St → Prop} {v : α} {s : fd_St} (h : fd_ok o P) (e : o = some (v, s)) : P v s := by
  obtain ⟨v', s', e', p⟩ := h
  rw [e] at e'
  obtain ⟨a, b⟩ := Prod.mk.inj (Option.some.inj e')
  rw [a, b]; exact p
theorem fd_in_01 (p : Prop) : 0 ≤ fd_in p ∧ fd_in p ≤ 1 := by
  by_cases c : p
  · rw [fd_in_t c]; omega
  · rw [fd_in_f c]; omega
theorem fd_F_1 {k f g : Nat → Int32} {p w w' : Nat → Int64} {a b n : Nat} {ra rb : Int64} (ho : fd_Go k f g n) (h : fd_F k f g p a ra b rb w n) (h' : fd_F k f g p a ra b rb w' n) : ∀ m i, i < m → i < n → w i = w' i := by
  intro m
  induction m with
  | zero => intro i hi; omega
  | succ m ih =>
    intro i hi hin
    rw [h i hin, h' i hin]
    by_cases hk : k i = -1
    · rw [if_pos hk, if_pos hk]
    · obtain ⟨o1, o2⟩ := ho i hin hk
      rw [ih _ (by omega : (f i).toNatClampNeg < m) (by omega), ih _ (by omega : (g i).toNatClampNeg < m) (by omega)]
theorem fd_F_ex {k f g : Nat → Int32} {p : Nat → Int64} {a b : Nat} {ra rb : Int64} : ∀ n, fd_Go k f g n → ∃ w, fd_F k f g p a ra b rb w n := by
  intro n
  induction n with
  | zero => intro _; exact ⟨fun _ => 0, fun i hi => absurd hi (Nat.not_lt_zero i)⟩
  | succ n ih =>
    intro ho
    obtain ⟨w, hw⟩ := ih (fd_Go_le ho (by omega))
    exact ⟨_, fd_F_s ho hw rfl⟩
/-- the fault wh of kind kd explains something -/
def fd_PQ (k f g A B O : Nat → Int32) (r p fl : Nat → Int64) (n ou : Nat) (m : Int64) (kd wh : Int32) : Prop := ∃ w, fd_F k f g p (fd_qa kd wh A).toNatClampNeg (fd_qr kd (r (fd_qa kd wh A).toNatClampNeg) (r (fd_qa kd wh B).toNatClampNeg)) (fd_qa kd wh B).toNatClampNeg (fd_qr kd (r (fd_qa kd wh A).toNatClampNeg) (r (fd_qa kd wh B).toNatClampNeg)) w n ∧ ∃ j, j < ou ∧ fd_T r w O fl m j ≠ 0
theorem fd_PQ_iff {k f g A B O : Nat → Int32} {r p fl w : Nat → Int64} {n ou : Nat} {m : Int64} {kd wh : Int32} (ho : fd_Go k f g n) (hO : ∀ j, j < ou → (O j).toNatClampNeg < n) (hw : fd_F k f g p (fd_qa kd wh A).toNatClampNeg (fd_qr kd (r (fd_qa kd wh A).toNatClampNeg) (r (fd_qa kd wh B).toNatClampNeg)) (fd_qa kd wh B).toNatClampNeg (fd_qr kd (r (fd_qa kd wh A).toNatClampNeg) (r (fd_qa kd wh B).toNatClampNeg)) w n) : (¬ ∀ j, j < ou → fd_T r w O fl m j = 0) ↔ fd_PQ k f g A B O r p fl n ou m kd wh := by
  constructor
  · intro h
    refine ⟨w, hw, ?_⟩
    by_cases c : ∃ j, j < ou ∧ fd_T r w O fl m j ≠ 0
    · exact c
    · exfalso
      refine h (fun j hj => ?_)
      by_cases d : fd_T r w O fl m j = 0
      · exact d
      · exact absurd ⟨j, hj, d⟩ c
  · rintro ⟨w', hw', j, hj, hT⟩ h
    have e := fd_F_1 ho hw hw' _ (O j).toNatClampNeg (Nat.lt_succ_self _) (hO j hj)
    refine hT ?_
    have := h j hj
    unfold fd_T at this ⊢
    rw [← e]; exact this
/-- how many of the first n are -/
noncomputable def fd_cn (P : Int32 → Prop) : Nat → Int
  | 0 => 0
  | n + 1 => fd_cn P n + fd_in (P (Int32.ofNat n))
noncomputable def fd_tt (P : Int32 → Int32 → Prop) (nn pp : Nat) : Nat → Int
  | 0 => 0
  | k + 1 => fd_tt P nn pp k + fd_cn (P (Int32.ofNat k)) (if k < 2 then nn else pp)
theorem fd_cn_b (P : Int32 → Prop) : ∀ n, 0 ≤ fd_cn P n ∧ fd_cn P n ≤ (n : Int) := by
  intro n
  induction n with
  | zero => exact ⟨Int.le_refl _, Int.le_refl _⟩
  | succ n ih =>
    show 0 ≤ fd_cn P n + fd_in (P (Int32.ofNat n)) ∧ fd_cn P n + fd_in (P (Int32.ofNat n)) ≤ ((n + 1 : Nat) : Int)
    by_cases c : P (Int32.ofNat n)
    · rw [fd_in_t c]; omega
    · rw [fd_in_f c]; omega
theorem fd_cn_s (P : Int32 → Prop) {x : Int32} (h : 0 ≤ x.toInt) : fd_cn P (x.toNatClampNeg + 1) = fd_cn P x.toNatClampNeg + fd_in (P x) := by
  show fd_cn P x.toNatClampNeg + fd_in (P (Int32.ofNat x.toNatClampNeg)) = _
  rw [← fd_i32 h]
/-- the class's suspects of one kind -/
theorem q_fs_L22 (N : Nat) (hN : 1000 ≤ N) {k9 : Int32 → fd_St → Option (Unit × fd_St)} {σ0 : fd_St} {P : Int32 → Prop} {y1 y2 : Int32} (hk : 0 ≤ y1.toInt ∧ y1.toInt ≤ 3) (h2 : 0 ≤ y2.toInt ∧ y2.toInt ≤ 200) (h2b : 1 < y1.toInt → y2.toInt ≤ 40) (hP : ∀ (wh : Int32) (σ τ1 τ2 : fd_St) (u u' : Unit), fd_InvC σ → fd_fr [6, 12, 13, 14, 123, 124, 125, 126, 127, 128, 216] σ0 σ → 0 ≤ wh.toInt → wh.toInt < y2.toInt → f_X3_tryFault_4 N y1 wh σ = some (u, τ1) → f_X3_compareWithFails_4 N τ1 = some (u', τ2) → (¬ (τ2.1 12).toInt ≤ 0 ↔ P wh)) : ∀ (n : Nat) (y3 : Int32) (σ : fd_St) (v : Unit) (s : fd_St), fd_InvC σ → fd_fr [6, 12, 13, 14, 123, 124, 125, 126, 127, 128, 216] σ0 σ → 0 ≤ y3.toInt → y3.toInt ≤ y2.toInt → (σ.1 6).toInt + (y2.toInt - y3.toInt) ≤ 480 → f_X3_findSuspects_4_L22 N k9 n y1 y2 y3 σ = some (v, s) → ∃ (τ : fd_St) (x : Int32), x.toInt = y1.toInt + 1 ∧ k9 x τ = some (v, s) ∧ fd_InvC τ ∧ fd_fr [6, 12, 13, 14, 123, 124, 125, 126, 127, 128, 216] σ0 τ ∧ (τ.1 6).toInt = (σ.1 6).toInt + (fd_cn P y2.toNatClampNeg - fd_cn P y3.toNatClampNeg) := by
  have l0 : (0 : Int32).toInt = 0 := by decide
  have l1 : (1 : Int32).toInt = 1 := by decide
  intro n
  induction n with
  | zero => intro y3 σ v s _ _ _ _ _ h; cases h
  | succ n ih =>
    intro y3 σ v s i0 f0 h3 h32 hb h
    unfold f_X3_findSuspects_4_L22 at h
    by_cases c : y2 ≤ y3
    · have h := fd_itp c h
      have c1 := Int32.le_iff_toInt_le.mp c
      obtain ⟨x13, e13, h⟩ := fd_lts h
      have e : y3.toNatClampNeg = y2.toNatClampNeg := fd_te (by omega)
      have t := fd_la e13 (by omega) (by omega)
      exact ⟨σ, x13, by omega, h, i0, f0, by rw [e]; omega⟩
    · have h := fd_itn c h
      have c1 := Int32.lt_iff_toInt_lt.mp (Int32.not_le.mp c)
      obtain ⟨u1, σ16, k1, h⟩ := fd_bds h
      obtain ⟨i1, g1, _⟩ := fd_ok_iv (s_X3_tryFault_4 N hN _ _ _ i0 h3 (by omega) (by omega)) k1
      obtain ⟨u2, σ21, k2, h⟩ := fd_bds h
      obtain ⟨i2, g2, _⟩ := fd_ok_iv (s_X3_compareWithFails_4 N hN _ i1) k2
      obtain ⟨v25, σ26, k3, h⟩ := fd_bds h
      unfold f_X9_explained_8 at k3
      obtain ⟨a1, a2⟩ := Prod.mk.inj (Option.some.inj k3)
      rw [← a1, ← a2] at h
      have hq := hP y3 σ σ16 σ21 u1 u2 i0 f0 h3 c1 k1 k2
      have f1 : fd_fr [6, 12, 13, 14, 123, 124, 125, 126, 127, 128, 216] σ0 σ16 := fd_fr_tr f0 (fd_fr_mono g1 (by decide))
      have f2 : fd_fr [6, 12, 13, 14, 123, 124, 125, 126, 127, 128, 216] σ0 σ21 := fd_fr_tr f1 (fd_fr_mono g2 (by decide))
      have s6 : (σ21.1 6).toInt = (σ.1 6).toInt := by rw [g2.1 6 (by decide), g1.1 6 (by decide)]
      have cs := fd_cn_s P h3
      have next : ∀ (τ : fd_St), fd_InvC τ → fd_fr [6, 12, 13, 14, 123, 124, 125, 126, 127, 128, 216] σ0 τ → (τ.1 6).toInt = (σ.1 6).toInt + fd_in (P y3) → f_X3_findSuspects_4_J60 N k9 (f_X3_findSuspects_4_L22 N k9 n) y1 y2 y3 τ = some (v, s) → ∃ (τ : fd_St) (x : Int32), x.toInt = y1.toInt + 1 ∧ k9 x τ = some (v, s) ∧ fd_InvC τ ∧ fd_fr [6, 12, 13, 14, 123, 124, 125, 126, 127, 128, 216] σ0 τ ∧ (τ.1 6).toInt = (σ.1 6).toInt + (fd_cn P y2.toNatClampNeg - fd_cn P y3.toNatClampNeg) := by
        intro τ iT fT eT h
        unfold f_X3_findSuspects_4_J60 at h
        obtain ⟨x30, e30, h⟩ := fd_lts h
        obtain ⟨t1, t2⟩ := fd_t1 e30 h3 (by omega)
        have bi := fd_in_01 (P y3)
        obtain ⟨ρ, x, b1, b2, b3, b4, b5⟩ := ih x30 τ v s iT fT (by omega) (by omega) (by omega) h
        rw [t2, cs] at b5
        exact ⟨ρ, x, b1, b2, b3, b4, by omega⟩
      by_cases d : σ21.1 12 ≤ 0
      · have h := fd_itp d h
        have d1 := Int32.le_iff_toInt_le.mp d
        have np : ¬ P y3 := fun z => hq.mpr z (by omega)
        exact next σ21 i2 f2 (by rw [fd_in_f np]; omega) h
      · have h := fd_itn d h
        have d1 := Int32.lt_iff_toInt_lt.mp (Int32.not_le.mp d)
        have yp : P y3 := hq.mp (by omega)
        obtain ⟨u4, σ33, k4, h⟩ := fd_bds h
        obtain ⟨i3, g3, x3⟩ := fd_ok_iv (s_X8_add_5_8 N hN _ _ _ i2 hk.1 hk.2 h3 (by omega) (by omega) (by omega)) k4
        exact next σ33 i3 (fd_fr_tr f2 (fd_fr_mono g3 (by decide))) (by rw [fd_in_t yp]; omega) h
theorem q_fs_L9 (N : Nat) (hN : 1000 ≤ N) {σ0 : fd_St} {P : Int32 → Int32 → Prop} (hP : ∀ (kd wh : Int32) (σ τ1 τ2 : fd_St) (u u' : Unit), fd_InvC σ → fd_fr [6, 12, 13, 14, 123, 124, 125, 126, 127, 128, 216] σ0 σ → 0 ≤ kd.toInt → kd.toInt ≤ 3 → 0 ≤ wh.toInt → (1 < kd.toInt ∨ wh.toInt < (σ0.1 1).toInt) → (kd.toInt ≤ 1 ∨ wh.toInt < (σ0.1 5).toInt) → f_X3_tryFault_4 N kd wh σ = some (u, τ1) → f_X3_compareWithFails_4 N τ1 = some (u', τ2) → (¬ (τ2.1 12).toInt ≤ 0 ↔ P kd wh)) : ∀ (m n : Nat) (y1 : Int32) (σ : fd_St) (v : Unit) (s : fd_St), fd_InvC σ → fd_fr [6, 12, 13, 14, 123, 124, 125, 126, 127, 128, 216] σ0 σ → y1.toInt = 4 - (m : Int) → m ≤ 4 → (σ.1 6).toInt = fd_tt P (σ0.1 1).toNatClampNeg (σ0.1 5).toNatClampNeg y1.toNatClampNeg → f_X3_findSuspects_4_L9 N n y1 σ = some (v, s) → (s.1 6).toInt = fd_tt P (σ0.1 1).toNatClampNeg (σ0.1 5).toNatClampNeg 4 := by
  have l3 : (3 : Int32).toInt = 3 := by decide
  have l1 : (1 : Int32).toInt = 1 := by decide
  have l0 : (0 : Int32).toInt = 0 := by decide
  have z0 : (0 : Int32).toNatClampNeg = 0 := by decide
  intro m
  induction m with
  | zero =>
    intro n y1 σ v s i0 f0 hy hm h6 h
    cases n with
    | zero => cases h
    | succ n =>
      unfold f_X3_findSuspects_4_L9 at h
      have h := fd_itp (Int32.lt_iff_toInt_lt.mpr (by omega)) h
      have e : y1.toNatClampNeg = 4 := by show y1.toInt.toNat = 4; omega
      rw [e] at h6
      cases h
      exact h6
  | succ m ih =>
    intro n y1 σ v s i0 f0 hy hm h6 h
    cases n with
    | zero => cases h
    | succ n =>
      unfold f_X3_findSuspects_4_L9 at h
      have h := fd_itn (fun q => by have := Int32.lt_iff_toInt_lt.mp q; omega) h
      obtain ⟨v8, σ9, k1, h⟩ := fd_bds h
      have n1 := f0.1 1 (by decide)
      have n5 := f0.1 5 (by decide)
      have r1 : (0 : Int) ≤ (σ.1 1).toInt ∧ (σ.1 1).toInt ≤ 200 := i0.1 1
      have r5 : (0 : Int) ≤ (σ.1 5).toInt ∧ (σ.1 5).toInt ≤ 40 := i0.1 5
      rw [n1] at r1
      rw [n5] at r5
      have ny : (y1.toNatClampNeg : Int) = y1.toInt := by show (y1.toInt.toNat : Int) = y1.toInt; omega
      have v8e : σ9 = σ ∧ v8.toNatClampNeg = (if y1.toNatClampNeg < 2 then (σ0.1 1).toNatClampNeg else (σ0.1 5).toNatClampNeg) ∧ (0 ≤ v8.toInt ∧ v8.toInt ≤ 200) ∧ (1 < y1.toInt → v8.toInt ≤ 40) ∧ (y1.toInt ≤ 1 → v8.toInt = (σ0.1 1).toInt) ∧ (1 < y1.toInt → v8.toInt = (σ0.1 5).toInt) := by
        unfold f_X3_faultsOf_4 at k1
        by_cases q : (1 : Int32) < y1
        · have k1 := fd_itp q k1
          have q1 := Int32.lt_iff_toInt_lt.mp q
          unfold f_X4_size_3 at k1
          obtain ⟨a, b, k2, k1⟩ := fd_bds k1
          obtain ⟨e1, e2⟩ := Prod.mk.inj (Option.some.inj k2)
          obtain ⟨e3, e4⟩ := Prod.mk.inj (Option.some.inj k1)
          have ev : v8 = σ0.1 5 := by rw [← e3, ← e1, n5]
          refine ⟨by rw [← e4, ← e2], by rw [if_neg (by omega), ev], by rw [ev]; omega, fun _ => by rw [ev]; omega, fun z => by omega, fun _ => by rw [ev]⟩
        · have k1 := fd_itn q k1
          have q1 := Int32.le_iff_toInt_le.mp (Int32.not_lt.mp q)
          unfold f_X2_nets_1 at k1
          obtain ⟨a, b, k2, k1⟩ := fd_bds k1
          obtain ⟨e1, e2⟩ := Prod.mk.inj (Option.some.inj k2)
          obtain ⟨e3, e4⟩ := Prod.mk.inj (Option.some.inj k1)
          have ev : v8 = σ0.1 1 := by rw [← e3, ← e1, n1]
          refine ⟨by rw [← e4, ← e2], by rw [if_pos (by omega), ev], by rw [ev]; omega, fun z => by omega, fun _ => by rw [ev], fun z => by omega⟩
      obtain ⟨es, w1, w2, w3, w4, w5⟩ := v8e
      rw [es] at h
      have bound : (σ.1 6).toInt + v8.toInt ≤ 480 := by
        have t0 : fd_tt P (σ0.1 1).toNatClampNeg (σ0.1 5).toNatClampNeg 0 = 0 := rfl
        have t1 : fd_tt P (σ0.1 1).toNatClampNeg (σ0.1 5).toNatClampNeg 1 = fd_tt P (σ0.1 1).toNatClampNeg (σ0.1 5).toNatClampNeg 0 + fd_cn (P (Int32.ofNat 0)) (σ0.1 1).toNatClampNeg := rfl
        have t2 : fd_tt P (σ0.1 1).toNatClampNeg (σ0.1 5).toNatClampNeg 2 = fd_tt P (σ0.1 1).toNatClampNeg (σ0.1 5).toNatClampNeg 1 + fd_cn (P (Int32.ofNat 1)) (σ0.1 1).toNatClampNeg := rfl
        have t3 : fd_tt P (σ0.1 1).toNatClampNeg (σ0.1 5).toNatClampNeg 3 = fd_tt P (σ0.1 1).toNatClampNeg (σ0.1 5).toNatClampNeg 2 + fd_cn (P (Int32.ofNat 2)) (σ0.1 5).toNatClampNeg := rfl
        have b0 := fd_cn_b (P (Int32.ofNat 0)) (σ0.1 1).toNatClampNeg
        have b1 := fd_cn_b (P (Int32.ofNat 1)) (σ0.1 1).toNatClampNeg
        have b2 := fd_cn_b (P (Int32.ofNat 2)) (σ0.1 5).toNatClampNeg
        have m1 : ((σ0.1 1).toNatClampNeg : Int) = (σ0.1 1).toInt := by show ((σ0.1 1).toInt.toNat : Int) = _; omega
        have m5 : ((σ0.1 5).toNatClampNeg : Int) = (σ0.1 5).toInt := by show ((σ0.1 5).toInt.toNat : Int) = _; omega
        rcases (show y1.toNatClampNeg = 0 ∨ y1.toNatClampNeg = 1 ∨ y1.toNatClampNeg = 2 ∨ y1.toNatClampNeg = 3 by omega) with q | q | q | q <;> rw [q] at h6 <;> omega
      obtain ⟨τ, x, b1, b2, b3, b4, b5⟩ := q_fs_L22 N hN (P := P y1) (by omega) (by omega) (by omega) (fun wh σ' τ1 τ2 u u' q1 q2 q3 q4 q5 q6 => hP y1 wh σ' τ1 τ2 u u' q1 q2 (by omega) (by omega) q3 (by omega) (by omega) q5 q6) _ _ _ _ _ i0 f0 (by omega) (by omega) (by omega) h
      have ex : x.toNatClampNeg = y1.toNatClampNeg + 1 := by show x.toInt.toNat = y1.toInt.toNat + 1; omega
      refine ih n x τ v s b3 b4 (by omega) (by omega) ?_ b2
      have c0 : fd_cn (P y1) 0 = 0 := rfl
      rw [ex, b5, h6, z0, c0, w1]
      show _ = fd_tt P _ _ y1.toNatClampNeg + fd_cn (P (Int32.ofNat y1.toNatClampNeg)) _
      rw [← fd_i32 (by omega : 0 ≤ y1.toInt)]
      omega
/-- the reference's suspects of one kind -/
theorem q_run_L23 (N : Nat) (hN : 1000 ≤ N) {k16 : Int32 → fd_St → Option (Int32 × fd_St)} {μ0 : fd_St} {P : Int32 → Prop} {y1 y9 : Int32} (hk : 0 ≤ y1.toInt ∧ y1.toInt ≤ 3) (h9 : 0 ≤ y9.toInt ∧ y9.toInt ≤ 200) (h9b : 1 < y1.toInt → y9.toInt ≤ 40) (he : y9 = if (2 : Int32) ≤ y1 then μ0.1 5 else μ0.1 1) (hP : ∀ (wh : Int32) (σ τ1 τ2 : fd_St) (u u' : Unit), fd_InvM σ → fd_fr [7, 8, 9, 10, 112, 113, 114, 115, 116, 117, 210] μ0 σ → 0 ≤ wh.toInt → wh.toInt < y9.toInt → f_X11_workFault_0 N y1 wh σ = some (u, τ1) → f_X11_judge_0 N τ1 = some (u', τ2) → (¬ (τ2.1 8).toInt = 0 ↔ P wh)) : ∀ (n : Nat) (y2 : Int32) (σ : fd_St) (v : Int32) (s : fd_St), fd_InvM σ → fd_fr [7, 8, 9, 10, 112, 113, 114, 115, 116, 117, 210] μ0 σ → 0 ≤ y2.toInt → y2.toInt ≤ y9.toInt → (σ.1 7).toInt + (y9.toInt - y2.toInt) ≤ 480 → f_X11_run_0_L23 N k16 n y1 y2 σ = some (v, s) → ∃ (τ : fd_St) (x : Int32), x.toInt = y1.toInt + 1 ∧ k16 x τ = some (v, s) ∧ fd_InvM τ ∧ fd_fr [7, 8, 9, 10, 112, 113, 114, 115, 116, 117, 210] μ0 τ ∧ (τ.1 7).toInt = (σ.1 7).toInt + (fd_cn P y9.toNatClampNeg - fd_cn P y2.toNatClampNeg) := by
  have l0 : (0 : Int32).toInt = 0 := by decide
  have l1 : (1 : Int32).toInt = 1 := by decide
  have l2 : (2 : Int32).toInt = 2 := by decide
  intro n
  induction n with
  | zero => intro y2 σ v s _ _ _ _ _ h; cases h
  | succ n ih =>
    intro y2 σ v s i0 f0 h3 h32 hb h
    have n1 := f0.1 1 (by decide)
    have n5 := f0.1 5 (by decide)
    have h : f_X11_run_0_J40 N k16 (f_X11_run_0_L23 N k16 n) y1 y2 y2 y9 σ = some (v, s) := by
      unfold f_X11_run_0_L23 at h
      by_cases q : (2 : Int32) ≤ y1
      · have h := fd_itp q h
        rw [if_pos q] at he
        rw [n5, ← he] at h; exact h
      · have h := fd_itn q h
        rw [if_neg q] at he
        rw [n1, ← he] at h; exact h
    unfold f_X11_run_0_J40 at h
    by_cases c : y9 ≤ y2
    · have h := fd_itp c h
      have c1 := Int32.le_iff_toInt_le.mp c
      obtain ⟨x42, e42, h⟩ := fd_lts h
      have e : y2.toNatClampNeg = y9.toNatClampNeg := fd_te (by omega)
      have t := fd_la e42 (by omega) (by omega)
      exact ⟨σ, x42, by omega, h, i0, f0, by rw [e]; omega⟩
    · have h := fd_itn c h
      have c1 := Int32.lt_iff_toInt_lt.mp (Int32.not_le.mp c)
      obtain ⟨u1, σ45, k1, h⟩ := fd_bds h
      obtain ⟨i1, g1, _⟩ := fd_ok_iv (s_X11_enter_0 N hN _ _ _ i0 hk.1 hk.2 h3 (by omega) (by omega) (by omega)) k1
      have f1 : fd_fr [7, 8, 9, 10, 112, 113, 114, 115, 116, 117, 210] μ0 σ45 := fd_fr_tr f0 (fd_fr_mono g1 (by decide))
      have s7 : (σ45.1 7).toInt = (σ.1 7).toInt + fd_in (P y2) := by
        unfold f_X11_enter_0 at k1
        obtain ⟨u3, σ3, k2, k1⟩ := fd_bds k1
        obtain ⟨i3, g3, _⟩ := fd_ok_iv (s_X11_workFault_0 N hN _ _ _ i0 (fun _ => by omega)) k2
        obtain ⟨u8, σ8, k3, k1⟩ := fd_bds k1
        obtain ⟨i8, g8, _⟩ := fd_ok_iv (s_X11_judge_0 N hN _ i3) k3
        have hq := hP y2 σ σ3 σ8 u3 u8 i0 f0 h3 c1 k2 k3
        have e7 : (σ8.1 7).toInt = (σ.1 7).toInt := by rw [g8.1 7 (by decide), g3.1 7 (by decide)]
        by_cases d : σ8.1 8 = 0
        · have k1 := fd_itp d k1
          cases k1
          have np : ¬ P y2 := fun z => hq.mpr z (by rw [d]; exact l0)
          rw [fd_in_f np]; omega
        · have k1 := fd_itn d k1
          have yp : P y2 := hq.mp (fun z => d (Int32.toInt_inj.mp (by rw [z, l0])))
          obtain ⟨x12, e12, k1⟩ := fd_lts k1
          obtain ⟨x13, e13, k1⟩ := fd_lts k1
          have r7 : (0 : Int) ≤ (σ8.1 7).toInt ∧ (σ8.1 7).toInt ≤ 480 := i8.1 7
          have t13 : x13.toInt = (σ8.1 7).toInt := by rw [e13]
          obtain ⟨_, _, x9⟩ := fd_ok_iv (s_X11_enter_0_L36 N hN N _ _ _ _ _ i8 (by omega) (by omega) hk.1 hk.2 h3 (by omega) (by omega) (by omega) (by omega)) k1
          rw [fd_in_t yp]; omega
      obtain ⟨x48, e48, h⟩ := fd_lts h
      obtain ⟨t1, t2⟩ := fd_t1 e48 h3 (by omega)
      have cs := fd_cn_s P h3
      have bi := fd_in_01 (P y2)
      obtain ⟨ρ, x, b1, b2, b3, b4, b5⟩ := ih x48 σ45 v s i1 f1 (by omega) (by omega) (by omega) h
      rw [t2, cs] at b5
      exact ⟨ρ, x, b1, b2, b3, b4, by omega⟩
theorem r_L150 {N : Nat} {k140 : Int32 → Int32 → fd_St → Option (Int32 × fd_St)} {v : Int32} {s : fd_St} (hk : ∀ a b τ, k140 a b τ = some (v, s) → v = s.1 7) : ∀ (n : Nat) (y1 y3 y4 : Int32) (σ : fd_St), f_X11_run_0_L150 N k140 n y1 y3 y4 σ = some (v, s) → v = s.1 7 := by
  intro n
  induction n with
  | zero => intro y1 y3 y4 σ h; cases h
  | succ n ih =>
    intro y1 y3 y4 σ h
    unfold f_X11_run_0_L150 at h
    have j : ∀ τ, f_X11_run_0_J200 N k140 (f_X11_run_0_L150 N k140 n) y1 y3 y4 τ = some (v, s) → v = s.1 7 := by
      intro τ h
      unfold f_X11_run_0_J200 at h
      obtain ⟨x, _, h⟩ := fd_lts h
      exact ih _ _ _ _ h
    by_cases c : y1 ≤ y4
    · have h := fd_itp c h
      obtain ⟨x, _, h⟩ := fd_lts h
      exact hk _ _ _ h
    have h := fd_itn c h
    obtain ⟨_, h⟩ := fd_gds h
    by_cases c2 : (2 : Int32) ≤ σ.2.1 12 y3.toNatClampNeg
    · exact j _ (fd_itp c2 h)
    have h := fd_itn c2 h
    obtain ⟨_, h⟩ := fd_gds h
    by_cases c3 : (2 : Int32) ≤ σ.2.1 12 y4.toNatClampNeg
    · exact j _ (fd_itp c3 h)
    have h := fd_itn c3 h
    obtain ⟨_, h⟩ := fd_gds h
    obtain ⟨_, h⟩ := fd_gds h
    by_cases c4 : σ.2.1 13 y3.toNatClampNeg = σ.2.1 13 y4.toNatClampNeg
    · exact j _ (fd_itp c4 h)
    have h := fd_itn c4 h
    obtain ⟨_, σ30, _, h⟩ := fd_bds h
    exact j _ h
theorem r_L140 {N : Nat} {v : Int32} {s : fd_St} : ∀ (n : Nat) (y1 y3 : Int32) (σ : fd_St), f_X11_run_0_L140 N n y1 y3 σ = some (v, s) → v = s.1 7 := by
  intro n
  induction n with
  | zero => intro y1 y3 σ h; cases h
  | succ n ih =>
    intro y1 y3 σ h
    unfold f_X11_run_0_L140 at h
    by_cases c : y1 ≤ y3
    · have h := fd_itp c h
      obtain ⟨σ16, e, h⟩ := fd_lts h
      cases h; rfl
    · have h := fd_itn c h
      obtain ⟨x, _, h⟩ := fd_lts h
      exact r_L150 (fun a b τ q => ih a b τ q) _ _ _ _ _ h
theorem r_L100 {N : Nat} {v : Int32} {s : fd_St} : ∀ (n : Nat) (y1 y2 : Int32) (σ : fd_St), f_X11_run_0_L100 N n y1 y2 σ = some (v, s) → v = s.1 7 := by
  intro n
  induction n with
  | zero => intro y1 y2 σ h; cases h
  | succ n ih =>
    intro y1 y2 σ h
    unfold f_X11_run_0_L100 at h
    have fin : f_X11_run_0_J138 N y1 σ = some (v, s) → v = s.1 7 := by
      intro h
      unfold f_X11_run_0_J138 at h
      exact r_L140 _ _ _ _ h
    have j : ∀ z, f_X11_run_0_J131 N (f_X11_run_0_L100 N n) y1 z σ = some (v, s) → v = s.1 7 := by
      intro z h
      unfold f_X11_run_0_J131 at h
      obtain ⟨x, _, h⟩ := fd_lts h
      exact ih _ _ _ h
    by_cases c : σ.1 7 ≤ y1
    · exact fin (fd_itp c h)
    have h := fd_itn c h
    by_cases c2 : (12 : Int32) ≤ y2
    · exact fin (fd_itp c2 h)
    have h := fd_itn c2 h
    obtain ⟨_, h⟩ := fd_gds h
    by_cases c3 : (2 : Int32) ≤ σ.2.1 12 y1.toNatClampNeg
    · exact j _ (fd_itp c3 h)
    exact j _ (fd_itn c3 h)
theorem r_L77 {N : Nat} {v : Int32} {s : fd_St} : ∀ (n : Nat) (y1 : Int32) (σ : fd_St), f_X11_run_0_L77 N n y1 σ = some (v, s) → v = s.1 7 := by
  intro n
  induction n with
  | zero => intro y1 σ h; cases h
  | succ n ih =>
    intro y1 σ h
    unfold f_X11_run_0_L77 at h
    by_cases c : (6 : Int32) ≤ y1
    · exact r_L100 _ _ _ _ (fd_itp c h)
    have h := fd_itn c h
    obtain ⟨_, h⟩ := fd_gds h
    obtain ⟨σ38, _, h⟩ := fd_lts h
    obtain ⟨x, _, h⟩ := fd_lts h
    exact ih _ _ h
theorem q_run_L16 (N : Nat) (hN : 1000 ≤ N) {μ0 : fd_St} {P : Int32 → Int32 → Prop} (hP : ∀ (kd wh : Int32) (σ τ1 τ2 : fd_St) (u u' : Unit), fd_InvM σ → fd_fr [7, 8, 9, 10, 112, 113, 114, 115, 116, 117, 210] μ0 σ → 0 ≤ kd.toInt → kd.toInt ≤ 3 → 0 ≤ wh.toInt → (1 < kd.toInt ∨ wh.toInt < (μ0.1 1).toInt) → (kd.toInt ≤ 1 ∨ wh.toInt < (μ0.1 5).toInt) → f_X11_workFault_0 N kd wh σ = some (u, τ1) → f_X11_judge_0 N τ1 = some (u', τ2) → (¬ (τ2.1 8).toInt = 0 ↔ P kd wh)) : ∀ (m n : Nat) (y1 : Int32) (σ : fd_St) (v : Int32) (s : fd_St), fd_InvM σ → fd_fr [7, 8, 9, 10, 112, 113, 114, 115, 116, 117, 210] μ0 σ → y1.toInt = 4 - (m : Int) → m ≤ 4 → (σ.1 7).toInt = fd_tt P (μ0.1 1).toNatClampNeg (μ0.1 5).toNatClampNeg y1.toNatClampNeg → f_X11_run_0_L16 N n y1 σ = some (v, s) → v.toInt = fd_tt P (μ0.1 1).toNatClampNeg (μ0.1 5).toNatClampNeg 4 := by
  have l4 : (4 : Int32).toInt = 4 := by decide
  have l2 : (2 : Int32).toInt = 2 := by decide
  have l1 : (1 : Int32).toInt = 1 := by decide
  have l0 : (0 : Int32).toInt = 0 := by decide
  have z0 : (0 : Int32).toNatClampNeg = 0 := by decide
  intro m
  induction m with
  | zero =>
    intro n y1 σ v s i0 f0 hy hm h7 h
    cases n with
    | zero => cases h
    | succ n =>
      unfold f_X11_run_0_L16 at h
      have h := fd_itp (Int32.le_iff_toInt_le.mpr (by omega)) h
      have e : y1.toNatClampNeg = 4 := by show y1.toInt.toNat = 4; omega
      rw [e] at h7
      obtain ⟨_, h⟩ := fd_gds h
      obtain ⟨σ10, e10, h⟩ := fd_lts h
      obtain ⟨_, h⟩ := fd_gds h
      obtain ⟨σ12, e12, h⟩ := fd_lts h
      have i1 : fd_InvM σ10 := fd_inv_sA e10 i0 (by decide) (by decide) (fd_rng _)
      have i2 : fd_InvM σ12 := fd_inv_sA e12 i1 (by decide) (by decide) (fd_rng _)
      obtain ⟨_, g, _⟩ := fd_ok_iv (s_X11_run_0_L77 N hN N _ _ i2 (by decide) (by decide) (by omega)) h
      have ev := r_L77 _ _ _ h
      have e7 : σ12.1 7 = σ.1 7 := by subst e12; subst e10; rfl
      rw [ev, g.1 7 (by decide), e7]; exact h7
  | succ m ih =>
    intro n y1 σ v s i0 f0 hy hm h7 h
    cases n with
    | zero => cases h
    | succ n =>
      unfold f_X11_run_0_L16 at h
      have h := fd_itn (fun q => by have := Int32.le_iff_toInt_le.mp q; omega) h
      have n1 := f0.1 1 (by decide)
      have n5 := f0.1 5 (by decide)
      have r1 : (0 : Int) ≤ (σ.1 1).toInt ∧ (σ.1 1).toInt ≤ 200 := i0.1 1
      have r5 : (0 : Int) ≤ (σ.1 5).toInt ∧ (σ.1 5).toInt ≤ 40 := i0.1 5
      rw [n1] at r1
      rw [n5] at r5
      have ny : (y1.toNatClampNeg : Int) = y1.toInt := by show (y1.toInt.toNat : Int) = y1.toInt; omega
      obtain ⟨y9, e9⟩ : ∃ y9, y9 = if (2 : Int32) ≤ y1 then μ0.1 5 else μ0.1 1 := ⟨_, rfl⟩
      have v8e : y9.toNatClampNeg = (if y1.toNatClampNeg < 2 then (μ0.1 1).toNatClampNeg else (μ0.1 5).toNatClampNeg) ∧ (0 ≤ y9.toInt ∧ y9.toInt ≤ 200) ∧ (1 < y1.toInt → y9.toInt ≤ 40) ∧ (y1.toInt ≤ 1 → y9.toInt = (μ0.1 1).toInt) ∧ (1 < y1.toInt → y9.toInt = (μ0.1 5).toInt) := by
        by_cases q : (2 : Int32) ≤ y1
        · have q1 := Int32.le_iff_toInt_le.mp q
          rw [if_pos q] at e9
          exact ⟨by rw [if_neg (by omega), e9], by rw [e9]; omega, fun _ => by rw [e9]; omega, fun z => by omega, fun _ => by rw [e9]⟩
        · have q1 := Int32.lt_iff_toInt_lt.mp (Int32.not_le.mp q)
          rw [if_neg q] at e9
          exact ⟨by rw [if_pos (by omega), e9], by rw [e9]; omega, fun z => by omega, fun _ => by rw [e9], fun z => by omega⟩
      obtain ⟨w1, w2, w3, w4, w5⟩ := v8e
      have bound : (σ.1 7).toInt + y9.toInt ≤ 480 := by
        have t0 : fd_tt P (μ0.1 1).toNatClampNeg (μ0.1 5).toNatClampNeg 0 = 0 := rfl
        have t1 : fd_tt P (μ0.1 1).toNatClampNeg (μ0.1 5).toNatClampNeg 1 = fd_tt P (μ0.1 1).toNatClampNeg (μ0.1 5).toNatClampNeg 0 + fd_cn (P (Int32.ofNat 0)) (μ0.1 1).toNatClampNeg := rfl
        have t2 : fd_tt P (μ0.1 1).toNatClampNeg (μ0.1 5).toNatClampNeg 2 = fd_tt P (μ0.1 1).toNatClampNeg (μ0.1 5).toNatClampNeg 1 + fd_cn (P (Int32.ofNat 1)) (μ0.1 1).toNatClampNeg := rfl
        have t3 : fd_tt P (μ0.1 1).toNatClampNeg (μ0.1 5).toNatClampNeg 3 = fd_tt P (μ0.1 1).toNatClampNeg (μ0.1 5).toNatClampNeg 2 + fd_cn (P (Int32.ofNat 2)) (μ0.1 5).toNatClampNeg := rfl
        have b0 := fd_cn_b (P (Int32.ofNat 0)) (μ0.1 1).toNatClampNeg
        have b1 := fd_cn_b (P (Int32.ofNat 1)) (μ0.1 1).toNatClampNeg
        have b2 := fd_cn_b (P (Int32.ofNat 2)) (μ0.1 5).toNatClampNeg
        have m1 : ((μ0.1 1).toNatClampNeg : Int) = (μ0.1 1).toInt := by show ((μ0.1 1).toInt.toNat : Int) = _; omega
        have m5 : ((μ0.1 5).toNatClampNeg : Int) = (μ0.1 5).toInt := by show ((μ0.1 5).toInt.toNat : Int) = _; omega
        rcases (show y1.toNatClampNeg = 0 ∨ y1.toNatClampNeg = 1 ∨ y1.toNatClampNeg = 2 ∨ y1.toNatClampNeg = 3 by omega) with q | q | q | q <;> rw [q] at h7 <;> omega
      obtain ⟨τ, x, b1, b2, b3, b4, b5⟩ := q_run_L23 N hN (P := P y1) (by omega) w2 w3 e9 (fun wh σ' τ1 τ2 u u' q1 q2 q3 q4 q5 q6 => hP y1 wh σ' τ1 τ2 u u' q1 q2 (by omega) (by omega) q3 (by omega) (by omega) q5 q6) _ _ _ _ _ i0 f0 (by omega) (by omega) (by omega) h
      have ex : x.toNatClampNeg = y1.toNatClampNeg + 1 := by show x.toInt.toNat = y1.toInt.toNat + 1; omega
      refine ih n x τ v s b3 b4 (by omega) (by omega) ?_ b2
      have c0 : fd_cn (P y1) 0 = 0 := rfl
      rw [ex, b5, h7, z0, c0, w1]
      show _ = fd_tt P _ _ y1.toNatClampNeg + fd_cn (P (Int32.ofNat y1.toNatClampNeg)) _
      rw [← fd_i32 (by omega : 0 ≤ y1.toInt)]
      omega
theorem q_X10_run {N : Nat} (hN : 1000 ≤ N) {σ : fd_St} {v : Int32} {s : fd_St} (i0 : fd_InvC σ) (h : f_X10_run_0 N σ = some (v, s)) (p : Nat → Int64) (hE : fd_E (σ.2.1 12) (σ.2.1 13) (σ.2.1 14) (σ.2.2 15) p (σ.1 1).toNatClampNeg) (hQ : fd_Q (σ.1 1) (σ.1 5) (σ.1 4) (σ.2.1 20) (σ.2.1 21) (σ.2.1 18)) : v.toInt = fd_tt (fd_PQ (σ.2.1 12) (σ.2.1 13) (σ.2.1 14) (σ.2.1 20) (σ.2.1 21) (σ.2.1 18) (σ.2.2 15) p (σ.2.2 19) (σ.1 1).toNatClampNeg (σ.1 4).toNatClampNeg (fd_ct (σ.1 3))) (σ.1 1).toNatClampNeg (σ.1 5).toNatClampNeg 4 := by
  have l0 : (0 : Int32).toInt = 0 := by decide
  have z0 : (0 : Int32).toNatClampNeg = 0 := by decide
  unfold f_X10_run_0 at h
  obtain ⟨u1, σ3, k1, h⟩ := fd_bds h
  unfold f_X3_find_4 at k1
  obtain ⟨u2, τ, k2, k1⟩ := fd_bds k1
  obtain ⟨u3, ρ, k3, k1⟩ := fd_bds k1
  obtain ⟨_, e3⟩ := Prod.mk.inj (Option.some.inj k1)
  subst e3
  obtain ⟨iT, _, _⟩ := fd_ok_iv (s_X3_findSuspects_4 N hN _ i0) k2
  obtain ⟨_, gB, _⟩ := fd_ok_iv (s_X3_findBestPair_4 N hN _ iT) k3
  obtain ⟨σ6, e6, h⟩ := fd_lts h
  obtain ⟨u4, σ9, k4, h⟩ := fd_bds h
  unfold f_X3_suspects_4 at k4
  obtain ⟨_, e9⟩ := Prod.mk.inj (Option.some.inj k4)
  subst e9
  obtain ⟨v13, σ14, k5, h⟩ := fd_bds h
  unfold f_X8_size_5 at k5
  obtain ⟨ev, _⟩ := Prod.mk.inj (Option.some.inj k5)
  obtain ⟨ev2, _⟩ := Prod.mk.inj (Option.some.inj h)
  have vv : v = τ.1 6 := by rw [← ev2, ← ev, fd_tN e6 (by decide), gB.1 6 (by decide)]
  rw [vv]
  unfold f_X3_findSuspects_4 at k2
  obtain ⟨u5, σ1, k6, k2⟩ := fd_bds k2
  unfold f_X8_reset_5 at k6
  obtain ⟨σ0, e0, k6⟩ := fd_lts k6
  obtain ⟨_, e1⟩ := Prod.mk.inj (Option.some.inj k6)
  subst e1
  have iS : fd_InvC σ0 := fd_inv_sI e0 i0 ⟨by decide, by decide⟩
  have b2 : σ0.2 = σ.2 := by subst e0; rfl
  have b1 : ∀ k, k ≠ 6 → σ0.1 k = σ.1 k := fun k hk => fd_tN e0 hk
  have b6 : σ0.1 6 = 0 := fd_tI e0
  have r4 : (0 : Int) ≤ (σ.1 4).toInt ∧ (σ.1 4).toInt ≤ 32 := i0.1 4
  have r5 : (0 : Int) ≤ (σ.1 5).toInt ∧ (σ.1 5).toInt ≤ 40 := i0.1 5
  have r1 : (0 : Int) ≤ (σ.1 1).toInt ∧ (σ.1 1).toInt ≤ 200 := i0.1 1
  have z := q_fs_L9 N hN (σ0 := σ0) (P := fd_PQ (σ.2.1 12) (σ.2.1 13) (σ.2.1 14) (σ.2.1 20) (σ.2.1 21) (σ.2.1 18) (σ.2.2 15) p (σ.2.2 19) (σ.1 1).toNatClampNeg (σ.1 4).toNatClampNeg (fd_ct (σ.1 3)))
  rw [b1 1 (by decide), b1 5 (by decide)] at z
  refine z ?_ 4 N 0 σ0 _ _ iS fd_fr_rf (by omega) (by omega) (by rw [b6, l0, z0]; rfl) k2
  intro kd wh σ' τ1 τ2 u u' i' f' q1 q2 q3 q4 q5 k7 k8
  have c1 : σ'.1 1 = σ.1 1 := (f'.1 1 (by decide)).trans (b1 1 (by decide))
  have c3 : σ'.1 3 = σ.1 3 := (f'.1 3 (by decide)).trans (b1 3 (by decide))
  have c4 : σ'.1 4 = σ.1 4 := (f'.1 4 (by decide)).trans (b1 4 (by decide))
  have d12 : σ'.2.1 12 = σ.2.1 12 := (f'.2.1 12 (by decide)).trans (by rw [b2])
  have d13 : σ'.2.1 13 = σ.2.1 13 := (f'.2.1 13 (by decide)).trans (by rw [b2])
  have d14 : σ'.2.1 14 = σ.2.1 14 := (f'.2.1 14 (by decide)).trans (by rw [b2])
  have d18 : σ'.2.1 18 = σ.2.1 18 := (f'.2.1 18 (by decide)).trans (by rw [b2])
  have d20 : σ'.2.1 20 = σ.2.1 20 := (f'.2.1 20 (by decide)).trans (by rw [b2])
  have d21 : σ'.2.1 21 = σ.2.1 21 := (f'.2.1 21 (by decide)).trans (by rw [b2])
  have d15 : σ'.2.2 15 = σ.2.2 15 := (f'.2.2 15 (by decide)).trans (by rw [b2])
  have d19 : σ'.2.2 19 = σ.2.2 19 := (f'.2.2 19 (by decide)).trans (by rw [b2])
  obtain ⟨i1, g1, x1⟩ := fd_ok_iv (s_X3_tryFault_4 N hN _ _ _ i' q3 (by omega) (by omega)) k7
  obtain ⟨_, _, x2⟩ := fd_ok_iv (s_X3_compareWithFails_4 N hN _ i1) k8
  obtain ⟨⟨w1, w2⟩, w3, w4⟩ := fd_qa_in (kd := kd) (wh := wh) hQ q3 q4 q5
  rw [c1, d12, d13, d14, d15, d20, d21] at x1
  have hF := x1 w1 w3 (by omega) p hE
  rw [g1.1 3 (by decide), g1.1 4 (by decide), g1.2.1 18 (by decide), g1.2.2 15 (by decide), g1.2.2 19 (by decide), c3, c4, d18, d15, d19] at x2
  obtain ⟨y1, y2⟩ := x2 r4.2
  rw [← fd_PQ_iff (O := σ.2.1 18) (fl := σ.2.2 19) (m := fd_ct (σ.1 3)) (ou := (σ.1 4).toNatClampNeg) hE.2.1 (fun j hj => by have := hQ.2 j hj; exact fd_tl' this.1 this.2) hF, ← y2]
  omega
theorem q_X11_run {N : Nat} (hN : 1000 ≤ N) {σ : fd_St} {v : Int32} {s : fd_St} (i0 : fd_InvM σ) (h : f_X11_run_0 N σ = some (v, s)) (r : Nat → Int64) (hE : fd_E (σ.2.1 1) (σ.2.1 2) (σ.2.1 3) r (σ.2.2 4) (σ.1 1).toNatClampNeg) (hQ : fd_Q (σ.1 1) (σ.1 5) (σ.1 3) (σ.2.1 7) (σ.2.1 8) (σ.2.1 5)) : v.toInt = fd_tt (fd_PQ (σ.2.1 1) (σ.2.1 2) (σ.2.1 3) (σ.2.1 7) (σ.2.1 8) (σ.2.1 5) r (σ.2.2 4) (σ.2.2 6) (σ.1 1).toNatClampNeg (σ.1 3).toNatClampNeg (fd_mk (σ.1 4))) (σ.1 1).toNatClampNeg (σ.1 5).toNatClampNeg 4 := by
  have l0 : (0 : Int32).toInt = 0 := by decide
  have z0 : (0 : Int32).toNatClampNeg = 0 := by decide
  unfold f_X11_run_0 at h
  obtain ⟨σ1, e1, h⟩ := fd_lts h
  have i1 : fd_InvM σ1 := fd_inv_sI e1 i0 (fd_rng _)
  obtain ⟨u4, σ4, k4, h⟩ := fd_bds h
  unfold f_X11_workPlain_0 at k4
  obtain ⟨i4, g4, x4⟩ := fd_ok_iv (s_X11_workPlain_0_L2 N hN N _ _ i1 (by decide) (by decide) (by omega)) k4
  obtain ⟨σ7, e7, h⟩ := fd_lts h
  have i7 : fd_InvM σ7 := fd_inv_sI e7 i4 ⟨by decide, by decide⟩
  have a2 : σ1.2 = σ.2 := by subst e1; rfl
  have a1 : ∀ k, k ≠ 0 → σ1.1 k = σ.1 k := fun k hk => fd_tN e1 hk
  have b1 : ∀ k, k ≠ 0 → k ≠ 7 → k ≠ 209 → σ7.1 k = σ.1 k := fun k h0 h7 h9 => (fd_tN e7 h7).trans ((g4.1 k (by simpa using h9)).trans (a1 k h0))
  have b7 : σ7.1 7 = 0 := fd_tI e7
  have c1 : ∀ k, k < 100 → σ7.2.1 k = σ.2.1 k := fun k hk => (fd_yIA e7 rfl).trans ((g4.2.1 k (by simp; omega)).trans (by rw [a2]))
  have c2 : ∀ k, k ≠ 9 → σ7.2.2 k = σ.2.2 k := fun k hk => (fd_yIL e7 rfl).trans ((g4.2.2 k (by simp; omega)).trans (by rw [a2]))
  have c9 : σ7.2.2 9 = σ4.2.2 9 := fd_yIL e7 rfl
  rw [a2, a1 1 (by decide), a1 4 (by decide), z0] at x4
  have plain : ∀ i, i < (σ.1 1).toNatClampNeg → σ7.2.2 9 i = r i &&& fd_mk (σ.1 4) := fun i hi => by
    rw [c9]
    exact x4 (by decide) r hE (fun j hj => absurd hj (Nat.not_lt_zero j)) i hi
  have r3 : (0 : Int) ≤ (σ.1 3).toInt ∧ (σ.1 3).toInt ≤ 32 := i0.1 3
  have r5 : (0 : Int) ≤ (σ.1 5).toInt ∧ (σ.1 5).toInt ≤ 40 := i0.1 5
  have r1 : (0 : Int) ≤ (σ.1 1).toInt ∧ (σ.1 1).toInt ≤ 200 := i0.1 1
  have z := q_run_L16 N hN (μ0 := σ7) (P := fd_PQ (σ.2.1 1) (σ.2.1 2) (σ.2.1 3) (σ.2.1 7) (σ.2.1 8) (σ.2.1 5) r (σ.2.2 4) (σ.2.2 6) (σ.1 1).toNatClampNeg (σ.1 3).toNatClampNeg (fd_mk (σ.1 4)))
  rw [b1 1 (by decide) (by decide) (by decide), b1 5 (by decide) (by decide) (by decide)] at z
  refine z ?_ 4 N 0 σ7 _ _ i7 fd_fr_rf (by omega) (by omega) (by rw [b7, l0, z0]; rfl) h
  intro kd wh σ' τ1 τ2 u u' i' f' q1 q2 q3 q4 q5 k7 k8
  have s1 : σ'.1 1 = σ.1 1 := (f'.1 1 (by decide)).trans (b1 1 (by decide) (by decide) (by decide))
  have s3 : σ'.1 3 = σ.1 3 := (f'.1 3 (by decide)).trans (b1 3 (by decide) (by decide) (by decide))
  have s4 : σ'.1 4 = σ.1 4 := (f'.1 4 (by decide)).trans (b1 4 (by decide) (by decide) (by decide))
  have d1 : σ'.2.1 1 = σ.2.1 1 := (f'.2.1 1 (by decide)).trans (c1 1 (by decide))
  have d2 : σ'.2.1 2 = σ.2.1 2 := (f'.2.1 2 (by decide)).trans (c1 2 (by decide))
  have d3 : σ'.2.1 3 = σ.2.1 3 := (f'.2.1 3 (by decide)).trans (c1 3 (by decide))
  have d5 : σ'.2.1 5 = σ.2.1 5 := (f'.2.1 5 (by decide)).trans (c1 5 (by decide))
  have d7 : σ'.2.1 7 = σ.2.1 7 := (f'.2.1 7 (by decide)).trans (c1 7 (by decide))
  have d8 : σ'.2.1 8 = σ.2.1 8 := (f'.2.1 8 (by decide)).trans (c1 8 (by decide))
  have d4 : σ'.2.2 4 = σ.2.2 4 := (f'.2.2 4 (by decide)).trans (c2 4 (by decide))
  have d6 : σ'.2.2 6 = σ.2.2 6 := (f'.2.2 6 (by decide)).trans (c2 6 (by decide))
  have d9 : σ'.2.2 9 = σ7.2.2 9 := f'.2.2 9 (by decide)
  obtain ⟨i1', g1, x1⟩ := fd_ok_iv (s_X11_workFault_0 N hN _ _ _ i' (fun _ => by omega)) k7
  obtain ⟨_, _, x2⟩ := fd_ok_iv (s_X11_judge_0 N hN _ i1') k8
  obtain ⟨w1, w2⟩ := fd_qa_in (kd := kd) (wh := wh) hQ q3 q4 q5
  obtain ⟨w, hw⟩ := fd_F_ex (k := σ.2.1 1) (f := σ.2.1 2) (g := σ.2.1 3) (p := σ.2.2 4) (a := (fd_qa kd wh (σ.2.1 7)).toNatClampNeg) (ra := fd_qr kd (r (fd_qa kd wh (σ.2.1 7)).toNatClampNeg) (r (fd_qa kd wh (σ.2.1 8)).toNatClampNeg)) (b := (fd_qa kd wh (σ.2.1 8)).toNatClampNeg) (rb := fd_qr kd (r (fd_qa kd wh (σ.2.1 7)).toNatClampNeg) (r (fd_qa kd wh (σ.2.1 8)).toNatClampNeg)) _ hE.2.1
  rw [s1, s4, d1, d2, d3, d4, d7, d8, d9] at x1
  obtain ⟨y1, y2, y3⟩ := x1 q1 r w plain w1 w2 hE.2.1 hw
  rw [g1.1 3 (by decide), g1.1 4 (by decide), y3, g1.2.2 6 (by decide), s3, s4, d5, d6, y2] at x2
  obtain ⟨v1, v2⟩ := x2 r3.2
  have hO : ∀ j, j < (σ.1 3).toNatClampNeg → (σ.2.1 5 j).toNatClampNeg < (σ.1 1).toNatClampNeg := fun j hj => by have := hQ.2 j hj; exact fd_tl' this.1 this.2
  rw [← fd_PQ_iff (O := σ.2.1 5) (fl := σ.2.2 6) (m := fd_mk (σ.1 4)) (ou := (σ.1 3).toNatClampNeg) hE.2.1 hO hw, v2]
  have same : (∀ j, j < (σ.1 3).toNatClampNeg → ((σ7.2.2 9 (σ.2.1 5 j).toNatClampNeg) ^^^ (τ1.2.2 10 (σ.2.1 5 j).toNatClampNeg)) &&& ((σ.2.2 6 j) &&& fd_mk (σ.1 4)) = 0) ↔ ∀ j, j < (σ.1 3).toNatClampNeg → fd_T r w (σ.2.1 5) (σ.2.2 6) (fd_mk (σ.1 4)) j = 0 := by
    constructor
    · intro hq j hj
      have := hq j hj
      rw [plain _ (hO j hj), y1 _ (hO j hj), fd_xm] at this
      exact this
    · intro hq j hj
      rw [plain _ (hO j hj), y1 _ (hO j hj), fd_xm]
      exact hq j hj
  rw [same]
theorem s1_X10_run_0 (N : Nat) (hN : 1000 ≤ N) (σ : fd_St) (i0 : fd_InvC σ) : fd_ok (f_X10_run_0 N σ) (fun v s => fd_InvC s ∧ fd_fr [0, 6, 7, 8, 9, 10, 11, 12, 13, 14, 122, 123, 124, 125, 126, 127, 128, 216] σ s ∧ (∀ p : Nat → Int64, fd_E (σ.2.1 12) (σ.2.1 13) (σ.2.1 14) (σ.2.2 15) p (σ.1 1).toNatClampNeg → fd_Q (σ.1 1) (σ.1 5) (σ.1 4) (σ.2.1 20) (σ.2.1 21) (σ.2.1 18) → v.toInt = fd_tt (fd_PQ (σ.2.1 12) (σ.2.1 13) (σ.2.1 14) (σ.2.1 20) (σ.2.1 21) (σ.2.1 18) (σ.2.2 15) p (σ.2.2 19) (σ.1 1).toNatClampNeg (σ.1 4).toNatClampNeg (fd_ct (σ.1 3))) (σ.1 1).toNatClampNeg (σ.1 5).toNatClampNeg 4)) := fd_ok_x (s_X10_run_0 N hN σ i0) (fun _ _ h => q_X10_run hN i0 h)
theorem s1_X11_run_0 (N : Nat) (hN : 1000 ≤ N) (σ : fd_St) (i0 : fd_InvM σ) : fd_ok (f_X11_run_0 N σ) (fun v s => fd_InvM s ∧ fd_fr [0, 6, 7, 8, 9, 10, 112, 113, 114, 115, 116, 117, 118, 209, 210] σ s ∧ (∀ r : Nat → Int64, fd_E (σ.2.1 1) (σ.2.1 2) (σ.2.1 3) r (σ.2.2 4) (σ.1 1).toNatClampNeg → fd_Q (σ.1 1) (σ.1 5) (σ.1 3) (σ.2.1 7) (σ.2.1 8) (σ.2.1 5) → v.toInt = fd_tt (fd_PQ (σ.2.1 1) (σ.2.1 2) (σ.2.1 3) (σ.2.1 7) (σ.2.1 8) (σ.2.1 5) r (σ.2.2 4) (σ.2.2 6) (σ.1 1).toNatClampNeg (σ.1 3).toNatClampNeg (fd_mk (σ.1 4))) (σ.1 1).toNatClampNeg (σ.1 5).toNatClampNeg 4)) := fd_ok_x (s_X11_run_0 N hN σ i0) (fun _ _ h => q_X11_run hN i0 h)
