/-- v put into a row of m that is in order, where it wasn't there -/
def fd_put (e e' : Nat → Int32) (m m' v : Int32) : Prop := (m' = m ∧ e' = e ∧ ∃ j, j < m.toNatClampNeg ∧ e j = v) ∨ (m'.toInt = m.toInt + 1 ∧ ∃ p, p ≤ m.toNatClampNeg ∧ (p = 0 ∨ (e (p - 1)).toInt ≤ v.toInt) ∧ (∀ j, p ≤ j → j < m.toNatClampNeg → v.toInt ≤ (e j).toInt) ∧ fd_ins e e' m.toNatClampNeg p v)
theorem fd_put_s {e e' : Nat → Int32} {m m' v : Int32} (h : fd_put e e' m m' v) (h0 : 0 ≤ m.toInt) (hs : ∀ j, j + 1 < m.toNatClampNeg → (e j).toInt ≤ (e (j + 1)).toInt) (hr : ∀ j, j < m.toNatClampNeg → -100 ≤ (e j).toInt ∧ (e j).toInt ≤ 1100) (hv : -100 ≤ v.toInt ∧ v.toInt ≤ 1100) : (m.toInt ≤ m'.toInt ∧ m'.toInt ≤ m.toInt + 1) ∧ (∀ j, j + 1 < m'.toNatClampNeg → (e' j).toInt ≤ (e' (j + 1)).toInt) ∧ (∀ j, j < m'.toNatClampNeg → -100 ≤ (e' j).toInt ∧ (e' j).toInt ≤ 1100) ∧ (∃ j, j < m'.toNatClampNeg ∧ e' j = v) ∧ ∀ i, i < m.toNatClampNeg → ∃ j, j < m'.toNatClampNeg ∧ e' j = e i := by
  rcases h with ⟨a1, a2, a3⟩ | ⟨a1, p, b1, b2, b3, b4⟩
  · rw [a1, a2]
    exact ⟨by omega, hs, hr, a3, fun i hi => ⟨i, hi, rfl⟩⟩
  · have em : m'.toNatClampNeg = m.toNatClampNeg + 1 := by
      show m'.toInt.toNat = m.toInt.toNat + 1; omega
    rw [em]
    have x := fd_ins_m b4 b1
    exact ⟨by omega, fd_ins_s (κ := Int32.toInt) b4 b1 hs b2 b3, fd_ins_p (P := fun z => -100 ≤ z.toInt ∧ z.toInt ≤ 1100) b4 b1 hr hv, x.1, x.2⟩
theorem q_insert_27_L37 {N : Nat} (e0 : Nat → Int32) (m : Nat) : ∀ (n : Nat) (y1 y2 y3 y4 : Int32) (σ : fd_St) (v : Int32) (s : fd_St), f_X11_insert_27_L37 N n y1 y2 y3 y4 σ = some (v, s) → 0 ≤ y3.toInt → y3.toInt ≤ y4.toInt → y4.toNatClampNeg ≤ m → (∀ j, j < y4.toNatClampNeg → σ.2.1 27 j = e0 j) → (∀ j, y4.toNatClampNeg < j → j ≤ m → σ.2.1 27 j = e0 (j - 1)) → v = y1 + 1 ∧ (s.1 = σ.1 ∧ ∀ d, d ≠ 27 → s.2.1 d = σ.2.1 d) ∧ fd_ins e0 (s.2.1 27) m y3.toNatClampNeg y2 := by
  have l1 : (1 : Int32).toInt = 1 := by decide
  have lm : (-1 : Int32).toInt = -1 := by decide
  intro n
  induction n with
  | zero => intro y1 y2 y3 y4 σ v s h; cases h
  | succ n ih =>
    intro y1 y2 y3 y4 σ v s h h3 h34 hm ha hb
    unfold f_X11_insert_27_L37 at h
    by_cases c : y4 ≤ y3
    · have h := fd_itp c h
      have c1 := Int32.le_iff_toInt_le.mp c
      have e : y4.toNatClampNeg = y3.toNatClampNeg := fd_te (by omega)
      rw [e] at ha hb hm
      obtain ⟨_, h⟩ := fd_gds h
      obtain ⟨σ5, e5, h⟩ := fd_lts h
      cases h
      refine ⟨rfl, ⟨by subst e5; rfl, fun d hd => fd_yAn e5 hd rfl⟩, ?_⟩
      intro j hj
      rw [fd_yA e5 rfl]
      by_cases a : j < y3.toNatClampNeg
      · rw [if_pos a, fd_uA_ne (by omega)]; exact ha j a
      · rw [if_neg a]
        by_cases b : j = y3.toNatClampNeg
        · rw [if_pos b, b, fd_uA_eq]
        · rw [if_neg b, fd_uA_ne b]; exact hb j (by omega) hj
    · have h := fd_itn c h
      have c1 := Int32.lt_iff_toInt_lt.mp (Int32.not_le.mp c)
      have r4 := fd_rng y4
      have hs := Jvm.Kit.i32_sub (x := y4) (y := (1 : Int32)) (by omega) (by omega)
      have e1 : (y4 - (1 : Int32)).toNatClampNeg = y4.toNatClampNeg - 1 := by
        show (y4 - (1 : Int32)).toInt.toNat = y4.toInt.toNat - 1; omega
      have p1 : 1 ≤ y4.toNatClampNeg := by show 1 ≤ y4.toInt.toNat; omega
      rw [e1] at h
      obtain ⟨_, h⟩ := fd_gds h
      obtain ⟨_, h⟩ := fd_gds h
      obtain ⟨σ8, e8, h⟩ := fd_lts h
      obtain ⟨x9, e9, h⟩ := fd_lts h
      have t1 := fd_la e9 (by omega) (by omega)
      have t2 : x9.toNatClampNeg = y4.toNatClampNeg - 1 := by
        show x9.toInt.toNat = y4.toInt.toNat - 1; omega
      have b8 := fd_yA e8 rfl
      have w := ha (y4.toNatClampNeg - 1) (by omega)
      obtain ⟨a0, ⟨a1, a2⟩, a3⟩ := ih y1 y2 y3 x9 σ8 v s h h3 (by omega) (by omega) (fun j hj => by rw [b8, fd_uA_ne (by omega)]; exact ha j (by omega)) (fun j q1 q2 => by
        rw [b8]
        by_cases q : j = y4.toNatClampNeg
        · rw [q, fd_uA_eq]; exact w
        · rw [fd_uA_ne q]; exact hb j (by omega) q2)
      exact ⟨a0, ⟨a1.trans (by subst e8; rfl), fun d hd => (a2 d hd).trans (fd_yAn e8 hd rfl)⟩, a3⟩
theorem q_insert_27 {N : Nat} : ∀ (n : Nat) (y1 y2 y3 : Int32) (σ : fd_St) (v : Int32) (s : fd_St), f_X11_insert_27_L2 N n y1 y2 y3 σ = some (v, s) → 0 ≤ y3.toInt → y3.toInt ≤ y1.toInt → y1.toInt ≤ 121 → (∀ j, j + 1 < y1.toNatClampNeg → (σ.2.1 27 j).toInt ≤ (σ.2.1 27 (j + 1)).toInt) → (∀ j, j < y3.toNatClampNeg → (σ.2.1 27 j).toInt < y2.toInt) → (s.1 = σ.1 ∧ ∀ d, d ≠ 27 → s.2.1 d = σ.2.1 d) ∧ fd_put (σ.2.1 27) (s.2.1 27) y1 v y2 := by
  have l1 : (1 : Int32).toInt = 1 := by decide
  intro n
  induction n with
  | zero => intro y1 y2 y3 σ v s h; cases h
  | succ n ih =>
    intro y1 y2 y3 σ v s h h3 h31 h121 hs hb
    have up := fd_mono (E := fun j => (σ.2.1 27 j).toInt) hs
    have shift : (y1.toInt ≤ y3.toInt ∨ y2.toInt ≤ (σ.2.1 27 y3.toNatClampNeg).toInt) → f_X11_insert_27_J34 N y1 y2 y3 σ = some (v, s) → (s.1 = σ.1 ∧ ∀ d, d ≠ 27 → s.2.1 d = σ.2.1 d) ∧ fd_put (σ.2.1 27) (s.2.1 27) y1 v y2 := by
      intro hx h
      unfold f_X11_insert_27_J34 at h
      obtain ⟨a0, a1, a2⟩ := q_insert_27_L37 (σ.2.1 27) y1.toNatClampNeg _ _ _ _ _ _ _ _ h h3 h31 (Nat.le_refl _) (fun j _ => rfl) (fun j q1 q2 => by omega)
      have ad := Jvm.Kit.i32_add (x := y1) (y := (1 : Int32)) (by omega) (by omega)
      refine ⟨a1, Or.inr ⟨by rw [a0]; omega, y3.toNatClampNeg, fd_tn h31, ?_, ?_, a2⟩⟩
      · by_cases q : y3.toNatClampNeg = 0
        · exact Or.inl q
        · exact Or.inr (by have := hb (y3.toNatClampNeg - 1) (by omega); omega)
      · intro j q1 q2
        rcases hx with hx | hx
        · have := fd_tn hx; omega
        · have : (σ.2.1 27 y3.toNatClampNeg).toInt ≤ (σ.2.1 27 j).toInt := up _ _ q1 q2
          omega
    have j20 : (y1.toInt ≤ y3.toInt ∨ y2.toInt ≤ (σ.2.1 27 y3.toNatClampNeg).toInt) → f_X11_insert_27_J20 N y1 y2 y3 σ = some (v, s) → (s.1 = σ.1 ∧ ∀ d, d ≠ 27 → s.2.1 d = σ.2.1 d) ∧ fd_put (σ.2.1 27) (s.2.1 27) y1 v y2 := by
      intro hx h
      unfold f_X11_insert_27_J20 at h
      by_cases c : y1 ≤ y3
      · exact shift hx (fd_itp c h)
      · have h := fd_itn c h
        have c1 := Int32.lt_iff_toInt_lt.mp (Int32.not_le.mp c)
        obtain ⟨_, h⟩ := fd_gds h
        by_cases d : σ.2.1 27 y3.toNatClampNeg = y2
        · have h := fd_itp d h
          cases h
          exact ⟨⟨rfl, fun _ _ => rfl⟩, Or.inl ⟨rfl, rfl, y3.toNatClampNeg, fd_tl' h3 c1, d⟩⟩
        · exact shift hx (fd_itn d h)
    unfold f_X11_insert_27_L2 at h
    by_cases c : y1 ≤ y3
    · exact j20 (Or.inl (Int32.le_iff_toInt_le.mp c)) (fd_itp c h)
    · have h := fd_itn c h
      have c1 := Int32.lt_iff_toInt_lt.mp (Int32.not_le.mp c)
      obtain ⟨_, h⟩ := fd_gds h
      by_cases d : y2 ≤ σ.2.1 27 y3.toNatClampNeg
      · exact j20 (Or.inr (Int32.le_iff_toInt_le.mp d)) (fd_itp d h)
      · have h := fd_itn d h
        have d1 := Int32.lt_iff_toInt_lt.mp (Int32.not_le.mp d)
        obtain ⟨x14, e14, h⟩ := fd_lts h
        obtain ⟨t1, t2⟩ := fd_t1 e14 h3 (by omega)
        refine ih _ _ _ _ _ _ h (by omega) (by omega) h121 hs (fun j q => ?_)
        by_cases e : j = y3.toNatClampNeg
        · rw [e]; exact d1
        · exact hb j (by omega)
theorem q_insert_28_L37 {N : Nat} (e0 : Nat → Int32) (m : Nat) : ∀ (n : Nat) (y1 y2 y3 y4 : Int32) (σ : fd_St) (v : Int32) (s : fd_St), f_X11_insert_28_L37 N n y1 y2 y3 y4 σ = some (v, s) → 0 ≤ y3.toInt → y3.toInt ≤ y4.toInt → y4.toNatClampNeg ≤ m → (∀ j, j < y4.toNatClampNeg → σ.2.1 28 j = e0 j) → (∀ j, y4.toNatClampNeg < j → j ≤ m → σ.2.1 28 j = e0 (j - 1)) → v = y1 + 1 ∧ (s.1 = σ.1 ∧ ∀ d, d ≠ 28 → s.2.1 d = σ.2.1 d) ∧ fd_ins e0 (s.2.1 28) m y3.toNatClampNeg y2 := by
  have l1 : (1 : Int32).toInt = 1 := by decide
  have lm : (-1 : Int32).toInt = -1 := by decide
  intro n
  induction n with
  | zero => intro y1 y2 y3 y4 σ v s h; cases h
  | succ n ih =>
    intro y1 y2 y3 y4 σ v s h h3 h34 hm ha hb
    unfold f_X11_insert_28_L37 at h
    by_cases c : y4 ≤ y3
    · have h := fd_itp c h
      have c1 := Int32.le_iff_toInt_le.mp c
      have e : y4.toNatClampNeg = y3.toNatClampNeg := fd_te (by omega)
      rw [e] at ha hb hm
      obtain ⟨_, h⟩ := fd_gds h
      obtain ⟨σ5, e5, h⟩ := fd_lts h
      cases h
      refine ⟨rfl, ⟨by subst e5; rfl, fun d hd => fd_yAn e5 hd rfl⟩, ?_⟩
      intro j hj
      rw [fd_yA e5 rfl]
      by_cases a : j < y3.toNatClampNeg
      · rw [if_pos a, fd_uA_ne (by omega)]; exact ha j a
      · rw [if_neg a]
        by_cases b : j = y3.toNatClampNeg
        · rw [if_pos b, b, fd_uA_eq]
        · rw [if_neg b, fd_uA_ne b]; exact hb j (by omega) hj
    · have h := fd_itn c h
      have c1 := Int32.lt_iff_toInt_lt.mp (Int32.not_le.mp c)
      have r4 := fd_rng y4
      have hs := Jvm.Kit.i32_sub (x := y4) (y := (1 : Int32)) (by omega) (by omega)
      have e1 : (y4 - (1 : Int32)).toNatClampNeg = y4.toNatClampNeg - 1 := by
        show (y4 - (1 : Int32)).toInt.toNat = y4.toInt.toNat - 1; omega
      have p1 : 1 ≤ y4.toNatClampNeg := by show 1 ≤ y4.toInt.toNat; omega
      rw [e1] at h
      obtain ⟨_, h⟩ := fd_gds h
      obtain ⟨_, h⟩ := fd_gds h
      obtain ⟨σ8, e8, h⟩ := fd_lts h
      obtain ⟨x9, e9, h⟩ := fd_lts h
      have t1 := fd_la e9 (by omega) (by omega)
      have t2 : x9.toNatClampNeg = y4.toNatClampNeg - 1 := by
        show x9.toInt.toNat = y4.toInt.toNat - 1; omega
      have b8 := fd_yA e8 rfl
      have w := ha (y4.toNatClampNeg - 1) (by omega)
      obtain ⟨a0, ⟨a1, a2⟩, a3⟩ := ih y1 y2 y3 x9 σ8 v s h h3 (by omega) (by omega) (fun j hj => by rw [b8, fd_uA_ne (by omega)]; exact ha j (by omega)) (fun j q1 q2 => by
        rw [b8]
        by_cases q : j = y4.toNatClampNeg
        · rw [q, fd_uA_eq]; exact w
        · rw [fd_uA_ne q]; exact hb j (by omega) q2)
      exact ⟨a0, ⟨a1.trans (by subst e8; rfl), fun d hd => (a2 d hd).trans (fd_yAn e8 hd rfl)⟩, a3⟩
theorem q_insert_28 {N : Nat} : ∀ (n : Nat) (y1 y2 y3 : Int32) (σ : fd_St) (v : Int32) (s : fd_St), f_X11_insert_28_L2 N n y1 y2 y3 σ = some (v, s) → 0 ≤ y3.toInt → y3.toInt ≤ y1.toInt → y1.toInt ≤ 121 → (∀ j, j + 1 < y1.toNatClampNeg → (σ.2.1 28 j).toInt ≤ (σ.2.1 28 (j + 1)).toInt) → (∀ j, j < y3.toNatClampNeg → (σ.2.1 28 j).toInt < y2.toInt) → (s.1 = σ.1 ∧ ∀ d, d ≠ 28 → s.2.1 d = σ.2.1 d) ∧ fd_put (σ.2.1 28) (s.2.1 28) y1 v y2 := by
  have l1 : (1 : Int32).toInt = 1 := by decide
  intro n
  induction n with
  | zero => intro y1 y2 y3 σ v s h; cases h
  | succ n ih =>
    intro y1 y2 y3 σ v s h h3 h31 h121 hs hb
    have up := fd_mono (E := fun j => (σ.2.1 28 j).toInt) hs
    have shift : (y1.toInt ≤ y3.toInt ∨ y2.toInt ≤ (σ.2.1 28 y3.toNatClampNeg).toInt) → f_X11_insert_28_J34 N y1 y2 y3 σ = some (v, s) → (s.1 = σ.1 ∧ ∀ d, d ≠ 28 → s.2.1 d = σ.2.1 d) ∧ fd_put (σ.2.1 28) (s.2.1 28) y1 v y2 := by
      intro hx h
      unfold f_X11_insert_28_J34 at h
      obtain ⟨a0, a1, a2⟩ := q_insert_28_L37 (σ.2.1 28) y1.toNatClampNeg _ _ _ _ _ _ _ _ h h3 h31 (Nat.le_refl _) (fun j _ => rfl) (fun j q1 q2 => by omega)
      have ad := Jvm.Kit.i32_add (x := y1) (y := (1 : Int32)) (by omega) (by omega)
      refine ⟨a1, Or.inr ⟨by rw [a0]; omega, y3.toNatClampNeg, fd_tn h31, ?_, ?_, a2⟩⟩
      · by_cases q : y3.toNatClampNeg = 0
        · exact Or.inl q
        · exact Or.inr (by have := hb (y3.toNatClampNeg - 1) (by omega); omega)
      · intro j q1 q2
        rcases hx with hx | hx
        · have := fd_tn hx; omega
        · have : (σ.2.1 28 y3.toNatClampNeg).toInt ≤ (σ.2.1 28 j).toInt := up _ _ q1 q2
          omega
    have j20 : (y1.toInt ≤ y3.toInt ∨ y2.toInt ≤ (σ.2.1 28 y3.toNatClampNeg).toInt) → f_X11_insert_28_J20 N y1 y2 y3 σ = some (v, s) → (s.1 = σ.1 ∧ ∀ d, d ≠ 28 → s.2.1 d = σ.2.1 d) ∧ fd_put (σ.2.1 28) (s.2.1 28) y1 v y2 := by
      intro hx h
      unfold f_X11_insert_28_J20 at h
      by_cases c : y1 ≤ y3
      · exact shift hx (fd_itp c h)
      · have h := fd_itn c h
        have c1 := Int32.lt_iff_toInt_lt.mp (Int32.not_le.mp c)
        obtain ⟨_, h⟩ := fd_gds h
        by_cases d : σ.2.1 28 y3.toNatClampNeg = y2
        · have h := fd_itp d h
          cases h
          exact ⟨⟨rfl, fun _ _ => rfl⟩, Or.inl ⟨rfl, rfl, y3.toNatClampNeg, fd_tl' h3 c1, d⟩⟩
        · exact shift hx (fd_itn d h)
    unfold f_X11_insert_28_L2 at h
    by_cases c : y1 ≤ y3
    · exact j20 (Or.inl (Int32.le_iff_toInt_le.mp c)) (fd_itp c h)
    · have h := fd_itn c h
      have c1 := Int32.lt_iff_toInt_lt.mp (Int32.not_le.mp c)
      obtain ⟨_, h⟩ := fd_gds h
      by_cases d : y2 ≤ σ.2.1 28 y3.toNatClampNeg
      · exact j20 (Or.inr (Int32.le_iff_toInt_le.mp d)) (fd_itp d h)
      · have h := fd_itn d h
        have d1 := Int32.lt_iff_toInt_lt.mp (Int32.not_le.mp d)
        obtain ⟨x14, e14, h⟩ := fd_lts h
        obtain ⟨t1, t2⟩ := fd_t1 e14 h3 (by omega)
        refine ih _ _ _ _ _ _ h (by omega) (by omega) h121 hs (fun j q => ?_)
        by_cases e : j = y3.toNatClampNeg
        · rw [e]; exact d1
        · exact hb j (by omega)
theorem q_covers_L3 {N : Nat} : ∀ (n : Nat) (y1 y2 y3 y4 y5 : Int32) (σ : fd_St) (v : Int32) (s : fd_St), f_X11_covers_0_L3 N n y1 y2 y3 y4 y5 σ = some (v, s) → 0 ≤ y5.toInt → 0 ≤ y4.toInt → y4.toInt ≤ 100 → fd_Sh (σ.2.1 23) (σ.2.1 24) (σ.2.1 25) (σ.2.1 26) (σ.1 14).toNatClampNeg → s = σ ∧ (v ≠ 0 ↔ ∃ i, y5.toNatClampNeg ≤ i ∧ i < (σ.1 14).toNatClampNeg ∧ σ.2.1 22 i = y1 ∧ fd_cx (σ.2.1 23) (σ.2.1 25) y4.toInt i y2.toInt ∧ fd_cx (σ.2.1 24) (σ.2.1 26) y4.toInt i y3.toInt) := by
  intro n
  induction n with
  | zero => intro y1 y2 y3 y4 y5 σ v s h; cases h
  | succ n ih =>
    intro y1 y2 y3 y4 y5 σ v s h h5 hg0 hg1 hS
    unfold f_X11_covers_0_L3 at h
    by_cases c : σ.1 14 ≤ y5
    · have h := fd_itp c h
      have c1 := fd_tn (Int32.le_iff_toInt_le.mp c)
      cases h
      refine ⟨rfl, fun z => absurd rfl z, ?_⟩
      rintro ⟨i, q1, q2, _⟩
      omega
    · have h := fd_itn c h
      have c1 := Int32.lt_iff_toInt_lt.mp (Int32.not_le.mp c)
      have c2 := fd_tl' h5 c1
      obtain ⟨g1, h⟩ := fd_gds h
      have g2 := vp_in_iff.mp g1
      obtain ⟨⟨sx0, sx1, sx2⟩, sy0, sy1, sy2⟩ := hS _ c2
      have d0 := Jvm.Kit.i32_sub (x := σ.2.1 23 y5.toNatClampNeg) (y := y4) (by omega) (by omega)
      have d1 := Jvm.Kit.i32_add (x := σ.2.1 25 y5.toNatClampNeg) (y := y4) (by omega) (by omega)
      have d2 := Jvm.Kit.i32_sub (x := σ.2.1 24 y5.toNatClampNeg) (y := y4) (by omega) (by omega)
      have d3 := Jvm.Kit.i32_add (x := σ.2.1 26 y5.toNatClampNeg) (y := y4) (by omega) (by omega)
      have next : ¬ (σ.2.1 22 y5.toNatClampNeg = y1 ∧ fd_cx (σ.2.1 23) (σ.2.1 25) y4.toInt y5.toNatClampNeg y2.toInt ∧ fd_cx (σ.2.1 24) (σ.2.1 26) y4.toInt y5.toNatClampNeg y3.toInt) → f_X11_covers_0_J81 N (f_X11_covers_0_L3 N n) y1 y2 y3 y4 y5 σ = some (v, s) → s = σ ∧ (v ≠ 0 ↔ ∃ i, y5.toNatClampNeg ≤ i ∧ i < (σ.1 14).toNatClampNeg ∧ σ.2.1 22 i = y1 ∧ fd_cx (σ.2.1 23) (σ.2.1 25) y4.toInt i y2.toInt ∧ fd_cx (σ.2.1 24) (σ.2.1 26) y4.toInt i y3.toInt) := by
        intro hn h
        unfold f_X11_covers_0_J81 at h
        obtain ⟨x4, e4, h⟩ := fd_lts h
        obtain ⟨t1, t2⟩ := fd_t1 e4 h5 (by omega)
        obtain ⟨a1, a2⟩ := ih _ _ _ _ _ _ _ _ h (by omega) hg0 hg1 hS
        refine ⟨a1, a2.trans ?_⟩
        rw [t2]
        constructor
        · rintro ⟨i, q1, q2, q3⟩
          exact ⟨i, by omega, q2, q3⟩
        · rintro ⟨i, q1, q2, q3⟩
          by_cases e : i = y5.toNatClampNeg
          · subst e; exact absurd q3 hn
          · exact ⟨i, by omega, q2, q3⟩
      by_cases k : σ.2.1 22 y5.toNatClampNeg = y1
      · have h := fd_itp k h
        obtain ⟨_, h⟩ := fd_gds h
        by_cases b1 : y2 < (σ.2.1 23 y5.toNatClampNeg) - y4
        · have := Int32.lt_iff_toInt_lt.mp b1
          exact next (fun z => by have := z.2.1.1; omega) (fd_itp b1 h)
        have h := fd_itn b1 h
        have b2 := Int32.le_iff_toInt_le.mp (Int32.not_lt.mp b1)
        obtain ⟨_, h⟩ := fd_gds h
        by_cases b3 : (σ.2.1 25 y5.toNatClampNeg) + y4 ≤ y2
        · have := Int32.le_iff_toInt_le.mp b3
          exact next (fun z => by have := z.2.1.2; omega) (fd_itp b3 h)
        have h := fd_itn b3 h
        have b4 := Int32.lt_iff_toInt_lt.mp (Int32.not_le.mp b3)
        obtain ⟨_, h⟩ := fd_gds h
        by_cases b5 : y3 < (σ.2.1 24 y5.toNatClampNeg) - y4
        · have := Int32.lt_iff_toInt_lt.mp b5
          exact next (fun z => by have := z.2.2.1; omega) (fd_itp b5 h)
        have h := fd_itn b5 h
        have b6 := Int32.le_iff_toInt_le.mp (Int32.not_lt.mp b5)
        obtain ⟨_, h⟩ := fd_gds h
        by_cases b7 : (σ.2.1 26 y5.toNatClampNeg) + y4 ≤ y3
        · have := Int32.le_iff_toInt_le.mp b7
          exact next (fun z => by have := z.2.2.2; omega) (fd_itp b7 h)
        have h := fd_itn b7 h
        have b8 := Int32.lt_iff_toInt_lt.mp (Int32.not_le.mp b7)
        cases h
        exact ⟨rfl, fun _ => ⟨y5.toNatClampNeg, Nat.le_refl _, c2, k, ⟨by omega, by omega⟩, ⟨by omega, by omega⟩⟩, fun _ => by decide⟩
      · exact next (fun z => k z.1) (fd_itn k h)
