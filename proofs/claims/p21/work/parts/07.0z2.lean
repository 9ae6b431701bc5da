/-- what is chosen of the first y shapes: edges in order, shapes in the order of their bottoms -/
def fd_ch (S X0 Y0 X1 : Nat → Int32) (a b g : Int32) (e cb : Nat → Int32) (c y : Nat) : Prop :=
  (∀ j, j + 1 < 2 * c → (e j).toInt ≤ (e (j + 1)).toInt) ∧ (∀ j, j < 2 * c → -100 ≤ (e j).toInt ∧ (e j).toInt ≤ 1100) ∧
  (∀ i, i < y → (S i = a ∨ S i = b) → (∃ j, j < 2 * c ∧ (e j).toInt = (X0 i).toInt - g.toInt) ∧ ∃ j, j < 2 * c ∧ (e j).toInt = (X1 i).toInt + g.toInt) ∧
  (∀ k, k < c → (cb k).toNatClampNeg < y ∧ (S (cb k).toNatClampNeg = a ∨ S (cb k).toNatClampNeg = b)) ∧
  (∀ i, i < y → (S i = a ∨ S i = b) → ∃ k, k < c ∧ (cb k).toNatClampNeg = i) ∧
  ∀ k, k + 1 < c → (Y0 (cb k).toNatClampNeg).toInt ≤ (Y0 (cb (k + 1)).toNatClampNeg).toInt
theorem fd_ch_n {S X0 Y0 X1 : Nat → Int32} {a b g : Int32} {e cb : Nat → Int32} {c y : Nat} (h : fd_ch S X0 Y0 X1 a b g e cb c y) (hM : ¬ (S y = a ∨ S y = b)) : fd_ch S X0 Y0 X1 a b g e cb c (y + 1) := by
  obtain ⟨h1, h2, h3, h4, h5, h6⟩ := h
  refine ⟨h1, h2, fun i hi m => ?_, fun k hk => ⟨by have := (h4 k hk).1; omega, (h4 k hk).2⟩, fun i hi m => ?_, h6⟩
  · by_cases q : i = y
    · rw [q] at m; exact absurd m hM
    · exact h3 i (by omega) m
  · by_cases q : i = y
    · rw [q] at m; exact absurd m hM
    · exact h5 i (by omega) m
theorem fd_ch_s {S X0 Y0 X1 : Nat → Int32} {a b g : Int32} {e e1 e2 cb cb' : Nat → Int32} {c y p1 p2 p3 : Nat} {v1 v2 w : Int32} (h : fd_ch S X0 Y0 X1 a b g e cb c y) (hM : S y = a ∨ S y = b)
    (hv1 : v1.toInt = (X0 y).toInt - g.toInt) (hv2 : v2.toInt = (X1 y).toInt + g.toInt) (hw : w.toNatClampNeg = y) (r1 : -100 ≤ v1.toInt ∧ v1.toInt ≤ 1100) (r2 : -100 ≤ v2.toInt ∧ v2.toInt ≤ 1100)
    (q1 : p1 ≤ 2 * c) (s1 : p1 = 0 ∨ (e (p1 - 1)).toInt ≤ v1.toInt) (t1 : ∀ j, p1 ≤ j → j < 2 * c → v1.toInt ≤ (e j).toInt) (i1 : fd_ins e e1 (2 * c) p1 v1)
    (q2 : p2 ≤ 2 * c + 1) (s2 : p2 = 0 ∨ (e1 (p2 - 1)).toInt ≤ v2.toInt) (t2 : ∀ j, p2 ≤ j → j < 2 * c + 1 → v2.toInt ≤ (e1 j).toInt) (i2 : fd_ins e1 e2 (2 * c + 1) p2 v2)
    (q3 : p3 ≤ c) (s3 : p3 = 0 ∨ (Y0 (cb (p3 - 1)).toNatClampNeg).toInt ≤ (Y0 w.toNatClampNeg).toInt) (t3 : ∀ j, p3 ≤ j → j < c → (Y0 w.toNatClampNeg).toInt ≤ (Y0 (cb j).toNatClampNeg).toInt) (i3 : fd_ins cb cb' c p3 w) : fd_ch S X0 Y0 X1 a b g e2 cb' (c + 1) (y + 1) := by
  obtain ⟨h1, h2, h3, h4, h5, h6⟩ := h
  have e9 : 2 * (c + 1) = 2 * c + 1 + 1 := by omega
  have so1 := fd_ins_s (κ := Int32.toInt) i1 q1 h1 s1 t1
  have so2 := fd_ins_s (κ := Int32.toInt) i2 q2 so1 s2 t2
  have so3 := fd_ins_s (κ := fun z => (Y0 z.toNatClampNeg).toInt) i3 q3 h6 s3 t3
  have m1 := fd_ins_m i1 q1
  have m2 := fd_ins_m i2 q2
  have m3 := fd_ins_m i3 q3
  have pr1 := fd_ins_p (P := fun z => -100 ≤ z.toInt ∧ z.toInt ≤ 1100) i1 q1 h2 r1
  have pr2 := fd_ins_p (P := fun z => -100 ≤ z.toInt ∧ z.toInt ≤ 1100) i2 q2 pr1 r2
  have pr3 := fd_ins_p (P := fun z => z.toNatClampNeg < y + 1 ∧ (S z.toNatClampNeg = a ∨ S z.toNatClampNeg = b)) i3 q3 (fun k hk => ⟨by have := (h4 k hk).1; omega, (h4 k hk).2⟩) ⟨by omega, by rw [hw]; exact hM⟩
  have up : ∀ i, i < 2 * c → ∃ j, j < 2 * (c + 1) ∧ e2 j = e i := by
    intro i hi
    obtain ⟨j, hj, ej⟩ := m1.2 i hi
    obtain ⟨k, hk, ek⟩ := m2.2 j hj
    exact ⟨k, by omega, ek.trans ej⟩
  have new1 : ∃ j, j < 2 * (c + 1) ∧ e2 j = v1 := by
    obtain ⟨j, hj, ej⟩ := m1.1
    obtain ⟨k, hk, ek⟩ := m2.2 j hj
    exact ⟨k, by omega, ek.trans ej⟩
  refine ⟨fun j hj => so2 j (by omega), fun j hj => pr2 j (by omega), fun i hi m => ?_, pr3, fun i hi m => ?_, so3⟩
  · by_cases q : i = y
    · subst q
      obtain ⟨j, hj, ej⟩ := new1
      obtain ⟨k, hk, ek⟩ := m2.1
      exact ⟨⟨j, hj, by rw [ej]; exact hv1⟩, k, by omega, by rw [ek]; exact hv2⟩
    · obtain ⟨⟨j, hj, ej⟩, k, hk, ek⟩ := h3 i (by omega) m
      obtain ⟨j', hj', ej'⟩ := up j hj
      obtain ⟨k', hk', ek'⟩ := up k hk
      exact ⟨⟨j', hj', by rw [ej']; exact ej⟩, k', hk', by rw [ek']; exact ek⟩
  · by_cases q : i = y
    · subst q
      obtain ⟨k, hk, ek⟩ := m3.1
      exact ⟨k, hk, by rw [ek]; exact hw⟩
    · obtain ⟨k, hk, ek⟩ := h5 i (by omega) m
      obtain ⟨k', hk', ek'⟩ := m3.2 k hk
      exact ⟨k', hk', by rw [ek']; exact ek⟩
/-- shapes are rectangles of the field -/
def fd_Sh (X0 Y0 X1 Y1 : Nat → Int32) (sz : Nat) : Prop := ∀ i, i < sz → (0 ≤ (X0 i).toInt ∧ (X0 i).toInt < (X1 i).toInt ∧ (X1 i).toInt ≤ 1000) ∧ (0 ≤ (Y0 i).toInt ∧ (Y0 i).toInt < (Y1 i).toInt ∧ (Y1 i).toInt ≤ 1000)
theorem q_choose_L8 {N : Nat} : ∀ (n : Nat) (y1 y2 y3 y4 : Int32) (σ : fd_St) (u : Unit) (s : fd_St), f_X6_choose_11_L8 N n y1 y2 y3 y4 σ = some (u, s) → 0 ≤ y4.toInt → y4.toInt ≤ (σ.1 18).toInt → (σ.1 18).toInt ≤ 60 → 0 ≤ (σ.1 19).toInt → (σ.1 19).toInt ≤ y4.toInt → 0 ≤ y3.toInt → y3.toInt ≤ 100 → fd_Sh (σ.2.1 33) (σ.2.1 34) (σ.2.1 35) (σ.2.1 36) (σ.1 18).toNatClampNeg → fd_ch (σ.2.1 32) (σ.2.1 33) (σ.2.1 34) (σ.2.1 35) y1 y2 y3 (σ.2.1 38) (σ.2.1 37) (σ.1 19).toNatClampNeg y4.toNatClampNeg → (s.1 18 = σ.1 18 ∧ ∀ d, d ≠ 37 → d ≠ 38 → s.2.1 d = σ.2.1 d) ∧ (0 ≤ (s.1 19).toInt ∧ (s.1 19).toInt ≤ (σ.1 18).toInt) ∧ fd_ch (σ.2.1 32) (σ.2.1 33) (σ.2.1 34) (σ.2.1 35) y1 y2 y3 (s.2.1 38) (s.2.1 37) (s.1 19).toNatClampNeg (σ.1 18).toNatClampNeg := by
  have l1 : (1 : Int32).toInt = 1 := by decide
  intro n
  induction n with
  | zero => intro y1 y2 y3 y4 σ u s h; cases h
  | succ n ih =>
    intro y1 y2 y3 y4 σ u s h h4 hl h60 hc0 hc1 hg0 hg1 hS hC
    unfold f_X6_choose_11_L8 at h
    by_cases c : σ.1 18 ≤ y4
    · have h := fd_itp c h
      have c1 := Int32.le_iff_toInt_le.mp c
      have e : y4.toNatClampNeg = (σ.1 18).toNatClampNeg := fd_te (by omega)
      rw [e] at hC
      cases h
      exact ⟨⟨rfl, fun _ _ _ => rfl⟩, ⟨hc0, by omega⟩, hC⟩
    · have h := fd_itn c h
      have c1 := Int32.lt_iff_toInt_lt.mp (Int32.not_le.mp c)
      have c2 := fd_tl' h4 c1
      obtain ⟨_, h⟩ := fd_gds h
      obtain ⟨⟨sx0, sx1, sx2⟩, sy0, sy1, sy2⟩ := hS _ c2
      have yes : (σ.2.1 32 y4.toNatClampNeg = y1 ∨ σ.2.1 32 y4.toNatClampNeg = y2) → f_X6_choose_11_J39 N (f_X6_choose_11_L8 N n) y1 y2 y3 y4 σ = some (u, s) → (s.1 18 = σ.1 18 ∧ ∀ d, d ≠ 37 → d ≠ 38 → s.2.1 d = σ.2.1 d) ∧ (0 ≤ (s.1 19).toInt ∧ (s.1 19).toInt ≤ (σ.1 18).toInt) ∧ fd_ch (σ.2.1 32) (σ.2.1 33) (σ.2.1 34) (σ.2.1 35) y1 y2 y3 (s.2.1 38) (s.2.1 37) (s.1 19).toNatClampNeg (σ.1 18).toNatClampNeg := by
        intro hM h
        unfold f_X6_choose_11_J39 at h
        obtain ⟨_, h⟩ := fd_gds h
        obtain ⟨u1, σ8, k1, h⟩ := fd_bds h
        unfold f_X6_putEdge_11 at k1
        have m2 := fd_mul2 (y := σ.1 19) (by omega) (by omega)
        have n2 : ((2 : Int32) * (σ.1 19)).toNatClampNeg = 2 * (σ.1 19).toNatClampNeg := by
          show ((2 : Int32) * (σ.1 19)).toInt.toNat = 2 * (σ.1 19).toInt.toNat; omega
        have v1 := Jvm.Kit.i32_sub (x := σ.2.1 33 y4.toNatClampNeg) (y := y3) (by omega) (by omega)
        obtain ⟨⟨a1, a2⟩, p1, b1, b2, b3, b4⟩ := q_putEdge_L2 (σ.2.1 38) (2 * (σ.1 19).toNatClampNeg) _ _ _ _ _ _ k1 (by omega) (by omega) (fun j _ => rfl) (fun j q1 q2 => by omega) (fun j q1 q2 => by omega)
        obtain ⟨_, h⟩ := fd_gds h
        obtain ⟨u2, σ14, k2, h⟩ := fd_bds h
        unfold f_X6_putEdge_11 at k2
        rw [a1, a2 35 (by decide)] at k2
        have v2 := Jvm.Kit.i32_add (x := σ.2.1 35 y4.toNatClampNeg) (y := y3) (by omega) (by omega)
        have m3 := Jvm.Kit.i32_add (x := (2 : Int32) * (σ.1 19)) (y := (1 : Int32)) (by omega) (by omega)
        have n3 : (((2 : Int32) * (σ.1 19)) + (1 : Int32)).toNatClampNeg = 2 * (σ.1 19).toNatClampNeg + 1 := by
          show (((2 : Int32) * (σ.1 19)) + (1 : Int32)).toInt.toNat = 2 * (σ.1 19).toInt.toNat + 1; omega
        obtain ⟨⟨a3, a4⟩, p2, b5, b6, b7, b8⟩ := q_putEdge_L2 (σ8.2.1 38) (2 * (σ.1 19).toNatClampNeg + 1) _ _ _ _ _ _ k2 (by omega) (by omega) (fun j _ => rfl) (fun j q1 q2 => by omega) (fun j q1 q2 => by omega)
        obtain ⟨u3, σ19, k3, h⟩ := fd_bds h
        unfold f_X6_putByBottom_11 at k3
        obtain ⟨x1, ex1, k3⟩ := fd_lts k3
        rw [a3, a1] at ex1
        have f37 : σ14.2.1 37 = σ.2.1 37 := (a4 37 (by decide)).trans (a2 37 (by decide))
        have f34 : σ14.2.1 34 = σ.2.1 34 := (a4 34 (by decide)).trans (a2 34 (by decide))
        have z := q_putBy_L5 (σ14.2.1 37) (σ.1 19).toNatClampNeg _ _ _ _ _ _ k3 (by rw [ex1]; omega) (by rw [ex1]; omega) (fun j _ => rfl) (fun j q1 q2 => by rw [ex1] at q1; omega)
        rw [f37, f34] at z
        obtain ⟨⟨a5, a6⟩, p3, b9, b10, b11, b12⟩ := z (fun j q1 q2 => by rw [ex1] at q1; omega)
        obtain ⟨σ22, e22, h⟩ := fd_lts h
        unfold f_X6_choose_11_J95 at h
        obtain ⟨x23, e23, h⟩ := fd_lts h
        obtain ⟨t1, t2⟩ := fd_t1 e23 h4 (by omega)
        have s1 : σ19.1 = σ.1 := a5.trans (a3.trans a1)
        rw [s1] at e22
        have ad := Jvm.Kit.i32_add (x := σ.1 19) (y := (1 : Int32)) (by omega) (by omega)
        have g18 : σ22.1 18 = σ.1 18 := (fd_tN e22 (by decide)).trans (by rw [s1])
        have g19 : (σ22.1 19).toInt = (σ.1 19).toInt + 1 := by rw [fd_tI e22]; omega
        have n19 : (σ22.1 19).toNatClampNeg = (σ.1 19).toNatClampNeg + 1 := by
          show (σ22.1 19).toInt.toNat = (σ.1 19).toInt.toNat + 1; omega
        have rows : ∀ d, d ≠ 37 → d ≠ 38 → σ22.2.1 d = σ.2.1 d := fun d q1 q2 => fd_yIA e22 ((a6 d q1).trans ((a4 d q2).trans (a2 d q2)))
        have r38 : σ22.2.1 38 = σ14.2.1 38 := fd_yIA e22 (a6 38 (by decide))
        have r37 : σ22.2.1 37 = σ19.2.1 37 := fd_yIA e22 rfl
        have z := ih _ _ _ _ _ _ _ h (by omega)
        rw [g18, rows 32 (by decide) (by decide), rows 33 (by decide) (by decide), rows 34 (by decide) (by decide), rows 35 (by decide) (by decide), rows 36 (by decide) (by decide), r38, r37, n19, t2] at z
        obtain ⟨⟨w1, w2⟩, w3, w4⟩ := z (by omega) h60 (by omega) (by omega) hg0 hg1 hS (fd_ch_s hC hM v1 v2 rfl (by omega) (by omega) b1 b2 b3 b4 b5 b6 b7 b8 b9 b10 b11 b12)
        exact ⟨⟨w1, fun d q1 q2 => (w2 d q1 q2).trans (rows d q1 q2)⟩, w3, w4⟩
      by_cases d : σ.2.1 32 y4.toNatClampNeg = y1
      · have h := fd_itp d h
        exact yes (Or.inl d) h
      · have h := fd_itn d h
        obtain ⟨_, h⟩ := fd_gds h
        by_cases d2 : σ.2.1 32 y4.toNatClampNeg = y2
        · have h := fd_itp d2 h
          exact yes (Or.inr d2) h
        · have h := fd_itn d2 h
          unfold f_X6_choose_11_J95 at h
          obtain ⟨x23, e23, h⟩ := fd_lts h
          obtain ⟨t1, t2⟩ := fd_t1 e23 h4 (by omega)
          exact ih _ _ _ _ _ _ _ h (by omega) (by omega) h60 hc0 (by omega) hg0 hg1 hS (by rw [t2]; exact fd_ch_n hC (fun z => z.elim d d2))
