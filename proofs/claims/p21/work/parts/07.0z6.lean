theorem fd_ps_1 {E : Nat → Int} {H : Int → Int} {m : Nat} (hs : ∀ k, k + 1 < m → E k ≤ E (k + 1)) (hH : ∀ x, 0 ≤ H x ∧ H x ≤ 1) : ∀ k, k < m → 0 ≤ fd_ps E H k ∧ fd_ps E H k ≤ E k - E 0 := by
  intro k
  induction k with
  | zero => intro _; show 0 ≤ (0 : Int) ∧ (0 : Int) ≤ E 0 - E 0; omega
  | succ k ih =>
    intro h
    have a := ih (by omega)
    have b := hs k h
    have c := hH (E k)
    have d1 : 0 ≤ (E (k + 1) - E k) * H (E k) := Int.mul_nonneg (by omega) c.1
    have d2 : (E (k + 1) - E k) * H (E k) ≤ (E (k + 1) - E k) * 1 := Int.mul_le_mul_of_nonneg_left c.2 (by omega)
    show 0 ≤ fd_ps E H k + (E (k + 1) - E k) * H (E k) ∧ fd_ps E H k + (E (k + 1) - E k) * H (E k) ≤ E (k + 1) - E 0
    omega
theorem fd_in_01 (p : Prop) : 0 ≤ fd_in p ∧ fd_in p ≤ 1 := by
  by_cases c : p
  · rw [fd_in_t c]; omega
  · rw [fd_in_f c]; omega
/-- the edges of the first y shapes are in the row -/
def fd_gr (X0 X1 : Nat → Int32) (g : Int32) (e : Nat → Int32) (m y : Nat) : Prop := (∀ j, j + 1 < m → (e j).toInt ≤ (e (j + 1)).toInt) ∧ (∀ j, j < m → -100 ≤ (e j).toInt ∧ (e j).toInt ≤ 1100) ∧ ∀ i, i < y → (∃ j, j < m ∧ (e j).toInt = (X0 i).toInt - g.toInt) ∧ ∃ j, j < m ∧ (e j).toInt = (X1 i).toInt + g.toInt
theorem fd_gr_s {X0 X1 e e1 e2 : Nat → Int32} {g m m1 m2 v1 v2 : Int32} {y : Nat} (h : fd_gr X0 X1 g e m.toNatClampNeg y) (h0 : 0 ≤ m.toInt) (p1 : fd_put e e1 m m1 v1) (p2 : fd_put e1 e2 m1 m2 v2) (hv1 : v1.toInt = (X0 y).toInt - g.toInt) (hv2 : v2.toInt = (X1 y).toInt + g.toInt) (r1 : -100 ≤ v1.toInt ∧ v1.toInt ≤ 1100) (r2 : -100 ≤ v2.toInt ∧ v2.toInt ≤ 1100) : (m.toInt ≤ m2.toInt ∧ m2.toInt ≤ m.toInt + 2) ∧ fd_gr X0 X1 g e2 m2.toNatClampNeg (y + 1) := by
  obtain ⟨h1, h2, h3⟩ := h
  obtain ⟨a1, a2, a3, ⟨j1, b1, b2⟩, a5⟩ := fd_put_s p1 h0 h1 h2 r1
  obtain ⟨c1, c2, c3, ⟨j2, d1, d2⟩, c5⟩ := fd_put_s p2 (by omega) a2 a3 r2
  refine ⟨by omega, c2, c3, fun i hi => ?_⟩
  by_cases q : i = y
  · subst q
    obtain ⟨k, k1, k2⟩ := c5 j1 b1
    exact ⟨⟨k, k1, by rw [k2, b2]; exact hv1⟩, j2, d1, by rw [d2]; exact hv2⟩
  · obtain ⟨⟨j, x1, x2⟩, j', y1, y2⟩ := h3 i (by omega)
    obtain ⟨k, k1, k2⟩ := a5 j x1
    obtain ⟨l, l1, l2⟩ := c5 k k1
    obtain ⟨k', k1', k2'⟩ := a5 j' y1
    obtain ⟨l', l1', l2'⟩ := c5 k' k1'
    exact ⟨⟨l, l1, by rw [l2, k2]; exact x2⟩, l', l1', by rw [l2', k2']; exact y2⟩
/-- both a and b cover the place -/
def fd_B (S X0 Y0 X1 Y1 : Nat → Int32) (a b : Int32) (g : Int) (sz : Nat) (x y : Int) : Prop := fd_CV (fun i => S i = a) X0 Y0 X1 Y1 g sz x y ∧ fd_CV (fun i => S i = b) X0 Y0 X1 Y1 g sz x y
theorem q_area_L122 {N : Nat} {k110 : Int32 → Int32 → Int32 → Int32 → Int32 → Int32 → Int32 → fd_St → Option (Int32 × fd_St)} {A : Int} (hA : 0 ≤ A ∧ A ≤ 1440000) : ∀ (n : Nat) (y1 y2 y3 y4 y5 y6 y7 y8 : Int32) (σ : fd_St) (v : Int32) (s : fd_St), f_X11_areaOf_0_L122 N k110 n y1 y2 y3 y4 y5 y6 y7 y8 σ = some (v, s) → 0 ≤ y3.toInt → y3.toInt ≤ 100 → fd_Sh (σ.2.1 23) (σ.2.1 24) (σ.2.1 25) (σ.2.1 26) (σ.1 14).toNatClampNeg → 0 ≤ y7.toInt → y7.toInt ≤ 120 → (-100 ≤ (σ.2.1 27 y7.toNatClampNeg).toInt ∧ (σ.2.1 27 y7.toNatClampNeg).toInt ≤ (σ.2.1 27 (y7.toNatClampNeg + 1)).toInt ∧ (σ.2.1 27 (y7.toNatClampNeg + 1)).toInt ≤ 1100) → 0 ≤ y5.toInt → y5.toInt ≤ 121 → (∀ j, j + 1 < y5.toNatClampNeg → (σ.2.1 28 j).toInt ≤ (σ.2.1 28 (j + 1)).toInt) → (∀ j, j < y5.toNatClampNeg → -100 ≤ (σ.2.1 28 j).toInt ∧ (σ.2.1 28 j).toInt ≤ 1100) → 0 ≤ y8.toInt → (y8.toInt + 1 ≤ y5.toInt ∨ y8.toInt = 0) → y6.toInt = A + ((σ.2.1 27 (y7.toNatClampNeg + 1)).toInt - (σ.2.1 27 y7.toNatClampNeg).toInt) * fd_ps (fun j => (σ.2.1 28 j).toInt) (fun y => fd_in (fd_B (σ.2.1 22) (σ.2.1 23) (σ.2.1 24) (σ.2.1 25) (σ.2.1 26) y1 y2 y3.toInt (σ.1 14).toNatClampNeg (σ.2.1 27 y7.toNatClampNeg).toInt y)) y8.toNatClampNeg → ∃ y6', k110 y1 y2 y3 y4 y5 y6' (y7 + 1) σ = some (v, s) ∧ y6'.toInt = A + ((σ.2.1 27 (y7.toNatClampNeg + 1)).toInt - (σ.2.1 27 y7.toNatClampNeg).toInt) * fd_ps (fun j => (σ.2.1 28 j).toInt) (fun y => fd_in (fd_B (σ.2.1 22) (σ.2.1 23) (σ.2.1 24) (σ.2.1 25) (σ.2.1 26) y1 y2 y3.toInt (σ.1 14).toNatClampNeg (σ.2.1 27 y7.toNatClampNeg).toInt y)) (y5.toNatClampNeg - 1) := by
  have l0 : (0 : Int32).toInt = 0 := by decide
  have z0 : (0 : Int32).toNatClampNeg = 0 := by decide
  have l1 : (1 : Int32).toInt = 1 := by decide
  intro n
  induction n with
  | zero => intro y1 y2 y3 y4 y5 y6 y7 y8 σ v s h; cases h
  | succ n ih =>
    intro y1 y2 y3 y4 y5 y6 y7 y8 σ v s h hg0 hg1 hS h7 h7b hx h5 h5b hs hr h8 h8b h6
    have n5 : (y5.toNatClampNeg : Int) = y5.toInt := by show (y5.toInt.toNat : Int) = y5.toInt; omega
    have n8 : (y8.toNatClampNeg : Int) = y8.toInt := by show (y8.toInt.toNat : Int) = y8.toInt; omega
    obtain ⟨s1, s2⟩ := fd_t1 (x := y8 + 1) rfl h8 (by omega)
    obtain ⟨s3, s4⟩ := fd_t1 (x := y7 + 1) rfl h7 (by omega)
    unfold f_X11_areaOf_0_L122 at h
    by_cases c : y5 ≤ y8 + (1 : Int32)
    · have h := fd_itp c h
      have c1 := Int32.le_iff_toInt_le.mp c
      obtain ⟨x4, e4, h⟩ := fd_lts h
      have e : y8.toNatClampNeg = y5.toNatClampNeg - 1 := by omega
      rw [e] at h6
      rw [e4] at h
      exact ⟨y6, h, h6⟩
    · have h := fd_itn c h
      have c1 := Int32.lt_iff_toInt_lt.mp (Int32.not_le.mp c)
      obtain ⟨_, h⟩ := fd_gds h
      obtain ⟨_, h⟩ := fd_gds h
      obtain ⟨v8, σ9, k1, h⟩ := fd_bds h
      unfold f_X11_covers_0 at k1
      obtain ⟨es, a1⟩ := q_covers_L3 _ _ _ _ _ _ _ _ _ k1 (by omega) hg0 hg1 hS
      rw [es] at h
      have cva : v8 ≠ 0 ↔ fd_CV (fun i => σ.2.1 22 i = y1) (σ.2.1 23) (σ.2.1 24) (σ.2.1 25) (σ.2.1 26) y3.toInt (σ.1 14).toNatClampNeg (σ.2.1 27 y7.toNatClampNeg).toInt (σ.2.1 28 y8.toNatClampNeg).toInt := by
        rw [a1, z0]
        constructor
        · rintro ⟨i, _, q2, q3, q4, q5⟩; exact ⟨i, q2, q3, q4, q5⟩
        · rintro ⟨i, q2, q3, q4, q5⟩; exact ⟨i, by omega, q2, q3, q4, q5⟩
      have pstep : ∀ f : Int → Int, fd_ps (fun j => (σ.2.1 28 j).toInt) f (y8.toNatClampNeg + 1) = fd_ps (fun j => (σ.2.1 28 j).toInt) f y8.toNatClampNeg + ((σ.2.1 28 (y8.toNatClampNeg + 1)).toInt - (σ.2.1 28 y8.toNatClampNeg).toInt) * f (σ.2.1 28 y8.toNatClampNeg).toInt := fun f => rfl
      have go : ∀ y6' : Int32, y6'.toInt = A + ((σ.2.1 27 (y7.toNatClampNeg + 1)).toInt - (σ.2.1 27 y7.toNatClampNeg).toInt) * fd_ps (fun j => (σ.2.1 28 j).toInt) (fun y => fd_in (fd_B (σ.2.1 22) (σ.2.1 23) (σ.2.1 24) (σ.2.1 25) (σ.2.1 26) y1 y2 y3.toInt (σ.1 14).toNatClampNeg (σ.2.1 27 y7.toNatClampNeg).toInt y)) (y8.toNatClampNeg + 1) → f_X11_areaOf_0_J217 N k110 (f_X11_areaOf_0_L122 N k110 n) y1 y2 y3 y4 y5 y6' y7 y8 σ = some (v, s) → ∃ y6', k110 y1 y2 y3 y4 y5 y6' (y7 + 1) σ = some (v, s) ∧ y6'.toInt = A + ((σ.2.1 27 (y7.toNatClampNeg + 1)).toInt - (σ.2.1 27 y7.toNatClampNeg).toInt) * fd_ps (fun j => (σ.2.1 28 j).toInt) (fun y => fd_in (fd_B (σ.2.1 22) (σ.2.1 23) (σ.2.1 24) (σ.2.1 25) (σ.2.1 26) y1 y2 y3.toInt (σ.1 14).toNatClampNeg (σ.2.1 27 y7.toNatClampNeg).toInt y)) (y5.toNatClampNeg - 1) := by
        intro y6' hy h
        unfold f_X11_areaOf_0_J217 at h
        obtain ⟨x13, e13, h⟩ := fd_lts h
        obtain ⟨t1, t2⟩ := fd_t1 e13 h8 (by omega)
        exact ih _ _ _ _ _ _ _ _ _ _ _ h hg0 hg1 hS h7 h7b hx h5 h5b hs hr (by omega) (by omega) (by rw [t2]; exact hy)
      have zero : ¬ fd_B (σ.2.1 22) (σ.2.1 23) (σ.2.1 24) (σ.2.1 25) (σ.2.1 26) y1 y2 y3.toInt (σ.1 14).toNatClampNeg (σ.2.1 27 y7.toNatClampNeg).toInt (σ.2.1 28 y8.toNatClampNeg).toInt → y6.toInt = A + ((σ.2.1 27 (y7.toNatClampNeg + 1)).toInt - (σ.2.1 27 y7.toNatClampNeg).toInt) * fd_ps (fun j => (σ.2.1 28 j).toInt) (fun y => fd_in (fd_B (σ.2.1 22) (σ.2.1 23) (σ.2.1 24) (σ.2.1 25) (σ.2.1 26) y1 y2 y3.toInt (σ.1 14).toNatClampNeg (σ.2.1 27 y7.toNatClampNeg).toInt y)) (y8.toNatClampNeg + 1) := by
        intro q
        rw [pstep]
        show y6.toInt = A + _ * (_ + _ * fd_in _)
        rw [fd_in_f q, Int.mul_zero, Int.add_zero]; exact h6
      by_cases d : v8 = 0
      · exact go _ (zero (fun z => cva.mpr z.1 d)) (fd_itp d h)
      · have h := fd_itn d h
        obtain ⟨_, h⟩ := fd_gds h
        obtain ⟨_, h⟩ := fd_gds h
        obtain ⟨v17, σ18, k2, h⟩ := fd_bds h
        unfold f_X11_covers_0 at k2
        obtain ⟨es2, a2⟩ := q_covers_L3 _ _ _ _ _ _ _ _ _ k2 (by omega) hg0 hg1 hS
        rw [es2] at h
        have cvb : v17 ≠ 0 ↔ fd_CV (fun i => σ.2.1 22 i = y2) (σ.2.1 23) (σ.2.1 24) (σ.2.1 25) (σ.2.1 26) y3.toInt (σ.1 14).toNatClampNeg (σ.2.1 27 y7.toNatClampNeg).toInt (σ.2.1 28 y8.toNatClampNeg).toInt := by
          rw [a2, z0]
          constructor
          · rintro ⟨i, _, q2, q3, q4, q5⟩; exact ⟨i, q2, q3, q4, q5⟩
          · rintro ⟨i, q2, q3, q4, q5⟩; exact ⟨i, by omega, q2, q3, q4, q5⟩
        by_cases d2 : v17 = 0
        · exact go _ (zero (fun z => cvb.mpr z.2 d2)) (fd_itp d2 h)
        · have h := fd_itn d2 h
          have both : fd_B (σ.2.1 22) (σ.2.1 23) (σ.2.1 24) (σ.2.1 25) (σ.2.1 26) y1 y2 y3.toInt (σ.1 14).toNatClampNeg (σ.2.1 27 y7.toNatClampNeg).toInt (σ.2.1 28 y8.toNatClampNeg).toInt := ⟨cva.mp d, cvb.mp d2⟩
          obtain ⟨_, h⟩ := fd_gds h
          obtain ⟨_, h⟩ := fd_gds h
          obtain ⟨_, h⟩ := fd_gds h
          obtain ⟨_, h⟩ := fd_gds h
          rw [s2, s4] at h
          obtain ⟨x26, e26, h⟩ := fd_lts h
          have r0 := hr y8.toNatClampNeg (by omega)
          have r1 := hr (y8.toNatClampNeg + 1) (by omega)
          have so := hs y8.toNatClampNeg (by omega)
          have dx := Jvm.Kit.i32_sub (x := σ.2.1 27 (y7.toNatClampNeg + 1)) (y := σ.2.1 27 y7.toNatClampNeg) (by omega) (by omega)
          have dy := Jvm.Kit.i32_sub (x := σ.2.1 28 (y8.toNatClampNeg + 1)) (y := σ.2.1 28 y8.toNatClampNeg) (by omega) (by omega)
          obtain ⟨X, eX⟩ : ∃ X : Int, X = (σ.2.1 27 (y7.toNatClampNeg + 1)).toInt - (σ.2.1 27 y7.toNatClampNeg).toInt := ⟨_, rfl⟩
          obtain ⟨Y, eY⟩ : ∃ Y : Int, Y = (σ.2.1 28 (y8.toNatClampNeg + 1)).toInt - (σ.2.1 28 y8.toNatClampNeg).toInt := ⟨_, rfl⟩
          rw [← eX] at dx h6
          rw [← eY] at dy
          have pb := fd_ps_1 (E := fun j => (σ.2.1 28 j).toInt) (H := fun y => fd_in (fd_B (σ.2.1 22) (σ.2.1 23) (σ.2.1 24) (σ.2.1 25) (σ.2.1 26) y1 y2 y3.toInt (σ.1 14).toNatClampNeg (σ.2.1 27 y7.toNatClampNeg).toInt y)) hs (fun y => fd_in_01 _) y8.toNatClampNeg (by omega)
          obtain ⟨Pq, eP⟩ : ∃ Pq : Int, Pq = fd_ps (fun j => (σ.2.1 28 j).toInt) (fun y => fd_in (fd_B (σ.2.1 22) (σ.2.1 23) (σ.2.1 24) (σ.2.1 25) (σ.2.1 26) y1 y2 y3.toInt (σ.1 14).toNatClampNeg (σ.2.1 27 y7.toNatClampNeg).toInt y)) y8.toNatClampNeg := ⟨_, rfl⟩
          rw [← eP] at pb h6
          have r00 := hr 0 (by omega)
          have pb2 : Pq ≤ (σ.2.1 28 y8.toNatClampNeg).toInt - (σ.2.1 28 0).toInt := pb.2
          have xy0 : 0 ≤ X * Y := Int.mul_nonneg (by omega) (by omega)
          have xy1 : X * Y ≤ X * 1200 := Int.mul_le_mul_of_nonneg_left (by omega) (by omega)
          have xp0 : 0 ≤ X * Pq := Int.mul_nonneg (by omega) pb.1
          have xp1 : X * Pq ≤ X * 1200 := Int.mul_le_mul_of_nonneg_left (by omega) (by omega)
          have mm := Jvm.Kit.i32_mul (x := (σ.2.1 27 (y7.toNatClampNeg + 1)) - (σ.2.1 27 y7.toNatClampNeg)) (y := (σ.2.1 28 (y8.toNatClampNeg + 1)) - (σ.2.1 28 y8.toNatClampNeg)) (by rw [dx, dy]; omega) (by rw [dx, dy]; omega)
          rw [dx, dy] at mm
          have t26 := fd_la e26 (by rw [mm]; omega) (by rw [mm]; omega)
          rw [mm] at t26
          refine go _ ?_ h
          rw [pstep]
          show x26.toInt = A + _ * (_ + _ * fd_in _)
          rw [fd_in_t both, Int.mul_one, ← eX, ← eY, ← eP, Int.mul_add, t26, h6]
          omega
theorem q_area_L110 {N : Nat} {H : Int → Int} : ∀ (n : Nat) (y1 y2 y3 y4 y5 y6 y7 : Int32) (σ : fd_St) (v : Int32) (s : fd_St), f_X11_areaOf_0_L110 N n y1 y2 y3 y4 y5 y6 y7 σ = some (v, s) → 0 ≤ y3.toInt → y3.toInt ≤ 100 → fd_Sh (σ.2.1 23) (σ.2.1 24) (σ.2.1 25) (σ.2.1 26) (σ.1 14).toNatClampNeg → 0 ≤ y4.toInt → y4.toInt ≤ 121 → (∀ j, j + 1 < y4.toNatClampNeg → (σ.2.1 27 j).toInt ≤ (σ.2.1 27 (j + 1)).toInt) → (∀ j, j < y4.toNatClampNeg → -100 ≤ (σ.2.1 27 j).toInt ∧ (σ.2.1 27 j).toInt ≤ 1100) → 0 ≤ y5.toInt → y5.toInt ≤ 121 → (∀ j, j + 1 < y5.toNatClampNeg → (σ.2.1 28 j).toInt ≤ (σ.2.1 28 (j + 1)).toInt) → (∀ j, j < y5.toNatClampNeg → -100 ≤ (σ.2.1 28 j).toInt ∧ (σ.2.1 28 j).toInt ≤ 1100) → (∀ x, H x = fd_ps (fun j => (σ.2.1 28 j).toInt) (fun y => fd_in (fd_B (σ.2.1 22) (σ.2.1 23) (σ.2.1 24) (σ.2.1 25) (σ.2.1 26) y1 y2 y3.toInt (σ.1 14).toNatClampNeg x y)) (y5.toNatClampNeg - 1)) → (∀ x, 0 ≤ H x ∧ H x ≤ 1200) → 0 ≤ y7.toInt → (y7.toInt + 1 ≤ y4.toInt ∨ y7.toInt = 0) → y6.toInt = fd_ps (fun j => (σ.2.1 27 j).toInt) H y7.toNatClampNeg → v.toInt = fd_ps (fun j => (σ.2.1 27 j).toInt) H (y4.toNatClampNeg - 1) := by
  have l0 : (0 : Int32).toInt = 0 := by decide
  have z0 : (0 : Int32).toNatClampNeg = 0 := by decide
  intro n
  induction n with
  | zero => intro y1 y2 y3 y4 y5 y6 y7 σ v s h; cases h
  | succ n ih =>
    intro y1 y2 y3 y4 y5 y6 y7 σ v s h hg0 hg1 hS h4 h4b hs hr h5 h5b hs2 hr2 hH hHb h7 h7b h6
    have n4 : (y4.toNatClampNeg : Int) = y4.toInt := by show (y4.toInt.toNat : Int) = y4.toInt; omega
    have n7 : (y7.toNatClampNeg : Int) = y7.toInt := by show (y7.toInt.toNat : Int) = y7.toInt; omega
    obtain ⟨s3, s4⟩ := fd_t1 (x := y7 + 1) rfl h7 (by omega)
    unfold f_X11_areaOf_0_L110 at h
    by_cases c : y4 ≤ y7 + (1 : Int32)
    · have h := fd_itp c h
      have c1 := Int32.le_iff_toInt_le.mp c
      have e : y7.toNatClampNeg = y4.toNatClampNeg - 1 := by omega
      rw [e] at h6
      cases h
      exact h6
    · have h := fd_itn c h
      have c1 := Int32.lt_iff_toInt_lt.mp (Int32.not_le.mp c)
      have pb := fd_ps_b (E := fun j => (σ.2.1 27 j).toInt) (H := H) hs hHb y7.toNatClampNeg (by omega)
      have pb2 : fd_ps (fun j => (σ.2.1 27 j).toInt) H y7.toNatClampNeg ≤ 1200 * ((σ.2.1 27 y7.toNatClampNeg).toInt - (σ.2.1 27 0).toInt) := pb.2
      have r0 := hr y7.toNatClampNeg (by omega)
      have r1 := hr (y7.toNatClampNeg + 1) (by omega)
      have r00 := hr 0 (by omega)
      have so := hs y7.toNatClampNeg (by omega)
      obtain ⟨y6', k1, k2⟩ := q_area_L122 (A := y6.toInt) (by rw [h6]; exact ⟨pb.1, by omega⟩) _ _ _ _ _ _ _ _ _ _ _ _ h hg0 hg1 hS h7 (by omega) ⟨r0.1, so, r1.2⟩ h5 h5b hs2 hr2 (by omega) (Or.inr (by omega)) (by rw [z0]; show y6.toInt = y6.toInt + _ * 0; omega)
      refine ih _ _ _ _ _ _ _ _ _ _ k1 hg0 hg1 hS h4 h4b hs hr h5 h5b hs2 hr2 hH hHb (by omega) (by omega) ?_
      rw [s4, k2, ← hH, h6]
      rfl
theorem q_area_L9 {N : Nat} : ∀ (n : Nat) (y1 y2 y3 y4 y5 y6 : Int32) (σ : fd_St) (v : Int32) (s : fd_St), f_X11_areaOf_0_L9 N n y1 y2 y3 y4 y5 y6 σ = some (v, s) → 0 ≤ y3.toInt → y3.toInt ≤ 100 → fd_Sh (σ.2.1 23) (σ.2.1 24) (σ.2.1 25) (σ.2.1 26) (σ.1 14).toNatClampNeg → (σ.1 14).toInt ≤ 60 → 0 ≤ y6.toInt → y6.toInt ≤ (σ.1 14).toInt → 0 ≤ y4.toInt → y4.toInt ≤ 2 * y6.toInt → 0 ≤ y5.toInt → y5.toInt ≤ 2 * y6.toInt → fd_gr (σ.2.1 23) (σ.2.1 25) y3 (σ.2.1 27) y4.toNatClampNeg y6.toNatClampNeg → fd_gr (σ.2.1 24) (σ.2.1 26) y3 (σ.2.1 28) y5.toNatClampNeg y6.toNatClampNeg → v.toInt = fd_rs (fun x => fd_rs (fun y => fd_in (fd_B (σ.2.1 22) (σ.2.1 23) (σ.2.1 24) (σ.2.1 25) (σ.2.1 26) y1 y2 y3.toInt (σ.1 14).toNatClampNeg x y)) (-100) 1100) (-100) 1100 := by
  have l0 : (0 : Int32).toInt = 0 := by decide
  have z0 : (0 : Int32).toNatClampNeg = 0 := by decide
  intro n
  induction n with
  | zero => intro y1 y2 y3 y4 y5 y6 σ v s h; cases h
  | succ n ih =>
    intro y1 y2 y3 y4 y5 y6 σ v s h hg0 hg1 hS h60 h6 h6b h4 h4b h5 h5b hX hY
    unfold f_X11_areaOf_0_L9 at h
    by_cases c : σ.1 14 ≤ y6
    · have h := fd_itp c h
      have c1 := Int32.le_iff_toInt_le.mp c
      have e : y6.toNatClampNeg = (σ.1 14).toNatClampNeg := fd_te (by omega)
      rw [e] at hX hY
      obtain ⟨x1, x2, x3⟩ := hX
      obtain ⟨w1, w2, w3⟩ := hY
      have hDy : ∀ i, i < (σ.1 14).toNatClampNeg → (∃ j, j < y5.toNatClampNeg ∧ (fun j => (σ.2.1 28 j).toInt) j = (fun i => (σ.2.1 24 i).toInt - y3.toInt) i) ∧ ∃ j, j < y5.toNatClampNeg ∧ (fun j => (σ.2.1 28 j).toInt) j = (fun i => (σ.2.1 26 i).toInt + y3.toInt) i := w3
      have hDx : ∀ i, i < (σ.1 14).toNatClampNeg → (∃ j, j < y4.toNatClampNeg ∧ (fun j => (σ.2.1 27 j).toInt) j = (fun i => (σ.2.1 23 i).toInt - y3.toInt) i) ∧ ∃ j, j < y4.toNatClampNeg ∧ (fun j => (σ.2.1 27 j).toInt) j = (fun i => (σ.2.1 25 i).toInt + y3.toInt) i := x3
      have hcol : ∀ x, fd_ps (fun j => (σ.2.1 28 j).toInt) (fun y => fd_in (fd_B (σ.2.1 22) (σ.2.1 23) (σ.2.1 24) (σ.2.1 25) (σ.2.1 26) y1 y2 y3.toInt (σ.1 14).toNatClampNeg x y)) (y5.toNatClampNeg - 1) = fd_rs (fun y => fd_in (fd_B (σ.2.1 22) (σ.2.1 23) (σ.2.1 24) (σ.2.1 25) (σ.2.1 26) y1 y2 y3.toInt (σ.1 14).toNatClampNeg x y)) (-100) 1100 := by
        intro x
        refine fd_strips (by omega) w1 (fun k hk y q1 q2 => ?_) w2 (fun y hy => ?_)
        · have cc := fd_cons w1 hDy k hk y q1 q2
          refine fd_in_iff ?_
          constructor
          · rintro ⟨⟨i, hi, m, v1, v2⟩, j, hj, m2, v3, v4⟩
            exact ⟨⟨i, hi, m, v1, (cc i hi).mp v2⟩, j, hj, m2, v3, (cc j hj).mp v4⟩
          · rintro ⟨⟨i, hi, m, v1, v2⟩, j, hj, m2, v3, v4⟩
            exact ⟨⟨i, hi, m, v1, (cc i hi).mpr v2⟩, j, hj, m2, v3, (cc j hj).mpr v4⟩
        · have oo := fd_outs hDy y hy
          refine fd_in_f ?_
          rintro ⟨⟨i, hi, m, v1, v2⟩, _⟩
          exact oo i hi v2
      have hb : ∀ x, 0 ≤ fd_rs (fun y => fd_in (fd_B (σ.2.1 22) (σ.2.1 23) (σ.2.1 24) (σ.2.1 25) (σ.2.1 26) y1 y2 y3.toInt (σ.1 14).toNatClampNeg x y)) (-100) 1100 ∧ fd_rs (fun y => fd_in (fd_B (σ.2.1 22) (σ.2.1 23) (σ.2.1 24) (σ.2.1 25) (σ.2.1 26) y1 y2 y3.toInt (σ.1 14).toNatClampNeg x y)) (-100) 1100 ≤ 1200 := by
        intro x
        have := fd_rs_in (p := fun y => fd_B (σ.2.1 22) (σ.2.1 23) (σ.2.1 24) (σ.2.1 25) (σ.2.1 26) y1 y2 y3.toInt (σ.1 14).toNatClampNeg x y) (a := -100) (b := 1100) (by omega)
        omega
      have ev := q_area_L110 (H := fun x => fd_rs (fun y => fd_in (fd_B (σ.2.1 22) (σ.2.1 23) (σ.2.1 24) (σ.2.1 25) (σ.2.1 26) y1 y2 y3.toInt (σ.1 14).toNatClampNeg x y)) (-100) 1100) _ _ _ _ _ _ _ _ _ _ _ h hg0 hg1 hS h4 (by omega) x1 x2 h5 (by omega) w1 w2 (fun x => (hcol x).symm) hb (by omega) (Or.inr (by omega)) (by rw [l0, z0]; rfl)
      rw [ev]
      refine fd_strips (by omega) x1 (fun k hk x q1 q2 => ?_) x2 (fun x hx => ?_)
      · have cc := fd_cons x1 hDx k hk x q1 q2
        refine fd_rs_congr (fun y _ _ => fd_in_iff ?_)
        constructor
        · rintro ⟨⟨i, hi, m, v1, v2⟩, j, hj, m2, v3, v4⟩
          exact ⟨⟨i, hi, m, (cc i hi).mp v1, v2⟩, j, hj, m2, (cc j hj).mp v3, v4⟩
        · rintro ⟨⟨i, hi, m, v1, v2⟩, j, hj, m2, v3, v4⟩
          exact ⟨⟨i, hi, m, (cc i hi).mpr v1, v2⟩, j, hj, m2, (cc j hj).mpr v3, v4⟩
      · have oo := fd_outs hDx x hx
        show fd_rs _ (-100) 1100 = 0
        rw [fd_rs_const (c := 0) (by omega) (fun y _ _ => fd_in_f ?_), Int.mul_zero]
        rintro ⟨⟨i, hi, m, v1, v2⟩, _⟩
        exact oo i hi v1
    · have h := fd_itn c h
      have c1 := Int32.lt_iff_toInt_lt.mp (Int32.not_le.mp c)
      have c2 := fd_tl' h6 c1
      obtain ⟨⟨sx0, sx1, sx2⟩, sy0, sy1, sy2⟩ := hS _ c2
      have d0 := Jvm.Kit.i32_sub (x := σ.2.1 23 y6.toNatClampNeg) (y := y3) (by omega) (by omega)
      have d1 := Jvm.Kit.i32_add (x := σ.2.1 25 y6.toNatClampNeg) (y := y3) (by omega) (by omega)
      have d2 := Jvm.Kit.i32_sub (x := σ.2.1 24 y6.toNatClampNeg) (y := y3) (by omega) (by omega)
      have d3 := Jvm.Kit.i32_add (x := σ.2.1 26 y6.toNatClampNeg) (y := y3) (by omega) (by omega)
      obtain ⟨_, h⟩ := fd_gds h
      obtain ⟨v29, σ30, k1, h⟩ := fd_bds h
      unfold f_X11_insert_27 at k1
      obtain ⟨⟨a1, a2⟩, p1⟩ := q_insert_27 _ _ _ _ _ _ _ k1 (by omega) (by omega) (by omega) hX.1 (fun j q => by rw [z0] at q; exact absurd q (Nat.not_lt_zero j))
      have g1 := fd_put_s p1 h4 hX.1 hX.2.1 (by omega)
      obtain ⟨_, h⟩ := fd_gds h
      obtain ⟨v35, σ36, k2, h⟩ := fd_bds h
      unfold f_X11_insert_27 at k2
      rw [a2 25 (by decide)] at k2
      obtain ⟨⟨a3, a4⟩, p2⟩ := q_insert_27 _ _ _ _ _ _ _ k2 (by omega) (by omega) (by omega) g1.2.1 (fun j q => by rw [z0] at q; exact absurd q (Nat.not_lt_zero j))
      obtain ⟨gx1, gx2⟩ := fd_gr_s hX h4 p1 p2 d0 d1 (by omega) (by omega)
      have f28 : σ36.2.1 28 = σ.2.1 28 := (a4 28 (by decide)).trans (a2 28 (by decide))
      obtain ⟨_, h⟩ := fd_gds h
      obtain ⟨v41, σ42, k3, h⟩ := fd_bds h
      unfold f_X11_insert_28 at k3
      rw [a4 24 (by decide), a2 24 (by decide)] at k3
      obtain ⟨⟨a5, a6⟩, p3⟩ := q_insert_28 _ _ _ _ _ _ _ k3 (by omega) (by omega) (by omega) (by rw [f28]; exact hY.1) (fun j q => by rw [z0] at q; exact absurd q (Nat.not_lt_zero j))
      rw [f28] at p3
      have g3 := fd_put_s p3 h5 hY.1 hY.2.1 (by omega)
      obtain ⟨_, h⟩ := fd_gds h
      obtain ⟨v47, σ48, k4, h⟩ := fd_bds h
      unfold f_X11_insert_28 at k4
      rw [a6 26 (by decide), a4 26 (by decide), a2 26 (by decide)] at k4
      obtain ⟨⟨a7, a8⟩, p4⟩ := q_insert_28 _ _ _ _ _ _ _ k4 (by omega) (by omega) (by omega) g3.2.1 (fun j q => by rw [z0] at q; exact absurd q (Nat.not_lt_zero j))
      obtain ⟨gy1, gy2⟩ := fd_gr_s hY h5 p3 p4 d2 d3 (by omega) (by omega)
      obtain ⟨x51, e51, h⟩ := fd_lts h
      obtain ⟨t1, t2⟩ := fd_t1 e51 h6 (by omega)
      have s1 : σ48.1 = σ.1 := a7.trans (a5.trans (a3.trans a1))
      have rows : ∀ d, d ≠ 27 → d ≠ 28 → σ48.2.1 d = σ.2.1 d := fun d q1 q2 => (a8 d q2).trans ((a6 d q2).trans ((a4 d q1).trans (a2 d q1)))
      have r27 : σ48.2.1 27 = σ36.2.1 27 := (a8 27 (by decide)).trans (a6 27 (by decide))
      have z := ih _ _ _ _ _ _ _ _ _ h hg0 hg1
      rw [s1, rows 22 (by decide) (by decide), rows 23 (by decide) (by decide), rows 24 (by decide) (by decide), rows 25 (by decide) (by decide), rows 26 (by decide) (by decide), r27, t2] at z
      exact z hS h60 (by omega) (by omega) (by omega) (by omega) (by omega) (by omega) gx2 gy2
theorem q_X11_areaOf_0 {N : Nat} {p1 p2 p3 : Int32} {σ : fd_St} {v : Int32} {s : fd_St} (h : f_X11_areaOf_0 N p1 p2 p3 σ = some (v, s)) (hz : 0 ≤ (σ.1 14).toInt) (h60 : (σ.1 14).toInt ≤ 60) (hg0 : 0 ≤ p3.toInt) (hg1 : p3.toInt ≤ 100) (hS : fd_Sh (σ.2.1 23) (σ.2.1 24) (σ.2.1 25) (σ.2.1 26) (σ.1 14).toNatClampNeg) : v.toInt = fd_rs (fun x => fd_rs (fun y => fd_in (fd_B (σ.2.1 22) (σ.2.1 23) (σ.2.1 24) (σ.2.1 25) (σ.2.1 26) p1 p2 p3.toInt (σ.1 14).toNatClampNeg x y)) (-100) 1100) (-100) 1100 := by
  have l0 : (0 : Int32).toInt = 0 := by decide
  have z0 : (0 : Int32).toNatClampNeg = 0 := by decide
  unfold f_X11_areaOf_0 at h
  exact q_area_L9 _ _ _ _ _ _ _ _ _ _ h hg0 hg1 hS h60 (by omega) (by omega) (by omega) (by omega) (by omega) (by omega) ⟨fun j q => by omega, fun j q => by omega, fun i q => by omega⟩ ⟨fun j q => by omega, fun j q => by omega, fun i q => by omega⟩
/-- what both cover: each alone, less what either covers -/
theorem fd_both (S X0 Y0 X1 Y1 : Nat → Int32) (a b : Int32) (g : Int) (sz : Nat) : fd_ar (fun i => S i = a ∨ S i = a) X0 Y0 X1 Y1 g sz + fd_ar (fun i => S i = b ∨ S i = b) X0 Y0 X1 Y1 g sz - fd_ar (fun i => S i = a ∨ S i = b) X0 Y0 X1 Y1 g sz = fd_rs (fun x => fd_rs (fun y => fd_in (fd_B S X0 Y0 X1 Y1 a b g sz x y)) (-100) 1100) (-100) 1100 := by
  unfold fd_ar fd_hg
  have e1 : ∀ f h : Int → Int, fd_rs f (-100) 1100 + fd_rs h (-100) 1100 = fd_rs (fun x => f x + h x) (-100) 1100 := fun f h => (fd_sm_add _).symm
  have e2 : ∀ f h : Int → Int, fd_rs f (-100) 1100 - fd_rs h (-100) 1100 = fd_rs (fun x => f x - h x) (-100) 1100 := fun f h => (fd_sm_sub _).symm
  rw [e1, e2]
  refine fd_rs_congr (fun x _ _ => ?_)
  show fd_rs _ (-100) 1100 + fd_rs _ (-100) 1100 - fd_rs _ (-100) 1100 = _
  rw [e1, e2]
  refine fd_rs_congr (fun y _ _ => ?_)
  show fd_in _ + fd_in _ - fd_in _ = fd_in _
  have ia : fd_CV (fun i => S i = a ∨ S i = a) X0 Y0 X1 Y1 g sz x y ↔ fd_CV (fun i => S i = a) X0 Y0 X1 Y1 g sz x y := by
    constructor
    · rintro ⟨i, hi, m, q⟩; exact ⟨i, hi, m.elim id id, q⟩
    · rintro ⟨i, hi, m, q⟩; exact ⟨i, hi, Or.inl m, q⟩
  have ib : fd_CV (fun i => S i = b ∨ S i = b) X0 Y0 X1 Y1 g sz x y ↔ fd_CV (fun i => S i = b) X0 Y0 X1 Y1 g sz x y := by
    constructor
    · rintro ⟨i, hi, m, q⟩; exact ⟨i, hi, m.elim id id, q⟩
    · rintro ⟨i, hi, m, q⟩; exact ⟨i, hi, Or.inl m, q⟩
  have ic : fd_CV (fun i => S i = a ∨ S i = b) X0 Y0 X1 Y1 g sz x y ↔ (fd_CV (fun i => S i = a) X0 Y0 X1 Y1 g sz x y ∨ fd_CV (fun i => S i = b) X0 Y0 X1 Y1 g sz x y) := by
    constructor
    · rintro ⟨i, hi, m | m, q⟩
      · exact Or.inl ⟨i, hi, m, q⟩
      · exact Or.inr ⟨i, hi, m, q⟩
    · rintro (⟨i, hi, m, q⟩ | ⟨i, hi, m, q⟩)
      · exact ⟨i, hi, Or.inl m, q⟩
      · exact ⟨i, hi, Or.inr m, q⟩
  rw [fd_in_iff ia, fd_in_iff ib, fd_in_iff ic]
  unfold fd_B
  by_cases p : fd_CV (fun i => S i = a) X0 Y0 X1 Y1 g sz x y
  · by_cases q : fd_CV (fun i => S i = b) X0 Y0 X1 Y1 g sz x y
    · rw [fd_in_t p, fd_in_t q, fd_in_t (Or.inl p), fd_in_t ⟨p, q⟩]; omega
    · rw [fd_in_t p, fd_in_f q, fd_in_t (Or.inl p), fd_in_f (fun z => q z.2)]; omega
  · by_cases q : fd_CV (fun i => S i = b) X0 Y0 X1 Y1 g sz x y
    · rw [fd_in_f p, fd_in_t q, fd_in_t (Or.inr q), fd_in_f (fun z => p z.1)]; omega
    · rw [fd_in_f p, fd_in_f q, fd_in_f (fun z => z.elim p q), fd_in_f (fun z => p z.1)]; omega
