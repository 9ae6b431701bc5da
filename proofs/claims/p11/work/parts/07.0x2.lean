theorem q_counted' {N : Nat} {σ : fd_St} {v : Int64} {s : fd_St} (h : f_X2_counted_1 N σ = some (v, s)) : v = fd_ct (σ.1 3) ∧ s = σ := by
  refine ⟨q_X2_counted_1 h, ?_⟩
  unfold f_X2_counted_1 at h
  by_cases c : σ.1 3 = 0
  · have h := fd_itp c h
    cases h; rfl
  · have h := fd_itn c h
    cases h; rfl
theorem q_changed {N : Nat} {p1 : Int32} {σ : fd_St} {v : Int64} {s : fd_St} (h : f_X2_changed_1 N p1 σ = some (v, s)) : s = σ ∧ v = ((σ.2.2 15 p1.toNatClampNeg) ^^^ (σ.2.2 16 p1.toNatClampNeg)) &&& fd_ct (σ.1 3) := by
  unfold f_X2_changed_1 at h
  obtain ⟨_, h⟩ := fd_gds h
  obtain ⟨_, h⟩ := fd_gds h
  obtain ⟨v4, σ5, k, h⟩ := fd_bds h
  obtain ⟨e1, e2⟩ := q_counted' k
  rw [e1, e2] at h
  cases h; exact ⟨rfl, rfl⟩
theorem q_add8 {N : Nat} {p1 p3 : Int64} {σ : fd_St} {v : Unit} {s : fd_St} (h : f_X9_add_8 N p1 p3 σ = some (v, s)) : s.2 = σ.2 ∧ (∀ k, k ≠ 12 → k ≠ 13 → k ≠ 14 → s.1 k = σ.1 k) ∧ ∃ b : Int32, s.1 12 = σ.1 12 + b ∧ (0 ≤ b.toInt ∧ b.toInt ≤ 127) ∧ (b.toInt = 0 ↔ p1 &&& p3 = 0) := by
  unfold f_X9_add_8 at h
  obtain ⟨v2, σ3, k1, h⟩ := fd_bds h
  obtain ⟨e1, e2, e3⟩ := q_bitCount k1
  rw [e1] at h
  obtain ⟨σ6, e6, h⟩ := fd_lts h
  obtain ⟨v8, σ9, k2, h⟩ := fd_bds h
  obtain ⟨g1, _⟩ := q_bitCount k2
  rw [g1] at h
  obtain ⟨σ12, e12, h⟩ := fd_lts h
  obtain ⟨v14, σ15, k3, h⟩ := fd_bds h
  obtain ⟨g2, _⟩ := q_bitCount k3
  rw [g2] at h
  obtain ⟨σ18, e18, h⟩ := fd_lts h
  cases h
  refine ⟨by subst e18; subst e12; subst e6; rfl, fun k q1 q2 q3 => ?_, v2, ?_, e2, e3⟩
  · rw [fd_tN e18 q3, fd_tN e12 q2, fd_tN e6 q1]
  · rw [fd_tN e18 (by decide), fd_tN e12 (by decide), fd_tI e6]
/-- what is explained at the output j -/
def fd_T (r w : Nat → Int64) (O : Nat → Int32) (fl : Nat → Int64) (m : Int64) (j : Nat) : Int64 := ((r (O j).toNatClampNeg ^^^ w (O j).toNatClampNeg) &&& m) &&& (fl j &&& m)
theorem q_cmp_L17 {N : Nat} : ∀ (n : Nat) (y1 : Int64) (y3 : Int32) (σ : fd_St) (v : Unit) (s : fd_St), f_X3_compareWithFails_4_L17 N n y1 y3 σ = some (v, s) → y1 = fd_ct (σ.1 3) → 0 ≤ y3.toInt → (σ.1 4).toInt ≤ 32 → 0 ≤ (σ.1 12).toInt → (σ.1 12).toInt ≤ 127 * y3.toInt → y3.toInt ≤ 32 → 0 ≤ (s.1 12).toInt ∧ ((s.1 12).toInt = 0 ↔ (σ.1 12).toInt = 0 ∧ ∀ j, y3.toNatClampNeg ≤ j → j < (σ.1 4).toNatClampNeg → fd_T (σ.2.2 15) (σ.2.2 16) (σ.2.1 18) (σ.2.2 19) (fd_ct (σ.1 3)) j = 0) := by
  have l1 : (1 : Int32).toInt = 1 := by decide
  intro n
  induction n with
  | zero => intro y1 y3 σ v s h; cases h
  | succ n ih =>
    intro y1 y3 σ v s h hy h3 h4 h12 hb h32
    unfold f_X3_compareWithFails_4_L17 at h
    obtain ⟨v12, σ13, k0, h⟩ := fd_bds h
    unfold f_X5_size_2 at k0
    obtain ⟨a0, a1⟩ := Prod.mk.inj (Option.some.inj k0)
    rw [← a0, ← a1] at h
    by_cases c : σ.1 4 ≤ y3
    · have h := fd_itp c h
      have c1 := fd_tn (Int32.le_iff_toInt_le.mp c)
      cases h
      exact ⟨h12, fun q => ⟨q, fun j q1 q2 => by omega⟩, fun q => q.1⟩
    · have h := fd_itn c h
      have c1 := Int32.lt_iff_toInt_lt.mp (Int32.not_le.mp c)
      have c2 := fd_tl' h3 c1
      obtain ⟨v18, σ19, k1, h⟩ := fd_bds h
      unfold f_X5_net_2 at k1
      obtain ⟨_, k1⟩ := fd_gds k1
      obtain ⟨b0, b1⟩ := Prod.mk.inj (Option.some.inj k1)
      rw [← b0, ← b1] at h
      obtain ⟨v23, σ24, k2, h⟩ := fd_bds h
      obtain ⟨d1, d2⟩ := q_changed k2
      rw [d1, d2] at h
      obtain ⟨v28, σ29, k3, h⟩ := fd_bds h
      unfold f_X5_fails_2 at k3
      obtain ⟨_, k3⟩ := fd_gds k3
      obtain ⟨f0, f1⟩ := Prod.mk.inj (Option.some.inj k3)
      rw [← f0, ← f1] at h
      obtain ⟨u, σ34, k4, h⟩ := fd_bds h
      obtain ⟨g1, g2, b, g3, g4, g5⟩ := q_add8 k4
      obtain ⟨x37, e37, h⟩ := fd_lts h
      obtain ⟨t1, t2⟩ := fd_t1 e37 h3 (by omega)
      have ad := fd_la g3 (by omega) (by omega)
      have z := ih _ _ _ _ _ h
      rw [g1, g2 3 (by decide) (by decide) (by decide), g2 4 (by decide) (by decide) (by decide), t2] at z
      obtain ⟨z1, z2⟩ := z hy (by omega) h4 (by omega) (by omega) (by omega)
      refine ⟨z1, z2.trans ?_⟩
      rw [hy] at g5
      have g5 : b.toInt = 0 ↔ fd_T (σ.2.2 15) (σ.2.2 16) (σ.2.1 18) (σ.2.2 19) (fd_ct (σ.1 3)) y3.toNatClampNeg = 0 := g5
      constructor
      · rintro ⟨q1, q2⟩
        have hb0 : b.toInt = 0 := by omega
        refine ⟨by omega, fun j w1 w2 => ?_⟩
        by_cases e : j = y3.toNatClampNeg
        · rw [e]; exact g5.mp hb0
        · exact q2 j (by omega) w2
      · rintro ⟨q1, q2⟩
        have hb0 := g5.mpr (q2 _ (Nat.le_refl _) c2)
        exact ⟨by omega, fun j w1 w2 => q2 j (by omega) w2⟩
theorem q_X3_compareWithFails_4 {N : Nat} {σ : fd_St} {v : Unit} {s : fd_St} (h : f_X3_compareWithFails_4 N σ = some (v, s)) : (σ.1 4).toInt ≤ 32 → 0 ≤ (s.1 12).toInt ∧ ((s.1 12).toInt = 0 ↔ ∀ j, j < (σ.1 4).toNatClampNeg → fd_T (σ.2.2 15) (σ.2.2 16) (σ.2.1 18) (σ.2.2 19) (fd_ct (σ.1 3)) j = 0) := by
  intro h4
  have l0 : (0 : Int32).toInt = 0 := by decide
  have z0 : (0 : Int32).toNatClampNeg = 0 := by decide
  unfold f_X3_compareWithFails_4 at h
  obtain ⟨v2, σ3, k1, h⟩ := fd_bds h
  obtain ⟨e1, e2⟩ := q_counted' k1
  rw [e1, e2] at h
  obtain ⟨u, σ8, k2, h⟩ := fd_bds h
  unfold f_X9_reset_8 at k2
  obtain ⟨τ1, f1, k2⟩ := fd_lts k2
  obtain ⟨τ2, f2, k2⟩ := fd_lts k2
  obtain ⟨τ3, f3, k2⟩ := fd_lts k2
  obtain ⟨_, e8⟩ := Prod.mk.inj (Option.some.inj k2)
  subst e8
  have a12 : τ3.1 12 = 0 := (fd_tN f3 (by decide)).trans ((fd_tN f2 (by decide)).trans (fd_tI f1))
  have a3 : τ3.1 3 = σ.1 3 := (fd_tN f3 (by decide)).trans ((fd_tN f2 (by decide)).trans (fd_tN f1 (by decide)))
  have a4 : τ3.1 4 = σ.1 4 := (fd_tN f3 (by decide)).trans ((fd_tN f2 (by decide)).trans (fd_tN f1 (by decide)))
  have a2 : τ3.2 = σ.2 := by subst f3; subst f2; subst f1; rfl
  have z := q_cmp_L17 _ _ _ _ _ _ h
  rw [a12, a3, a4, a2, z0, l0] at z
  obtain ⟨z1, z2⟩ := z rfl (by omega) h4 (by omega) (by omega) (by omega)
  exact ⟨z1, fun q j hj => (z2.mp q).2 j (by omega) hj, fun q => z2.mpr ⟨rfl, fun j _ hj => q j hj⟩⟩
theorem q_bits_L4 {N : Nat} : ∀ (n : Nat) (y0 : Int64) (y2 y3 : Int32) (σ : fd_St) (v : Int32) (s : fd_St), f_X11_bits_L4 N n y0 y2 y3 σ = some (v, s) → 0 ≤ y3.toInt → y3.toInt ≤ 64 → 0 ≤ y2.toInt → y2.toInt ≤ y3.toInt → s = σ ∧ (0 ≤ v.toInt ∧ v.toInt ≤ 64) ∧ (v.toInt = 0 ↔ y2.toInt = 0 ∧ ∀ c, y3.toNatClampNeg ≤ c → c < 64 → y0.toBitVec.getLsbD c = false) := by
  have l64 : (64 : Int32).toInt = 64 := by decide
  intro n
  induction n with
  | zero => intro y0 y2 y3 σ v s h; cases h
  | succ n ih =>
    intro y0 y2 y3 σ v s h h3 h64 h2 h23
    unfold f_X11_bits_L4 at h
    by_cases c : (64 : Int32) ≤ y3
    · have h := fd_itp c h
      have c1 := Int32.le_iff_toInt_le.mp c
      cases h
      refine ⟨rfl, by omega, fun q => ⟨q, fun j q1 q2 => ?_⟩, fun q => q.1⟩
      have : y3.toInt.toNat ≤ j := q1
      omega
    · have h := fd_itn c h
      have c1 := Int32.lt_iff_toInt_lt.mp (Int32.not_le.mp c)
      obtain ⟨x2, e2, h⟩ := fd_lts h
      obtain ⟨x3, e3, h⟩ := fd_lts h
      obtain ⟨t1, t2⟩ := fd_t1 e3 h3 (by omega)
      have n3 : y3.toNatClampNeg < 64 := by show y3.toInt.toNat < 64; omega
      rw [fd_shr h3 (by omega)] at e2
      have bit : ∃ b : Int32, x2 = y2 + b ∧ (0 ≤ b.toInt ∧ b.toInt ≤ 1) ∧ (b.toInt = 0 ↔ y0.toBitVec.getLsbD y3.toNatClampNeg = false) := by
        cases hb : y0.toBitVec.getLsbD y3.toNatClampNeg with
        | true =>
          rw [hb, if_pos rfl] at e2
          exact ⟨_, e2, by decide, by decide⟩
        | false =>
          rw [hb, if_neg (by decide)] at e2
          exact ⟨_, e2, by decide, by decide⟩
      obtain ⟨b, b1, b2, b3⟩ := bit
      have ad := fd_la b1 (by omega) (by omega)
      obtain ⟨a1, a2, a3⟩ := ih _ _ _ _ _ _ h (by omega) (by omega) (by omega) (by omega)
      refine ⟨a1, a2, a3.trans ?_⟩
      rw [t2]
      constructor
      · rintro ⟨q1, q2⟩
        have hb0 : b.toInt = 0 := by omega
        refine ⟨by omega, fun j w1 w2 => ?_⟩
        by_cases e : j = y3.toNatClampNeg
        · rw [e]; exact b3.mp hb0
        · exact q2 j (by omega) w2
      · rintro ⟨q1, q2⟩
        have hb0 := b3.mpr (q2 _ (Nat.le_refl _) n3)
        exact ⟨by omega, fun j w1 w2 => q2 j (by omega) w2⟩
theorem q_bits {N : Nat} {p0 : Int64} {σ : fd_St} {v : Int32} {s : fd_St} (h : f_X11_bits N p0 σ = some (v, s)) : s = σ ∧ (0 ≤ v.toInt ∧ v.toInt ≤ 64) ∧ (v.toInt = 0 ↔ p0 = 0) := by
  have z0 : (0 : Int32).toNatClampNeg = 0 := by decide
  have l0 : (0 : Int32).toInt = 0 := by decide
  unfold f_X11_bits at h
  obtain ⟨a1, a2, a3⟩ := q_bits_L4 _ _ _ _ _ _ _ h (by omega) (by omega) (by omega) (by omega)
  refine ⟨a1, a2, a3.trans ?_⟩
  constructor
  · rintro ⟨_, q⟩
    exact fd_bits (fun i hi => by rw [fd_bt0]; exact q i (by omega) hi)
  · intro q
    refine ⟨l0, fun c _ _ => ?_⟩
    rw [q]; exact fd_bt0 c
theorem q_judge_L17 {N : Nat} : ∀ (n : Nat) (y1 : Int32) (σ : fd_St) (v : Unit) (s : fd_St), f_X11_judge_0_L17 N n y1 σ = some (v, s) → 0 ≤ y1.toInt → (σ.1 3).toInt ≤ 32 → 0 ≤ (σ.1 8).toInt → (σ.1 8).toInt ≤ 64 * y1.toInt → y1.toInt ≤ 32 → 0 ≤ (s.1 8).toInt ∧ ((s.1 8).toInt = 0 ↔ (σ.1 8).toInt = 0 ∧ ∀ j, y1.toNatClampNeg ≤ j → j < (σ.1 3).toNatClampNeg → ((σ.2.2 9 (σ.2.1 5 j).toNatClampNeg) ^^^ (σ.2.2 10 (σ.2.1 5 j).toNatClampNeg)) &&& ((σ.2.2 6 j) &&& fd_mk (σ.1 4)) = 0) := by
  intro n
  induction n with
  | zero => intro y1 σ v s h; cases h
  | succ n ih =>
    intro y1 σ v s h h1 h3 h8 hb h32
    unfold f_X11_judge_0_L17 at h
    by_cases c : σ.1 3 ≤ y1
    · have h := fd_itp c h
      have c1 := fd_tn (Int32.le_iff_toInt_le.mp c)
      cases h
      exact ⟨h8, fun q => ⟨q, fun j q1 q2 => by omega⟩, fun q => q.1⟩
    · have h := fd_itn c h
      have c1 := Int32.lt_iff_toInt_lt.mp (Int32.not_le.mp c)
      have c2 := fd_tl' h1 c1
      obtain ⟨_, h⟩ := fd_gds h
      obtain ⟨_, h⟩ := fd_gds h
      obtain ⟨_, h⟩ := fd_gds h
      obtain ⟨_, h⟩ := fd_gds h
      obtain ⟨x9, e9, h⟩ := fd_lts h
      obtain ⟨_, h⟩ := fd_gds h
      obtain ⟨v12, σ13, k1, h⟩ := fd_bds h
      obtain ⟨a1, a2⟩ := q_X11_mask_0 k1
      rw [a1, a2] at h
      obtain ⟨x16, e16, h⟩ := fd_lts h
      obtain ⟨v18, σ19, k2, h⟩ := fd_bds h
      obtain ⟨b1, b2, b3⟩ := q_bits k2
      rw [b1] at h
      obtain ⟨σ22, e22, h⟩ := fd_lts h
      obtain ⟨v24, σ25, k3, h⟩ := fd_bds h
      obtain ⟨f1, _⟩ := q_bits k3
      rw [f1] at h
      obtain ⟨σ28, e28, h⟩ := fd_lts h
      obtain ⟨v30, σ31, k4, h⟩ := fd_bds h
      obtain ⟨f2, _⟩ := q_bits k4
      rw [f2] at h
      obtain ⟨σ34, e34, h⟩ := fd_lts h
      obtain ⟨x35, e35, h⟩ := fd_lts h
      obtain ⟨t1, t2⟩ := fd_t1 e35 h1 (by omega)
      have s8 : σ34.1 8 = σ.1 8 + v18 := by rw [fd_tN e34 (by decide), fd_tN e28 (by decide), fd_tI e22]
      have s3 : σ34.1 3 = σ.1 3 := by rw [fd_tN e34 (by decide), fd_tN e28 (by decide), fd_tN e22 (by decide)]
      have s4 : σ34.1 4 = σ.1 4 := by rw [fd_tN e34 (by decide), fd_tN e28 (by decide), fd_tN e22 (by decide)]
      have s2 : σ34.2 = σ.2 := by subst e34; subst e28; subst e22; rfl
      have ad := fd_la s8 (by omega) (by omega)
      have z := ih _ _ _ _ h
      rw [s2, s3, s4, t2] at z
      obtain ⟨z1, z2⟩ := z (by omega) h3 (by omega) (by omega) (by omega)
      refine ⟨z1, z2.trans ?_⟩
      rw [e9, e16] at b3
      constructor
      · rintro ⟨q1, q2⟩
        have hb0 : v18.toInt = 0 := by omega
        refine ⟨by omega, fun j w1 w2 => ?_⟩
        by_cases e : j = y1.toNatClampNeg
        · rw [e]; exact b3.mp hb0
        · exact q2 j (by omega) w2
      · rintro ⟨q1, q2⟩
        have hb0 := b3.mpr (q2 _ (Nat.le_refl _) c2)
        exact ⟨by omega, fun j w1 w2 => q2 j (by omega) w2⟩
theorem q_X11_judge_0 {N : Nat} {σ : fd_St} {v : Unit} {s : fd_St} (h : f_X11_judge_0 N σ = some (v, s)) : (σ.1 3).toInt ≤ 32 → 0 ≤ (s.1 8).toInt ∧ ((s.1 8).toInt = 0 ↔ ∀ j, j < (σ.1 3).toNatClampNeg → ((σ.2.2 9 (σ.2.1 5 j).toNatClampNeg) ^^^ (σ.2.2 10 (σ.2.1 5 j).toNatClampNeg)) &&& ((σ.2.2 6 j) &&& fd_mk (σ.1 4)) = 0) := by
  intro h3
  have l0 : (0 : Int32).toInt = 0 := by decide
  have z0 : (0 : Int32).toNatClampNeg = 0 := by decide
  unfold f_X11_judge_0 at h
  obtain ⟨τ1, f1, h⟩ := fd_lts h
  obtain ⟨τ2, f2, h⟩ := fd_lts h
  obtain ⟨τ3, f3, h⟩ := fd_lts h
  have a8 : τ3.1 8 = 0 := (fd_tN f3 (by decide)).trans ((fd_tN f2 (by decide)).trans (fd_tI f1))
  have a3 : τ3.1 3 = σ.1 3 := (fd_tN f3 (by decide)).trans ((fd_tN f2 (by decide)).trans (fd_tN f1 (by decide)))
  have a4 : τ3.1 4 = σ.1 4 := (fd_tN f3 (by decide)).trans ((fd_tN f2 (by decide)).trans (fd_tN f1 (by decide)))
  have a2 : τ3.2 = σ.2 := by subst f3; subst f2; subst f1; rfl
  have z := q_judge_L17 _ _ _ _ _ h
  rw [a8, a3, a4, a2, z0, l0] at z
  obtain ⟨z1, z2⟩ := z (by omega) h3 (by omega) (by omega) (by omega)
  exact ⟨z1, fun q j hj => (z2.mp q).2 j (by omega) hj, fun q => z2.mpr ⟨rfl, fun j _ hj => q j hj⟩⟩
