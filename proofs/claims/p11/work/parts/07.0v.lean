theorem r_reaches_L2 {N : Nat} : ∀ (n : Nat) (y1 y2 y3 : Int32) (σ : fd_St) (v : Int32) (s : fd_St), f_X11_reaches_0_L2 N n y1 y2 y3 σ = some (v, s) → s.1 = σ.1 ∧ ∀ d, d ≠ 11 → s.2.1 d = σ.2.1 d := by
  intro n
  induction n with
  | zero => intro y1 y2 y3 σ v s h; cases h
  | succ n ih =>
    intro y1 y2 y3 σ v s h
    have step : ∀ z2 : Int32, f_X11_reaches_0_J63 N (f_X11_reaches_0_L2 N n) y1 y2 y3 y3 z2 σ = some (v, s) → s.1 = σ.1 ∧ ∀ d, d ≠ 11 → s.2.1 d = σ.2.1 d := by
      intro z2 h
      unfold f_X11_reaches_0_J63 at h
      obtain ⟨_, h⟩ := fd_gds h
      obtain ⟨σ6, e6, h⟩ := fd_lts h
      obtain ⟨x7, e7, h⟩ := fd_lts h
      obtain ⟨a1, a2⟩ := ih _ _ _ _ _ _ h
      exact ⟨a1.trans (by subst e6; rfl), fun d hd => (a2 d hd).trans (fd_yAn e6 hd rfl)⟩
    unfold f_X11_reaches_0_L2 at h
    by_cases c : σ.1 1 ≤ y3
    · have h := fd_itp c h
      obtain ⟨_, h⟩ := fd_gds h
      obtain ⟨_, h⟩ := fd_gds h
      cases h; exact ⟨rfl, fun _ _ => rfl⟩
    · have h := fd_itn c h
      by_cases d : y3 = y1
      · have h := fd_itp d h
        unfold f_X11_reaches_0_J58 at h
        exact step _ h
      · have h := fd_itn d h
        obtain ⟨_, h⟩ := fd_gds h
        by_cases k : σ.2.1 1 y3.toNatClampNeg = (-1 : Int32)
        · have h := fd_itp k h
          unfold f_X11_reaches_0_J62 at h
          exact step _ h
        · have h := fd_itn k h
          obtain ⟨_, h⟩ := fd_gds h
          obtain ⟨_, h⟩ := fd_gds h
          by_cases a1 : σ.2.1 11 (σ.2.1 2 y3.toNatClampNeg).toNatClampNeg = 0
          · have h := fd_itp a1 h
            obtain ⟨_, h⟩ := fd_gds h
            obtain ⟨_, h⟩ := fd_gds h
            by_cases a2 : σ.2.1 11 (σ.2.1 3 y3.toNatClampNeg).toNatClampNeg = 0
            · have h := fd_itp a2 h
              unfold f_X11_reaches_0_J62 at h
              exact step _ h
            · have h := fd_itn a2 h
              unfold f_X11_reaches_0_J58 at h
              exact step _ h
          · have h := fd_itn a1 h
            unfold f_X11_reaches_0_J58 at h
            exact step _ h
/-- the reference's pairs are as they were -/
def fd_P0 (σ s : fd_St) : Prop := s.1 5 = σ.1 5 ∧ s.2.1 7 = σ.2.1 7 ∧ s.2.1 8 = σ.2.1 8
/-- a pair more -/
def fd_P1 (σ s : fd_St) (a b : Int32) : Prop := (s.1 5).toInt = (σ.1 5).toInt + 1 ∧ s.2.1 7 = upd (σ.2.1 7) (σ.1 5).toNatClampNeg a ∧ s.2.1 8 = upd (σ.2.1 8) (σ.1 5).toNatClampNeg b
theorem q_near_J153 {N : Nat} {y1 y2 y4 z1 : Int32} {σ : fd_St} {v : Int32} {s : fd_St} (h : f_X11_near_0_J153 N y1 y2 y4 z1 σ = some (v, s)) : (0 < z1.toInt → fd_P0 σ s) ∧ (z1 = 0 → y4 = -1 → fd_P1 σ s y1 y2) ∧ (z1 = 0 → ¬ y4 = -1 → fd_P0 σ s) := by
  have l0 : (0 : Int32).toInt = 0 := by decide
  have l1 : (1 : Int32).toInt = 1 := by decide
  unfold f_X11_near_0_J153 at h
  obtain ⟨σ16, e16, h⟩ := fd_lts h
  have b5 : σ16.1 5 = σ.1 5 := fd_tN e16 (by decide)
  have b7 : σ16.2.1 7 = σ.2.1 7 := fd_yIA e16 rfl
  have b8 : σ16.2.1 8 = σ.2.1 8 := fd_yIA e16 rfl
  have b0 : σ16.1 0 = z1 := fd_tI e16
  by_cases c : σ16.1 0 ≤ 0
  · have h := fd_itp c h
    have c1 := Int32.le_iff_toInt_le.mp c
    rw [b0] at c1
    obtain ⟨u, σ20, k, h⟩ := fd_bds h
    unfold f_X11_changed_0 at k
    obtain ⟨τ1, f1, k⟩ := fd_lts k
    obtain ⟨τ2, f2, k⟩ := fd_lts k
    obtain ⟨_, e20⟩ := Prod.mk.inj (Option.some.inj k)
    subst e20
    have d5 : τ2.1 5 = σ.1 5 := (fd_tN f2 (by decide)).trans ((fd_tN f1 (by decide)).trans b5)
    have d7 : τ2.2.1 7 = σ.2.1 7 := fd_yIA f2 (fd_yIA f1 b7)
    have d8 : τ2.2.1 8 = σ.2.1 8 := fd_yIA f2 (fd_yIA f1 b8)
    by_cases d : y4 = (-1 : Int32)
    · have h := fd_itp d h
      obtain ⟨g1, h⟩ := fd_gds h
      have g2 := vp_in_iff.mp g1
      obtain ⟨σ25, e25, h⟩ := fd_lts h
      obtain ⟨_, h⟩ := fd_gds h
      obtain ⟨σ27, e27, h⟩ := fd_lts h
      obtain ⟨σ28, e28, h⟩ := fd_lts h
      cases h
      refine ⟨fun q => by omega, fun _ _ => ?_, fun _ q => absurd d q⟩
      have b3 : σ25.1 = τ2.1 := by subst e25; rfl
      have b4 : σ27.1 = τ2.1 := by subst e27; exact b3
      rw [b3, d5] at e27
      rw [b4, d5] at e28
      rw [d5] at e25 g2
      have a := Jvm.Kit.i32_add (x := σ.1 5) (y := (1 : Int32)) (by omega) (by omega)
      refine ⟨?_, ?_, ?_⟩
      · rw [fd_tI e28]; omega
      · exact fd_yIA e28 (fd_yAn e27 (by decide) (fd_yA e25 d7))
      · exact fd_yIA e28 (fd_yA e27 (fd_yAn e25 (by decide) d8))
    · have h := fd_itn d h
      cases h
      exact ⟨fun q => by omega, fun _ q => absurd q d, fun _ _ => ⟨d5, d7, d8⟩⟩
  · have h := fd_itn c h
    have c1 := Int32.lt_iff_toInt_lt.mp (Int32.not_le.mp c)
    rw [b0] at c1
    cases h
    exact ⟨fun _ => ⟨b5, b7, b8⟩, fun q => by rw [q] at c1; omega, fun q => by rw [q] at c1; omega⟩
theorem q_near_J130 {N : Nat} {y1 y2 y4 : Int32} {σ : fd_St} {v : Int32} {s : fd_St} (h : f_X11_near_0_J130 N y1 y2 y4 σ = some (v, s)) (h1 : 0 ≤ y1.toInt) (h2 : y1.toInt < (σ.1 1).toInt) (h3 : 0 ≤ y2.toInt) (h4 : y2.toInt < (σ.1 1).toInt) (ho : fd_Go (σ.2.1 1) (σ.2.1 2) (σ.2.1 3) (σ.1 1).toNatClampNeg) (q : Nat → Int32) (hq : fd_Rx (σ.2.1 1) (σ.2.1 2) (σ.2.1 3) (fd_mn y1 y2).toNatClampNeg q (σ.1 1).toNatClampNeg) : (q (fd_mx y1 y2).toNatClampNeg ≠ 0 → fd_P0 σ s) ∧ (¬ q (fd_mx y1 y2).toNatClampNeg ≠ 0 → (y4 = -1 → fd_P1 σ s y1 y2) ∧ (¬ y4 = -1 → fd_P0 σ s)) := by
  have l0 : (0 : Int32).toNatClampNeg = 0 := by decide
  unfold f_X11_near_0_J130 at h
  obtain ⟨v11, σ12, k1, h⟩ := fd_bds h
  unfold f_X11_reaches_0 at k1
  obtain ⟨q1, a1, a2⟩ := q_X11_reaches_0_L2 _ _ _ _ _ _ _ k1 (by decide) h1 ho (fun i hi => by rw [l0] at hi; exact absurd hi (Nat.not_lt_zero i))
  obtain ⟨r1, r2⟩ := r_reaches_L2 _ _ _ _ _ _ _ k1
  have c2 := fd_tl' h3 h4
  have c1 := fd_tl' h1 h2
  -- what the first way finds
  have one : (v11 ≠ 0 → q (fd_mx y1 y2).toNatClampNeg ≠ 0) ∧ (y1.toInt ≤ y2.toInt → q (fd_mx y1 y2).toNatClampNeg ≠ 0 → v11 ≠ 0) := by
    rcases fd_mnx y1 y2 h1 h3 with ⟨m1, m2, m3⟩ | ⟨m1, m2, m3⟩
    · rw [m1] at hq
      rw [m2, a2]
      have := fd_Rx_1 ho hq a1 _ y2.toNatClampNeg (Nat.lt_succ_self _) c2
      exact ⟨this.mpr, fun _ => this.mp⟩
    · have lt := fd_tl' h3 m3
      have := fd_Rx_hi ho a1 _ y2.toNatClampNeg (Nat.lt_succ_self _) lt c2
      rw [a2]
      exact ⟨fun z => absurd z this, fun z => by omega⟩
  have p0 : ∀ {τ s : fd_St}, τ.1 = σ.1 → (∀ d, d ≠ 11 → τ.2.1 d = σ.2.1 d) → fd_P0 τ s → fd_P0 σ s := by
    rintro τ s t1 t2 ⟨u1, u2, u3⟩
    exact ⟨u1.trans (by rw [t1]), u2.trans (t2 7 (by decide)), u3.trans (t2 8 (by decide))⟩
  have p1 : ∀ {τ s : fd_St}, τ.1 = σ.1 → (∀ d, d ≠ 11 → τ.2.1 d = σ.2.1 d) → fd_P1 τ s y1 y2 → fd_P1 σ s y1 y2 := by
    rintro τ s t1 t2 ⟨u1, u2, u3⟩
    rw [t1] at u1 u2 u3
    rw [t2 7 (by decide)] at u2
    rw [t2 8 (by decide)] at u3
    exact ⟨u1, u2, u3⟩
  by_cases d : v11 = 0
  · have h := fd_itp d h
    obtain ⟨v30, σ31, k2, h⟩ := fd_bds h
    unfold f_X11_reaches_0 at k2
    have x := q_X11_reaches_0_L2 _ _ _ _ _ _ _ k2 (by decide) h3
    rw [r1, r2 1 (by decide), r2 2 (by decide), r2 3 (by decide)] at x
    obtain ⟨q2, b1, b2⟩ := x ho (fun i hi => by rw [l0] at hi; exact absurd hi (Nat.not_lt_zero i))
    obtain ⟨s1, s2⟩ := r_reaches_L2 _ _ _ _ _ _ _ k2
    have t1 : σ31.1 = σ.1 := s1.trans r1
    have t2 : ∀ d, d ≠ 11 → σ31.2.1 d = σ.2.1 d := fun d hd => (s2 d hd).trans (r2 d hd)
    have two : v30 ≠ 0 ↔ q (fd_mx y1 y2).toNatClampNeg ≠ 0 := by
      rcases fd_mnx y1 y2 h1 h3 with ⟨m1, m2, m3⟩ | ⟨m1, m2, m3⟩
      · have nq : ¬ q (fd_mx y1 y2).toNatClampNeg ≠ 0 := fun z => one.2 m3 z d
        refine ⟨fun z => ?_, fun z => absurd z nq⟩
        rw [b2] at z
        by_cases e : y1.toNatClampNeg = y2.toNatClampNeg
        · exfalso
          have w := (a1 y1.toNatClampNeg c1).mpr (Or.inl rfl)
          rw [e, ← a2] at w
          exact w d
        · have lt : y1.toNatClampNeg < y2.toNatClampNeg := by have := fd_tn m3; omega
          exact absurd z (fd_Rx_hi ho b1 _ _ (Nat.lt_succ_self _) lt c1)
      · rw [m1] at hq
        rw [m2, b2]
        exact fd_Rx_1 ho b1 hq _ y1.toNatClampNeg (Nat.lt_succ_self _) c1
    by_cases d2 : v30 = 0
    · have h := fd_itp d2 h
      obtain ⟨_, w2, w3⟩ := q_near_J153 h
      exact ⟨fun z => absurd d2 (two.mpr z), fun _ => ⟨fun z => p1 t1 t2 (w2 rfl z), fun z => p0 t1 t2 (w3 rfl z)⟩⟩
    · have h := fd_itn d2 h
      unfold f_X11_near_0_J148 at h
      obtain ⟨w1, _, _⟩ := q_near_J153 h
      exact ⟨fun _ => p0 t1 t2 (w1 (by decide)), fun z => absurd (two.mp d2) z⟩
  · have h := fd_itn d h
    unfold f_X11_near_0_J148 at h
    obtain ⟨w1, _, _⟩ := q_near_J153 h
    exact ⟨fun _ => p0 r1 r2 (w1 (by decide)), fun z => absurd (one.1 d) z⟩
theorem q_near_L34 {N : Nat} : ∀ (n : Nat) (y1 y2 y3 y4 y5 : Int32) (σ : fd_St) (v : Int32) (s : fd_St), f_X11_near_0_L34 N n y1 y2 y3 y4 y5 σ = some (v, s) → 0 ≤ y5.toInt → (¬ y3 = 0 → (0 ≤ y1.toInt ∧ y1.toInt < (σ.1 1).toInt) ∧ (0 ≤ y2.toInt ∧ y2.toInt < (σ.1 1).toInt)) → (y3 = 0 → ¬ ((0 ≤ y1.toInt ∧ y1.toInt < (σ.1 1).toInt) ∧ (0 ≤ y2.toInt ∧ y2.toInt < (σ.1 1).toInt))) → (y4 = -1 ↔ ∀ i, i < y5.toNatClampNeg → ¬ fd_mt (σ.2.1 7) (σ.2.1 8) y1 y2 i) → fd_Go (σ.2.1 1) (σ.2.1 2) (σ.2.1 3) (σ.1 1).toNatClampNeg → y5.toInt ≤ (σ.1 5).toInt → ∀ q, fd_Rx (σ.2.1 1) (σ.2.1 2) (σ.2.1 3) (fd_mn y1 y2).toNatClampNeg q (σ.1 1).toNatClampNeg → fd_Nr (σ.1 1) (σ.1 5) y1 y2 (σ.2.1 7) (σ.2.1 8) (q (fd_mx y1 y2).toNatClampNeg ≠ 0) (s.1 5) (s.2.1 7) (s.2.1 8) := by
  intro n
  induction n with
  | zero => intro y1 y2 y3 y4 y5 σ v s h; cases h
  | succ n ih =>
    intro y1 y2 y3 y4 y5 σ v s h h5 ha hb hm ho hl q hq
    have l0 : (0 : Int32).toInt = 0 := by decide
    have lm : (-1 : Int32).toInt = -1 := by decide
    unfold f_X11_near_0_L34 at h
    by_cases c : σ.1 5 ≤ y5
    · have h := fd_itp c h
      have c1 := Int32.le_iff_toInt_le.mp c
      have e5 : y5.toNatClampNeg = (σ.1 5).toNatClampNeg := fd_te (by omega)
      rw [e5] at hm
      have same : fd_P0 σ s → ¬ fd_Nc (σ.1 1) (σ.1 5) y1 y2 (σ.2.1 7) (σ.2.1 8) (q (fd_mx y1 y2).toNatClampNeg ≠ 0) → fd_Nr (σ.1 1) (σ.1 5) y1 y2 (σ.2.1 7) (σ.2.1 8) (q (fd_mx y1 y2).toNatClampNeg ≠ 0) (s.1 5) (s.2.1 7) (s.2.1 8) := fun z w => ⟨fun x => absurd x w, fun _ => z⟩
      by_cases d : y3 = 0
      · have h := fd_itp d h
        exact same ((q_near_J153 h).1 (by decide)) (fun z => hb d ⟨z.1, z.2.1⟩)
      · have h := fd_itn d h
        obtain ⟨⟨x1, x2⟩, x3, x4⟩ := ha d
        have go : f_X11_near_0_J130 N y1 y2 y4 σ = some (v, s) → (y4 = -1 → ¬ σ.1 5 = 40) → fd_Nr (σ.1 1) (σ.1 5) y1 y2 (σ.2.1 7) (σ.2.1 8) (q (fd_mx y1 y2).toNatClampNeg ≠ 0) (s.1 5) (s.2.1 7) (s.2.1 8) := by
          intro h h40
          obtain ⟨w1, w2⟩ := q_near_J130 h x1 x2 x3 x4 ho q hq
          by_cases e : q (fd_mx y1 y2).toNatClampNeg ≠ 0
          · exact same (w1 e) (fun z => z.2.2.2.1 e)
          · obtain ⟨w3, w4⟩ := w2 e
            by_cases f : y4 = -1
            · exact ⟨fun _ => w3 f, fun z => absurd ⟨⟨x1, x2⟩, ⟨x3, x4⟩, h40 f, e, hm.mp f⟩ z⟩
            · exact same (w4 f) (fun z => f (hm.mpr z.2.2.2.2))
        by_cases f : y4 = (-1 : Int32)
        · have h := fd_itp f h
          by_cases g : σ.1 5 = (40 : Int32)
          · have h := fd_itp g h
            exact same ((q_near_J153 h).1 (by decide)) (fun z => z.2.2.1 g)
          · have h := fd_itn g h
            exact go h (fun _ => g)
        · have h := fd_itn f h
          exact go h (fun z => absurd z f)
    · have h := fd_itn c h
      have c1 := Int32.lt_iff_toInt_lt.mp (Int32.not_le.mp c)
      obtain ⟨g1, h⟩ := fd_gds h
      have g2 := vp_in_iff.mp g1
      have n5 : ¬ y5 = -1 := fun z => by rw [z] at h5; omega
      -- one pair further
      have step : ∀ z0 : Int32, (z0 = -1 ↔ ∀ i, i < y5.toNatClampNeg + 1 → ¬ fd_mt (σ.2.1 7) (σ.2.1 8) y1 y2 i) → f_X11_near_0_J94 N (f_X11_near_0_L34 N n) y1 y2 y3 y5 z0 σ = some (v, s) → fd_Nr (σ.1 1) (σ.1 5) y1 y2 (σ.2.1 7) (σ.2.1 8) (q (fd_mx y1 y2).toNatClampNeg ≠ 0) (s.1 5) (s.2.1 7) (s.2.1 8) := by
        intro z0 hz h
        unfold f_X11_near_0_J94 at h
        obtain ⟨x40, e40, h⟩ := fd_lts h
        obtain ⟨t1, t2⟩ := fd_t1 e40 h5 (by omega)
        exact ih _ _ _ _ _ _ _ _ h (by omega) ha hb (by rw [t2]; exact hz) ho (by omega) q hq
      have yes : fd_mt (σ.2.1 7) (σ.2.1 8) y1 y2 y5.toNatClampNeg → f_X11_near_0_J87 N (f_X11_near_0_L34 N n) y1 y2 y3 y5 σ = some (v, s) → fd_Nr (σ.1 1) (σ.1 5) y1 y2 (σ.2.1 7) (σ.2.1 8) (q (fd_mx y1 y2).toNatClampNeg ≠ 0) (s.1 5) (s.2.1 7) (s.2.1 8) := by
        intro m h
        unfold f_X11_near_0_J87 at h
        exact step _ ⟨fun z => absurd z n5, fun z => absurd m (z _ (by omega))⟩ h
      have no : ¬ fd_mt (σ.2.1 7) (σ.2.1 8) y1 y2 y5.toNatClampNeg → f_X11_near_0_J92 N (f_X11_near_0_L34 N n) y1 y2 y3 y4 y5 σ = some (v, s) → fd_Nr (σ.1 1) (σ.1 5) y1 y2 (σ.2.1 7) (σ.2.1 8) (q (fd_mx y1 y2).toNatClampNeg ≠ 0) (s.1 5) (s.2.1 7) (s.2.1 8) := by
        intro m h
        unfold f_X11_near_0_J92 at h
        refine step _ ?_ h
        rw [hm]
        constructor
        · intro z i hi
          by_cases e : i = y5.toNatClampNeg
          · rw [e]; exact m
          · exact z i (by omega)
        · exact fun z i hi => z i (by omega)
      -- the second way round
      have other : ¬ (σ.2.1 7 y5.toNatClampNeg = y1 ∧ σ.2.1 8 y5.toNatClampNeg = y2) → f_X11_near_0_J65 N (f_X11_near_0_L34 N n) y1 y2 y3 y4 y5 σ = some (v, s) → fd_Nr (σ.1 1) (σ.1 5) y1 y2 (σ.2.1 7) (σ.2.1 8) (q (fd_mx y1 y2).toNatClampNeg ≠ 0) (s.1 5) (s.2.1 7) (s.2.1 8) := by
        intro m h
        unfold f_X11_near_0_J65 at h
        obtain ⟨_, h⟩ := fd_gds h
        by_cases e1 : σ.2.1 7 y5.toNatClampNeg = y2
        · have h := fd_itp e1 h
          obtain ⟨_, h⟩ := fd_gds h
          by_cases e2 : σ.2.1 8 y5.toNatClampNeg = y1
          · have h := fd_itp e2 h
            exact yes (Or.inr ⟨e1, e2⟩) h
          · have h := fd_itn e2 h
            refine no ?_ h
            rintro (z | z)
            · exact m z
            · exact e2 z.2
        · have h := fd_itn e1 h
          refine no ?_ h
          rintro (z | z)
          · exact m z
          · exact e1 z.1
      by_cases e1 : σ.2.1 7 y5.toNatClampNeg = y1
      · have h := fd_itp e1 h
        obtain ⟨_, h⟩ := fd_gds h
        by_cases e2 : σ.2.1 8 y5.toNatClampNeg = y2
        · have h := fd_itp e2 h
          exact yes (Or.inl ⟨e1, e2⟩) h
        · have h := fd_itn e2 h
          exact other (fun z => e2 z.2) h
      · have h := fd_itn e1 h
        exact other (fun z => e1 z.1) h
theorem q_X11_near_0 {N : Nat} {p1 p2 : Int32} {σ : fd_St} {v : Int32} {s : fd_St} (h : f_X11_near_0 N p1 p2 σ = some (v, s)) : 0 ≤ (σ.1 5).toInt → fd_Go (σ.2.1 1) (σ.2.1 2) (σ.2.1 3) (σ.1 1).toNatClampNeg → ∀ q, fd_Rx (σ.2.1 1) (σ.2.1 2) (σ.2.1 3) (fd_mn p1 p2).toNatClampNeg q (σ.1 1).toNatClampNeg → fd_Nr (σ.1 1) (σ.1 5) p1 p2 (σ.2.1 7) (σ.2.1 8) (q (fd_mx p1 p2).toNatClampNeg ≠ 0) (s.1 5) (s.2.1 7) (s.2.1 8) := by
  intro h5 ho q hq
  have l0 : (0 : Int32).toNatClampNeg = 0 := by decide
  have z0 : (0 : Int32).toInt = 0 := by decide
  unfold f_X11_near_0 at h
  have go : ∀ z : Int32, (¬ z = 0 → (0 ≤ p1.toInt ∧ p1.toInt < (σ.1 1).toInt) ∧ (0 ≤ p2.toInt ∧ p2.toInt < (σ.1 1).toInt)) → (z = 0 → ¬ ((0 ≤ p1.toInt ∧ p1.toInt < (σ.1 1).toInt) ∧ (0 ≤ p2.toInt ∧ p2.toInt < (σ.1 1).toInt))) → f_X11_near_0_J27 N p1 p2 z σ = some (v, s) → fd_Nr (σ.1 1) (σ.1 5) p1 p2 (σ.2.1 7) (σ.2.1 8) (q (fd_mx p1 p2).toNatClampNeg ≠ 0) (s.1 5) (s.2.1 7) (s.2.1 8) := by
    intro z ha hb h
    unfold f_X11_near_0_J27 at h
    refine q_near_L34 _ _ _ _ _ _ _ _ _ h (by decide) ha hb ⟨fun _ i hi => ?_, fun _ => rfl⟩ ho (by omega) q hq
    rw [l0] at hi; exact absurd hi (Nat.not_lt_zero i)
  obtain ⟨v2, σ3, k1, h⟩ := fd_bds h
  obtain ⟨e1, a1⟩ := q_isIn k1
  rw [e1] at h
  rcases a1 with ⟨a0, a1⟩ | ⟨a0, a1⟩
  · have h := fd_itn (by rw [a0]; decide) h
    obtain ⟨v46, σ47, k2, h⟩ := fd_bds h
    obtain ⟨e2, b1⟩ := q_isIn k2
    rw [e2] at h
    rcases b1 with ⟨b0, b1⟩ | ⟨b0, b1⟩
    · have h := fd_itn (by rw [b0]; decide) h
      exact go 1 (fun _ => ⟨a1, b1⟩) (fun z => absurd z (by decide)) h
    · have h := fd_itp b0 h
      unfold f_X11_near_0_J26 at h
      exact go 0 (fun z => absurd rfl z) (fun _ z => b1 z.2) h
  · have h := fd_itp a0 h
    unfold f_X11_near_0_J26 at h
    exact go 0 (fun z => absurd rfl z) (fun _ z => a1 z.1) h
