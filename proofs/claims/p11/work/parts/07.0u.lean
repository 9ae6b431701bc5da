theorem q_has {N : Nat} {p : Int32} {σ : fd_St} {v : Int32} {s : fd_St} (h : f_X2_has_1 N p σ = some (v, s)) : s = σ ∧ ((v = 1 ∧ 0 ≤ p.toInt ∧ p.toInt < (σ.1 1).toInt) ∨ (v = 0 ∧ ¬ (0 ≤ p.toInt ∧ p.toInt < (σ.1 1).toInt))) := by
  have l0 : (0 : Int32).toInt = 0 := by decide
  unfold f_X2_has_1 at h
  by_cases c : p < 0
  · have h := fd_itp c h
    have c1 := Int32.lt_iff_toInt_lt.mp c
    cases h; exact ⟨rfl, Or.inr ⟨rfl, by omega⟩⟩
  · have h := fd_itn c h
    have c1 := Int32.le_iff_toInt_le.mp (Int32.not_lt.mp c)
    by_cases d : σ.1 1 ≤ p
    · have h := fd_itp d h
      have d1 := Int32.le_iff_toInt_le.mp d
      cases h; exact ⟨rfl, Or.inr ⟨rfl, by omega⟩⟩
    · have h := fd_itn d h
      have d1 := Int32.lt_iff_toInt_lt.mp (Int32.not_le.mp d)
      cases h; exact ⟨rfl, Or.inl ⟨rfl, by omega, by omega⟩⟩
theorem q_needNet {N : Nat} {p : Int32} {σ : fd_St} {r : Unit ⊕ String} {s : fd_St} (h : f_X10_needNet_0 N p σ = some (r, s)) : s = σ ∧ ((r = .inl () ∧ 0 ≤ p.toInt ∧ p.toInt < (σ.1 1).toInt) ∨ ((∃ E, r = .inr E) ∧ ¬ (0 ≤ p.toInt ∧ p.toInt < (σ.1 1).toInt))) := by
  unfold f_X10_needNet_0 at h
  obtain ⟨v2, σ3, k, h⟩ := fd_bds h
  obtain ⟨es, a⟩ := q_has k
  rw [es] at h
  rcases a with ⟨a, b⟩ | ⟨a, b⟩
  · have h := fd_itn (by rw [a]; decide) h
    cases h; exact ⟨rfl, Or.inl ⟨rfl, b⟩⟩
  · have h := fd_itp a h
    cases h; exact ⟨rfl, Or.inr ⟨⟨_, rfl⟩, b⟩⟩
theorem q_isIn {N : Nat} {p0 p1 : Int32} {σ : fd_St} {v : Int32} {s : fd_St} (h : f_X11_isIn N p0 p1 σ = some (v, s)) : s = σ ∧ ((v = 1 ∧ 0 ≤ p0.toInt ∧ p0.toInt < p1.toInt) ∨ (v = 0 ∧ ¬ (0 ≤ p0.toInt ∧ p0.toInt < p1.toInt))) := by
  have l0 : (0 : Int32).toInt = 0 := by decide
  unfold f_X11_isIn at h
  by_cases c : p0 < 0
  · have h := fd_itp c h
    have c1 := Int32.lt_iff_toInt_lt.mp c
    cases h; exact ⟨rfl, Or.inr ⟨rfl, by omega⟩⟩
  · have h := fd_itn c h
    have c1 := Int32.le_iff_toInt_le.mp (Int32.not_lt.mp c)
    by_cases d : p1 ≤ p0
    · have h := fd_itp d h
      have d1 := Int32.le_iff_toInt_le.mp d
      cases h; exact ⟨rfl, Or.inr ⟨rfl, by omega⟩⟩
    · have h := fd_itn d h
      have d1 := Int32.lt_iff_toInt_lt.mp (Int32.not_le.mp d)
      cases h; exact ⟨rfl, Or.inl ⟨rfl, by omega, by omega⟩⟩
/-- the pair i is of a and b -/
def fd_mt (A B : Nat → Int32) (a b : Int32) (i : Nat) : Prop := (A i = a ∧ B i = b) ∨ (A i = b ∧ B i = a)
/-- near puts a new pair -/
def fd_Nc (n pr a b : Int32) (A B : Nat → Int32) (rc : Prop) : Prop := (0 ≤ a.toInt ∧ a.toInt < n.toInt) ∧ (0 ≤ b.toInt ∧ b.toInt < n.toInt) ∧ ¬ pr = 40 ∧ ¬ rc ∧ ∀ i, i < pr.toNatClampNeg → ¬ fd_mt A B a b i
def fd_Nr (n pr a b : Int32) (A B : Nat → Int32) (rc : Prop) (pr' : Int32) (A' B' : Nat → Int32) : Prop := (fd_Nc n pr a b A B rc → pr'.toInt = pr.toInt + 1 ∧ A' = upd A pr.toNatClampNeg a ∧ B' = upd B pr.toNatClampNeg b) ∧ (¬ fd_Nc n pr a b A B rc → pr' = pr ∧ A' = A ∧ B' = B)
theorem fd_Nr_1 {n pr a b : Int32} {A B : Nat → Int32} {rc : Prop} {p1 p2 : Int32} {A1 B1 A2 B2 : Nat → Int32} (h : fd_Nr n pr a b A B rc p1 A1 B1) (h' : fd_Nr n pr a b A B rc p2 A2 B2) : p1 = p2 ∧ A1 = A2 ∧ B1 = B2 := by
  by_cases c : fd_Nc n pr a b A B rc
  · obtain ⟨x1, x2, x3⟩ := h.1 c
    obtain ⟨y1, y2, y3⟩ := h'.1 c
    exact ⟨Int32.toInt_inj.mp (by rw [x1, y1]), by rw [x2, y2], by rw [x3, y3]⟩
  · obtain ⟨x1, x2, x3⟩ := h.2 c
    obtain ⟨y1, y2, y3⟩ := h'.2 c
    exact ⟨by rw [x1, y1], by rw [x2, y2], by rw [x3, y3]⟩
theorem fd_Nr_no {n pr a b : Int32} {A B : Nat → Int32} {rc : Prop} (h : ¬ fd_Nc n pr a b A B rc) : fd_Nr n pr a b A B rc pr A B := ⟨fun c => absurd c h, fun _ => ⟨rfl, rfl, rfl⟩⟩
def fd_mn (a b : Int32) : Int32 := if b < a then b else a
def fd_mx (a b : Int32) : Int32 := if a < b then b else a
theorem fd_Rx_ex {k f g : Nat → Int32} {a : Nat} : ∀ n, fd_Go k f g n → ∃ q, fd_Rx k f g a q n := by
  intro n
  induction n with
  | zero => intro _; exact ⟨fun _ => 0, fun i hi => absurd hi (Nat.not_lt_zero i)⟩
  | succ n ih =>
    intro ho
    obtain ⟨q, hq⟩ := ih (fd_Go_le ho (by omega))
    by_cases c : (n = a ∨ (k n ≠ -1 ∧ (q (f n).toNatClampNeg ≠ 0 ∨ q (g n).toNatClampNeg ≠ 0)))
    · exact ⟨_, fd_Rx_s (z := 1) ho hq ⟨fun _ => c, fun _ => by decide⟩⟩
    · exact ⟨_, fd_Rx_s (z := 0) ho hq ⟨fun z => absurd rfl z, fun z => absurd z c⟩⟩
theorem fd_Rx_1 {k f g q q' : Nat → Int32} {a n : Nat} (ho : fd_Go k f g n) (h : fd_Rx k f g a q n) (h' : fd_Rx k f g a q' n) : ∀ m i, i < m → i < n → (q i ≠ 0 ↔ q' i ≠ 0) := by
  intro m
  induction m with
  | zero => intro i hi; omega
  | succ m ih =>
    intro i hi hin
    rw [h i hin, h' i hin]
    by_cases hk : k i = -1
    · constructor
      · rintro (e | ⟨e, _⟩)
        · exact Or.inl e
        · exact absurd hk e
      · rintro (e | ⟨e, _⟩)
        · exact Or.inl e
        · exact absurd hk e
    · obtain ⟨o1, o2⟩ := ho i hin hk
      rw [ih _ (by omega : (f i).toNatClampNeg < m) (by omega), ih _ (by omega : (g i).toNatClampNeg < m) (by omega)]
theorem r_L25 {N : Nat} : ∀ (n : Nat) (y3 y4 y5 : Int32) (σ : fd_St) (v : Int32) (s : fd_St), f_X2_oneReachesTheOther_1_L25 N n y3 y4 y5 σ = some (v, s) → s.1 = σ.1 ∧ ∀ d, d ≠ 17 → s.2.1 d = σ.2.1 d := by
  intro n
  induction n with
  | zero => intro y3 y4 y5 σ v s h; cases h
  | succ n ih =>
    intro y3 y4 y5 σ v s h
    have step : ∀ z2 : Int32, f_X2_oneReachesTheOther_1_J84 N (f_X2_oneReachesTheOther_1_L25 N n) y3 y4 y5 y5 z2 σ = some (v, s) → s.1 = σ.1 ∧ ∀ d, d ≠ 17 → s.2.1 d = σ.2.1 d := by
      intro z2 h
      unfold f_X2_oneReachesTheOther_1_J84 at h
      obtain ⟨_, h⟩ := fd_gds h
      obtain ⟨σ6, e6, h⟩ := fd_lts h
      obtain ⟨x7, e7, h⟩ := fd_lts h
      obtain ⟨a1, a2⟩ := ih _ _ _ _ _ _ h
      exact ⟨a1.trans (by subst e6; rfl), fun d hd => (a2 d hd).trans (fd_yAn e6 hd rfl)⟩
    unfold f_X2_oneReachesTheOther_1_L25 at h
    by_cases c : y4 < y5
    · have h := fd_itp c h
      obtain ⟨_, h⟩ := fd_gds h
      obtain ⟨_, h⟩ := fd_gds h
      cases h; exact ⟨rfl, fun _ _ => rfl⟩
    · have h := fd_itn c h
      obtain ⟨_, h⟩ := fd_gds h
      by_cases k : σ.2.1 12 y5.toNatClampNeg = (-1 : Int32)
      · have h := fd_itp k h
        unfold f_X2_oneReachesTheOther_1_J83 at h
        exact step _ h
      · have h := fd_itn k h
        obtain ⟨_, h⟩ := fd_gds h
        obtain ⟨v16, σ17, k1, h9⟩ := fd_bds h
        rw [(q_isReached k1).1] at h9
        by_cases d : v16 = 0
        · have h := fd_itp d h9
          obtain ⟨_, h⟩ := fd_gds h
          obtain ⟨v23, σ24, k2, h8⟩ := fd_bds h
          rw [(q_isReached k2).1] at h8
          by_cases d2 : v23 = 0
          · have h := fd_itp d2 h8
            unfold f_X2_oneReachesTheOther_1_J83 at h
            exact step _ h
          · have h := fd_itn d2 h8
            unfold f_X2_oneReachesTheOther_1_J79 at h
            exact step _ h
        · have h := fd_itn d h9
          unfold f_X2_oneReachesTheOther_1_J79 at h
          exact step _ h
theorem fd_mnx (a b : Int32) (ha : 0 ≤ a.toInt) (hb : 0 ≤ b.toInt) : (fd_mn a b = a ∧ fd_mx a b = b ∧ a.toInt ≤ b.toInt) ∨ (fd_mn a b = b ∧ fd_mx a b = a ∧ b.toInt < a.toInt) := by
  unfold fd_mn fd_mx
  by_cases c : b < a
  · have c1 := Int32.lt_iff_toInt_lt.mp c
    refine Or.inr ⟨if_pos c, if_neg ?_, c1⟩
    intro q
    have := Int32.lt_iff_toInt_lt.mp q
    omega
  · have c1 := Int32.le_iff_toInt_le.mp (Int32.not_lt.mp c)
    refine Or.inl ⟨if_neg c, ?_, c1⟩
    by_cases d : a < b
    · exact if_pos d
    · rw [if_neg d]
      have d1 := Int32.le_iff_toInt_le.mp (Int32.not_lt.mp d)
      exact Int32.toInt_inj.mp (by omega)
theorem q_oneR {N : Nat} {p1 p2 : Int32} {σ : fd_St} {v : Int32} {s : fd_St} (h : f_X2_oneReachesTheOther_1 N p1 p2 σ = some (v, s)) : s.1 = σ.1 ∧ (∀ d, d ≠ 17 → s.2.1 d = σ.2.1 d) ∧ (0 ≤ p1.toInt → p1.toInt < (σ.1 1).toInt → 0 ≤ p2.toInt → p2.toInt < (σ.1 1).toInt → (∀ i, 0 ≤ (σ.2.1 13 i).toInt) → (∀ i, 0 ≤ (σ.2.1 14 i).toInt) → fd_Go (σ.2.1 12) (σ.2.1 13) (σ.2.1 14) (σ.1 1).toNatClampNeg → ∀ q, fd_Rx (σ.2.1 12) (σ.2.1 13) (σ.2.1 14) (fd_mn p1 p2).toNatClampNeg q (σ.1 1).toNatClampNeg → (v ≠ 0 ↔ q (fd_mx p1 p2).toNatClampNeg ≠ 0)) := by
  unfold f_X2_oneReachesTheOther_1 at h
  obtain ⟨x1, e1, h⟩ := fd_lts h
  obtain ⟨x2, e2, h⟩ := fd_lts h
  obtain ⟨g1, h⟩ := fd_gds h
  have g2 := vp_in_iff.mp g1
  obtain ⟨σ4, e4, h⟩ := fd_lts h
  obtain ⟨x5, e5, h⟩ := fd_lts h
  rw [fd_nar1] at e4
  obtain ⟨r1, r2⟩ := r_L25 _ _ _ _ _ _ _ h
  have b1 : σ4.1 = σ.1 := by subst e4; rfl
  have b2 := fd_yAn (d := 12) e4 (by decide) rfl
  have b3 := fd_yAn (d := 13) e4 (by decide) rfl
  have b4 := fd_yAn (d := 14) e4 (by decide) rfl
  have b5 := fd_yA e4 rfl
  refine ⟨r1.trans b1, fun d hd => (r2 d hd).trans (fd_yAn e4 hd rfl), ?_⟩
  intro h1 h2 h3 h4 hf hg ho q hq
  have e1 : x1 = fd_mn p1 p2 := e1
  have e2 : x2 = fd_mx p1 p2 := e2
  rw [← e1] at hq
  rw [← e2]
  have hm : 0 ≤ x1.toInt ∧ x1.toInt ≤ x2.toInt ∧ x2.toInt < (σ.1 1).toInt := by
    rcases fd_mnx p1 p2 h1 h3 with ⟨a1, a2, a3⟩ | ⟨a1, a2, a3⟩
    · rw [e1, e2, a1, a2]; omega
    · rw [e1, e2, a1, a2]; omega
  obtain ⟨t1, t2⟩ := fd_t1 e5 (by omega) (by omega)
  have a := q_X2_oneReachesTheOther_1_L25 _ _ _ _ _ _ _ h (by omega) (by omega) (by omega)
  rw [b1, b2, b3, b4, b5, t2] at a
  obtain ⟨q', a1, a2⟩ := a (by omega) ho (by
    intro i q1 q2
    have : i = x1.toNatClampNeg := by omega
    rw [this, fd_uA_eq]
    exact ⟨fun _ => Or.inl rfl, fun _ => by decide⟩)
  rw [a2]
  exact fd_RxRc (by omega) ho hq a1 (fd_tl' (by omega) (by omega)) (fd_tn (by omega)) hf hg
theorem q_isOf {N : Nat} {p1 p2 p3 : Int32} {σ : fd_St} {v : Int32} {s : fd_St} (h : f_X4_isOf_3 N p1 p2 p3 σ = some (v, s)) : s = σ ∧ (v ≠ 0 ↔ (σ.2.1 20 p1.toNatClampNeg = p2 ∧ σ.2.1 21 p1.toNatClampNeg = p3)) := by
  unfold f_X4_isOf_3 at h
  obtain ⟨_, h⟩ := fd_gds h
  by_cases c : σ.2.1 20 p1.toNatClampNeg = p2
  · have h := fd_itp c h
    obtain ⟨_, h⟩ := fd_gds h
    by_cases d : σ.2.1 21 p1.toNatClampNeg = p3
    · have h := fd_itp d h
      cases h; exact ⟨rfl, fun _ => ⟨c, d⟩, fun _ => by decide⟩
    · have h := fd_itn d h
      cases h; exact ⟨rfl, fun q => absurd rfl q, fun q => absurd q.2 d⟩
  · have h := fd_itn c h
    cases h; exact ⟨rfl, fun q => absurd rfl q, fun q => absurd q.1 c⟩
theorem q_findOrAdd_L2 {N : Nat} : ∀ (n : Nat) (y1 y2 y3 : Int32) (σ : fd_St) (v : Int32) (s : fd_St), f_X4_findOrAdd_3_L2 N n y1 y2 y3 σ = some (v, s) → 0 ≤ y3.toInt → (∀ i, i < y3.toNatClampNeg → ¬ fd_mt (σ.2.1 20) (σ.2.1 21) y1 y2 i) → ((∀ i, i < (σ.1 5).toNatClampNeg → ¬ fd_mt (σ.2.1 20) (σ.2.1 21) y1 y2 i) → (s.1 5).toInt = (σ.1 5).toInt + 1 ∧ s.2.1 20 = upd (σ.2.1 20) (σ.1 5).toNatClampNeg y1 ∧ s.2.1 21 = upd (σ.2.1 21) (σ.1 5).toNatClampNeg y2) ∧ (¬ (∀ i, i < (σ.1 5).toNatClampNeg → ¬ fd_mt (σ.2.1 20) (σ.2.1 21) y1 y2 i) → s.1 5 = σ.1 5 ∧ s.2.1 20 = σ.2.1 20 ∧ s.2.1 21 = σ.2.1 21) := by
  intro n
  induction n with
  | zero => intro y1 y2 y3 σ v s h; cases h
  | succ n ih =>
    intro y1 y2 y3 σ v s h h0 hb
    unfold f_X4_findOrAdd_3_L2 at h
    by_cases c : σ.1 5 ≤ y3
    · have h := fd_itp c h
      have c1 := fd_tn (Int32.le_iff_toInt_le.mp c)
      obtain ⟨g1, h⟩ := fd_gds h
      have g2 := vp_in_iff.mp g1
      obtain ⟨σ3, e3, h⟩ := fd_lts h
      obtain ⟨_, h⟩ := fd_gds h
      obtain ⟨σ5, e5, h⟩ := fd_lts h
      obtain ⟨σ6, e6, h⟩ := fd_lts h
      cases h
      refine ⟨fun _ => ?_, fun q => absurd (fun i hi => hb i (by omega)) q⟩
      have b3 : σ3.1 = σ.1 := by subst e3; rfl
      have b5 : σ5.1 = σ.1 := by subst e5; exact b3
      rw [b3] at e5
      rw [b5] at e6
      have l1 : (1 : Int32).toInt = 1 := by decide
      have a := Jvm.Kit.i32_add (x := σ.1 5) (y := (1 : Int32)) (by omega) (by omega)
      refine ⟨?_, ?_, ?_⟩
      · rw [fd_tI e6]; omega
      · exact fd_yIA e6 (fd_yAn e5 (by decide) (fd_yA e3 rfl))
      · exact fd_yIA e6 (fd_yA e5 (fd_yAn e3 (by decide) rfl))
    · have h := fd_itn c h
      have c1 := Int32.lt_iff_toInt_lt.mp (Int32.not_le.mp c)
      have c2 := fd_tl' h0 c1
      obtain ⟨v8, σ9, k1, h9⟩ := fd_bds h
      obtain ⟨es, a1⟩ := q_isOf k1
      rw [es] at h9
      by_cases d : v8 = 0
      · have h := fd_itp d h9
        obtain ⟨v14, σ15, k2, h8⟩ := fd_bds h
        obtain ⟨es2, a2⟩ := q_isOf k2
        rw [es2] at h8
        by_cases d2 : v14 = 0
        · have h := fd_itp d2 h8
          obtain ⟨x19, e19, h⟩ := fd_lts h
          have r5 := fd_rng (σ.1 5)
          have l1 : (1 : Int32).toInt = 1 := by decide
          have t1 := fd_la e19 (by omega) (by omega)
          have t2 : x19.toNatClampNeg = y3.toNatClampNeg + 1 := by
            show x19.toInt.toNat = y3.toInt.toNat + 1; omega
          refine ih _ _ _ _ _ _ h (by omega) (fun i hi => ?_)
          by_cases e : i = y3.toNatClampNeg
          · subst e
            rintro (z | z)
            · exact a1.mpr z d
            · exact a2.mpr z d2
          · exact hb i (by omega)
        · have h := fd_itn d2 h8
          have m : fd_mt (σ.2.1 20) (σ.2.1 21) y1 y2 y3.toNatClampNeg := Or.inr (a2.mp d2)
          cases h
          exact ⟨fun q => absurd m (q _ c2), fun _ => ⟨rfl, rfl, rfl⟩⟩
      · have h := fd_itn d h9
        have m : fd_mt (σ.2.1 20) (σ.2.1 21) y1 y2 y3.toNatClampNeg := Or.inl (a1.mp d)
        cases h
        exact ⟨fun q => absurd m (q _ c2), fun _ => ⟨rfl, rfl, rfl⟩⟩
theorem q_X10_near {N : Nat} {p1 p2 : Int32} {σ : fd_St} {r : Int32 ⊕ String} {s : fd_St} (h : f_X10_near_0 N p1 p2 σ = some (r, s)) : (∀ i, 0 ≤ (σ.2.1 13 i).toInt) → (∀ i, 0 ≤ (σ.2.1 14 i).toInt) → fd_Go (σ.2.1 12) (σ.2.1 13) (σ.2.1 14) (σ.1 1).toNatClampNeg → ∀ q, fd_Rx (σ.2.1 12) (σ.2.1 13) (σ.2.1 14) (fd_mn p1 p2).toNatClampNeg q (σ.1 1).toNatClampNeg → fd_Nr (σ.1 1) (σ.1 5) p1 p2 (σ.2.1 20) (σ.2.1 21) (q (fd_mx p1 p2).toNatClampNeg ≠ 0) (s.1 5) (s.2.1 20) (s.2.1 21) := by
  intro hf hg ho q hq
  have l0 : (0 : Int32).toNatClampNeg = 0 := by decide
  unfold f_X10_near_0 at h
  rcases fd_bxs h with ⟨u, σ3, k1, h⟩ | ⟨E, σ3, k1, h⟩
  · obtain ⟨e1, a1⟩ := q_needNet k1
    rw [e1] at h
    have a1 : 0 ≤ p1.toInt ∧ p1.toInt < (σ.1 1).toInt := by
      rcases a1 with ⟨_, a1⟩ | ⟨⟨_, a1⟩, _⟩
      · exact a1
      · cases a1
    rcases fd_bxs h with ⟨u2, σ9, k2, h⟩ | ⟨E, σ9, k2, h⟩
    · obtain ⟨e2, a2⟩ := q_needNet k2
      rw [e2] at h
      have a2 : 0 ≤ p2.toInt ∧ p2.toInt < (σ.1 1).toInt := by
        rcases a2 with ⟨_, a2⟩ | ⟨⟨_, a2⟩, _⟩
        · exact a2
        · cases a2
      obtain ⟨v14, σ15, k3, h⟩ := fd_bds h
      unfold f_X4_size_3 at k3
      obtain ⟨e3, e4⟩ := Prod.mk.inj (Option.some.inj k3)
      rw [← e3, ← e4] at h
      by_cases c : σ.1 5 = (40 : Int32)
      · have h := fd_itp c h
        cases h
        exact fd_Nr_no (fun z => z.2.2.1 c)
      · have h := fd_itn c h
        obtain ⟨v20, σ21, k4, h⟩ := fd_bds h
        obtain ⟨b1, b2, b3⟩ := q_oneR k4
        have b3 := b3 a1.1 a1.2 a2.1 a2.2 hf hg ho q hq
        by_cases d : v20 = 0
        · have h := fd_itp d h
          have nr : ¬ q (fd_mx p1 p2).toNatClampNeg ≠ 0 := fun z => b3.mpr z d
          obtain ⟨σ25, e25, h⟩ := fd_lts h
          obtain ⟨v27, σ28, k5, h⟩ := fd_bds h
          cases h
          unfold f_X4_findOrAdd_3 at k5
          have c5 : σ25.1 5 = σ.1 5 := (fd_tN e25 (by decide)).trans (by rw [b1])
          have c20 : σ25.2.1 20 = σ.2.1 20 := fd_yIA e25 (b2 20 (by decide))
          have c21 : σ25.2.1 21 = σ.2.1 21 := fd_yIA e25 (b2 21 (by decide))
          have a := q_findOrAdd_L2 _ _ _ _ _ _ _ k5 (by decide) (fun i hi => by rw [l0] at hi; exact absurd hi (Nat.not_lt_zero i))
          rw [c5, c20, c21] at a
          refine ⟨fun z => a.1 z.2.2.2.2, fun z => ?_⟩
          refine a.2 (fun w => z ⟨a1, a2, c, nr, w⟩)
        · have h := fd_itn d h
          cases h
          have rr := b3.mp d
          have n := fd_Nr_no (n := σ.1 1) (pr := σ.1 5) (a := p1) (b := p2) (A := σ.2.1 20) (B := σ.2.1 21) (rc := q (fd_mx p1 p2).toNatClampNeg ≠ 0) (fun z => z.2.2.2.1 rr)
          rw [b1, b2 20 (by decide), b2 21 (by decide)]; exact n
    · obtain ⟨e2, a2⟩ := q_needNet k2
      rcases a2 with ⟨a2, _⟩ | ⟨_, a2⟩
      · cases a2
      cases h
      rw [e2]
      exact fd_Nr_no (fun z => a2 z.2.1)
  · obtain ⟨e1, a1⟩ := q_needNet k1
    rcases a1 with ⟨a1, _⟩ | ⟨_, a1⟩
    · cases a1
    cases h
    rw [e1]
    exact fd_Nr_no (fun z => a1 z.1)
theorem q_L_near_0_39 {N : Nat} {p1 p2 : Int32} {σ : fd_St} {v : Int32} {s : fd_St} (h : f_L_near_0_39 N p1 p2 σ = some (v, s)) : (∀ i, 0 ≤ (σ.2.1 13 i).toInt) → (∀ i, 0 ≤ (σ.2.1 14 i).toInt) → fd_Go (σ.2.1 12) (σ.2.1 13) (σ.2.1 14) (σ.1 1).toNatClampNeg → ∀ q, fd_Rx (σ.2.1 12) (σ.2.1 13) (σ.2.1 14) (fd_mn p1 p2).toNatClampNeg q (σ.1 1).toNatClampNeg → fd_Nr (σ.1 1) (σ.1 5) p1 p2 (σ.2.1 20) (σ.2.1 21) (q (fd_mx p1 p2).toNatClampNeg ≠ 0) (s.1 5) (s.2.1 20) (s.2.1 21) := by
  unfold f_L_near_0_39 at h
  have fin : ∃ r τ, f_X10_near_0 N p1 p2 σ = some (r, τ) ∧ s.1 = τ.1 ∧ s.2.1 = τ.2.1 := by
    rcases fd_bxs h with ⟨v2, τ, k, h⟩ | ⟨E, τ, k, h⟩
    · obtain ⟨σ6, e6, h⟩ := fd_lts h
      obtain ⟨_, h⟩ := fd_gds h
      obtain ⟨σ9, e9, h⟩ := fd_lts h
      cases h
      exact ⟨_, τ, k, by subst e9; subst e6; rfl, by subst e9; subst e6; rfl⟩
    · by_cases c1 : E = "java/lang/IndexOutOfBoundsException"
      · have h := fd_itp c1 h
        obtain ⟨σ11, e, h⟩ := fd_lts h
        cases h
        exact ⟨_, τ, k, by subst e; rfl, by subst e; rfl⟩
      have h := fd_itn c1 h
      by_cases c2 : E = "java/lang/IllegalStateException"
      · have h := fd_itp c2 h
        obtain ⟨σ11, e, h⟩ := fd_lts h
        cases h
        exact ⟨_, τ, k, by subst e; rfl, by subst e; rfl⟩
      have h := fd_itn c2 h
      by_cases c3 : E = "java/lang/IllegalArgumentException"
      · have h := fd_itp c3 h
        obtain ⟨σ11, e, h⟩ := fd_lts h
        cases h
        exact ⟨_, τ, k, by subst e; rfl, by subst e; rfl⟩
      have h := fd_itn c3 h
      cases h
  obtain ⟨r, τ, k, e1, e2⟩ := fin
  rw [e1, e2]
  exact q_X10_near k
