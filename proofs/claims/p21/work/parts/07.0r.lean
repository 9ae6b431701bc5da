theorem fd_i32 {a : Int32} (h : 0 ≤ a.toInt) : a = Int32.ofNat a.toNatClampNeg := by
  have r := fd_rng a
  have e : (Int32.ofNat a.toInt.toNat).toInt = (a.toInt.toNat : Int) := nI_toInt (n := a.toInt.toNat) (by omega)
  exact Int32.toInt_inj.mp (by show a.toInt = (Int32.ofNat a.toInt.toNat).toInt; rw [e]; omega)
theorem fd_lg0 {a b : Int64} : lg_cmp a b = 0 ↔ a = b := by
  unfold lg_cmp
  by_cases h : a > b
  · rw [if_pos h]
    exact ⟨fun q => absurd q (by decide), fun q => by subst q; exact absurd h (Int64.lt_irrefl (a := a))⟩
  · rw [if_neg h]
    by_cases e : a = b
    · rw [if_pos e]; exact ⟨fun _ => e, fun _ => rfl⟩
    · rw [if_neg e]; exact ⟨fun q => absurd q (by decide), fun q => absurd q e⟩
theorem fd_bt0 (i : Nat) : (0 : Int64).toBitVec.getLsbD i = false := BitVec.getLsbD_zero
theorem fd_bt1 {i : Nat} (hi : i < 64) : (1 : Int64).toBitVec.getLsbD i = decide (i = 0) := by
  have o : ∀ i : Fin 64, (1 : Int64).toBitVec.getLsbD i.val = decide (i.val = 0) := by decide +kernel
  exact o ⟨i, hi⟩
theorem fd_one {y : Int64} : y &&& 1 = if y.toBitVec.getLsbD 0 = true then 1 else 0 := by
  refine fd_bits (fun i hi => ?_)
  rw [Int64.toBitVec_and, BitVec.getLsbD_and, fd_bt1 hi]
  by_cases e : i = 0
  · subst e
    cases hb : y.toBitVec.getLsbD 0 with
    | true => rw [if_pos rfl, fd_bt1 hi]; rfl
    | false => rw [if_neg (by decide), fd_bt0]; rfl
  · have ed : decide (i = 0) = false := decide_eq_false e
    rw [ed, Bool.and_false]
    by_cases hb : y.toBitVec.getLsbD 0 = true
    · rw [if_pos hb, fd_bt1 hi, ed]
    · rw [if_neg hb, fd_bt0]
theorem fd_sb {w : Int64} {s : UInt64} {j : Nat} (hj : j < 64) (hs : s.toNat = j) (i : Nat) : (w.toUInt64 >>> s).toInt64.toBitVec.getLsbD i = w.toBitVec.getLsbD (j + i) := by
  have e : (w.toUInt64 >>> s).toInt64.toBitVec = w.toBitVec >>> j := by
    apply BitVec.eq_of_toNat_eq
    show (w.toUInt64 >>> s).toNat = _
    rw [UInt64.toNat_shiftRight, hs, Nat.mod_eq_of_lt hj, BitVec.toNat_ushiftRight]
    rfl
  rw [e, BitVec.getLsbD_ushiftRight]
theorem fd_amt {c : Int32} (h0 : 0 ≤ c.toInt) (h1 : c.toInt < 64) : (c.toInt64.toUInt64 &&& Int64.toUInt64 63).toNat = c.toNatClampNeg := by
  have key : ∀ k : Fin 64, ((Int32.ofNat k.val).toInt64.toUInt64 &&& Int64.toUInt64 63).toNat = k.val := by decide +kernel
  have e := key ⟨c.toNatClampNeg, by show c.toInt.toNat < 64; omega⟩
  rw [← fd_i32 h0] at e
  exact e
theorem fd_shr {w : Int64} {c : Int32} (h0 : 0 ≤ c.toInt) (h1 : c.toInt < 64) : ((w.toUInt64 >>> (c.toInt64.toUInt64 &&& Int64.toUInt64 63)).toInt64 &&& 1) = if w.toBitVec.getLsbD c.toNatClampNeg = true then 1 else 0 := by
  rw [fd_one, fd_sb (j := c.toNatClampNeg) (by show c.toInt.toNat < 64; omega) (fd_amt h0 h1)]
  rfl
/-- ones up to p -/
def fd_u (p : Int32) : Int64 := ((-1 : Int64).toUInt64 >>> (((63 : Int32) - p).toInt64.toUInt64 &&& Int64.toUInt64 63)).toInt64
theorem fd_u_b {p : Int32} (h0 : 0 ≤ p.toInt) (h1 : p.toInt < 64) {c : Nat} (hc : c < 64) : (fd_u p).toBitVec.getLsbD c = decide (c ≤ p.toNatClampNeg) := by
  have key : ∀ a b : Fin 64, (fd_u (Int32.ofNat a.val)).toBitVec.getLsbD b.val = decide (b.val ≤ a.val) := by decide +kernel
  have e := key ⟨p.toNatClampNeg, by show p.toInt.toNat < 64; omega⟩ ⟨c, hc⟩
  rw [← fd_i32 h0] at e
  exact e
/-- the row r may have come so, with the cells up to `cell` stuck at b -/
def fd_rw (sh cm : Nat → Int64) (sz : Nat) (b : Bool) (cell r : Nat) : Prop := ∀ c, c < sz → (cm r).toBitVec.getLsbD c = if c ≤ cell then b else (sh r).toBitVec.getLsbD c
def fd_mb (sh cm : Nat → Int64) (sz rows : Nat) (b : Bool) (cell : Nat) : Prop := ∀ r, r < rows → fd_rw sh cm sz b cell r
theorem fd_rowc {y3 y5 y7 s m : Int64} {cell sz : Nat} {v : Bool} (h3 : ∀ c, c < 64 → y3.toBitVec.getLsbD c = decide (c ≤ cell)) (h5 : ∀ c, c < 64 → y5.toBitVec.getLsbD c = decide (c < sz)) (h7 : ∀ c, c < 64 → y7.toBitVec.getLsbD c = (v && decide (c ≤ cell))) (hs : sz ≤ 64) : (((y7 ||| (s &&& (y3 ^^^ (-1 : Int64)))) ^^^ m) &&& y5) = 0 ↔ ∀ c, c < sz → m.toBitVec.getLsbD c = if c ≤ cell then v else s.toBitVec.getLsbD c := by
  have bit : ∀ c, c < 64 → (((y7 ||| (s &&& (y3 ^^^ (-1 : Int64)))) ^^^ m) &&& y5).toBitVec.getLsbD c = ((((v && decide (c ≤ cell)) || (s.toBitVec.getLsbD c && (decide (c ≤ cell) ^^ true))) ^^ m.toBitVec.getLsbD c) && decide (c < sz)) := by
    intro c hc
    simp only [Int64.toBitVec_and, Int64.toBitVec_or, Int64.toBitVec_xor, BitVec.getLsbD_and, BitVec.getLsbD_or, BitVec.getLsbD_xor, fd_bm1 hc, h3 c hc, h5 c hc, h7 c hc]
  constructor
  · intro h c hc
    have q := bit c (by omega)
    rw [h, fd_bt0, decide_eq_true hc] at q
    by_cases e : c ≤ cell
    · rw [if_pos e]
      rw [decide_eq_true e] at q
      revert q
      cases v <;> cases m.toBitVec.getLsbD c <;> cases s.toBitVec.getLsbD c <;> decide
    · rw [if_neg e]
      rw [decide_eq_false e] at q
      revert q
      cases v <;> cases m.toBitVec.getLsbD c <;> cases s.toBitVec.getLsbD c <;> decide
  · intro h
    refine fd_bits (fun c hc => ?_)
    rw [bit c hc, fd_bt0]
    by_cases e2 : c < sz
    · have q := h c e2
      by_cases e : c ≤ cell
      · rw [if_pos e] at q
        rw [q, decide_eq_true e]
        cases v <;> cases s.toBitVec.getLsbD c <;> cases decide (c < sz) <;> rfl
      · rw [if_neg e] at q
        rw [q, decide_eq_false e]
        cases v <;> cases s.toBitVec.getLsbD c <;> cases decide (c < sz) <;> rfl
    · rw [decide_eq_false e2, Bool.and_false]
theorem q_mayC_L30 {N cell sz : Nat} {b : Bool} (hs : sz ≤ 64) : ∀ (n : Nat) (y3 y5 y7 : Int64) (y9 : Int32) (σ : fd_St) (v : Int32) (s : fd_St), f_X1_mayBeStuck_10_L30 N n y3 y5 y7 y9 σ = some (v, s) → 0 ≤ y9.toInt → (∀ c, c < 64 → y3.toBitVec.getLsbD c = decide (c ≤ cell)) → (∀ c, c < 64 → y5.toBitVec.getLsbD c = decide (c < sz)) → (∀ c, c < 64 → y7.toBitVec.getLsbD c = (b && decide (c ≤ cell))) → s = σ ∧ ((v = 1 ∧ ∀ r, y9.toNatClampNeg ≤ r → r < (σ.1 17).toNatClampNeg → fd_rw (σ.2.2 30) (σ.2.2 31) sz b cell r) ∨ (v = 0 ∧ ¬ fd_mb (σ.2.2 30) (σ.2.2 31) sz (σ.1 17).toNatClampNeg b cell)) := by
  intro n
  induction n with
  | zero => intro y3 y5 y7 y9 σ v s h; cases h
  | succ n ih =>
    intro y3 y5 y7 y9 σ v s h h0 h3 h5 h7
    unfold f_X1_mayBeStuck_10_L30 at h
    by_cases c : σ.1 17 ≤ y9
    · have h := fd_itp c h
      have c1 := fd_tn (Int32.le_iff_toInt_le.mp c)
      cases h
      exact ⟨rfl, Or.inl ⟨rfl, fun r h1 h2 => absurd h2 (by omega)⟩⟩
    · have h := fd_itn c h
      have c1 := Int32.lt_iff_toInt_lt.mp (Int32.not_le.mp c)
      have c2 := fd_tl' h0 c1
      obtain ⟨g1, h⟩ := fd_gds h
      have g2 := vp_in_iff.mp g1
      obtain ⟨x14, e14, h⟩ := fd_lts h
      obtain ⟨_, h⟩ := fd_gds h
      by_cases d : lg_cmp ((x14 ^^^ (σ.2.2 31 y9.toNatClampNeg)) &&& y5) (0 : Int64) = 0
      · have h := fd_itp d h
        have d1 := fd_lg0.mp d
        rw [e14] at d1
        have d2 := (fd_rowc h3 h5 h7 hs).mp d1
        obtain ⟨x17, e17, h⟩ := fd_lts h
        obtain ⟨t1, t2⟩ := fd_t1 e17 h0 (by omega)
        obtain ⟨a1, a2⟩ := ih _ _ _ _ _ _ _ h (by omega) h3 h5 h7
        refine ⟨a1, ?_⟩
        rcases a2 with ⟨a2, a3⟩ | a2
        · refine Or.inl ⟨a2, fun r h1 h2 => ?_⟩
          by_cases e : r = y9.toNatClampNeg
          · subst e; exact d2
          · exact a3 r (by omega) h2
        · exact Or.inr a2
      · have h := fd_itn d h
        cases h
        refine ⟨rfl, Or.inr ⟨rfl, fun q => d (fd_lg0.mpr ?_)⟩⟩
        rw [e14]
        exact (fd_rowc h3 h5 h7 hs).mpr (q _ c2)
theorem q_mayC {N : Nat} {p1 p2 : Int32} {σ : fd_St} {v : Int32} {s : fd_St} (h : f_X1_mayBeStuck_10 N p1 p2 σ = some (v, s)) (h0 : 0 ≤ p1.toInt) (h1 : p1.toInt < (σ.1 16).toInt) (h2 : (σ.1 16).toInt ≤ 64) : s = σ ∧ ((v = 1 ∧ fd_mb (σ.2.2 30) (σ.2.2 31) (σ.1 16).toNatClampNeg (σ.1 17).toNatClampNeg (decide (p2 ≠ 0)) p1.toNatClampNeg) ∨ (v = 0 ∧ ¬ fd_mb (σ.2.2 30) (σ.2.2 31) (σ.1 16).toNatClampNeg (σ.1 17).toNatClampNeg (decide (p2 ≠ 0)) p1.toNatClampNeg)) := by
  have l1 : (1 : Int32).toInt = 1 := by decide
  have hs := Jvm.Kit.i32_sub (x := σ.1 16) (y := (1 : Int32)) (by omega) (by omega)
  have e5 : ∀ c, c < 64 → (fd_u ((σ.1 16) - (1 : Int32))).toBitVec.getLsbD c = decide (c < (σ.1 16).toNatClampNeg) := by
    intro c hc
    rw [fd_u_b (by omega) (by omega) hc]
    apply decide_eq_decide.mpr
    show c ≤ ((σ.1 16) - (1 : Int32)).toInt.toNat ↔ c < (σ.1 16).toInt.toNat
    omega
  have e3 : ∀ c, c < 64 → (fd_u p1).toBitVec.getLsbD c = decide (c ≤ p1.toNatClampNeg) := fun c hc => fd_u_b h0 (by omega) hc
  have z0 : (0 : Int32).toInt = 0 := by decide
  have z1 : (0 : Int32).toNatClampNeg = 0 := by decide
  have hz : (σ.1 16).toNatClampNeg ≤ 64 := by show (σ.1 16).toInt.toNat ≤ 64; omega
  unfold f_X1_mayBeStuck_10 at h
  obtain ⟨v2, σ3, k1, h⟩ := fd_bds h
  unfold f_X1_upTo at k1
  obtain ⟨rfl, rfl⟩ := Prod.mk.inj (Option.some.inj k1)
  obtain ⟨v7, σ8, k2, h⟩ := fd_bds h
  unfold f_X1_upTo at k2
  obtain ⟨rfl, rfl⟩ := Prod.mk.inj (Option.some.inj k2)
  unfold f_X1_mayBeStuck_10_J25 at h
  by_cases c : p2 = 0
  · have h := fd_itp c h
    have eb : decide (p2 ≠ 0) = false := decide_eq_false (fun q => q c)
    rw [eb]
    obtain ⟨a1, a2⟩ := q_mayC_L30 (b := false) hz _ _ _ _ _ _ _ _ h (by omega) e3 e5 (fun i _ => by rw [fd_bt0]; rfl)
    refine ⟨a1, ?_⟩
    rcases a2 with ⟨a2, a3⟩ | a2
    · exact Or.inl ⟨a2, fun r hr => a3 r (by omega) hr⟩
    · exact Or.inr a2
  · have h := fd_itn c h
    have eb : decide (p2 ≠ 0) = true := decide_eq_true c
    rw [eb]
    obtain ⟨a1, a2⟩ := q_mayC_L30 (b := true) hz _ _ _ _ _ _ _ _ h (by omega) e3 e5 (fun i hi => by rw [Bool.true_and]; exact e3 i hi)
    refine ⟨a1, ?_⟩
    rcases a2 with ⟨a2, a3⟩ | a2
    · exact Or.inl ⟨a2, fun r hr => a3 r (by omega) hr⟩
    · exact Or.inr a2
/-- what a span is: the least, or the greatest, of the cells that may be stuck -/
def fd_sp (mb : Nat → Prop) (sz : Nat) (e : Bool) (d : Int) : Prop := (d = -1 ∧ ∀ c, c < sz → ¬ mb c) ∨ ∃ n : Nat, d = (n : Int) ∧ n < sz ∧ mb n ∧ ∀ c, c < sz → mb c → if e = true then c ≤ n else n ≤ c
theorem fd_sp_1 {mb : Nat → Prop} {sz : Nat} {e : Bool} {d d' : Int} (h : fd_sp mb sz e d) (h' : fd_sp mb sz e d') : d = d' := by
  rcases h with ⟨a, b⟩ | ⟨n, a, b, c, q⟩
  · rcases h' with ⟨a', b'⟩ | ⟨n', a', b', c', q'⟩
    · rw [a, a']
    · exact absurd c' (b n' b')
  · rcases h' with ⟨a', b'⟩ | ⟨n', a', b', c', q'⟩
    · exact absurd c (b' n b)
    · have x := q n' b' c'
      have y := q' n b c
      cases e with
      | true => rw [if_pos rfl] at x y; omega
      | false => rw [if_neg (by decide)] at x y; omega
def fd_mC (σ : fd_St) (b : Bool) : Nat → Prop := fd_mb (σ.2.2 30) (σ.2.2 31) (σ.1 16).toNatClampNeg (σ.1 17).toNatClampNeg b
def fd_mM (σ : fd_St) (b : Bool) : Nat → Prop := fd_mb (σ.2.2 20) (σ.2.2 21) (σ.1 12).toNatClampNeg (σ.1 13).toNatClampNeg b
theorem q_X1_leastStuckAt_10_L2 {N : Nat} : ∀ (n : Nat) (y1 y2 : Int32) (σ : fd_St) (v : Int32) (s : fd_St), f_X1_leastStuckAt_10_L2 N n y1 y2 σ = some (v, s) → 0 ≤ y2.toInt → (σ.1 16).toInt ≤ 64 → (∀ c, c < y2.toNatClampNeg → ¬ fd_mC σ (decide (y1 ≠ 0)) c) → fd_sp (fd_mC σ (decide (y1 ≠ 0))) (σ.1 16).toNatClampNeg false v.toInt := by
  intro n
  induction n with
  | zero => intro y1 y2 σ v s h; cases h
  | succ n ih =>
    intro y1 y2 σ v s h h0 h2 hb
    unfold f_X1_leastStuckAt_10_L2 at h
    by_cases c : σ.1 16 ≤ y2
    · have h := fd_itp c h
      have c1 := fd_tn (Int32.le_iff_toInt_le.mp c)
      cases h
      exact Or.inl ⟨by decide, fun i hi => hb i (by omega)⟩
    · have h := fd_itn c h
      have c1 := Int32.lt_iff_toInt_lt.mp (Int32.not_le.mp c)
      have c2 := fd_tl' h0 c1
      obtain ⟨v3, σ4, k1, h9⟩ := fd_bds h
      obtain ⟨es, a⟩ := q_mayC k1 h0 c1 h2
      rw [es] at h9
      replace h := h9
      rcases a with ⟨a, m⟩ | ⟨a, m⟩
      · have h := fd_itn (by rw [a]; decide) h
        cases h
        refine Or.inr ⟨y2.toNatClampNeg, by show y2.toInt = (y2.toInt.toNat : Int); omega, c2, m, fun i hi hm => ?_⟩
        rw [if_neg (by decide)]
        by_cases q : y2.toNatClampNeg ≤ i
        · exact q
        · exact absurd hm (hb i (by omega))
      · have h := fd_itp a h
        obtain ⟨x8, e8, h⟩ := fd_lts h
        obtain ⟨t1, t2⟩ := fd_t1 e8 h0 (by omega)
        refine ih _ _ _ _ _ h (by omega) h2 (fun i hi => ?_)
        by_cases q : i = y2.toNatClampNeg
        · subst q; exact m
        · exact hb i (by omega)
theorem q_X1_greatestStuckAt_10_L7 {N : Nat} : ∀ (n : Nat) (y1 y2 : Int32) (σ : fd_St) (v : Int32) (s : fd_St), f_X1_greatestStuckAt_10_L7 N n y1 y2 σ = some (v, s) → y2.toInt < (σ.1 16).toInt → (σ.1 16).toInt ≤ 64 → (∀ c, c < (σ.1 16).toNatClampNeg → y2.toInt < (c : Int) → ¬ fd_mC σ (decide (y1 ≠ 0)) c) → fd_sp (fd_mC σ (decide (y1 ≠ 0))) (σ.1 16).toNatClampNeg true v.toInt := by
  intro n
  induction n with
  | zero => intro y1 y2 σ v s h; cases h
  | succ n ih =>
    intro y1 y2 σ v s h h0 h2 hb
    have l0 : (0 : Int32).toInt = 0 := by decide
    have lm : (-1 : Int32).toInt = -1 := by decide
    unfold f_X1_greatestStuckAt_10_L7 at h
    by_cases c : y2 < 0
    · have h := fd_itp c h
      have c1 := Int32.lt_iff_toInt_lt.mp c
      cases h
      exact Or.inl ⟨by decide, fun i hi => hb i hi (by omega)⟩
    · have h := fd_itn c h
      have c1 := Int32.le_iff_toInt_le.mp (Int32.not_lt.mp c)
      have c2 := fd_tl' (x := y2) (by omega) h0
      obtain ⟨v3, σ4, k1, h9⟩ := fd_bds h
      obtain ⟨es, a⟩ := q_mayC k1 (by omega) h0 h2
      rw [es] at h9
      replace h := h9
      have ey : (y2.toNatClampNeg : Int) = y2.toInt := by show (y2.toInt.toNat : Int) = y2.toInt; omega
      rcases a with ⟨a, m⟩ | ⟨a, m⟩
      · have h := fd_itn (by rw [a]; decide) h
        cases h
        refine Or.inr ⟨y2.toNatClampNeg, ey.symm, c2, m, fun i hi hm => ?_⟩
        rw [if_pos rfl]
        by_cases q : i ≤ y2.toNatClampNeg
        · exact q
        · exact absurd hm (hb i hi (by omega))
      · have h := fd_itp a h
        obtain ⟨x8, e8, h⟩ := fd_lts h
        have t1 := fd_la e8 (by omega) (by omega)
        refine ih _ _ _ _ _ h (by omega) h2 (fun i hi hq => ?_)
        by_cases q : i = y2.toNatClampNeg
        · subst q; exact m
        · exact hb i hi (by omega)
theorem q_mayM_L15 {N : Nat} {k3 : Int32 → Int64 → Int32 → fd_St → Option (Int32 × fd_St)} {b : Bool} : ∀ (n : Nat) (y1 : Int32) (y2 : Int64) (y4 y5 : Int32) (σ : fd_St) (v : Int32) (s : fd_St), f_X11_mayBe_0_L15 N k3 n y1 y2 y4 y5 σ = some (v, s) → 0 ≤ y5.toInt → 0 ≤ y1.toInt → (σ.1 12).toInt ≤ 64 → (y2 = if b = true then 1 else 0) → (v = 0 ∧ s = σ ∧ ¬ fd_rw (σ.2.2 20) (σ.2.2 21) (σ.1 12).toNatClampNeg b y1.toNatClampNeg y4.toNatClampNeg) ∨ ((∀ c, y5.toNatClampNeg ≤ c → c < (σ.1 12).toNatClampNeg → (σ.2.2 21 y4.toNatClampNeg).toBitVec.getLsbD c = if c ≤ y1.toNatClampNeg then b else (σ.2.2 20 y4.toNatClampNeg).toBitVec.getLsbD c) ∧ k3 y1 y2 (y4 + 1) σ = some (v, s)) := by
  have bb : ∀ p q : Bool, ((if p = true then (1 : Int64) else 0) = if q = true then 1 else 0) ↔ p = q := by
    intro p q
    cases p <;> cases q <;> decide
  intro n
  induction n with
  | zero => intro y1 y2 y4 y5 σ v s h; cases h
  | succ n ih =>
    intro y1 y2 y4 y5 σ v s h h5 h1 h2 hy
    unfold f_X11_mayBe_0_L15 at h
    by_cases c : σ.1 12 ≤ y5
    · have h := fd_itp c h
      have c1 := fd_tn (Int32.le_iff_toInt_le.mp c)
      obtain ⟨x3, e3, h⟩ := fd_lts h
      subst e3
      exact Or.inr ⟨fun i a1 a2 => absurd a2 (by omega), h⟩
    · have h := fd_itn c h
      have c1 := Int32.lt_iff_toInt_lt.mp (Int32.not_le.mp c)
      have c2 := fd_tl' h5 c1
      -- the bit that is due
      have key : ∀ z0 : Int64, (z0 = if (if y5.toNatClampNeg ≤ y1.toNatClampNeg then b else (σ.2.2 20 y4.toNatClampNeg).toBitVec.getLsbD y5.toNatClampNeg) = true then 1 else 0) → f_X11_mayBe_0_J46 N k3 (f_X11_mayBe_0_L15 N k3 n) y1 y2 y4 y5 z0 σ = some (v, s) → (v = 0 ∧ s = σ ∧ ¬ fd_rw (σ.2.2 20) (σ.2.2 21) (σ.1 12).toNatClampNeg b y1.toNatClampNeg y4.toNatClampNeg) ∨ ((∀ c, y5.toNatClampNeg ≤ c → c < (σ.1 12).toNatClampNeg → (σ.2.2 21 y4.toNatClampNeg).toBitVec.getLsbD c = if c ≤ y1.toNatClampNeg then b else (σ.2.2 20 y4.toNatClampNeg).toBitVec.getLsbD c) ∧ k3 y1 y2 (y4 + 1) σ = some (v, s)) := by
        intro z0 hz h
        unfold f_X11_mayBe_0_J46 at h
        obtain ⟨_, h⟩ := fd_gds h
        by_cases d : lg_cmp ((((σ.2.2 21 y4.toNatClampNeg).toUInt64 >>> (y5.toInt64.toUInt64 &&& Int64.toUInt64 63)).toInt64) &&& (1 : Int64)) z0 = 0
        · have h := fd_itp d h
          have d1 := fd_lg0.mp d
          rw [fd_shr h5 (by omega), hz] at d1
          have d2 := (bb _ _).mp d1
          obtain ⟨x8, e8, h⟩ := fd_lts h
          obtain ⟨t1, t2⟩ := fd_t1 e8 h5 (by omega)
          rcases ih _ _ _ _ _ _ _ h (by omega) h1 h2 hy with a | ⟨a1, a2⟩
          · exact Or.inl a
          · refine Or.inr ⟨fun i q1 q2 => ?_, a2⟩
            by_cases e : i = y5.toNatClampNeg
            · rw [e]; exact d2
            · exact a1 i (by omega) q2
        · have h := fd_itn d h
          cases h
          refine Or.inl ⟨rfl, rfl, fun q => d (fd_lg0.mpr ?_)⟩
          rw [fd_shr h5 (by omega), hz, q _ c2]
      by_cases d : y1 < y5
      · have h := fd_itp d h
        have d1 := Int32.lt_iff_toInt_lt.mp d
        have d2 := fd_tl' h1 d1
        obtain ⟨_, h⟩ := fd_gds h
        refine key _ ?_ h
        rw [if_neg (by omega : ¬ y5.toNatClampNeg ≤ y1.toNatClampNeg)]
        exact fd_shr h5 (by omega)
      · have h := fd_itn d h
        have d1 := fd_tn (Int32.le_iff_toInt_le.mp (Int32.not_lt.mp d))
        refine key _ ?_ h
        rw [if_pos d1]; exact hy
theorem q_mayM_L3 {N : Nat} {b : Bool} : ∀ (n : Nat) (y1 : Int32) (y2 : Int64) (y4 : Int32) (σ : fd_St) (v : Int32) (s : fd_St), f_X11_mayBe_0_L3 N n y1 y2 y4 σ = some (v, s) → 0 ≤ y4.toInt → 0 ≤ y1.toInt → (σ.1 12).toInt ≤ 64 → (σ.1 13).toInt ≤ 30 → (y2 = if b = true then 1 else 0) → s = σ ∧ ((v = 1 ∧ ∀ r, y4.toNatClampNeg ≤ r → r < (σ.1 13).toNatClampNeg → fd_rw (σ.2.2 20) (σ.2.2 21) (σ.1 12).toNatClampNeg b y1.toNatClampNeg r) ∨ (v = 0 ∧ ¬ fd_mM σ b y1.toNatClampNeg)) := by
  intro n
  induction n with
  | zero => intro y1 y2 y4 σ v s h; cases h
  | succ n ih =>
    intro y1 y2 y4 σ v s h h4 h1 h2 h3 hy
    unfold f_X11_mayBe_0_L3 at h
    by_cases c : σ.1 13 ≤ y4
    · have h := fd_itp c h
      have c1 := fd_tn (Int32.le_iff_toInt_le.mp c)
      cases h
      exact ⟨rfl, Or.inl ⟨rfl, fun r a1 a2 => absurd a2 (by omega)⟩⟩
    · have h := fd_itn c h
      have c1 := Int32.lt_iff_toInt_lt.mp (Int32.not_le.mp c)
      have c2 := fd_tl' h4 c1
      have z0 : (0 : Int32).toInt = 0 := by decide
      have z1 : (0 : Int32).toNatClampNeg = 0 := by decide
      rcases q_mayM_L15 (b := b) _ _ _ _ _ _ _ _ h (by omega) h1 h2 hy with ⟨a1, a2, a3⟩ | ⟨a1, a2⟩
      · exact ⟨a2, Or.inr ⟨a1, fun q => a3 (q _ c2)⟩⟩
      · obtain ⟨t1, t2⟩ := fd_t1 (x := y4 + 1) rfl h4 (by omega)
        obtain ⟨b1, b2⟩ := ih _ _ _ _ _ _ a2 (by omega) h1 h2 h3 hy
        refine ⟨b1, ?_⟩
        rcases b2 with ⟨b2, b3⟩ | b2
        · refine Or.inl ⟨b2, fun r q1 q2 => ?_⟩
          by_cases e : r = y4.toNatClampNeg
          · subst e; exact fun i hi => a1 i (by omega) hi
          · exact b3 r (by omega) q2
        · exact Or.inr b2
theorem q_X11_span_0_L54 {N : Nat} : ∀ (n : Nat) (y1 y2 y4 y5 : Int32) (σ : fd_St) (v : Int32) (s : fd_St), f_X11_span_0_L54 N n y1 y2 y4 y5 σ = some (v, s) → σ.1 0 = 0 → 0 ≤ y5.toInt → y5.toInt ≤ (σ.1 12).toInt → (σ.1 12).toInt ≤ 64 → (σ.1 13).toInt ≤ 30 → 0 ≤ y1.toInt → y1.toInt ≤ 1 → fd_sp (fd_mM σ (decide (y1 ≠ 0))) y5.toNatClampNeg (decide (y2 = 1)) y4.toInt → fd_sp (fd_mM σ (decide (y1 ≠ 0))) (σ.1 12).toNatClampNeg (decide (y2 = 1)) v.toInt := by
  have lm : (-1 : Int32).toInt = -1 := by decide
  have z0 : (0 : Int32).toInt = 0 := by decide
  have z1 : (0 : Int32).toNatClampNeg = 0 := by decide
  have l1 : (1 : Int32).toInt = 1 := by decide
  intro n
  induction n with
  | zero => intro y1 y2 y4 y5 σ v s h; cases h
  | succ n ih =>
    intro y1 y2 y4 y5 σ v s h h0 h5 h6 h2 h3 a0 a1 hs
    have eb : y1.toInt64 = if decide (y1 ≠ 0) = true then (1 : Int64) else 0 := by
      by_cases q : y1 = 0
      · rw [decide_eq_false (fun x => x q), if_neg (by decide), q]; rfl
      · have q1 : y1 = 1 := Int32.toInt_inj.mp (by
          have : ¬ y1.toInt = (0 : Int32).toInt := fun x => q (Int32.toInt_inj.mp x)
          omega)
        rw [decide_eq_true q, if_pos rfl, q1]; rfl
    unfold f_X11_span_0_L54 at h
    unfold f_X11_span_0_J102 at h
    by_cases c : σ.1 12 ≤ y5
    · have h := fd_itp c h
      have c1 := Int32.le_iff_toInt_le.mp c
      have h := fd_itp (by rw [h0]; decide) h
      cases h
      have e : y5.toNatClampNeg = (σ.1 12).toNatClampNeg := fd_te (by omega)
      rw [← e]; exact hs
    · have h := fd_itn c h
      have c1 := Int32.lt_iff_toInt_lt.mp (Int32.not_le.mp c)
      have h := fd_itp h0 h
      obtain ⟨v10, σ11, k1, h9⟩ := fd_bds h
      unfold f_X11_mayBe_0 at k1
      obtain ⟨es, a⟩ := q_mayM_L3 (b := decide (y1 ≠ 0)) _ _ _ _ _ _ _ k1 (by omega) h5 h2 h3 eb
      rw [es] at h9
      replace h := h9
      have step : ∀ (y4' : Int32), fd_sp (fd_mM σ (decide (y1 ≠ 0))) (y5.toNatClampNeg + 1) (decide (y2 = 1)) y4'.toInt → f_X11_span_0_J96 N (f_X11_span_0_L54 N n) y1 y2 y4' y5 σ = some (v, s) → fd_sp (fd_mM σ (decide (y1 ≠ 0))) (σ.1 12).toNatClampNeg (decide (y2 = 1)) v.toInt := by
        intro y4' hq h
        unfold f_X11_span_0_J96 at h
        obtain ⟨x15, e15, h⟩ := fd_lts h
        obtain ⟨t1, t2⟩ := fd_t1 e15 h5 (by omega)
        exact ih _ _ _ _ _ _ _ h h0 (by omega) (by omega) h2 h3 a0 a1 (by rw [t2]; exact hq)
      have ey : (y5.toNatClampNeg : Int) = y5.toInt := by show (y5.toInt.toNat : Int) = y5.toInt; omega
      rcases a with ⟨a, m⟩ | ⟨a, m⟩
      · have m : fd_mM σ (decide (y1 ≠ 0)) y5.toNatClampNeg := fun r hr => m r (by omega) hr
        have h := fd_itn (by rw [a]; decide) h
        by_cases d : y2 = 1
        · have h := fd_itp d h
          unfold f_X11_span_0_J92 at h
          refine step _ (Or.inr ⟨y5.toNatClampNeg, ey.symm, by omega, m, fun i hi hm => ?_⟩) h
          rw [decide_eq_true d, if_pos rfl]; omega
        · have h := fd_itn d h
          have ed : decide (y2 = 1) = false := decide_eq_false d
          by_cases f : y4 = (-1 : Int32)
          · have h := fd_itp f h
            unfold f_X11_span_0_J92 at h
            refine step _ (Or.inr ⟨y5.toNatClampNeg, ey.symm, by omega, m, fun i hi hm => ?_⟩) h
            rw [ed, if_neg (by decide)]
            rcases hs with ⟨_, s2⟩ | ⟨k, s1, _⟩
            · by_cases q : i < y5.toNatClampNeg
              · exact absurd hm (s2 i q)
              · omega
            · rw [f] at s1; omega
          · have h := fd_itn f h
            refine step _ ?_ h
            rcases hs with ⟨s1, s2⟩ | ⟨k, s1, s2, s3, s4⟩
            · exact absurd (Int32.toInt_inj.mp (by rw [s1, lm])) f
            · refine Or.inr ⟨k, s1, by omega, s3, fun i hi hm => ?_⟩
              by_cases q : i < y5.toNatClampNeg
              · exact s4 i q hm
              · rw [ed, if_neg (by decide)]; omega
      · have h := fd_itp a h
        refine step _ ?_ h
        rcases hs with ⟨s1, s2⟩ | ⟨k, s1, s2, s3, s4⟩
        · refine Or.inl ⟨s1, fun i hi => ?_⟩
          by_cases q : i = y5.toNatClampNeg
          · rw [q]; exact m
          · exact s2 i (by omega)
        · refine Or.inr ⟨k, s1, by omega, s3, fun i hi hm => ?_⟩
          by_cases q : i = y5.toNatClampNeg
          · rw [q] at hm; exact absurd hm m
          · exact s4 i (by omega) hm
