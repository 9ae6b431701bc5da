/-- the rows under a fault that holds a at ra and b at rb -/
def fd_F (k f g : Nat → Int32) (p : Nat → Int64) (a : Nat) (ra : Int64) (b : Nat) (rb : Int64) (w : Nat → Int64) (n : Nat) : Prop := ∀ i, i < n → w i = if i = a then ra else if i = b then rb else if k i = -1 then p i else fd_tl (k i) (w (f i).toNatClampNeg) (w (g i).toNatClampNeg)
theorem fd_F_s {k f g : Nat → Int32} {p w : Nat → Int64} {a b m : Nat} {ra rb z : Int64} (ho : fd_Go k f g (m + 1)) (h : fd_F k f g p a ra b rb w m) (hz : z = if m = a then ra else if m = b then rb else if k m = -1 then p m else fd_tl (k m) (w (f m).toNatClampNeg) (w (g m).toNatClampNeg)) : fd_F k f g p a ra b rb (vp_updL w m z) (m + 1) := by
  have cong : ∀ i, i < m + 1 → (if i = a then ra else if i = b then rb else if k i = -1 then p i else fd_tl (k i) (vp_updL w m z (f i).toNatClampNeg) (vp_updL w m z (g i).toNatClampNeg)) = if i = a then ra else if i = b then rb else if k i = -1 then p i else fd_tl (k i) (w (f i).toNatClampNeg) (w (g i).toNatClampNeg) := by
    intro i hi
    by_cases hk : k i = -1
    · rw [if_pos hk, if_pos hk]
    · obtain ⟨o1, o2⟩ := ho i hi hk
      have e1 : vp_updL w m z (f i).toNatClampNeg = w (f i).toNatClampNeg := fd_uL_ne (by omega)
      have e2 : vp_updL w m z (g i).toNatClampNeg = w (g i).toNatClampNeg := fd_uL_ne (by omega)
      rw [e1, e2]
  intro i hi
  rw [cong i hi]
  by_cases e : i = m
  · rw [e, fd_uL_eq]; exact hz
  · rw [fd_uL_ne e]; exact h i (by omega)
theorem fd_F_0 {k f g : Nat → Int32} {r p w : Nat → Int64} {a b m n : Nat} {ra rb : Int64} (hE : fd_E k f g r p n) (hw : ∀ i, i < n → w i = r i) (hm : m ≤ n) (ha : m ≤ a) (hb : m ≤ b) : fd_F k f g p a ra b rb w m := by
  intro i hi
  rw [if_neg (by omega : ¬ i = a), if_neg (by omega : ¬ i = b), hw i (by omega)]
  by_cases hk : k i = -1
  · rw [if_pos hk]; exact hE.1 i hk
  · rw [if_neg hk]
    obtain ⟨o1, o2⟩ := hE.2.1 i (by omega) hk
    rw [hw _ (by omega : (f i).toNatClampNeg < n), hw _ (by omega : (g i).toNatClampNeg < n)]
    exact hE.2.2 i (by omega) hk
theorem q_X2_gateRow_1_16' {N : Nat} {p1 : Int32} {σ : fd_St} {v : Int64} {s : fd_St} (h : f_X2_gateRow_1_16 N p1 σ = some (v, s)) : v = fd_tl (σ.2.1 12 p1.toNatClampNeg) (σ.2.2 16 (σ.2.1 13 p1.toNatClampNeg).toNatClampNeg) (σ.2.2 16 (σ.2.1 14 p1.toNatClampNeg).toNatClampNeg) ∧ s = σ := by
  unfold f_X2_gateRow_1_16 at h
  obtain ⟨_, h⟩ := fd_gds h
  obtain ⟨_, h⟩ := fd_gds h
  obtain ⟨x3, e3, h⟩ := fd_lts h
  obtain ⟨_, h⟩ := fd_gds h
  obtain ⟨_, h⟩ := fd_gds h
  obtain ⟨x6, e6, h⟩ := fd_lts h
  obtain ⟨_, h⟩ := fd_gds h
  obtain ⟨x8, e8, h⟩ := fd_lts h
  rw [← e3, ← e6, ← e8]
  exact q_tl h
theorem q_hold_L25 {N : Nat} : ∀ (n : Nat) (y1 : Int32) (y2 : Int64) (y4 : Int32) (y5 : Int64) (y7 : Int32) (σ : fd_St) (v : Unit) (s : fd_St), f_X2_hold_1_L25 N n y1 y2 y4 y5 y7 σ = some (v, s) → ∀ p : Nat → Int64, 0 ≤ y7.toInt → 0 ≤ y1.toInt → 0 ≤ y4.toInt → fd_Go (σ.2.1 12) (σ.2.1 13) (σ.2.1 14) (σ.1 1).toNatClampNeg → (∀ i, y7.toNatClampNeg ≤ i → i < (σ.1 1).toNatClampNeg → σ.2.1 12 i = -1 → σ.2.2 16 i = p i) → fd_F (σ.2.1 12) (σ.2.1 13) (σ.2.1 14) p y1.toNatClampNeg y2 y4.toNatClampNeg y5 (σ.2.2 16) y7.toNatClampNeg → fd_F (σ.2.1 12) (σ.2.1 13) (σ.2.1 14) p y1.toNatClampNeg y2 y4.toNatClampNeg y5 (s.2.2 16) (σ.1 1).toNatClampNeg := by
  intro n
  induction n with
  | zero => intro y1 y2 y4 y5 y7 σ v s h; cases h
  | succ n ih =>
    intro y1 y2 y4 y5 y7 σ v s h p h7 h1 h4 ho hi hF
    unfold f_X2_hold_1_L25 at h
    by_cases c : σ.1 1 ≤ y7
    · have h := fd_itp c h
      have c1 := fd_tn (Int32.le_iff_toInt_le.mp c)
      cases h
      exact fun i hi => hF i (by omega)
    · have h := fd_itn c h
      have c1 := Int32.lt_iff_toInt_lt.mp (Int32.not_le.mp c)
      have c2 := fd_tl' h7 c1
      -- a write at y7
      have step : ∀ (z : Int64) (τ : fd_St), τ = fd_sL 16 y7 z σ → y7.toInt < 200 → (z = if y7.toNatClampNeg = y1.toNatClampNeg then y2 else if y7.toNatClampNeg = y4.toNatClampNeg then y5 else if σ.2.1 12 y7.toNatClampNeg = -1 then p y7.toNatClampNeg else fd_tl (σ.2.1 12 y7.toNatClampNeg) (σ.2.2 16 (σ.2.1 13 y7.toNatClampNeg).toNatClampNeg) (σ.2.2 16 (σ.2.1 14 y7.toNatClampNeg).toNatClampNeg)) → f_X2_hold_1_J98 N (f_X2_hold_1_L25 N n) y1 y2 y4 y5 y7 τ = some (v, s) → fd_F (σ.2.1 12) (σ.2.1 13) (σ.2.1 14) p y1.toNatClampNeg y2 y4.toNatClampNeg y5 (s.2.2 16) (σ.1 1).toNatClampNeg := by
        intro z τ e hlt hz h
        unfold f_X2_hold_1_J98 at h
        obtain ⟨x13, e13, h⟩ := fd_lts h
        obtain ⟨t1, t2⟩ := fd_t1 e13 h7 (by omega)
        have b1 : τ.1 = σ.1 := by subst e; rfl
        have b2 : τ.2.1 = σ.2.1 := by subst e; rfl
        have b3 := fd_yL e rfl
        have a := ih _ _ _ _ _ _ _ _ h p (by omega) h1 h4
        rw [b1, b2, b3, t2] at a
        refine a ho (fun i q1 q2 q3 => ?_) (fd_F_s (fd_Go_le ho (by omega)) hF hz)
        rw [fd_uL_ne (by omega : i ≠ y7.toNatClampNeg)]
        exact hi i (by omega) q2 q3
      by_cases d : y7 = y1
      · have h := fd_itp d h
        obtain ⟨g1, h⟩ := fd_gds h
        have g2 := vp_in_iff.mp g1
        obtain ⟨τ, e, h⟩ := fd_lts h
        exact step _ _ e (by omega) (by rw [if_pos (by rw [d])]) h
      · have h := fd_itn d h
        have d1 : ¬ y7.toNatClampNeg = y1.toNatClampNeg := fun q => d ((fd_teq h7 h1).mpr q)
        by_cases d2 : y7 = y4
        · have h := fd_itp d2 h
          obtain ⟨g1, h⟩ := fd_gds h
          have g2 := vp_in_iff.mp g1
          obtain ⟨τ, e, h⟩ := fd_lts h
          exact step _ _ e (by omega) (by rw [if_neg d1, if_pos (by rw [d2])]) h
        · have h := fd_itn d2 h
          have d3 : ¬ y7.toNatClampNeg = y4.toNatClampNeg := fun q => d2 ((fd_teq h7 h4).mpr q)
          obtain ⟨g1, h⟩ := fd_gds h
          have g2 := vp_in_iff.mp g1
          by_cases kk : σ.2.1 12 y7.toNatClampNeg = (-1 : Int32)
          · have h := fd_itp kk h
            unfold f_X2_hold_1_J98 at h
            obtain ⟨x13, e13, h⟩ := fd_lts h
            obtain ⟨t1, t2⟩ := fd_t1 e13 h7 (by omega)
            refine ih _ _ _ _ _ _ _ _ h p (by omega) h1 h4 ho (fun i q1 q2 q3 => hi i (by omega) q2 q3) ?_
            rw [t2]
            intro i q
            by_cases e : i = y7.toNatClampNeg
            · rw [e, if_neg d1, if_neg d3, if_pos kk]; exact hi _ (by omega) c2 kk
            · exact hF i (by omega)
          · have h := fd_itn kk h
            obtain ⟨v15, σ16, k1, h9⟩ := fd_bds h
            obtain ⟨ev, es⟩ := q_X2_gateRow_1_16' k1
            rw [es] at h9
            obtain ⟨_, h8⟩ := fd_gds h9
            obtain ⟨τ, e, h7'⟩ := fd_lts h8
            exact step _ _ e (by omega) (by rw [if_neg d1, if_neg d3, if_neg kk]; exact ev) h7'
theorem q_X2_hold_1 {N : Nat} {p1 : Int32} {p2 : Int64} {p4 : Int32} {p5 : Int64} {σ : fd_St} {v : Unit} {s : fd_St} (h : f_X2_hold_1 N p1 p2 p4 p5 σ = some (v, s)) : 0 ≤ p1.toInt → 0 ≤ p4.toInt → p1.toInt ≤ (σ.1 1).toInt → ∀ p : Nat → Int64, fd_E (σ.2.1 12) (σ.2.1 13) (σ.2.1 14) (σ.2.2 15) p (σ.1 1).toNatClampNeg → fd_F (σ.2.1 12) (σ.2.1 13) (σ.2.1 14) p p1.toNatClampNeg p2 p4.toNatClampNeg p5 (s.2.2 16) (σ.1 1).toNatClampNeg := by
  intro h1 h4 hl p hE
  unfold f_X2_hold_1 at h
  obtain ⟨_, h⟩ := fd_gds h
  obtain ⟨_, h⟩ := fd_gds h
  obtain ⟨_, h⟩ := fd_gds h
  obtain ⟨_, h⟩ := fd_gds h
  obtain ⟨_, h⟩ := fd_gds h
  obtain ⟨σ6, e6, h⟩ := fd_lts h
  obtain ⟨x7, e7, h⟩ := fd_lts h
  have z0 : (0 : Int32).toNatClampNeg = 0 := by decide
  have b1 : σ6.1 = σ.1 := by subst e6; rfl
  have b2 : σ6.2.1 = σ.2.1 := by subst e6; rfl
  have b3 : ∀ i, i < (σ.1 1).toNatClampNeg → σ6.2.2 16 i = σ.2.2 15 i := by
    intro i hi
    subst e6
    show fd_up σ.2.2 16 (va_cpy (σ.2.2 15) (σ.2.2 16) (0 : Int32).toNatClampNeg (0 : Int32).toNatClampNeg (σ.1 1).toNatClampNeg) 16 i = σ.2.2 15 i
    unfold fd_up
    rw [if_pos rfl]
    unfold va_cpy
    rw [z0, if_pos ⟨by omega, by omega⟩]
    have e9 : 0 + (i - 0) = i := by omega
    rw [e9]
  have hx : 0 ≤ x7.toInt ∧ x7.toInt ≤ p1.toInt ∧ x7.toInt ≤ p4.toInt := by
    by_cases q : p4 < p1
    · rw [if_pos q] at e7
      have q1 := Int32.lt_iff_toInt_lt.mp q
      rw [e7]; omega
    · rw [if_neg q] at e7
      have q1 := Int32.le_iff_toInt_le.mp (Int32.not_lt.mp q)
      rw [e7]; omega
  have a := q_hold_L25 _ _ _ _ _ _ _ _ _ h p (by omega) h1 h4
  rw [b1, b2] at a
  refine a hE.2.1 (fun i _ q2 q3 => by rw [b3 i q2]; exact hE.1 i q3) ?_
  exact fd_F_0 hE b3 (fd_tn (by omega)) (fd_tn (by omega)) (fd_tn (by omega))
/-- which nets a fault of kind kd holds, and at what row -/
def fd_qa (kd wh : Int32) (A : Nat → Int32) : Int32 := if (1 : Int32) < kd then A wh.toNatClampNeg else wh
def fd_qr (kd : Int32) (x y : Int64) : Int64 := if (1 : Int32) < kd then (if kd = (2 : Int32) then x &&& y else x ||| y) else (if kd = 0 then 0 else -1)
theorem q_X3_tryFault_4 {N : Nat} {p1 p2 : Int32} {σ : fd_St} {v : Unit} {s : fd_St} (h : f_X3_tryFault_4 N p1 p2 σ = some (v, s)) : 0 ≤ (fd_qa p1 p2 (σ.2.1 20)).toInt → 0 ≤ (fd_qa p1 p2 (σ.2.1 21)).toInt → (fd_qa p1 p2 (σ.2.1 20)).toInt ≤ (σ.1 1).toInt → ∀ p : Nat → Int64, fd_E (σ.2.1 12) (σ.2.1 13) (σ.2.1 14) (σ.2.2 15) p (σ.1 1).toNatClampNeg → fd_F (σ.2.1 12) (σ.2.1 13) (σ.2.1 14) p (fd_qa p1 p2 (σ.2.1 20)).toNatClampNeg (fd_qr p1 (σ.2.2 15 (fd_qa p1 p2 (σ.2.1 20)).toNatClampNeg) (σ.2.2 15 (fd_qa p1 p2 (σ.2.1 21)).toNatClampNeg)) (fd_qa p1 p2 (σ.2.1 21)).toNatClampNeg (fd_qr p1 (σ.2.2 15 (fd_qa p1 p2 (σ.2.1 20)).toNatClampNeg) (σ.2.2 15 (fd_qa p1 p2 (σ.2.1 21)).toNatClampNeg)) (s.2.2 16) (σ.1 1).toNatClampNeg := by
  unfold fd_qa fd_qr
  unfold f_X3_tryFault_4 at h
  by_cases c : (1 : Int32) < p1
  · have h := fd_itp c h
    rw [if_pos c, if_pos c, if_pos c]
    intro h1 h4 hl p hE
    obtain ⟨v3, σ4, k1, h⟩ := fd_bds h
    unfold f_X4_first_3 at k1
    obtain ⟨_, k1⟩ := fd_gds k1
    obtain ⟨rfl, rfl⟩ := Prod.mk.inj (Option.some.inj k1)
    obtain ⟨v8, σ9, k2, h⟩ := fd_bds h
    unfold f_X4_second_3 at k2
    obtain ⟨_, k2⟩ := fd_gds k2
    obtain ⟨rfl, rfl⟩ := Prod.mk.inj (Option.some.inj k2)
    obtain ⟨v13, σ14, k3, h⟩ := fd_bds h
    unfold f_X2_holdJoined_1 at k3
    by_cases d : p1 = (2 : Int32)
    · have k3 := fd_itp d k3
      rw [if_pos d]
      obtain ⟨_, k3⟩ := fd_gds k3
      obtain ⟨_, k3⟩ := fd_gds k3
      unfold f_X2_holdJoined_1_J34 at k3
      obtain ⟨v6, σ6, k4, k5⟩ := fd_bds k3
      cases k5; cases h
      exact q_X2_hold_1 k4 h1 h4 hl p hE
    · have k3 := fd_itn d k3
      rw [if_neg d]
      obtain ⟨_, k3⟩ := fd_gds k3
      obtain ⟨_, k3⟩ := fd_gds k3
      unfold f_X2_holdJoined_1_J34 at k3
      obtain ⟨v6, σ6, k4, k5⟩ := fd_bds k3
      cases k5; cases h
      exact q_X2_hold_1 k4 h1 h4 hl p hE
  · have h := fd_itn c h
    rw [if_neg c, if_neg c, if_neg c]
    intro h1 h4 hl p hE
    obtain ⟨v19, σ19, k1, h⟩ := fd_bds h
    unfold f_X2_holdStuck_1 at k1
    have stuck : ∀ {x : Int64} {τ : fd_St}, f_X2_stuckRow N p1 σ = some (x, τ) → x = (if p1 = 0 then 0 else -1) ∧ τ = σ := by
      intro x τ q
      unfold f_X2_stuckRow at q
      by_cases e : p1 = 0
      · have q := fd_itp e q
        rw [if_pos e]; cases q; exact ⟨rfl, rfl⟩
      · have q := fd_itn e q
        rw [if_neg e]; cases q; exact ⟨rfl, rfl⟩
    obtain ⟨v2, σ3, k2, k3⟩ := fd_bds k1
    obtain ⟨e1, e2⟩ := stuck k2
    rw [e1, e2] at k3
    obtain ⟨v7, σ8, k4, k5⟩ := fd_bds k3
    obtain ⟨e3, e4⟩ := stuck k4
    rw [e3, e4] at k5
    obtain ⟨v12, σ13, k6, k7⟩ := fd_bds k5
    cases k7; cases h
    exact q_X2_hold_1 k6 h1 h4 hl p hE
theorem q_X11_own_0_10 {N : Nat} {p1 : Int32} {σ : fd_St} {v : Int64} {s : fd_St} (h : f_X11_own_0_10 N p1 σ = some (v, s)) : s = σ ∧ v = (if σ.2.1 1 p1.toNatClampNeg = (-1 : Int32) then σ.2.2 4 p1.toNatClampNeg else fd_tl (σ.2.1 1 p1.toNatClampNeg) (σ.2.2 10 (σ.2.1 2 p1.toNatClampNeg).toNatClampNeg) (σ.2.2 10 (σ.2.1 3 p1.toNatClampNeg).toNatClampNeg)) &&& fd_mk (σ.1 4) := by
  unfold f_X11_own_0_10 at h
  obtain ⟨_, h⟩ := fd_gds h
  by_cases c : σ.2.1 1 p1.toNatClampNeg = (-1 : Int32)
  · have h := fd_itp c h
    rw [if_pos c]
    obtain ⟨_, h⟩ := fd_gds h
    unfold f_X11_own_0_10_J44 at h
    obtain ⟨m, τ, h1, h3⟩ := fd_bds h
    obtain ⟨a, b⟩ := q_X11_mask_0 h1
    rw [a, b] at h3
    cases h3; exact ⟨rfl, rfl⟩
  · have h := fd_itn c h
    rw [if_neg c]
    obtain ⟨_, h⟩ := fd_gds h
    obtain ⟨_, h⟩ := fd_gds h
    obtain ⟨_, h⟩ := fd_gds h
    obtain ⟨_, h⟩ := fd_gds h
    obtain ⟨_, h⟩ := fd_gds h
    obtain ⟨w, ρ, h0, h⟩ := fd_bds h
    unfold f_X11_tell at h0
    obtain ⟨w1, w2⟩ := q_tl h0
    have w1 : w = _ := w1
    have w2 : ρ = σ := w2
    rw [w1, w2] at h
    unfold f_X11_own_0_10_J44 at h
    obtain ⟨m, τ, h1, h3⟩ := fd_bds h
    obtain ⟨a, b⟩ := q_X11_mask_0 h1
    rw [a, b] at h3
    cases h3; exact ⟨rfl, rfl⟩
theorem q_work_L3 {N : Nat} : ∀ (n : Nat) (y1 : Int32) (y2 : Int64) (y4 : Int32) (y5 : Int64) (y7 : Int32) (σ : fd_St) (v : Unit) (s : fd_St), f_X11_work_0_L3 N n y1 y2 y4 y5 y7 σ = some (v, s) → 0 ≤ y7.toInt → 0 ≤ y1.toInt → 0 ≤ y4.toInt → ∀ (w : Nat → Int64) (ra rb : Int64), fd_Go (σ.2.1 1) (σ.2.1 2) (σ.2.1 3) (σ.1 1).toNatClampNeg → y2 &&& fd_mk (σ.1 4) = ra &&& fd_mk (σ.1 4) → (y4 ≠ y1 → y5 &&& fd_mk (σ.1 4) = rb &&& fd_mk (σ.1 4)) → fd_F (σ.2.1 1) (σ.2.1 2) (σ.2.1 3) (σ.2.2 4) y1.toNatClampNeg ra y4.toNatClampNeg rb w (σ.1 1).toNatClampNeg → (∀ i, i < y7.toNatClampNeg → σ.2.2 10 i = w i &&& fd_mk (σ.1 4)) → (∀ i, i < (σ.1 1).toNatClampNeg → s.2.2 10 i = w i &&& fd_mk (σ.1 4)) ∧ s.2.2 9 = σ.2.2 9 ∧ s.2.1 = σ.2.1 := by
  intro n
  induction n with
  | zero => intro y1 y2 y4 y5 y7 σ v s h; cases h
  | succ n ih =>
    intro y1 y2 y4 y5 y7 σ v s h h7 h1 h4 w ra rb ho ha hb hF hp
    unfold f_X11_work_0_L3 at h
    by_cases c : σ.1 1 ≤ y7
    · have h := fd_itp c h
      have c1 := fd_tn (Int32.le_iff_toInt_le.mp c)
      cases h
      exact ⟨fun i hi => hp i (by omega), rfl, rfl⟩
    · have h := fd_itn c h
      have c1 := Int32.lt_iff_toInt_lt.mp (Int32.not_le.mp c)
      have c2 := fd_tl' h7 c1
      have step : ∀ z2 : Int64, z2 = w y7.toNatClampNeg &&& fd_mk (σ.1 4) → f_X11_work_0_J60 N (f_X11_work_0_L3 N n) y1 y2 y4 y5 y7 y7 z2 σ = some (v, s) → (∀ i, i < (σ.1 1).toNatClampNeg → s.2.2 10 i = w i &&& fd_mk (σ.1 4)) ∧ s.2.2 9 = σ.2.2 9 ∧ s.2.1 = σ.2.1 := by
        intro z2 hz h
        unfold f_X11_work_0_J60 at h
        obtain ⟨g1, h⟩ := fd_gds h
        have g2 := vp_in_iff.mp g1
        obtain ⟨σ8, e8, h⟩ := fd_lts h
        obtain ⟨x9, e9, h⟩ := fd_lts h
        obtain ⟨t1, t2⟩ := fd_t1 e9 h7 (by omega)
        have b1 : σ8.1 = σ.1 := by subst e8; rfl
        have b2 : σ8.2.1 = σ.2.1 := by subst e8; rfl
        have b3 : σ8.2.2 4 = σ.2.2 4 := fd_yLn e8 (by decide) rfl
        have b5 : σ8.2.2 9 = σ.2.2 9 := fd_yLn e8 (by decide) rfl
        have b4 : σ8.2.2 10 = vp_updL (σ.2.2 10) y7.toNatClampNeg z2 := fd_yL e8 rfl
        have a := ih _ _ _ _ _ _ _ _ h (by omega) h1 h4 w ra rb
        rw [b1, b2, b3, b4, b5, t2] at a
        refine a ho ha hb hF (fun j hj => ?_)
        by_cases e : j = y7.toNatClampNeg
        · rw [e, fd_uL_eq]; exact hz
        · rw [fd_uL_ne e]; exact hp j (by omega)
      have hw := hF _ c2
      by_cases d : y7 = y1
      · have h := fd_itp d h
        obtain ⟨v18, σ19, k1, h9⟩ := fd_bds h
        obtain ⟨e1, e2⟩ := q_X11_mask_0 k1
        rw [e1, e2] at h9
        refine step _ ?_ h9
        rw [hw, if_pos (by rw [d]), ha]
      · have h := fd_itn d h
        have d1 : ¬ y7.toNatClampNeg = y1.toNatClampNeg := fun q => d ((fd_teq h7 h1).mpr q)
        by_cases d2 : y7 = y4
        · have h := fd_itp d2 h
          obtain ⟨v18, σ19, k1, h9⟩ := fd_bds h
          obtain ⟨e1, e2⟩ := q_X11_mask_0 k1
          rw [e1, e2] at h9
          refine step _ ?_ h9
          rw [hw, if_neg d1, if_pos (by rw [d2]), hb (fun q => d (by rw [d2, q]))]
        · have h := fd_itn d2 h
          have d3 : ¬ y7.toNatClampNeg = y4.toNatClampNeg := fun q => d2 ((fd_teq h7 h4).mpr q)
          obtain ⟨v5, σ6, k1, h9⟩ := fd_bds h
          obtain ⟨e2, e1⟩ := q_X11_own_0_10 k1
          rw [e1, e2] at h9
          refine step _ ?_ h9
          rw [hw, if_neg d1, if_neg d3]
          by_cases kk : σ.2.1 1 y7.toNatClampNeg = (-1 : Int32)
          · rw [if_pos kk, if_pos kk]
          · rw [if_neg kk, if_neg kk]
            obtain ⟨o1, o2⟩ := ho _ c2 kk
            rw [hp _ o1, hp _ o2, fd_tl_m]
