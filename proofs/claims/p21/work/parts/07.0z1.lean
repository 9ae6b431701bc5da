/-- e' is e with v put in at p, m elements long before -/
def fd_ins (e e' : Nat → Int32) (m p : Nat) (v : Int32) : Prop := ∀ j, j ≤ m → e' j = if j < p then e j else if j = p then v else e (j - 1)
theorem fd_ins_lt {e e' : Nat → Int32} {m p j : Nat} {v : Int32} (h : fd_ins e e' m p v) (hp : p ≤ m) (hj : j < p) : e' j = e j := by
  rw [h j (by omega), if_pos hj]
theorem fd_ins_at {e e' : Nat → Int32} {m p : Nat} {v : Int32} (h : fd_ins e e' m p v) (hp : p ≤ m) : e' p = v := by
  rw [h p hp, if_neg (by omega), if_pos rfl]
theorem fd_ins_gt {e e' : Nat → Int32} {m p j : Nat} {v : Int32} (h : fd_ins e e' m p v) (hj : p ≤ j) (hm : j < m) : e' (j + 1) = e j := by
  rw [h (j + 1) (by omega), if_neg (by omega), if_neg (by omega)]
  rw [Nat.add_sub_cancel]
/-- sorted by a key, before and behind -/
theorem fd_ins_s {e e' : Nat → Int32} {m p : Nat} {v : Int32} {κ : Int32 → Int} (h : fd_ins e e' m p v) (hp : p ≤ m) (hs : ∀ j, j + 1 < m → κ (e j) ≤ κ (e (j + 1))) (h1 : p = 0 ∨ κ (e (p - 1)) ≤ κ v) (h2 : ∀ j, p ≤ j → j < m → κ v ≤ κ (e j)) : ∀ j, j + 1 < m + 1 → κ (e' j) ≤ κ (e' (j + 1)) := by
  intro j hj
  by_cases a : j + 1 < p
  · rw [fd_ins_lt h hp (by omega), fd_ins_lt h hp a]; exact hs j (by omega)
  · by_cases b : j + 1 = p
    · rw [fd_ins_lt h hp (by omega : j < p), b, fd_ins_at h hp]
      rcases h1 with h1 | h1
      · omega
      · have e9 : p - 1 = j := by omega
        rw [e9] at h1; exact h1
    · by_cases c : j = p
      · rw [c, fd_ins_at h hp, fd_ins_gt h (by omega) (by omega)]
        exact h2 p (by omega) (by omega)
      · have d : j - 1 + 1 = j := by omega
        have x := fd_ins_gt h (j := j - 1) (by omega) (by omega)
        rw [d] at x
        rw [x, fd_ins_gt h (by omega) (by omega)]
        have y := hs (j - 1) (by omega)
        rw [d] at y; exact y
/-- what was there is there -/
theorem fd_ins_m {e e' : Nat → Int32} {m p : Nat} {v : Int32} (h : fd_ins e e' m p v) (hp : p ≤ m) : (∃ j, j < m + 1 ∧ e' j = v) ∧ ∀ i, i < m → ∃ j, j < m + 1 ∧ e' j = e i := by
  refine ⟨⟨p, by omega, fd_ins_at h hp⟩, fun i hi => ?_⟩
  by_cases a : i < p
  · exact ⟨i, by omega, fd_ins_lt h hp a⟩
  · exact ⟨i + 1, by omega, fd_ins_gt h (by omega) hi⟩
/-- and nothing else -/
theorem fd_ins_p {e e' : Nat → Int32} {m p : Nat} {v : Int32} {P : Int32 → Prop} (h : fd_ins e e' m p v) (hp : p ≤ m) (he : ∀ j, j < m → P (e j)) (hv : P v) : ∀ j, j < m + 1 → P (e' j) := by
  intro j hj
  by_cases a : j < p
  · rw [fd_ins_lt h hp a]; exact he j (by omega)
  · by_cases b : j = p
    · rw [b, fd_ins_at h hp]; exact hv
    · have d : j - 1 + 1 = j := by omega
      have x := fd_ins_gt h (j := j - 1) (by omega) (by omega)
      rw [d] at x
      rw [x]; exact he _ (by omega)
theorem q_putEdge_L2 {N : Nat} (e0 : Nat → Int32) (m : Nat) : ∀ (n : Nat) (y1 y3 : Int32) (σ : fd_St) (v : Unit) (s : fd_St), f_X6_putEdge_11_L2 N n y1 y3 σ = some (v, s) → 0 ≤ y3.toInt → y3.toNatClampNeg ≤ m → (∀ j, j < y3.toNatClampNeg → σ.2.1 38 j = e0 j) → (∀ j, y3.toNatClampNeg < j → j ≤ m → σ.2.1 38 j = e0 (j - 1)) → (∀ j, y3.toNatClampNeg ≤ j → j < m → y1.toInt ≤ (e0 j).toInt) → (s.1 = σ.1 ∧ ∀ d, d ≠ 38 → s.2.1 d = σ.2.1 d) ∧ ∃ p, p ≤ m ∧ (p = 0 ∨ (e0 (p - 1)).toInt ≤ y1.toInt) ∧ (∀ j, p ≤ j → j < m → y1.toInt ≤ (e0 j).toInt) ∧ fd_ins e0 (s.2.1 38) m p y1 := by
  have l0 : (0 : Int32).toInt = 0 := by decide
  have l1 : (1 : Int32).toInt = 1 := by decide
  have lm : (-1 : Int32).toInt = -1 := by decide
  intro n
  induction n with
  | zero => intro y1 y3 σ v s h; cases h
  | succ n ih =>
    intro y1 y3 σ v s h h3 hm ha hb hc
    have put : (y3.toNatClampNeg = 0 ∨ (e0 (y3.toNatClampNeg - 1)).toInt ≤ y1.toInt) → f_X6_putEdge_11_J38 N y1 y3 σ = some (v, s) → (s.1 = σ.1 ∧ ∀ d, d ≠ 38 → s.2.1 d = σ.2.1 d) ∧ ∃ p, p ≤ m ∧ (p = 0 ∨ (e0 (p - 1)).toInt ≤ y1.toInt) ∧ (∀ j, p ≤ j → j < m → y1.toInt ≤ (e0 j).toInt) ∧ fd_ins e0 (s.2.1 38) m p y1 := by
      intro hp h
      unfold f_X6_putEdge_11_J38 at h
      obtain ⟨_, h⟩ := fd_gds h
      obtain ⟨σ3, e3, h⟩ := fd_lts h
      cases h
      refine ⟨⟨by subst e3; rfl, fun d hd => fd_yAn e3 hd rfl⟩, y3.toNatClampNeg, hm, hp, hc, ?_⟩
      intro j hj
      rw [fd_yA e3 rfl]
      by_cases a : j < y3.toNatClampNeg
      · rw [if_pos a, fd_uA_ne (by omega)]; exact ha j a
      · rw [if_neg a]
        by_cases b : j = y3.toNatClampNeg
        · rw [if_pos b, b, fd_uA_eq]
        · rw [if_neg b, fd_uA_ne b]; exact hb j (by omega) hj
    unfold f_X6_putEdge_11_L2 at h
    by_cases c : y3 ≤ 0
    · have h := fd_itp c h
      have c1 := Int32.le_iff_toInt_le.mp c
      exact put (Or.inl (by show y3.toInt.toNat = 0; omega)) h
    · have h := fd_itn c h
      have c1 := Int32.lt_iff_toInt_lt.mp (Int32.not_le.mp c)
      have r3 := fd_rng y3
      have hs := Jvm.Kit.i32_sub (x := y3) (y := (1 : Int32)) (by omega) (by omega)
      have e1 : (y3 - (1 : Int32)).toNatClampNeg = y3.toNatClampNeg - 1 := by
        show (y3 - (1 : Int32)).toInt.toNat = y3.toInt.toNat - 1; omega
      have p1 : 1 ≤ y3.toNatClampNeg := by show 1 ≤ y3.toInt.toNat; omega
      rw [e1] at h
      obtain ⟨_, h⟩ := fd_gds h
      have w := ha (y3.toNatClampNeg - 1) (by omega)
      by_cases d : σ.2.1 38 (y3.toNatClampNeg - 1) ≤ y1
      · have h := fd_itp d h
        have d1 := Int32.le_iff_toInt_le.mp d
        rw [w] at d1
        exact put (Or.inr d1) h
      · have h := fd_itn d h
        have d1 := Int32.lt_iff_toInt_lt.mp (Int32.not_le.mp d)
        rw [w] at d1
        obtain ⟨_, h⟩ := fd_gds h
        obtain ⟨_, h⟩ := fd_gds h
        obtain ⟨σ8, e8, h⟩ := fd_lts h
        obtain ⟨x9, e9, h⟩ := fd_lts h
        have t1 := fd_la e9 (by omega) (by omega)
        have t2 : x9.toNatClampNeg = y3.toNatClampNeg - 1 := by
          show x9.toInt.toNat = y3.toInt.toNat - 1; omega
        have b8 := fd_yA e8 rfl
        obtain ⟨⟨a1, a2⟩, a3⟩ := ih y1 x9 σ8 v s h (by omega) (by omega) (fun j hj => by rw [b8, fd_uA_ne (by omega)]; exact ha j (by omega)) (fun j q1 q2 => by
          rw [b8]
          by_cases q : j = y3.toNatClampNeg
          · rw [q, fd_uA_eq]; exact w
          · rw [fd_uA_ne q]; exact hb j (by omega) q2) (fun j q1 q2 => by
          by_cases q : j = y3.toNatClampNeg - 1
          · rw [q]; omega
          · exact hc j (by omega) q2)
        exact ⟨⟨a1.trans (by subst e8; rfl), fun d hd => (a2 d hd).trans (fd_yAn e8 hd rfl)⟩, a3⟩
theorem q_putBy_L5 {N : Nat} (e0 : Nat → Int32) (m : Nat) : ∀ (n : Nat) (y1 y2 : Int32) (σ : fd_St) (v : Unit) (s : fd_St), f_X6_putByBottom_11_L5 N n y1 y2 σ = some (v, s) → 0 ≤ y2.toInt → y2.toNatClampNeg ≤ m → (∀ j, j < y2.toNatClampNeg → σ.2.1 37 j = e0 j) → (∀ j, y2.toNatClampNeg < j → j ≤ m → σ.2.1 37 j = e0 (j - 1)) → (∀ j, y2.toNatClampNeg ≤ j → j < m → (σ.2.1 34 y1.toNatClampNeg).toInt ≤ (σ.2.1 34 (e0 j).toNatClampNeg).toInt) → (s.1 = σ.1 ∧ ∀ d, d ≠ 37 → s.2.1 d = σ.2.1 d) ∧ ∃ p, p ≤ m ∧ (p = 0 ∨ (σ.2.1 34 (e0 (p - 1)).toNatClampNeg).toInt ≤ (σ.2.1 34 y1.toNatClampNeg).toInt) ∧ (∀ j, p ≤ j → j < m → (σ.2.1 34 y1.toNatClampNeg).toInt ≤ (σ.2.1 34 (e0 j).toNatClampNeg).toInt) ∧ fd_ins e0 (s.2.1 37) m p y1 := by
  have l0 : (0 : Int32).toInt = 0 := by decide
  have l1 : (1 : Int32).toInt = 1 := by decide
  have lm : (-1 : Int32).toInt = -1 := by decide
  intro n
  induction n with
  | zero => intro y1 y2 σ v s h; cases h
  | succ n ih =>
    intro y1 y2 σ v s h h3 hm ha hb hc
    have put : (y2.toNatClampNeg = 0 ∨ (σ.2.1 34 (e0 (y2.toNatClampNeg - 1)).toNatClampNeg).toInt ≤ (σ.2.1 34 y1.toNatClampNeg).toInt) → f_X6_putByBottom_11_J51 N y1 y2 σ = some (v, s) → (s.1 = σ.1 ∧ ∀ d, d ≠ 37 → s.2.1 d = σ.2.1 d) ∧ ∃ p, p ≤ m ∧ (p = 0 ∨ (σ.2.1 34 (e0 (p - 1)).toNatClampNeg).toInt ≤ (σ.2.1 34 y1.toNatClampNeg).toInt) ∧ (∀ j, p ≤ j → j < m → (σ.2.1 34 y1.toNatClampNeg).toInt ≤ (σ.2.1 34 (e0 j).toNatClampNeg).toInt) ∧ fd_ins e0 (s.2.1 37) m p y1 := by
      intro hp h
      unfold f_X6_putByBottom_11_J51 at h
      obtain ⟨_, h⟩ := fd_gds h
      obtain ⟨σ3, e3, h⟩ := fd_lts h
      cases h
      refine ⟨⟨by subst e3; rfl, fun d hd => fd_yAn e3 hd rfl⟩, y2.toNatClampNeg, hm, hp, hc, ?_⟩
      intro j hj
      rw [fd_yA e3 rfl]
      by_cases a : j < y2.toNatClampNeg
      · rw [if_pos a, fd_uA_ne (by omega)]; exact ha j a
      · rw [if_neg a]
        by_cases b : j = y2.toNatClampNeg
        · rw [if_pos b, b, fd_uA_eq]
        · rw [if_neg b, fd_uA_ne b]; exact hb j (by omega) hj
    unfold f_X6_putByBottom_11_L5 at h
    by_cases c : y2 ≤ 0
    · have h := fd_itp c h
      have c1 := Int32.le_iff_toInt_le.mp c
      exact put (Or.inl (by show y2.toInt.toNat = 0; omega)) h
    · have h := fd_itn c h
      have c1 := Int32.lt_iff_toInt_lt.mp (Int32.not_le.mp c)
      have r3 := fd_rng y2
      have hs := Jvm.Kit.i32_sub (x := y2) (y := (1 : Int32)) (by omega) (by omega)
      have e1 : (y2 - (1 : Int32)).toNatClampNeg = y2.toNatClampNeg - 1 := by
        show (y2 - (1 : Int32)).toInt.toNat = y2.toInt.toNat - 1; omega
      have p1 : 1 ≤ y2.toNatClampNeg := by show 1 ≤ y2.toInt.toNat; omega
      rw [e1] at h
      obtain ⟨_, h⟩ := fd_gds h
      obtain ⟨_, h⟩ := fd_gds h
      obtain ⟨_, h⟩ := fd_gds h
      have w := ha (y2.toNatClampNeg - 1) (by omega)
      by_cases d : σ.2.1 34 (σ.2.1 37 (y2.toNatClampNeg - 1)).toNatClampNeg ≤ σ.2.1 34 y1.toNatClampNeg
      · have h := fd_itp d h
        have d1 := Int32.le_iff_toInt_le.mp d
        rw [w] at d1
        exact put (Or.inr d1) h
      · have h := fd_itn d h
        have d1 := Int32.lt_iff_toInt_lt.mp (Int32.not_le.mp d)
        rw [w] at d1
        obtain ⟨_, h⟩ := fd_gds h
        obtain ⟨_, h⟩ := fd_gds h
        obtain ⟨σ8, e8, h⟩ := fd_lts h
        obtain ⟨x9, e9, h⟩ := fd_lts h
        have t1 := fd_la e9 (by omega) (by omega)
        have t2 : x9.toNatClampNeg = y2.toNatClampNeg - 1 := by
          show x9.toInt.toNat = y2.toInt.toNat - 1; omega
        have b8 := fd_yA e8 rfl
        have b34 : σ8.2.1 34 = σ.2.1 34 := fd_yAn e8 (by decide) rfl
        have z := ih y1 x9 σ8 v s h (by omega) (by omega) (fun j hj => by rw [b8, fd_uA_ne (by omega)]; exact ha j (by omega)) (fun j q1 q2 => by
          rw [b8]
          by_cases q : j = y2.toNatClampNeg
          · rw [q, fd_uA_eq]; exact w
          · rw [fd_uA_ne q]; exact hb j (by omega) q2)
        rw [b34] at z
        obtain ⟨⟨a1, a2⟩, a3⟩ := z (fun j q1 q2 => by
          by_cases q : j = y2.toNatClampNeg - 1
          · rw [q]; omega
          · exact hc j (by omega) q2)
        exact ⟨⟨a1.trans (by subst e8; rfl), fun d hd => (a2 d hd).trans (fd_yAn e8 hd rfl)⟩, a3⟩
