theorem fd_ps_b {E : Nat → Int} {H : Int → Int} {m : Nat} (hs : ∀ k, k + 1 < m → E k ≤ E (k + 1)) (hH : ∀ x, 0 ≤ H x ∧ H x ≤ 1200) : ∀ k, k < m → 0 ≤ fd_ps E H k ∧ fd_ps E H k ≤ 1200 * (E k - E 0) := by
  intro k
  induction k with
  | zero => intro _; show 0 ≤ (0 : Int) ∧ (0 : Int) ≤ 1200 * (E 0 - E 0); omega
  | succ k ih =>
    intro h
    have a := ih (by omega)
    have b := hs k h
    have c := hH (E k)
    have d1 : 0 ≤ (E (k + 1) - E k) * H (E k) := Int.mul_nonneg (by omega) c.1
    have d2 : (E (k + 1) - E k) * H (E k) ≤ (E (k + 1) - E k) * 1200 := Int.mul_le_mul_of_nonneg_left c.2 (by omega)
    show 0 ≤ fd_ps E H k + (E (k + 1) - E k) * H (E k) ∧ fd_ps E H k + (E (k + 1) - E k) * H (E k) ≤ 1200 * (E (k + 1) - E 0)
    omega
theorem q_heightAt {N : Nat} {p1 p2 : Int32} {σ : fd_St} {v : Int32} {s : fd_St} {sz : Nat} (h : f_X6_heightAt_11 N p1 p2 σ = some (v, s)) (hS : fd_Sh (σ.2.1 33) (σ.2.1 34) (σ.2.1 35) (σ.2.1 36) sz) (hk : ∀ k, k < (σ.1 19).toNatClampNeg → (σ.2.1 37 k).toNatClampNeg < sz) (hb : ∀ k, k + 1 < (σ.1 19).toNatClampNeg → (σ.2.1 34 (σ.2.1 37 k).toNatClampNeg).toInt ≤ (σ.2.1 34 (σ.2.1 37 (k + 1)).toNatClampNeg).toInt) (hg0 : 0 ≤ p2.toInt) (hg1 : p2.toInt ≤ 100) (hc : 0 ≤ (σ.1 19).toInt) (h60 : (σ.1 19).toInt ≤ 60) : s = σ ∧ v.toInt = fd_rs (fun y => fd_in (fd_U (σ.2.1 33) (σ.2.1 34) (σ.2.1 35) (σ.2.1 36) (σ.2.1 37) p2.toInt p1.toInt (σ.1 19).toNatClampNeg y)) (-100) 1100 := by
  have l0 : (0 : Int32).toInt = 0 := by decide
  have z0 : (0 : Int32).toNatClampNeg = 0 := by decide
  unfold f_X6_heightAt_11 at h
  obtain ⟨x1, e1, h⟩ := fd_lts h
  have en : x1 = (0 : Int32) - p2 := by rw [e1, Int32.zero_sub]
  have t1 := fd_ls en (by omega) (by omega)
  have nU : ∀ y, ¬ fd_U (σ.2.1 33) (σ.2.1 34) (σ.2.1 35) (σ.2.1 36) (σ.2.1 37) p2.toInt p1.toInt (0 : Int32).toNatClampNeg y := by
    rintro y ⟨j, hj, _⟩
    rw [z0] at hj; exact Nat.not_lt_zero j hj
  refine q_heightAt_L9 _ _ _ _ _ _ _ _ _ sz h hS hk hb hg0 hg1 (by omega) (by omega) h60 (by omega) (by omega) ?_ (fun y z => absurd z (nU y)) (fun y q1 _ q3 => by omega)
  rw [fd_rs_const (c := 0) (by omega) (fun y _ _ => fd_in_f (nU y))]
  omega
theorem q_cE_L13 {N : Nat} {sz : Nat} {H : Int → Int} : ∀ (n : Nat) (y3 y4 y5 : Int32) (σ : fd_St) (v : Int32) (s : fd_St), f_X6_coveredByEither_11_L13 N n y3 y4 y5 σ = some (v, s) → fd_Sh (σ.2.1 33) (σ.2.1 34) (σ.2.1 35) (σ.2.1 36) sz → (∀ k, k < (σ.1 19).toNatClampNeg → (σ.2.1 37 k).toNatClampNeg < sz) → (∀ k, k + 1 < (σ.1 19).toNatClampNeg → (σ.2.1 34 (σ.2.1 37 k).toNatClampNeg).toInt ≤ (σ.2.1 34 (σ.2.1 37 (k + 1)).toNatClampNeg).toInt) → 0 ≤ y3.toInt → y3.toInt ≤ 100 → 0 ≤ (σ.1 19).toInt → (σ.1 19).toInt ≤ 60 → (∀ j, j + 1 < 2 * (σ.1 19).toNatClampNeg → (σ.2.1 38 j).toInt ≤ (σ.2.1 38 (j + 1)).toInt) → (∀ j, j < 2 * (σ.1 19).toNatClampNeg → -100 ≤ (σ.2.1 38 j).toInt ∧ (σ.2.1 38 j).toInt ≤ 1100) → (∀ x, H x = fd_rs (fun y => fd_in (fd_U (σ.2.1 33) (σ.2.1 34) (σ.2.1 35) (σ.2.1 36) (σ.2.1 37) y3.toInt x (σ.1 19).toNatClampNeg y)) (-100) 1100) → 1 ≤ y5.toInt → (y5.toInt ≤ 2 * (σ.1 19).toInt ∨ y5.toInt = 1) → y4.toInt = fd_ps (fun j => (σ.2.1 38 j).toInt) H (y5.toNatClampNeg - 1) → s = σ ∧ v.toInt = fd_ps (fun j => (σ.2.1 38 j).toInt) H (2 * (σ.1 19).toNatClampNeg - 1) := by
  have l0 : (0 : Int32).toInt = 0 := by decide
  have l1 : (1 : Int32).toInt = 1 := by decide
  intro n
  induction n with
  | zero => intro y3 y4 y5 σ v s h; cases h
  | succ n ih =>
    intro y3 y4 y5 σ v s h hS hk hb hg0 hg1 hc h60 hs hr hH h5 h5c h4
    have m2 := fd_mul2 (y := σ.1 19) (by omega) (by omega)
    have n5 : (y5.toNatClampNeg : Int) = y5.toInt := by show (y5.toInt.toNat : Int) = y5.toInt; omega
    have n19 : ((σ.1 19).toNatClampNeg : Int) = (σ.1 19).toInt := by show ((σ.1 19).toInt.toNat : Int) = (σ.1 19).toInt; omega
    have hHb : ∀ x, 0 ≤ H x ∧ H x ≤ 1200 := by
      intro x
      have := fd_rs_in (p := fd_U (σ.2.1 33) (σ.2.1 34) (σ.2.1 35) (σ.2.1 36) (σ.2.1 37) y3.toInt x (σ.1 19).toNatClampNeg) (a := -100) (b := 1100) (by omega)
      rw [hH x]; omega
    unfold f_X6_coveredByEither_11_L13 at h
    by_cases c : (2 : Int32) * (σ.1 19) ≤ y5
    · have h := fd_itp c h
      have c1 := Int32.le_iff_toInt_le.mp c
      have e : y5.toNatClampNeg - 1 = 2 * (σ.1 19).toNatClampNeg - 1 := by omega
      rw [e] at h4
      cases h
      exact ⟨rfl, h4⟩
    · have h := fd_itn c h
      have c1 := Int32.lt_iff_toInt_lt.mp (Int32.not_le.mp c)
      have hsb := Jvm.Kit.i32_sub (x := y5) (y := (1 : Int32)) (by omega) (by omega)
      have e1 : (y5 - (1 : Int32)).toNatClampNeg = y5.toNatClampNeg - 1 := by
        show (y5 - (1 : Int32)).toInt.toNat = y5.toInt.toNat - 1; omega
      rw [e1] at h
      have k1 : y5.toNatClampNeg - 1 + 1 = y5.toNatClampNeg := by omega
      have so := hs (y5.toNatClampNeg - 1) (by omega)
      rw [k1] at so
      have r0 := hr (y5.toNatClampNeg - 1) (by omega)
      have r1 := hr y5.toNatClampNeg (by omega)
      obtain ⟨_, h⟩ := fd_gds h
      obtain ⟨_, h⟩ := fd_gds h
      obtain ⟨x9, e9, h⟩ := fd_lts h
      have t9 := fd_ls e9 (by omega) (by omega)
      have pstep : fd_ps (fun j => (σ.2.1 38 j).toInt) H y5.toNatClampNeg = fd_ps (fun j => (σ.2.1 38 j).toInt) H (y5.toNatClampNeg - 1) + ((σ.2.1 38 y5.toNatClampNeg).toInt - (σ.2.1 38 (y5.toNatClampNeg - 1)).toInt) * H (σ.2.1 38 (y5.toNatClampNeg - 1)).toInt := by
        have : fd_ps (fun j => (σ.2.1 38 j).toInt) H (y5.toNatClampNeg - 1 + 1) = fd_ps (fun j => (σ.2.1 38 j).toInt) H (y5.toNatClampNeg - 1) + ((σ.2.1 38 (y5.toNatClampNeg - 1 + 1)).toInt - (σ.2.1 38 (y5.toNatClampNeg - 1)).toInt) * H (σ.2.1 38 (y5.toNatClampNeg - 1)).toInt := rfl
        rw [k1] at this; exact this
      -- one strip further
      have go : ∀ y4' : Int32, y4'.toInt = fd_ps (fun j => (σ.2.1 38 j).toInt) H y5.toNatClampNeg → f_X6_coveredByEither_11_J70 N (f_X6_coveredByEither_11_L13 N n) y3 y4' y5 σ = some (v, s) → s = σ ∧ v.toInt = fd_ps (fun j => (σ.2.1 38 j).toInt) H (2 * (σ.1 19).toNatClampNeg - 1) := by
        intro y4' hy h
        unfold f_X6_coveredByEither_11_J70 at h
        obtain ⟨x11, e11, h⟩ := fd_lts h
        obtain ⟨t1, t2⟩ := fd_t1 e11 (by omega) (by omega)
        have t3 : x11.toNatClampNeg - 1 = y5.toNatClampNeg := by omega
        exact ih _ _ _ _ _ _ h hS hk hb hg0 hg1 hc h60 hs hr hH (by omega) (by omega) (by rw [t3]; exact hy)
      by_cases d : x9 ≤ 0
      · have h := fd_itp d h
        have d1 := Int32.le_iff_toInt_le.mp d
        refine go _ ?_ h
        have z : (σ.2.1 38 y5.toNatClampNeg).toInt - (σ.2.1 38 (y5.toNatClampNeg - 1)).toInt = 0 := by omega
        rw [pstep, z, Int.zero_mul, h4]; omega
      · have h := fd_itn d h
        have d1 := Int32.lt_iff_toInt_lt.mp (Int32.not_le.mp d)
        obtain ⟨_, h⟩ := fd_gds h
        obtain ⟨v14, σ15, k2, h⟩ := fd_bds h
        obtain ⟨es, ev⟩ := q_heightAt k2 hS hk hb hg0 hg1 hc h60
        rw [es] at h
        rw [← hH] at ev
        obtain ⟨x18, e18, h⟩ := fd_lts h
        have hb1 := hHb (σ.2.1 38 (y5.toNatClampNeg - 1)).toInt
        have q1 : 0 ≤ x9.toInt * v14.toInt := Int.mul_nonneg (by omega) (by omega)
        have q2 : x9.toInt * v14.toInt ≤ x9.toInt * 1200 := Int.mul_le_mul_of_nonneg_left (by omega) (by omega)
        have mm := Jvm.Kit.i32_mul (x := x9) (y := v14) (by omega) (by omega)
        have pb := fd_ps_b (E := fun j => (σ.2.1 38 j).toInt) (H := H) hs hHb (y5.toNatClampNeg - 1) (by omega)
        have pb2 : fd_ps (fun j => (σ.2.1 38 j).toInt) H (y5.toNatClampNeg - 1) ≤ 1200 * ((σ.2.1 38 (y5.toNatClampNeg - 1)).toInt - (σ.2.1 38 0).toInt) := pb.2
        have r00 := hr 0 (by omega)
        have t18 := fd_la e18 (by omega) (by omega)
        refine go _ ?_ h
        rw [pstep, t18, mm, h4, t9, ev]
theorem q_choose {N : Nat} {p1 p2 p3 : Int32} {σ : fd_St} {u : Unit} {s : fd_St} (h : f_X6_choose_11 N p1 p2 p3 σ = some (u, s)) (hz : 0 ≤ (σ.1 18).toInt) (h60 : (σ.1 18).toInt ≤ 60) (hg0 : 0 ≤ p3.toInt) (hg1 : p3.toInt ≤ 100) (hS : fd_Sh (σ.2.1 33) (σ.2.1 34) (σ.2.1 35) (σ.2.1 36) (σ.1 18).toNatClampNeg) : (s.1 18 = σ.1 18 ∧ ∀ d, d ≠ 37 → d ≠ 38 → s.2.1 d = σ.2.1 d) ∧ (0 ≤ (s.1 19).toInt ∧ (s.1 19).toInt ≤ (σ.1 18).toInt) ∧ fd_ch (σ.2.1 32) (σ.2.1 33) (σ.2.1 34) (σ.2.1 35) p1 p2 p3 (s.2.1 38) (s.2.1 37) (s.1 19).toNatClampNeg (σ.1 18).toNatClampNeg := by
  have l0 : (0 : Int32).toInt = 0 := by decide
  have z0 : (0 : Int32).toNatClampNeg = 0 := by decide
  unfold f_X6_choose_11 at h
  obtain ⟨σ1, e1, h⟩ := fd_lts h
  have b18 : σ1.1 18 = σ.1 18 := fd_tN e1 (by decide)
  have b19 : σ1.1 19 = 0 := fd_tI e1
  have b2 : σ1.2.1 = σ.2.1 := by subst e1; rfl
  have z := q_choose_L8 _ _ _ _ _ _ _ _ h (by omega)
  rw [b18, b19, b2, z0, l0] at z
  obtain ⟨⟨a1, a2⟩, a3⟩ := z hz h60 (by omega) (by omega) hg0 hg1 hS ⟨fun j q => by omega, fun j q => by omega, fun i q => by omega, fun k q => by omega, fun i q => by omega, fun k q => by omega⟩
  exact ⟨⟨a1, a2⟩, a3⟩
theorem q_X6_coveredByEither_11 {N : Nat} {p1 p2 p3 : Int32} {σ : fd_St} {v : Int32} {s : fd_St} (h : f_X6_coveredByEither_11 N p1 p2 p3 σ = some (v, s)) (hz : 0 ≤ (σ.1 18).toInt) (h60 : (σ.1 18).toInt ≤ 60) (hg0 : 0 ≤ p3.toInt) (hg1 : p3.toInt ≤ 100) (hS : fd_Sh (σ.2.1 33) (σ.2.1 34) (σ.2.1 35) (σ.2.1 36) (σ.1 18).toNatClampNeg) : (s.1 18 = σ.1 18 ∧ ∀ d, d ≠ 37 → d ≠ 38 → s.2.1 d = σ.2.1 d) ∧ v.toInt = fd_ar (fun i => σ.2.1 32 i = p1 ∨ σ.2.1 32 i = p2) (σ.2.1 33) (σ.2.1 34) (σ.2.1 35) (σ.2.1 36) p3.toInt (σ.1 18).toNatClampNeg := by
  have l0 : (0 : Int32).toInt = 0 := by decide
  have l1 : (1 : Int32).toInt = 1 := by decide
  unfold f_X6_coveredByEither_11 at h
  obtain ⟨u, σ3, k1, h⟩ := fd_bds h
  obtain ⟨⟨a1, a2⟩, a3, c1, c2, c3, c4, c5, c6⟩ := q_choose k1 hz h60 hg0 hg1 hS
  have r33 := a2 33 (by decide) (by decide)
  have r34 := a2 34 (by decide) (by decide)
  have r35 := a2 35 (by decide) (by decide)
  have r36 := a2 36 (by decide) (by decide)
  have hU : ∀ x y, fd_U (σ3.2.1 33) (σ3.2.1 34) (σ3.2.1 35) (σ3.2.1 36) (σ3.2.1 37) p3.toInt x (σ3.1 19).toNatClampNeg y ↔ fd_CV (fun i => σ.2.1 32 i = p1 ∨ σ.2.1 32 i = p2) (σ.2.1 33) (σ.2.1 34) (σ.2.1 35) (σ.2.1 36) p3.toInt (σ.1 18).toNatClampNeg x y := by
    intro x y
    rw [r33, r34, r35, r36]
    constructor
    · rintro ⟨j, hj, q1, q2⟩
      exact ⟨_, (c4 j hj).1, (c4 j hj).2, q1, q2⟩
    · rintro ⟨i, hi, m, q1, q2⟩
      obtain ⟨k, hk, ek⟩ := c5 i hi m
      exact ⟨k, hk, by rw [ek]; exact q1, by rw [ek]; exact q2⟩
  have e1 : (1 : Int32).toNatClampNeg - 1 = 0 := by decide
  obtain ⟨es, ev⟩ := q_cE_L13 (sz := (σ.1 18).toNatClampNeg) (H := fun x => fd_hg (fun i => σ.2.1 32 i = p1 ∨ σ.2.1 32 i = p2) (σ.2.1 33) (σ.2.1 34) (σ.2.1 35) (σ.2.1 36) p3.toInt (σ.1 18).toNatClampNeg x) _ _ _ _ _ _ _ h (by rw [r33, r34, r35, r36]; exact hS) (fun k hk => (c4 k hk).1) (by rw [r34]; exact c6) hg0 hg1 a3.1 (by omega) c1 c2 (fun x => fd_rs_congr (fun y _ _ => fd_in_iff (hU x y).symm)) (by omega) (Or.inr (by omega)) (by rw [e1, l0]; rfl)
  have f3 : s = σ3 := es
  rw [f3]
  refine ⟨⟨a1, a2⟩, ?_⟩
  rw [ev]
  have hD : ∀ i, (i < (σ.1 18).toNatClampNeg ∧ (σ.2.1 32 i = p1 ∨ σ.2.1 32 i = p2)) → (∃ j, j < 2 * (σ3.1 19).toNatClampNeg ∧ (fun j => (σ3.2.1 38 j).toInt) j = (fun i => (σ.2.1 33 i).toInt - p3.toInt) i) ∧ ∃ j, j < 2 * (σ3.1 19).toNatClampNeg ∧ (fun j => (σ3.2.1 38 j).toInt) j = (fun i => (σ.2.1 35 i).toInt + p3.toInt) i := fun i q => c3 i q.1 q.2
  refine fd_strips (by omega) c1 (fun k hk x q1 q2 => ?_) c2 (fun x hx => ?_)
  · have cc := fd_cons c1 hD k hk x q1 q2
    show fd_rs _ (-100) 1100 = fd_rs _ (-100) 1100
    refine fd_rs_congr (fun y _ _ => fd_in_iff ?_)
    constructor
    · rintro ⟨i, hi, m, w1, w2⟩
      exact ⟨i, hi, m, (cc i ⟨hi, m⟩).mp w1, w2⟩
    · rintro ⟨i, hi, m, w1, w2⟩
      exact ⟨i, hi, m, (cc i ⟨hi, m⟩).mpr w1, w2⟩
  · have oo := fd_outs hD x hx
    show fd_rs _ (-100) 1100 = 0
    rw [fd_rs_const (c := 0) (by omega) (fun y _ _ => fd_in_f ?_), Int.mul_zero]
    rintro ⟨i, hi, m, w1, w2⟩
    exact oo i ⟨hi, m⟩ w1
