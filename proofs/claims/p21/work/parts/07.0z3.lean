theorem fd_rs_in {p : Int → Prop} {a b : Int} (h : a ≤ b) : 0 ≤ fd_rs (fun y => fd_in (p y)) a b ∧ fd_rs (fun y => fd_in (p y)) a b ≤ b - a := by
  unfold fd_rs
  have key : ∀ n, 0 ≤ fd_sm (fun y => fd_in (p y)) a n ∧ fd_sm (fun y => fd_in (p y)) a n ≤ (n : Int) := by
    intro n
    induction n with
    | zero => exact ⟨Int.le_refl _, Int.le_refl _⟩
    | succ n ih =>
      show 0 ≤ fd_sm (fun y => fd_in (p y)) a n + fd_in (p (a + (n : Int))) ∧ fd_sm (fun y => fd_in (p y)) a n + fd_in (p (a + (n : Int))) ≤ ((n + 1 : Nat) : Int)
      by_cases c : p (a + (n : Int))
      · rw [fd_in_t c]; omega
      · rw [fd_in_f c]; omega
  have := key (b - a).toNat
  omega
theorem fd_mono {E : Nat → Int} {m : Nat} (hs : ∀ k, k + 1 < m → E k ≤ E (k + 1)) : ∀ j k, j ≤ k → k < m → E j ≤ E k := by
  have step : ∀ j k, j + k < m → E j ≤ E (j + k) := by
    intro j k
    induction k with
    | zero => intro _; rw [Nat.add_zero]; omega
    | succ k ih => intro h; have a := ih (by omega); have b := hs (j + k) (by omega); rw [← Nat.add_assoc]; omega
  intro j k h1 h2
  have a := step j (k - j) (by omega)
  have b : j + (k - j) = k := by omega
  rw [b] at a; exact a
/-- between two edges nothing begins or ends -/
theorem fd_cons {E : Nat → Int} {m : Nat} {D : Nat → Prop} {lo hi : Nat → Int} (hs : ∀ k, k + 1 < m → E k ≤ E (k + 1)) (hD : ∀ i, D i → (∃ j, j < m ∧ E j = lo i) ∧ ∃ j, j < m ∧ E j = hi i) : ∀ k, k + 1 < m → ∀ x, E k ≤ x → x < E (k + 1) → ∀ i, D i → ((lo i ≤ x ∧ x < hi i) ↔ (lo i ≤ E k ∧ E k < hi i)) := by
  intro k hk x h1 h2 i hi'
  obtain ⟨⟨j, hj, ej⟩, j', hj', ej'⟩ := hD i hi'
  have up := fd_mono hs
  constructor
  · rintro ⟨a, b⟩
    refine ⟨?_, by omega⟩
    by_cases q : j ≤ k
    · have := up j k q (by omega); omega
    · have := up (k + 1) j (by omega) hj; omega
  · rintro ⟨a, b⟩
    refine ⟨by omega, ?_⟩
    by_cases q : j' ≤ k
    · have := up j' k q (by omega); omega
    · have := up (k + 1) j' (by omega) hj'; omega
theorem fd_outs {E : Nat → Int} {m : Nat} {D : Nat → Prop} {lo hi : Nat → Int} (hD : ∀ i, D i → (∃ j, j < m ∧ E j = lo i) ∧ ∃ j, j < m ∧ E j = hi i) : ∀ x, (∀ k, k < m → x < E k) ∨ (∀ k, k < m → E k ≤ x) → ∀ i, D i → ¬ (lo i ≤ x ∧ x < hi i) := by
  rintro x hx i hi' ⟨a, b⟩
  obtain ⟨⟨j, hj, ej⟩, j', hj', ej'⟩ := hD i hi'
  rcases hx with hx | hx
  · have := hx j hj; omega
  · have := hx j' hj'; omega
/-- shape i covers the column x; and the place x, y -/
def fd_cx (X0 X1 : Nat → Int32) (g : Int) (i : Nat) (x : Int) : Prop := (X0 i).toInt - g ≤ x ∧ x < (X1 i).toInt + g
def fd_CV (M : Nat → Prop) (X0 Y0 X1 Y1 : Nat → Int32) (g : Int) (sz : Nat) (x y : Int) : Prop := ∃ i, i < sz ∧ M i ∧ fd_cx X0 X1 g i x ∧ fd_cx Y0 Y1 g i y
/-- how much of a column is covered -/
noncomputable def fd_hg (M : Nat → Prop) (X0 Y0 X1 Y1 : Nat → Int32) (g : Int) (sz : Nat) (x : Int) : Int := fd_rs (fun y => fd_in (fd_CV M X0 Y0 X1 Y1 g sz x y)) (-100) 1100
noncomputable def fd_ar (M : Nat → Prop) (X0 Y0 X1 Y1 : Nat → Int32) (g : Int) (sz : Nat) : Int := fd_rs (fun x => fd_hg M X0 Y0 X1 Y1 g sz x) (-100) 1100
/-- what the first k of the chosen cover of a column -/
def fd_U (X0 Y0 X1 Y1 cb : Nat → Int32) (g : Int) (x : Int) (k : Nat) (y : Int) : Prop := ∃ j, j < k ∧ fd_cx X0 X1 g (cb j).toNatClampNeg x ∧ fd_cx Y0 Y1 g (cb j).toNatClampNeg y
theorem fd_U_n {X0 Y0 X1 Y1 cb : Nat → Int32} {g x : Int} {k : Nat} (h : ¬ fd_cx X0 X1 g (cb k).toNatClampNeg x) (y : Int) : fd_U X0 Y0 X1 Y1 cb g x (k + 1) y ↔ fd_U X0 Y0 X1 Y1 cb g x k y := by
  constructor
  · rintro ⟨j, hj, a, b⟩
    by_cases q : j = k
    · subst q; exact absurd a h
    · exact ⟨j, by omega, a, b⟩
  · rintro ⟨j, hj, a, b⟩
    exact ⟨j, by omega, a, b⟩
theorem fd_U_s {X0 Y0 X1 Y1 cb : Nat → Int32} {g x : Int} {k : Nat} (h : fd_cx X0 X1 g (cb k).toNatClampNeg x) (y : Int) : fd_U X0 Y0 X1 Y1 cb g x (k + 1) y ↔ (fd_U X0 Y0 X1 Y1 cb g x k y ∨ ((Y0 (cb k).toNatClampNeg).toInt - g ≤ y ∧ y < (Y1 (cb k).toNatClampNeg).toInt + g)) := by
  constructor
  · rintro ⟨j, hj, a, b⟩
    by_cases q : j = k
    · subst q; exact Or.inr b
    · exact Or.inl ⟨j, by omega, a, b⟩
  · rintro (⟨j, hj, a, b⟩ | b)
    · exact ⟨j, by omega, a, b⟩
    · exact ⟨k, by omega, h, b⟩
theorem q_heightAt_L9 {N : Nat} : ∀ (n : Nat) (y1 y2 y3 y4 y5 : Int32) (σ : fd_St) (v : Int32) (s : fd_St) (sz : Nat), f_X6_heightAt_11_L9 N n y1 y2 y3 y4 y5 σ = some (v, s) → fd_Sh (σ.2.1 33) (σ.2.1 34) (σ.2.1 35) (σ.2.1 36) sz → (∀ k, k < (σ.1 19).toNatClampNeg → (σ.2.1 37 k).toNatClampNeg < sz) → (∀ k, k + 1 < (σ.1 19).toNatClampNeg → (σ.2.1 34 (σ.2.1 37 k).toNatClampNeg).toInt ≤ (σ.2.1 34 (σ.2.1 37 (k + 1)).toNatClampNeg).toInt) → 0 ≤ y2.toInt → y2.toInt ≤ 100 → 0 ≤ y5.toInt → y5.toInt ≤ (σ.1 19).toInt → (σ.1 19).toInt ≤ 60 → -y2.toInt ≤ y4.toInt → y4.toInt ≤ 1100 → y3.toInt = fd_rs (fun y => fd_in (fd_U (σ.2.1 33) (σ.2.1 34) (σ.2.1 35) (σ.2.1 36) (σ.2.1 37) y2.toInt y1.toInt y5.toNatClampNeg y)) (-100) 1100 → (∀ y, fd_U (σ.2.1 33) (σ.2.1 34) (σ.2.1 35) (σ.2.1 36) (σ.2.1 37) y2.toInt y1.toInt y5.toNatClampNeg y → y < y4.toInt) → (∀ y, -y2.toInt ≤ y → (∀ k, k < y5.toNatClampNeg → fd_cx (σ.2.1 33) (σ.2.1 35) y2.toInt (σ.2.1 37 k).toNatClampNeg y1.toInt → (σ.2.1 34 (σ.2.1 37 k).toNatClampNeg).toInt - y2.toInt ≤ y) → y < y4.toInt → fd_U (σ.2.1 33) (σ.2.1 34) (σ.2.1 35) (σ.2.1 36) (σ.2.1 37) y2.toInt y1.toInt y5.toNatClampNeg y) → s = σ ∧ v.toInt = fd_rs (fun y => fd_in (fd_U (σ.2.1 33) (σ.2.1 34) (σ.2.1 35) (σ.2.1 36) (σ.2.1 37) y2.toInt y1.toInt (σ.1 19).toNatClampNeg y)) (-100) 1100 := by
  intro n
  induction n with
  | zero => intro y1 y2 y3 y4 y5 σ v s sz h; cases h
  | succ n ih =>
    intro y1 y2 y3 y4 y5 σ v s sz h hS hk hb hg0 hg1 h5 h5c h60 h40 h41 h3 hu hv
    unfold f_X6_heightAt_11_L9 at h
    by_cases c : σ.1 19 ≤ y5
    · have h := fd_itp c h
      have c1 := Int32.le_iff_toInt_le.mp c
      have e : y5.toNatClampNeg = (σ.1 19).toNatClampNeg := fd_te (by omega)
      rw [e] at h3
      cases h
      exact ⟨rfl, h3⟩
    · have h := fd_itn c h
      have c1 := Int32.lt_iff_toInt_lt.mp (Int32.not_le.mp c)
      have c2 := fd_tl' h5 c1
      obtain ⟨_, h⟩ := fd_gds h
      obtain ⟨x4, e4, h⟩ := fd_lts h
      obtain ⟨_, h⟩ := fd_gds h
      have hz := hk _ c2
      rw [← e4] at hz
      obtain ⟨⟨sx0, sx1, sx2⟩, sy0, sy1, sy2⟩ := hS _ hz
      have d0 := Jvm.Kit.i32_sub (x := σ.2.1 33 x4.toNatClampNeg) (y := y2) (by omega) (by omega)
      have d1 := Jvm.Kit.i32_add (x := σ.2.1 35 x4.toNatClampNeg) (y := y2) (by omega) (by omega)
      have d2 := Jvm.Kit.i32_sub (x := σ.2.1 34 x4.toNatClampNeg) (y := y2) (by omega) (by omega)
      have d3 := Jvm.Kit.i32_add (x := σ.2.1 36 x4.toNatClampNeg) (y := y2) (by omega) (by omega)
      -- a shape that misses the column
      have miss : ¬ fd_cx (σ.2.1 33) (σ.2.1 35) y2.toInt (σ.2.1 37 y5.toNatClampNeg).toNatClampNeg y1.toInt → f_X6_heightAt_11_J97 N (f_X6_heightAt_11_L9 N n) y1 y2 y3 y4 y5 σ = some (v, s) → s = σ ∧ v.toInt = fd_rs (fun y => fd_in (fd_U (σ.2.1 33) (σ.2.1 34) (σ.2.1 35) (σ.2.1 36) (σ.2.1 37) y2.toInt y1.toInt (σ.1 19).toNatClampNeg y)) (-100) 1100 := by
        intro hm h
        unfold f_X6_heightAt_11_J97 at h
        obtain ⟨x7, e7, h⟩ := fd_lts h
        obtain ⟨t1, t2⟩ := fd_t1 e7 h5 (by omega)
        have un := fun y => fd_U_n (Y0 := σ.2.1 34) (Y1 := σ.2.1 36) hm y
        refine ih _ _ _ _ _ _ _ _ sz h hS hk hb hg0 hg1 (by omega) (by omega) h60 h40 h41 ?_ ?_ ?_
        · rw [t2, h3]
          exact fd_rs_congr (fun y _ _ => fd_in_iff (un y).symm)
        · rw [t2]; exact fun y z => hu y ((un y).mp z)
        · rw [t2]
          intro y q1 q2 q3
          exact (un y).mpr (hv y q1 (fun k z => q2 k (by omega)) q3)
      by_cases a1 : y1 < (σ.2.1 33 x4.toNatClampNeg) - y2
      · have h := fd_itp a1 h
        have a2 := Int32.lt_iff_toInt_lt.mp a1
        exact miss (by rw [← e4]; intro z; have := z.1; omega) h
      · have h := fd_itn a1 h
        have a2 := Int32.le_iff_toInt_le.mp (Int32.not_lt.mp a1)
        obtain ⟨_, h⟩ := fd_gds h
        by_cases b1 : (σ.2.1 35 x4.toNatClampNeg) + y2 ≤ y1
        · have h := fd_itp b1 h
          have b2 := Int32.le_iff_toInt_le.mp b1
          exact miss (by rw [← e4]; intro z; have := z.2; omega) h
        · have h := fd_itn b1 h
          have b2 := Int32.lt_iff_toInt_lt.mp (Int32.not_le.mp b1)
          have hx : fd_cx (σ.2.1 33) (σ.2.1 35) y2.toInt (σ.2.1 37 y5.toNatClampNeg).toNatClampNeg y1.toInt := by
            rw [← e4]; exact ⟨by omega, by omega⟩
          obtain ⟨_, h⟩ := fd_gds h
          obtain ⟨x11, e11, h⟩ := fd_lts h
          obtain ⟨_, h⟩ := fd_gds h
          obtain ⟨x13, e13, h⟩ := fd_lts h
          obtain ⟨x14, e14, h⟩ := fd_lts h
          have m11 : x11.toInt = max ((σ.2.1 34 x4.toNatClampNeg).toInt - y2.toInt) y4.toInt := by
            by_cases q : (σ.2.1 34 x4.toNatClampNeg) - y2 < y4
            · have q1 := Int32.lt_iff_toInt_lt.mp q
              rw [e11, if_pos q]; omega
            · have q1 := Int32.le_iff_toInt_le.mp (Int32.not_lt.mp q)
              rw [e11, if_neg q]; omega
          have m13 : x13.toInt = max ((σ.2.1 36 x4.toNatClampNeg).toInt + y2.toInt) x11.toInt := by
            by_cases q : (σ.2.1 36 x4.toNatClampNeg) + y2 < x11
            · have q1 := Int32.lt_iff_toInt_lt.mp q
              rw [e13, if_pos q]; omega
            · have q1 := Int32.le_iff_toInt_le.mp (Int32.not_lt.mp q)
              rw [e13, if_neg q]; omega
          have bd := fd_rs_in (p := fd_U (σ.2.1 33) (σ.2.1 34) (σ.2.1 35) (σ.2.1 36) (σ.2.1 37) y2.toInt y1.toInt y5.toNatClampNeg) (a := -100) (b := 1100) (by omega)
          have f1 := Jvm.Kit.i32_sub (x := x13) (y := x11) (by omega) (by omega)
          have f2 := fd_la e14 (by omega) (by omega)
          unfold f_X6_heightAt_11_J97 at h
          obtain ⟨x7, e7, h⟩ := fd_lts h
          obtain ⟨t1, t2⟩ := fd_t1 e7 h5 (by omega)
          have us := fun y => fd_U_s (Y0 := σ.2.1 34) (Y1 := σ.2.1 36) hx y
          rw [← e4] at us
          have low : ∀ k, k < y5.toNatClampNeg → (σ.2.1 34 (σ.2.1 37 k).toNatClampNeg).toInt ≤ (σ.2.1 34 x4.toNatClampNeg).toInt := by
            intro k q
            have := fd_mono (E := fun k => (σ.2.1 34 (σ.2.1 37 k).toNatClampNeg).toInt) hb k y5.toNatClampNeg (by omega) c2
            rw [e4]; exact this
          have sw := fd_sweep (U := fd_U (σ.2.1 33) (σ.2.1 34) (σ.2.1 35) (σ.2.1 36) (σ.2.1 37) y2.toInt y1.toInt y5.toNatClampNeg) (b := (σ.2.1 34 x4.toNatClampNeg).toInt - y2.toInt) (t := (σ.2.1 36 x4.toNatClampNeg).toInt + y2.toInt) (ct := y4.toInt) (lo := -100) (hi := 1100) (by omega) (by omega) (by omega) (by omega) hu (fun y q1 q2 => hv y (by omega) (fun k z _ => by have := low k z; omega) q2)
          refine ih _ _ _ _ _ _ _ _ sz h hS hk hb hg0 hg1 (by omega) (by omega) h60 (by omega) (by omega) ?_ ?_ ?_
          · rw [t2]
            have e9 : fd_rs (fun y => fd_in (fd_U (σ.2.1 33) (σ.2.1 34) (σ.2.1 35) (σ.2.1 36) (σ.2.1 37) y2.toInt y1.toInt (y5.toNatClampNeg + 1) y)) (-100) 1100 = _ := (fd_rs_congr (fun y _ _ => fd_in_iff (us y))).trans sw
            rw [e9]; omega
          · rw [t2]
            intro y z
            rcases (us y).mp z with z | z
            · have := hu y z; omega
            · omega
          · rw [t2]
            intro y q1 q2 q3
            refine (us y).mpr ?_
            have q4 := q2 y5.toNatClampNeg (by omega) hx
            rw [← e4] at q4
            by_cases w : y < y4.toInt
            · exact Or.inl (hv y q1 (fun k z => q2 k (by omega)) w)
            · exact Or.inr ⟨q4, by omega⟩
