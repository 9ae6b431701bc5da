theorem fd_rs_b {f : Int → Int} {a b : Int} (h : a ≤ b) (hf : ∀ x, 0 ≤ f x ∧ f x ≤ 1200) : 0 ≤ fd_rs f a b ∧ fd_rs f a b ≤ 1200 * (b - a) := by
  unfold fd_rs
  have key : ∀ n, 0 ≤ fd_sm f a n ∧ fd_sm f a n ≤ 1200 * (n : Int) := by
    intro n
    induction n with
    | zero => exact ⟨Int.le_refl _, Int.le_refl _⟩
    | succ n ih =>
      have := hf (a + (n : Int))
      show 0 ≤ fd_sm f a n + f (a + (n : Int)) ∧ fd_sm f a n + f (a + (n : Int)) ≤ 1200 * ((n + 1 : Nat) : Int)
      omega
  have := key (b - a).toNat
  omega
theorem fd_ar_b (M : Nat → Prop) (X0 Y0 X1 Y1 : Nat → Int32) (g : Int) (sz : Nat) : 0 ≤ fd_ar M X0 Y0 X1 Y1 g sz ∧ fd_ar M X0 Y0 X1 Y1 g sz ≤ 1440000 := by
  have := fd_rs_b (f := fun x => fd_hg M X0 Y0 X1 Y1 g sz x) (a := -100) (b := 1100) (by omega) (fun x => by
    have := fd_rs_in (p := fun y => fd_CV M X0 Y0 X1 Y1 g sz x y) (a := -100) (b := 1100) (by omega)
    unfold fd_hg; omega)
  unfold fd_ar
  omega
theorem fd_one_a (S X0 Y0 X1 Y1 : Nat → Int32) (a : Int32) (g : Int) (sz : Nat) : fd_ar (fun i => S i = a ∨ S i = a) X0 Y0 X1 Y1 g sz = fd_rs (fun x => fd_rs (fun y => fd_in (fd_B S X0 Y0 X1 Y1 a a g sz x y)) (-100) 1100) (-100) 1100 := by
  have := fd_both S X0 Y0 X1 Y1 a a g sz
  omega
theorem fd_Sh_s {X0 Y0 X1 Y1 X0' Y0' X1' Y1' : Nat → Int32} {n m a b c d j1 j2 j3 j4 : Int32} (h : fd_Sh X0 Y0 X1 Y1 n.toNatClampNeg) (h0 : 0 ≤ n.toInt) (hm : m.toInt = n.toInt + 1) (q1 : j1.toInt = n.toInt) (e1 : X0' = upd X0 j1.toNatClampNeg a) (q2 : j2.toInt = n.toInt) (e2 : Y0' = upd Y0 j2.toNatClampNeg b) (q3 : j3.toInt = n.toInt) (e3 : X1' = upd X1 j3.toNatClampNeg c) (q4 : j4.toInt = n.toInt) (e4 : Y1' = upd Y1 j4.toNatClampNeg d) (hr : (0 ≤ a.toInt ∧ a.toInt < c.toInt ∧ c.toInt ≤ 1000) ∧ (0 ≤ b.toInt ∧ b.toInt < d.toInt ∧ d.toInt ≤ 1000)) : fd_Sh X0' Y0' X1' Y1' m.toNatClampNeg := by
  have a1 : j1 = n := Int32.toInt_inj.mp q1
  have a2 : j2 = n := Int32.toInt_inj.mp q2
  have a3 : j3 = n := Int32.toInt_inj.mp q3
  have a4 : j4 = n := Int32.toInt_inj.mp q4
  have a5 : m.toNatClampNeg = n.toNatClampNeg + 1 := by
    show m.toInt.toNat = n.toInt.toNat + 1; omega
  subst e1; subst e2; subst e3; subst e4
  rw [a1, a2, a3, a4, a5]
  intro i hi
  by_cases e : i = n.toNatClampNeg
  · rw [e, fd_uA_eq, fd_uA_eq, fd_uA_eq, fd_uA_eq]; exact hr
  · rw [fd_uA_ne e, fd_uA_ne e, fd_uA_ne e, fd_uA_ne e]; exact h i (by omega)
