/-- what both sides have in common -/
def fd_R (σ μ : fd_St) : Prop := (σ.1 1).toInt = (μ.1 1).toInt ∧ (σ.1 2).toInt = (μ.1 2).toInt ∧ (σ.1 3).toInt = (μ.1 4).toInt ∧ (σ.1 4).toInt = (μ.1 3).toInt ∧ (σ.1 16).toInt = (μ.1 12).toInt ∧ (σ.1 17).toInt = (μ.1 13).toInt ∧ (σ.1 18).toInt = (μ.1 14).toInt ∧ σ.2.2 30 = μ.2.2 20 ∧ σ.2.2 31 = μ.2.2 21
theorem fd_e_gd {p : Prop} {t : Option Int32} (hp : p) (h : t = some 1) : fd_gd p t = some 1 := by rw [fd_gdp hp]; exact h
theorem fd_e_lt {α : Type} {x : α} {f : α → Option Int32} (h : ∀ y, y = x → f y = some 1) : fd_lt x f = some 1 := h x rfl
theorem fd_e_bd {α : Type} {o : Option (α × fd_St)} {P : α → fd_St → Prop} {f : α → fd_St → Option Int32} (h : fd_ok o P) (k : ∀ v s, P v s → f v s = some 1) : fd_bd o f = some 1 := by
  obtain ⟨v, s, h1, h2⟩ := h
  rw [h1]; exact k v s h2
theorem fd_e_th {N : Nat} {S : fd_St} {f : Int32 → fd_St → Option Int32} (h : f (S.1 0) S = some 1) : fd_bd (f_X11_thrown_0 N S) f = some 1 := by
  unfold f_X11_thrown_0; exact h
theorem fd_e_itp {c : Prop} [Decidable c] {t e : Option Int32} (hc : c) (ht : t = some 1) : (if c then t else e) = some 1 := by rw [if_pos hc]; exact ht
theorem fd_e_ite {c : Prop} [Decidable c] {t e : Option Int32} (ht : c → t = some 1) (he : ¬ c → e = some 1) : (if c then t else e) = some 1 := by
  by_cases h : c
  · rw [if_pos h]; exact ht h
  · rw [if_neg h]; exact he h
theorem fd_lgL {a b : Int64} (h : a = b) : lg_cmp a b = 0 := by
  subst h
  unfold lg_cmp
  rw [if_neg (Int64.lt_irrefl (a := a)), if_pos rfl]
theorem fd_lg {a : Int64} {b : Int32} (h : a.toInt = b.toInt) : lg_cmp a b.toInt64 = 0 := fd_lgL (Int64.toInt_inj.mp (by rw [h]; exact (Int32.toInt_toInt64 b).symm))
theorem fd_gk {i k : Int32} {L : Nat} (h0 : 0 ≤ i.toInt) (h1 : i.toInt + 6 ≤ (L : Int)) (hL : L ≤ 3072) (hk : 0 ≤ k.toInt ∧ k.toInt < 6) : vp_in (i + k) L := by
  have a := Jvm.Kit.i32_add (x := i) (y := k) (by omega) (by omega)
  exact vp_in_iff.mpr ⟨by omega, by omega⟩
theorem fd_ofN {L : Nat} (h : L ≤ 3072) : (Int32.ofNat L).toInt = (L : Int) := nI_toInt (n := L) (by omega)
set_option maxHeartbeats 4000000 in
theorem u_c0 (N L : Nat) (hN : 1000 ≤ N) (hL : L ≤ 3072) (xs : Nat → Int32) (K : Int32 → fd_St → fd_St → Option Int32) (i : Int32) (σ μ : fd_St) (iC : fd_InvC σ) (iM : fd_InvM μ) (r : fd_R σ μ) (h0 : 0 ≤ i.toInt) (h1 : i.toInt + 6 ≤ (L : Int)) (hK : ∀ (j : Int32) (σ1 μ1 : fd_St), fd_InvC σ1 → fd_InvM μ1 → fd_R σ1 μ1 → j.toInt = i.toInt + 6 → K j σ1 μ1 = some 1) : f_law_c0 N L xs K i σ μ = some 1 := by
  have lit0 : (0 : Int32).toInt = 0 := by decide
  have lit6 : (6 : Int32).toInt = 6 := by decide
  obtain ⟨r0, r1, r2, r3, r4, r5, r6, rr0, rr1⟩ := r
  unfold f_law_c0
  refine fd_e_bd (s_L_input_0_39 N hN _ iC) ?_
  rintro v_1 s_2 ⟨i_3, f_4, x_5, y_6, y_7⟩
  have t_8 : (s_2.1 3).toInt = (σ.1 3).toInt := congrArg Int32.toInt (f_4.1 3 (by decide))
  have t_9 : (s_2.1 4).toInt = (σ.1 4).toInt := congrArg Int32.toInt (f_4.1 4 (by decide))
  have t_10 : (s_2.1 16).toInt = (σ.1 16).toInt := congrArg Int32.toInt (f_4.1 16 (by decide))
  have t_11 : (s_2.1 17).toInt = (σ.1 17).toInt := congrArg Int32.toInt (f_4.1 17 (by decide))
  have t_12 : (s_2.1 18).toInt = (σ.1 18).toInt := congrArg Int32.toInt (f_4.1 18 (by decide))
  have w_13 : s_2.2.2 30 = σ.2.2 30 := f_4.2.2 30 (by decide)
  have w_14 : s_2.2.2 31 = σ.2.2 31 := f_4.2.2 31 (by decide)
  refine fd_e_bd (s_X11_input_0 N hN _ iM) ?_
  rintro v_15 s_16 ⟨i_17, f_18, x_19, y_20, y_21⟩
  have t_22 : (s_16.1 4).toInt = (μ.1 4).toInt := congrArg Int32.toInt (f_18.1 4 (by decide))
  have t_23 : (s_16.1 3).toInt = (μ.1 3).toInt := congrArg Int32.toInt (f_18.1 3 (by decide))
  have t_24 : (s_16.1 12).toInt = (μ.1 12).toInt := congrArg Int32.toInt (f_18.1 12 (by decide))
  have t_25 : (s_16.1 13).toInt = (μ.1 13).toInt := congrArg Int32.toInt (f_18.1 13 (by decide))
  have t_26 : (s_16.1 14).toInt = (μ.1 14).toInt := congrArg Int32.toInt (f_18.1 14 (by decide))
  have w_27 : s_16.2.2 20 = μ.2.2 20 := f_18.2.2 20 (by decide)
  have w_28 : s_16.2.2 21 = μ.2.2 21 := f_18.2.2 21 (by decide)
  have e_29 : s_2.2.2 30 = s_16.2.2 20 := (w_13.trans rr0).trans w_27.symm
  have e_30 : s_2.2.2 31 = s_16.2.2 21 := (w_14.trans rr1).trans w_28.symm
  refine fd_e_lt (fun y_31 ey_31 => ?_)
  have t_32 := fd_la ey_31 (by omega) (by omega)
  have r_33 : fd_R s_2 s_16 := ⟨by omega, by omega, by omega, by omega, by omega, by omega, by omega, e_29, e_30⟩
  exact hK _ _ _ i_3 i_17 r_33 (by omega)
set_option maxHeartbeats 4000000 in
theorem u_c1 (N L : Nat) (hN : 1000 ≤ N) (hL : L ≤ 3072) (xs : Nat → Int32) (K : Int32 → fd_St → fd_St → Option Int32) (i : Int32) (σ μ : fd_St) (iC : fd_InvC σ) (iM : fd_InvM μ) (r : fd_R σ μ) (h0 : 0 ≤ i.toInt) (h1 : i.toInt + 6 ≤ (L : Int)) (hK : ∀ (j : Int32) (σ1 μ1 : fd_St), fd_InvC σ1 → fd_InvM μ1 → fd_R σ1 μ1 → j.toInt = i.toInt + 6 → K j σ1 μ1 = some 1) : f_law_c1 N L xs K i σ μ = some 1 := by
  have lit0 : (0 : Int32).toInt = 0 := by decide
  have lit6 : (6 : Int32).toInt = 6 := by decide
  obtain ⟨r0, r1, r2, r3, r4, r5, r6, rr0, rr1⟩ := r
  unfold f_law_c1
  generalize xs (i + (1 : Int32)).toNatClampNeg = b1
  generalize xs (i + (2 : Int32)).toNatClampNeg = b2
  generalize xs (i + (3 : Int32)).toNatClampNeg = b3
  refine fd_e_gd (fd_gk h0 h1 hL (by decide)) ?_
  refine fd_e_gd (fd_gk h0 h1 hL (by decide)) ?_
  refine fd_e_gd (fd_gk h0 h1 hL (by decide)) ?_
  refine fd_e_bd (s_L_gate_0_39 N hN _ _ _ _ iC) ?_
  rintro v_1 s_2 ⟨i_3, f_4, x_5, y_6, y_7, y_8, y_9, y_10⟩
  have t_11 : (s_2.1 2).toInt = (σ.1 2).toInt := congrArg Int32.toInt (f_4.1 2 (by decide))
  have t_12 : (s_2.1 3).toInt = (σ.1 3).toInt := congrArg Int32.toInt (f_4.1 3 (by decide))
  have t_13 : (s_2.1 4).toInt = (σ.1 4).toInt := congrArg Int32.toInt (f_4.1 4 (by decide))
  have t_14 : (s_2.1 16).toInt = (σ.1 16).toInt := congrArg Int32.toInt (f_4.1 16 (by decide))
  have t_15 : (s_2.1 17).toInt = (σ.1 17).toInt := congrArg Int32.toInt (f_4.1 17 (by decide))
  have t_16 : (s_2.1 18).toInt = (σ.1 18).toInt := congrArg Int32.toInt (f_4.1 18 (by decide))
  have w_17 : s_2.2.2 30 = σ.2.2 30 := f_4.2.2 30 (by decide)
  have w_18 : s_2.2.2 31 = σ.2.2 31 := f_4.2.2 31 (by decide)
  refine fd_e_gd (fd_gk h0 h1 hL (by decide)) ?_
  refine fd_e_gd (fd_gk h0 h1 hL (by decide)) ?_
  refine fd_e_gd (fd_gk h0 h1 hL (by decide)) ?_
  refine fd_e_bd (s_X11_gate_0 N hN _ _ _ _ iM) ?_
  rintro v_19 s_20 ⟨i_21, f_22, x_23, y_24, y_25, y_26⟩
  have t_27 : (s_20.1 2).toInt = (μ.1 2).toInt := congrArg Int32.toInt (f_22.1 2 (by decide))
  have t_28 : (s_20.1 4).toInt = (μ.1 4).toInt := congrArg Int32.toInt (f_22.1 4 (by decide))
  have t_29 : (s_20.1 3).toInt = (μ.1 3).toInt := congrArg Int32.toInt (f_22.1 3 (by decide))
  have t_30 : (s_20.1 12).toInt = (μ.1 12).toInt := congrArg Int32.toInt (f_22.1 12 (by decide))
  have t_31 : (s_20.1 13).toInt = (μ.1 13).toInt := congrArg Int32.toInt (f_22.1 13 (by decide))
  have t_32 : (s_20.1 14).toInt = (μ.1 14).toInt := congrArg Int32.toInt (f_22.1 14 (by decide))
  have w_33 : s_20.2.2 20 = μ.2.2 20 := f_22.2.2 20 (by decide)
  have w_34 : s_20.2.2 21 = μ.2.2 21 := f_22.2.2 21 (by decide)
  have e_35 : s_2.2.2 30 = s_20.2.2 20 := (w_17.trans rr0).trans w_33.symm
  have e_36 : s_2.2.2 31 = s_20.2.2 21 := (w_18.trans rr1).trans w_34.symm
  refine fd_e_lt (fun y_37 ey_37 => ?_)
  have t_38 := fd_la ey_37 (by omega) (by omega)
  have r_39 : fd_R s_2 s_20 := ⟨by omega, by omega, by omega, by omega, by omega, by omega, by omega, e_35, e_36⟩
  exact hK _ _ _ i_3 i_21 r_39 (by omega)
set_option maxHeartbeats 4000000 in
theorem u_c2 (N L : Nat) (hN : 1000 ≤ N) (hL : L ≤ 3072) (xs : Nat → Int32) (K : Int32 → fd_St → fd_St → Option Int32) (i : Int32) (σ μ : fd_St) (iC : fd_InvC σ) (iM : fd_InvM μ) (r : fd_R σ μ) (h0 : 0 ≤ i.toInt) (h1 : i.toInt + 6 ≤ (L : Int)) (hK : ∀ (j : Int32) (σ1 μ1 : fd_St), fd_InvC σ1 → fd_InvM μ1 → fd_R σ1 μ1 → j.toInt = i.toInt + 6 → K j σ1 μ1 = some 1) : f_law_c2 N L xs K i σ μ = some 1 := by
  have lit0 : (0 : Int32).toInt = 0 := by decide
  have lit6 : (6 : Int32).toInt = 6 := by decide
  obtain ⟨r0, r1, r2, r3, r4, r5, r6, rr0, rr1⟩ := r
  unfold f_law_c2
  generalize xs (i + (1 : Int32)).toNatClampNeg = b1
  refine fd_e_gd (fd_gk h0 h1 hL (by decide)) ?_
  refine fd_e_bd (s_L_output_0_39 N hN _ _ iC) ?_
  rintro v_1 s_2 ⟨i_3, f_4, x_5, y_6, y_7⟩
  have t_8 : (s_2.1 1).toInt = (σ.1 1).toInt := congrArg Int32.toInt (f_4.1 1 (by decide))
  have t_9 : (s_2.1 2).toInt = (σ.1 2).toInt := congrArg Int32.toInt (f_4.1 2 (by decide))
  have t_10 : (s_2.1 3).toInt = (σ.1 3).toInt := congrArg Int32.toInt (f_4.1 3 (by decide))
  have t_11 : (s_2.1 16).toInt = (σ.1 16).toInt := congrArg Int32.toInt (f_4.1 16 (by decide))
  have t_12 : (s_2.1 17).toInt = (σ.1 17).toInt := congrArg Int32.toInt (f_4.1 17 (by decide))
  have t_13 : (s_2.1 18).toInt = (σ.1 18).toInt := congrArg Int32.toInt (f_4.1 18 (by decide))
  have w_14 : s_2.2.2 30 = σ.2.2 30 := f_4.2.2 30 (by decide)
  have w_15 : s_2.2.2 31 = σ.2.2 31 := f_4.2.2 31 (by decide)
  refine fd_e_gd (fd_gk h0 h1 hL (by decide)) ?_
  refine fd_e_bd (s_X11_output_0 N hN _ _ iM) ?_
  rintro v_16 s_17 ⟨i_18, f_19, x_20, y_21, y_22⟩
  have t_23 : (s_17.1 1).toInt = (μ.1 1).toInt := congrArg Int32.toInt (f_19.1 1 (by decide))
  have t_24 : (s_17.1 2).toInt = (μ.1 2).toInt := congrArg Int32.toInt (f_19.1 2 (by decide))
  have t_25 : (s_17.1 4).toInt = (μ.1 4).toInt := congrArg Int32.toInt (f_19.1 4 (by decide))
  have t_26 : (s_17.1 12).toInt = (μ.1 12).toInt := congrArg Int32.toInt (f_19.1 12 (by decide))
  have t_27 : (s_17.1 13).toInt = (μ.1 13).toInt := congrArg Int32.toInt (f_19.1 13 (by decide))
  have t_28 : (s_17.1 14).toInt = (μ.1 14).toInt := congrArg Int32.toInt (f_19.1 14 (by decide))
  have w_29 : s_17.2.2 20 = μ.2.2 20 := f_19.2.2 20 (by decide)
  have w_30 : s_17.2.2 21 = μ.2.2 21 := f_19.2.2 21 (by decide)
  have e_31 : s_2.2.2 30 = s_17.2.2 20 := (w_14.trans rr0).trans w_29.symm
  have e_32 : s_2.2.2 31 = s_17.2.2 21 := (w_15.trans rr1).trans w_30.symm
  refine fd_e_lt (fun y_33 ey_33 => ?_)
  have t_34 := fd_la ey_33 (by omega) (by omega)
  have r_35 : fd_R s_2 s_17 := ⟨by omega, by omega, by omega, by omega, by omega, by omega, by omega, e_31, e_32⟩
  exact hK _ _ _ i_3 i_18 r_35 (by omega)
set_option maxHeartbeats 4000000 in
theorem u_c3 (N L : Nat) (hN : 1000 ≤ N) (hL : L ≤ 3072) (xs : Nat → Int32) (K : Int32 → fd_St → fd_St → Option Int32) (i : Int32) (σ μ : fd_St) (iC : fd_InvC σ) (iM : fd_InvM μ) (r : fd_R σ μ) (h0 : 0 ≤ i.toInt) (h1 : i.toInt + 6 ≤ (L : Int)) (hK : ∀ (j : Int32) (σ1 μ1 : fd_St), fd_InvC σ1 → fd_InvM μ1 → fd_R σ1 μ1 → j.toInt = i.toInt + 6 → K j σ1 μ1 = some 1) : f_law_c3 N L xs K i σ μ = some 1 := by
  have lit0 : (0 : Int32).toInt = 0 := by decide
  have lit6 : (6 : Int32).toInt = 6 := by decide
  obtain ⟨r0, r1, r2, r3, r4, r5, r6, rr0, rr1⟩ := r
  unfold f_law_c3
  generalize xs (i + (1 : Int32)).toNatClampNeg = b1
  refine fd_e_gd (fd_gk h0 h1 hL (by decide)) ?_
  refine fd_e_bd (s_L_patterns_0_39 N hN _ _ iC) ?_
  rintro v_1 s_2 ⟨i_3, f_4, x_5⟩
  have t_6 : (s_2.1 1).toInt = (σ.1 1).toInt := congrArg Int32.toInt (f_4.1 1 (by decide))
  have t_7 : (s_2.1 2).toInt = (σ.1 2).toInt := congrArg Int32.toInt (f_4.1 2 (by decide))
  have t_8 : (s_2.1 4).toInt = (σ.1 4).toInt := congrArg Int32.toInt (f_4.1 4 (by decide))
  have t_9 : (s_2.1 16).toInt = (σ.1 16).toInt := congrArg Int32.toInt (f_4.1 16 (by decide))
  have t_10 : (s_2.1 17).toInt = (σ.1 17).toInt := congrArg Int32.toInt (f_4.1 17 (by decide))
  have t_11 : (s_2.1 18).toInt = (σ.1 18).toInt := congrArg Int32.toInt (f_4.1 18 (by decide))
  have w_12 : s_2.2.2 30 = σ.2.2 30 := f_4.2.2 30 (by decide)
  have w_13 : s_2.2.2 31 = σ.2.2 31 := f_4.2.2 31 (by decide)
  refine fd_e_gd (fd_gk h0 h1 hL (by decide)) ?_
  refine fd_e_bd (s_X11_patterns_0 N hN _ _ iM) ?_
  rintro v_14 s_15 ⟨i_16, f_17, x_18⟩
  have t_19 : (s_15.1 1).toInt = (μ.1 1).toInt := congrArg Int32.toInt (f_17.1 1 (by decide))
  have t_20 : (s_15.1 2).toInt = (μ.1 2).toInt := congrArg Int32.toInt (f_17.1 2 (by decide))
  have t_21 : (s_15.1 3).toInt = (μ.1 3).toInt := congrArg Int32.toInt (f_17.1 3 (by decide))
  have t_22 : (s_15.1 12).toInt = (μ.1 12).toInt := congrArg Int32.toInt (f_17.1 12 (by decide))
  have t_23 : (s_15.1 13).toInt = (μ.1 13).toInt := congrArg Int32.toInt (f_17.1 13 (by decide))
  have t_24 : (s_15.1 14).toInt = (μ.1 14).toInt := congrArg Int32.toInt (f_17.1 14 (by decide))
  have w_25 : s_15.2.2 20 = μ.2.2 20 := f_17.2.2 20 (by decide)
  have w_26 : s_15.2.2 21 = μ.2.2 21 := f_17.2.2 21 (by decide)
  have e_27 : s_2.2.2 30 = s_15.2.2 20 := (w_12.trans rr0).trans w_25.symm
  have e_28 : s_2.2.2 31 = s_15.2.2 21 := (w_13.trans rr1).trans w_26.symm
  refine fd_e_lt (fun y_29 ey_29 => ?_)
  have t_30 := fd_la ey_29 (by omega) (by omega)
  have r_31 : fd_R s_2 s_15 := ⟨by omega, by omega, by omega, by omega, by omega, by omega, by omega, e_27, e_28⟩
  exact hK _ _ _ i_3 i_16 r_31 (by omega)
set_option maxHeartbeats 4000000 in
theorem u_c4 (N L : Nat) (hN : 1000 ≤ N) (hL : L ≤ 3072) (xs : Nat → Int32) (K : Int32 → fd_St → fd_St → Option Int32) (i : Int32) (σ μ : fd_St) (iC : fd_InvC σ) (iM : fd_InvM μ) (r : fd_R σ μ) (h0 : 0 ≤ i.toInt) (h1 : i.toInt + 6 ≤ (L : Int)) (hK : ∀ (j : Int32) (σ1 μ1 : fd_St), fd_InvC σ1 → fd_InvM μ1 → fd_R σ1 μ1 → j.toInt = i.toInt + 6 → K j σ1 μ1 = some 1) : f_law_c4 N L xs K i σ μ = some 1 := by
  have lit0 : (0 : Int32).toInt = 0 := by decide
  have lit6 : (6 : Int32).toInt = 6 := by decide
  obtain ⟨r0, r1, r2, r3, r4, r5, r6, rr0, rr1⟩ := r
  unfold f_law_c4
  generalize xs (i + (1 : Int32)).toNatClampNeg = b1
  generalize xs (i + (2 : Int32)).toNatClampNeg = b2
  generalize xs (i + (3 : Int32)).toNatClampNeg = b3
  refine fd_e_gd (fd_gk h0 h1 hL (by decide)) ?_
  refine fd_e_gd (fd_gk h0 h1 hL (by decide)) ?_
  refine fd_e_gd (fd_gk h0 h1 hL (by decide)) ?_
  refine fd_e_bd (s_L_pattern_0_39 N hN _ _ _ iC) ?_
  rintro v_1 s_2 ⟨i_3, f_4, x_5, y_6, y_7⟩
  have t_8 : (s_2.1 1).toInt = (σ.1 1).toInt := congrArg Int32.toInt (f_4.1 1 (by decide))
  have t_9 : (s_2.1 2).toInt = (σ.1 2).toInt := congrArg Int32.toInt (f_4.1 2 (by decide))
  have t_10 : (s_2.1 3).toInt = (σ.1 3).toInt := congrArg Int32.toInt (f_4.1 3 (by decide))
  have t_11 : (s_2.1 4).toInt = (σ.1 4).toInt := congrArg Int32.toInt (f_4.1 4 (by decide))
  have t_12 : (s_2.1 16).toInt = (σ.1 16).toInt := congrArg Int32.toInt (f_4.1 16 (by decide))
  have t_13 : (s_2.1 17).toInt = (σ.1 17).toInt := congrArg Int32.toInt (f_4.1 17 (by decide))
  have t_14 : (s_2.1 18).toInt = (σ.1 18).toInt := congrArg Int32.toInt (f_4.1 18 (by decide))
  have w_15 : s_2.2.2 30 = σ.2.2 30 := f_4.2.2 30 (by decide)
  have w_16 : s_2.2.2 31 = σ.2.2 31 := f_4.2.2 31 (by decide)
  refine fd_e_gd (fd_gk h0 h1 hL (by decide)) ?_
  refine fd_e_gd (fd_gk h0 h1 hL (by decide)) ?_
  refine fd_e_gd (fd_gk h0 h1 hL (by decide)) ?_
  refine fd_e_bd (s_X11_pattern_0 N hN _ _ _ iM) ?_
  rintro v_17 s_18 ⟨i_19, f_20, x_21, y_22, y_23⟩
  have t_24 : (s_18.1 1).toInt = (μ.1 1).toInt := congrArg Int32.toInt (f_20.1 1 (by decide))
  have t_25 : (s_18.1 2).toInt = (μ.1 2).toInt := congrArg Int32.toInt (f_20.1 2 (by decide))
  have t_26 : (s_18.1 4).toInt = (μ.1 4).toInt := congrArg Int32.toInt (f_20.1 4 (by decide))
  have t_27 : (s_18.1 3).toInt = (μ.1 3).toInt := congrArg Int32.toInt (f_20.1 3 (by decide))
  have t_28 : (s_18.1 12).toInt = (μ.1 12).toInt := congrArg Int32.toInt (f_20.1 12 (by decide))
  have t_29 : (s_18.1 13).toInt = (μ.1 13).toInt := congrArg Int32.toInt (f_20.1 13 (by decide))
  have t_30 : (s_18.1 14).toInt = (μ.1 14).toInt := congrArg Int32.toInt (f_20.1 14 (by decide))
  have w_31 : s_18.2.2 20 = μ.2.2 20 := f_20.2.2 20 (by decide)
  have w_32 : s_18.2.2 21 = μ.2.2 21 := f_20.2.2 21 (by decide)
  have e_33 : s_2.2.2 30 = s_18.2.2 20 := (w_15.trans rr0).trans w_31.symm
  have e_34 : s_2.2.2 31 = s_18.2.2 21 := (w_16.trans rr1).trans w_32.symm
  refine fd_e_lt (fun y_35 ey_35 => ?_)
  have t_36 := fd_la ey_35 (by omega) (by omega)
  have r_37 : fd_R s_2 s_18 := ⟨by omega, by omega, by omega, by omega, by omega, by omega, by omega, e_33, e_34⟩
  exact hK _ _ _ i_3 i_19 r_37 (by omega)
set_option maxHeartbeats 4000000 in
theorem u_c5 (N L : Nat) (hN : 1000 ≤ N) (hL : L ≤ 3072) (xs : Nat → Int32) (K : Int32 → fd_St → fd_St → Option Int32) (i : Int32) (σ μ : fd_St) (iC : fd_InvC σ) (iM : fd_InvM μ) (r : fd_R σ μ) (h0 : 0 ≤ i.toInt) (h1 : i.toInt + 6 ≤ (L : Int)) (hK : ∀ (j : Int32) (σ1 μ1 : fd_St), fd_InvC σ1 → fd_InvM μ1 → fd_R σ1 μ1 → j.toInt = i.toInt + 6 → K j σ1 μ1 = some 1) : f_law_c5 N L xs K i σ μ = some 1 := by
  have lit0 : (0 : Int32).toInt = 0 := by decide
  have lit6 : (6 : Int32).toInt = 6 := by decide
  obtain ⟨r0, r1, r2, r3, r4, r5, r6, rr0, rr1⟩ := r
  unfold f_law_c5
  generalize xs (i + (1 : Int32)).toNatClampNeg = b1
  refine fd_e_gd (fd_gk h0 h1 hL (by decide)) ?_
  refine fd_e_bd (s_L_row_0_39 N hN _ _ iC) ?_
  rintro v_1 s_2 ⟨i_3, f_4, x_5, y_6⟩
  have t_7 : (s_2.1 1).toInt = (σ.1 1).toInt := congrArg Int32.toInt (f_4.1 1 (by decide))
  have t_8 : (s_2.1 2).toInt = (σ.1 2).toInt := congrArg Int32.toInt (f_4.1 2 (by decide))
  have t_9 : (s_2.1 3).toInt = (σ.1 3).toInt := congrArg Int32.toInt (f_4.1 3 (by decide))
  have t_10 : (s_2.1 4).toInt = (σ.1 4).toInt := congrArg Int32.toInt (f_4.1 4 (by decide))
  have t_11 : (s_2.1 16).toInt = (σ.1 16).toInt := congrArg Int32.toInt (f_4.1 16 (by decide))
  have t_12 : (s_2.1 17).toInt = (σ.1 17).toInt := congrArg Int32.toInt (f_4.1 17 (by decide))
  have t_13 : (s_2.1 18).toInt = (σ.1 18).toInt := congrArg Int32.toInt (f_4.1 18 (by decide))
  have w_14 : s_2.2.2 30 = σ.2.2 30 := f_4.2.2 30 (by decide)
  have w_15 : s_2.2.2 31 = σ.2.2 31 := f_4.2.2 31 (by decide)
  refine fd_e_gd (fd_gk h0 h1 hL (by decide)) ?_
  refine fd_e_bd (s_X11_row_0 N hN _ _ iM) ?_
  rintro v_16 s_17 ⟨i_18, f_19, x_20, y_21⟩
  have t_22 : (s_17.1 1).toInt = (μ.1 1).toInt := congrArg Int32.toInt (f_19.1 1 (by decide))
  have t_23 : (s_17.1 2).toInt = (μ.1 2).toInt := congrArg Int32.toInt (f_19.1 2 (by decide))
  have t_24 : (s_17.1 4).toInt = (μ.1 4).toInt := congrArg Int32.toInt (f_19.1 4 (by decide))
  have t_25 : (s_17.1 3).toInt = (μ.1 3).toInt := congrArg Int32.toInt (f_19.1 3 (by decide))
  have t_26 : (s_17.1 12).toInt = (μ.1 12).toInt := congrArg Int32.toInt (f_19.1 12 (by decide))
  have t_27 : (s_17.1 13).toInt = (μ.1 13).toInt := congrArg Int32.toInt (f_19.1 13 (by decide))
  have t_28 : (s_17.1 14).toInt = (μ.1 14).toInt := congrArg Int32.toInt (f_19.1 14 (by decide))
  have w_29 : s_17.2.2 20 = μ.2.2 20 := f_19.2.2 20 (by decide)
  have w_30 : s_17.2.2 21 = μ.2.2 21 := f_19.2.2 21 (by decide)
  have e_31 : s_2.2.2 30 = s_17.2.2 20 := (w_14.trans rr0).trans w_29.symm
  have e_32 : s_2.2.2 31 = s_17.2.2 21 := (w_15.trans rr1).trans w_30.symm
  refine fd_e_lt (fun y_33 ey_33 => ?_)
  have t_34 := fd_la ey_33 (by omega) (by omega)
  have r_35 : fd_R s_2 s_17 := ⟨by omega, by omega, by omega, by omega, by omega, by omega, by omega, e_31, e_32⟩
  exact hK _ _ _ i_3 i_18 r_35 (by omega)
set_option maxHeartbeats 4000000 in
theorem u_c6 (N L : Nat) (hN : 1000 ≤ N) (hL : L ≤ 3072) (xs : Nat → Int32) (K : Int32 → fd_St → fd_St → Option Int32) (i : Int32) (σ μ : fd_St) (iC : fd_InvC σ) (iM : fd_InvM μ) (r : fd_R σ μ) (h0 : 0 ≤ i.toInt) (h1 : i.toInt + 6 ≤ (L : Int)) (hK : ∀ (j : Int32) (σ1 μ1 : fd_St), fd_InvC σ1 → fd_InvM μ1 → fd_R σ1 μ1 → j.toInt = i.toInt + 6 → K j σ1 μ1 = some 1) : f_law_c6 N L xs K i σ μ = some 1 := by
  have lit0 : (0 : Int32).toInt = 0 := by decide
  have lit6 : (6 : Int32).toInt = 6 := by decide
  obtain ⟨r0, r1, r2, r3, r4, r5, r6, rr0, rr1⟩ := r
  unfold f_law_c6
  generalize xs (i + (1 : Int32)).toNatClampNeg = b1
  generalize xs (i + (2 : Int32)).toNatClampNeg = b2
  generalize xs (i + (3 : Int32)).toNatClampNeg = b3
  refine fd_e_gd (fd_gk h0 h1 hL (by decide)) ?_
  refine fd_e_gd (fd_gk h0 h1 hL (by decide)) ?_
  refine fd_e_gd (fd_gk h0 h1 hL (by decide)) ?_
  refine fd_e_bd (s_L_fail_0_39 N hN _ _ _ iC) ?_
  rintro v_1 s_2 ⟨i_3, f_4, x_5, y_6, y_7⟩
  have t_8 : (s_2.1 1).toInt = (σ.1 1).toInt := congrArg Int32.toInt (f_4.1 1 (by decide))
  have t_9 : (s_2.1 2).toInt = (σ.1 2).toInt := congrArg Int32.toInt (f_4.1 2 (by decide))
  have t_10 : (s_2.1 3).toInt = (σ.1 3).toInt := congrArg Int32.toInt (f_4.1 3 (by decide))
  have t_11 : (s_2.1 4).toInt = (σ.1 4).toInt := congrArg Int32.toInt (f_4.1 4 (by decide))
  have t_12 : (s_2.1 16).toInt = (σ.1 16).toInt := congrArg Int32.toInt (f_4.1 16 (by decide))
  have t_13 : (s_2.1 17).toInt = (σ.1 17).toInt := congrArg Int32.toInt (f_4.1 17 (by decide))
  have t_14 : (s_2.1 18).toInt = (σ.1 18).toInt := congrArg Int32.toInt (f_4.1 18 (by decide))
  have w_15 : s_2.2.2 30 = σ.2.2 30 := f_4.2.2 30 (by decide)
  have w_16 : s_2.2.2 31 = σ.2.2 31 := f_4.2.2 31 (by decide)
  refine fd_e_gd (fd_gk h0 h1 hL (by decide)) ?_
  refine fd_e_gd (fd_gk h0 h1 hL (by decide)) ?_
  refine fd_e_gd (fd_gk h0 h1 hL (by decide)) ?_
  refine fd_e_bd (s_X11_fail_0 N hN _ _ _ iM) ?_
  rintro v_17 s_18 ⟨i_19, f_20, x_21, y_22, y_23⟩
  have t_24 : (s_18.1 1).toInt = (μ.1 1).toInt := congrArg Int32.toInt (f_20.1 1 (by decide))
  have t_25 : (s_18.1 2).toInt = (μ.1 2).toInt := congrArg Int32.toInt (f_20.1 2 (by decide))
  have t_26 : (s_18.1 4).toInt = (μ.1 4).toInt := congrArg Int32.toInt (f_20.1 4 (by decide))
  have t_27 : (s_18.1 3).toInt = (μ.1 3).toInt := congrArg Int32.toInt (f_20.1 3 (by decide))
  have t_28 : (s_18.1 12).toInt = (μ.1 12).toInt := congrArg Int32.toInt (f_20.1 12 (by decide))
  have t_29 : (s_18.1 13).toInt = (μ.1 13).toInt := congrArg Int32.toInt (f_20.1 13 (by decide))
  have t_30 : (s_18.1 14).toInt = (μ.1 14).toInt := congrArg Int32.toInt (f_20.1 14 (by decide))
  have w_31 : s_18.2.2 20 = μ.2.2 20 := f_20.2.2 20 (by decide)
  have w_32 : s_18.2.2 21 = μ.2.2 21 := f_20.2.2 21 (by decide)
  have e_33 : s_2.2.2 30 = s_18.2.2 20 := (w_15.trans rr0).trans w_31.symm
  have e_34 : s_2.2.2 31 = s_18.2.2 21 := (w_16.trans rr1).trans w_32.symm
  refine fd_e_lt (fun y_35 ey_35 => ?_)
  have t_36 := fd_la ey_35 (by omega) (by omega)
  have r_37 : fd_R s_2 s_18 := ⟨by omega, by omega, by omega, by omega, by omega, by omega, by omega, e_33, e_34⟩
  exact hK _ _ _ i_3 i_19 r_37 (by omega)
set_option maxHeartbeats 4000000 in
theorem u_c7 (N L : Nat) (hN : 1000 ≤ N) (hL : L ≤ 3072) (xs : Nat → Int32) (K : Int32 → fd_St → fd_St → Option Int32) (i : Int32) (σ μ : fd_St) (iC : fd_InvC σ) (iM : fd_InvM μ) (r : fd_R σ μ) (h0 : 0 ≤ i.toInt) (h1 : i.toInt + 6 ≤ (L : Int)) (hK : ∀ (j : Int32) (σ1 μ1 : fd_St), fd_InvC σ1 → fd_InvM μ1 → fd_R σ1 μ1 → j.toInt = i.toInt + 6 → K j σ1 μ1 = some 1) : f_law_c7 N L xs K i σ μ = some 1 := by
  have lit0 : (0 : Int32).toInt = 0 := by decide
  have lit6 : (6 : Int32).toInt = 6 := by decide
  obtain ⟨r0, r1, r2, r3, r4, r5, r6, rr0, rr1⟩ := r
  unfold f_law_c7
  generalize xs (i + (1 : Int32)).toNatClampNeg = b1
  generalize xs (i + (2 : Int32)).toNatClampNeg = b2
  refine fd_e_gd (fd_gk h0 h1 hL (by decide)) ?_
  refine fd_e_gd (fd_gk h0 h1 hL (by decide)) ?_
  refine fd_e_bd (s_L_near_0_39 N hN _ _ _ iC) ?_
  rintro v_1 s_2 ⟨i_3, f_4, x_5⟩
  have t_6 : (s_2.1 1).toInt = (σ.1 1).toInt := congrArg Int32.toInt (f_4.1 1 (by decide))
  have t_7 : (s_2.1 2).toInt = (σ.1 2).toInt := congrArg Int32.toInt (f_4.1 2 (by decide))
  have t_8 : (s_2.1 3).toInt = (σ.1 3).toInt := congrArg Int32.toInt (f_4.1 3 (by decide))
  have t_9 : (s_2.1 4).toInt = (σ.1 4).toInt := congrArg Int32.toInt (f_4.1 4 (by decide))
  have t_10 : (s_2.1 16).toInt = (σ.1 16).toInt := congrArg Int32.toInt (f_4.1 16 (by decide))
  have t_11 : (s_2.1 17).toInt = (σ.1 17).toInt := congrArg Int32.toInt (f_4.1 17 (by decide))
  have t_12 : (s_2.1 18).toInt = (σ.1 18).toInt := congrArg Int32.toInt (f_4.1 18 (by decide))
  have w_13 : s_2.2.2 30 = σ.2.2 30 := f_4.2.2 30 (by decide)
  have w_14 : s_2.2.2 31 = σ.2.2 31 := f_4.2.2 31 (by decide)
  refine fd_e_gd (fd_gk h0 h1 hL (by decide)) ?_
  refine fd_e_gd (fd_gk h0 h1 hL (by decide)) ?_
  refine fd_e_bd (s_X11_near_0 N hN _ _ _ iM) ?_
  rintro v_15 s_16 ⟨i_17, f_18, x_19⟩
  have t_20 : (s_16.1 1).toInt = (μ.1 1).toInt := congrArg Int32.toInt (f_18.1 1 (by decide))
  have t_21 : (s_16.1 2).toInt = (μ.1 2).toInt := congrArg Int32.toInt (f_18.1 2 (by decide))
  have t_22 : (s_16.1 4).toInt = (μ.1 4).toInt := congrArg Int32.toInt (f_18.1 4 (by decide))
  have t_23 : (s_16.1 3).toInt = (μ.1 3).toInt := congrArg Int32.toInt (f_18.1 3 (by decide))
  have t_24 : (s_16.1 12).toInt = (μ.1 12).toInt := congrArg Int32.toInt (f_18.1 12 (by decide))
  have t_25 : (s_16.1 13).toInt = (μ.1 13).toInt := congrArg Int32.toInt (f_18.1 13 (by decide))
  have t_26 : (s_16.1 14).toInt = (μ.1 14).toInt := congrArg Int32.toInt (f_18.1 14 (by decide))
  have w_27 : s_16.2.2 20 = μ.2.2 20 := f_18.2.2 20 (by decide)
  have w_28 : s_16.2.2 21 = μ.2.2 21 := f_18.2.2 21 (by decide)
  have e_29 : s_2.2.2 30 = s_16.2.2 20 := (w_13.trans rr0).trans w_27.symm
  have e_30 : s_2.2.2 31 = s_16.2.2 21 := (w_14.trans rr1).trans w_28.symm
  refine fd_e_lt (fun y_31 ey_31 => ?_)
  have t_32 := fd_la ey_31 (by omega) (by omega)
  have r_33 : fd_R s_2 s_16 := ⟨by omega, by omega, by omega, by omega, by omega, by omega, by omega, e_29, e_30⟩
  exact hK _ _ _ i_3 i_17 r_33 (by omega)
