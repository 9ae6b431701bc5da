/-- what both sides have in common -/
def fd_R (σ μ : fd_St) : Prop := (σ.1 1).toInt = (μ.1 1).toInt ∧ (σ.1 2).toInt = (μ.1 2).toInt ∧ (σ.1 3).toInt = (μ.1 4).toInt ∧ (σ.1 4).toInt = (μ.1 3).toInt ∧ (σ.1 16).toInt = (μ.1 12).toInt ∧ (σ.1 17).toInt = (μ.1 13).toInt ∧ (σ.1 18).toInt = (μ.1 14).toInt ∧ σ.2.1 32 = μ.2.1 22 ∧ σ.2.1 33 = μ.2.1 23 ∧ σ.2.1 34 = μ.2.1 24 ∧ σ.2.1 35 = μ.2.1 25 ∧ σ.2.1 36 = μ.2.1 26 ∧ fd_Sh (σ.2.1 33) (σ.2.1 34) (σ.2.1 35) (σ.2.1 36) (σ.1 18).toNatClampNeg
theorem fd_e_gd {p : Prop} {t : Option Int32} (hp : p) (h : t = some 1) : fd_gd p t = some 1 := by rw [fd_gdp hp]; exact h
theorem fd_e_lt {α : Type} {x : α} {f : α → Option Int32} (h : ∀ y, y = x → f y = some 1) : fd_lt x f = some 1 := h x rfl
theorem fd_e_bd {α : Type} {o : Option (α × fd_St)} {P : α → fd_St → Prop} {f : α → fd_St → Option Int32} (h : fd_ok o P) (k : ∀ v s, P v s → f v s = some 1) : fd_bd o f = some 1 := by
  obtain ⟨v, s, h1, h2⟩ := h
  rw [h1]; exact k v s h2
theorem fd_e_th {N : Nat} {S : fd_St} {f : Int32 → fd_St → Option Int32} (h : f (S.1 0) S = some 1) : fd_bd (f_X11_thrown_0 N S) f = some 1 := by
  unfold f_X11_thrown_0; exact h
theorem fd_e_itp {c : Prop} [Decidable c] {t e : Option Int32} (hc : c) (ht : t = some 1) : (if c then t else e) = some 1 := by rw [if_pos hc]; exact ht
theorem fd_e_ite {c : Prop} [Decidable c] {t e : Option Int32} (ht : c → t = some 1) (he : ¬ c → e = some 1) : (if c then t else e) = some 1 := by
  by_cases h : c
  · rw [if_pos h]; exact ht h
  · rw [if_neg h]; exact he h
theorem fd_lgL {a b : Int64} (h : a = b) : lg_cmp a b = 0 := by
  subst h
  unfold lg_cmp
  rw [if_neg (Int64.lt_irrefl (a := a)), if_pos rfl]
theorem fd_lg {a : Int64} {b : Int32} (h : a.toInt = b.toInt) : lg_cmp a b.toInt64 = 0 := fd_lgL (Int64.toInt_inj.mp (by rw [h]; exact (Int32.toInt_toInt64 b).symm))
theorem fd_gk {i k : Int32} {L : Nat} (h0 : 0 ≤ i.toInt) (h1 : i.toInt + 6 ≤ (L : Int)) (hL : L ≤ 3072) (hk : 0 ≤ k.toInt ∧ k.toInt < 6) : vp_in (i + k) L := by
  have a := Jvm.Kit.i32_add (x := i) (y := k) (by omega) (by omega)
  exact vp_in_iff.mpr ⟨by omega, by omega⟩
theorem fd_ofN {L : Nat} (h : L ≤ 3072) : (Int32.ofNat L).toInt = (L : Int) := nI_toInt (n := L) (by omega)
set_option maxHeartbeats 4000000 in
theorem u_c0 (N L : Nat) (hN : 1000 ≤ N) (hL : L ≤ 3072) (xs : Nat → Int32) (K : Int32 → fd_St → fd_St → Option Int32) (i : Int32) (σ μ : fd_St) (iC : fd_InvC σ) (iM : fd_InvM μ) (r : fd_R σ μ) (h0 : 0 ≤ i.toInt) (h1 : i.toInt + 6 ≤ (L : Int)) (hK : ∀ (j : Int32) (σ1 μ1 : fd_St), fd_InvC σ1 → fd_InvM μ1 → fd_R σ1 μ1 → j.toInt = i.toInt + 6 → K j σ1 μ1 = some 1) : f_law_c0 N L xs K i σ μ = some 1 := by
  have lit0 : (0 : Int32).toInt = 0 := by decide
  have lit6 : (6 : Int32).toInt = 6 := by decide
  obtain ⟨r0, r1, r2, r3, r4, r5, r6, rr0, rr1, rr2, rr3, rr4, exs⟩ := r
  have rs : (0 : Int) ≤ (σ.1 18).toInt ∧ (σ.1 18).toInt ≤ 60 := iC.1 18
  unfold f_law_c0
  refine fd_e_bd (s_L_input_0_39 N hN _ iC) ?_
  rintro v_1 s_2 ⟨i_3, f_4, x_5, y_6, y_7⟩
  have t_8 : (s_2.1 3).toInt = (σ.1 3).toInt := congrArg Int32.toInt (f_4.1 3 (by decide))
  have t_9 : (s_2.1 4).toInt = (σ.1 4).toInt := congrArg Int32.toInt (f_4.1 4 (by decide))
  have t_10 : (s_2.1 16).toInt = (σ.1 16).toInt := congrArg Int32.toInt (f_4.1 16 (by decide))
  have t_11 : (s_2.1 17).toInt = (σ.1 17).toInt := congrArg Int32.toInt (f_4.1 17 (by decide))
  have t_12 : (s_2.1 18).toInt = (σ.1 18).toInt := congrArg Int32.toInt (f_4.1 18 (by decide))
  have w_13 : s_2.2.1 32 = σ.2.1 32 := f_4.2.1 32 (by decide)
  have w_14 : s_2.2.1 33 = σ.2.1 33 := f_4.2.1 33 (by decide)
  have w_15 : s_2.2.1 34 = σ.2.1 34 := f_4.2.1 34 (by decide)
  have w_16 : s_2.2.1 35 = σ.2.1 35 := f_4.2.1 35 (by decide)
  have w_17 : s_2.2.1 36 = σ.2.1 36 := f_4.2.1 36 (by decide)
  refine fd_e_bd (s_X11_input_0 N hN _ iM) ?_
  rintro v_18 s_19 ⟨i_20, f_21, x_22, y_23, y_24⟩
  have t_25 : (s_19.1 4).toInt = (μ.1 4).toInt := congrArg Int32.toInt (f_21.1 4 (by decide))
  have t_26 : (s_19.1 3).toInt = (μ.1 3).toInt := congrArg Int32.toInt (f_21.1 3 (by decide))
  have t_27 : (s_19.1 12).toInt = (μ.1 12).toInt := congrArg Int32.toInt (f_21.1 12 (by decide))
  have t_28 : (s_19.1 13).toInt = (μ.1 13).toInt := congrArg Int32.toInt (f_21.1 13 (by decide))
  have t_29 : (s_19.1 14).toInt = (μ.1 14).toInt := congrArg Int32.toInt (f_21.1 14 (by decide))
  have w_30 : s_19.2.1 22 = μ.2.1 22 := f_21.2.1 22 (by decide)
  have w_31 : s_19.2.1 23 = μ.2.1 23 := f_21.2.1 23 (by decide)
  have w_32 : s_19.2.1 24 = μ.2.1 24 := f_21.2.1 24 (by decide)
  have w_33 : s_19.2.1 25 = μ.2.1 25 := f_21.2.1 25 (by decide)
  have w_34 : s_19.2.1 26 = μ.2.1 26 := f_21.2.1 26 (by decide)
  have e_35 : s_2.2.1 32 = s_19.2.1 22 := (w_13.trans rr0).trans w_30.symm
  have e_36 : s_2.2.1 33 = s_19.2.1 23 := (w_14.trans rr1).trans w_31.symm
  have e_37 : s_2.2.1 34 = s_19.2.1 24 := (w_15.trans rr2).trans w_32.symm
  have e_38 : s_2.2.1 35 = s_19.2.1 25 := (w_16.trans rr3).trans w_33.symm
  have e_39 : s_2.2.1 36 = s_19.2.1 26 := (w_17.trans rr4).trans w_34.symm
  have e_40 : fd_Sh (s_2.2.1 33) (s_2.2.1 34) (s_2.2.1 35) (s_2.2.1 36) (s_2.1 18).toNatClampNeg := by
    have n8 : s_2.1 18 = σ.1 18 := Int32.toInt_inj.mp (by omega); rw [w_14, w_15, w_16, w_17, n8]; exact exs
  refine fd_e_lt (fun y_41 ey_41 => ?_)
  have t_42 := fd_la ey_41 (by omega) (by omega)
  have r_43 : fd_R s_2 s_19 := ⟨by omega, by omega, by omega, by omega, by omega, by omega, by omega, e_35, e_36, e_37, e_38, e_39, e_40⟩
  exact hK _ _ _ i_3 i_20 r_43 (by omega)
set_option maxHeartbeats 4000000 in
theorem u_c1 (N L : Nat) (hN : 1000 ≤ N) (hL : L ≤ 3072) (xs : Nat → Int32) (K : Int32 → fd_St → fd_St → Option Int32) (i : Int32) (σ μ : fd_St) (iC : fd_InvC σ) (iM : fd_InvM μ) (r : fd_R σ μ) (h0 : 0 ≤ i.toInt) (h1 : i.toInt + 6 ≤ (L : Int)) (hK : ∀ (j : Int32) (σ1 μ1 : fd_St), fd_InvC σ1 → fd_InvM μ1 → fd_R σ1 μ1 → j.toInt = i.toInt + 6 → K j σ1 μ1 = some 1) : f_law_c1 N L xs K i σ μ = some 1 := by
  have lit0 : (0 : Int32).toInt = 0 := by decide
  have lit6 : (6 : Int32).toInt = 6 := by decide
  obtain ⟨r0, r1, r2, r3, r4, r5, r6, rr0, rr1, rr2, rr3, rr4, exs⟩ := r
  have rs : (0 : Int) ≤ (σ.1 18).toInt ∧ (σ.1 18).toInt ≤ 60 := iC.1 18
  unfold f_law_c1
  generalize xs (i + (1 : Int32)).toNatClampNeg = b1
  generalize xs (i + (2 : Int32)).toNatClampNeg = b2
  generalize xs (i + (3 : Int32)).toNatClampNeg = b3
  refine fd_e_gd (fd_gk h0 h1 hL (by decide)) ?_
  refine fd_e_gd (fd_gk h0 h1 hL (by decide)) ?_
  refine fd_e_gd (fd_gk h0 h1 hL (by decide)) ?_
  refine fd_e_bd (s_L_gate_0_39 N hN _ _ _ _ iC) ?_
  rintro v_1 s_2 ⟨i_3, f_4, x_5, y_6, y_7, y_8, y_9, y_10⟩
  have t_11 : (s_2.1 2).toInt = (σ.1 2).toInt := congrArg Int32.toInt (f_4.1 2 (by decide))
  have t_12 : (s_2.1 3).toInt = (σ.1 3).toInt := congrArg Int32.toInt (f_4.1 3 (by decide))
  have t_13 : (s_2.1 4).toInt = (σ.1 4).toInt := congrArg Int32.toInt (f_4.1 4 (by decide))
  have t_14 : (s_2.1 16).toInt = (σ.1 16).toInt := congrArg Int32.toInt (f_4.1 16 (by decide))
  have t_15 : (s_2.1 17).toInt = (σ.1 17).toInt := congrArg Int32.toInt (f_4.1 17 (by decide))
  have t_16 : (s_2.1 18).toInt = (σ.1 18).toInt := congrArg Int32.toInt (f_4.1 18 (by decide))
  have w_17 : s_2.2.1 32 = σ.2.1 32 := f_4.2.1 32 (by decide)
  have w_18 : s_2.2.1 33 = σ.2.1 33 := f_4.2.1 33 (by decide)
  have w_19 : s_2.2.1 34 = σ.2.1 34 := f_4.2.1 34 (by decide)
  have w_20 : s_2.2.1 35 = σ.2.1 35 := f_4.2.1 35 (by decide)
  have w_21 : s_2.2.1 36 = σ.2.1 36 := f_4.2.1 36 (by decide)
  refine fd_e_gd (fd_gk h0 h1 hL (by decide)) ?_
  refine fd_e_gd (fd_gk h0 h1 hL (by decide)) ?_
  refine fd_e_gd (fd_gk h0 h1 hL (by decide)) ?_
  refine fd_e_bd (s_X11_gate_0 N hN _ _ _ _ iM) ?_
  rintro v_22 s_23 ⟨i_24, f_25, x_26, y_27, y_28, y_29⟩
  have t_30 : (s_23.1 2).toInt = (μ.1 2).toInt := congrArg Int32.toInt (f_25.1 2 (by decide))
  have t_31 : (s_23.1 4).toInt = (μ.1 4).toInt := congrArg Int32.toInt (f_25.1 4 (by decide))
  have t_32 : (s_23.1 3).toInt = (μ.1 3).toInt := congrArg Int32.toInt (f_25.1 3 (by decide))
  have t_33 : (s_23.1 12).toInt = (μ.1 12).toInt := congrArg Int32.toInt (f_25.1 12 (by decide))
  have t_34 : (s_23.1 13).toInt = (μ.1 13).toInt := congrArg Int32.toInt (f_25.1 13 (by decide))
  have t_35 : (s_23.1 14).toInt = (μ.1 14).toInt := congrArg Int32.toInt (f_25.1 14 (by decide))
  have w_36 : s_23.2.1 22 = μ.2.1 22 := f_25.2.1 22 (by decide)
  have w_37 : s_23.2.1 23 = μ.2.1 23 := f_25.2.1 23 (by decide)
  have w_38 : s_23.2.1 24 = μ.2.1 24 := f_25.2.1 24 (by decide)
  have w_39 : s_23.2.1 25 = μ.2.1 25 := f_25.2.1 25 (by decide)
  have w_40 : s_23.2.1 26 = μ.2.1 26 := f_25.2.1 26 (by decide)
  have e_41 : s_2.2.1 32 = s_23.2.1 22 := (w_17.trans rr0).trans w_36.symm
  have e_42 : s_2.2.1 33 = s_23.2.1 23 := (w_18.trans rr1).trans w_37.symm
  have e_43 : s_2.2.1 34 = s_23.2.1 24 := (w_19.trans rr2).trans w_38.symm
  have e_44 : s_2.2.1 35 = s_23.2.1 25 := (w_20.trans rr3).trans w_39.symm
  have e_45 : s_2.2.1 36 = s_23.2.1 26 := (w_21.trans rr4).trans w_40.symm
  have e_46 : fd_Sh (s_2.2.1 33) (s_2.2.1 34) (s_2.2.1 35) (s_2.2.1 36) (s_2.1 18).toNatClampNeg := by
    have n8 : s_2.1 18 = σ.1 18 := Int32.toInt_inj.mp (by omega); rw [w_18, w_19, w_20, w_21, n8]; exact exs
  refine fd_e_lt (fun y_47 ey_47 => ?_)
  have t_48 := fd_la ey_47 (by omega) (by omega)
  have r_49 : fd_R s_2 s_23 := ⟨by omega, by omega, by omega, by omega, by omega, by omega, by omega, e_41, e_42, e_43, e_44, e_45, e_46⟩
  exact hK _ _ _ i_3 i_24 r_49 (by omega)
set_option maxHeartbeats 4000000 in
theorem u_c2 (N L : Nat) (hN : 1000 ≤ N) (hL : L ≤ 3072) (xs : Nat → Int32) (K : Int32 → fd_St → fd_St → Option Int32) (i : Int32) (σ μ : fd_St) (iC : fd_InvC σ) (iM : fd_InvM μ) (r : fd_R σ μ) (h0 : 0 ≤ i.toInt) (h1 : i.toInt + 6 ≤ (L : Int)) (hK : ∀ (j : Int32) (σ1 μ1 : fd_St), fd_InvC σ1 → fd_InvM μ1 → fd_R σ1 μ1 → j.toInt = i.toInt + 6 → K j σ1 μ1 = some 1) : f_law_c2 N L xs K i σ μ = some 1 := by
  have lit0 : (0 : Int32).toInt = 0 := by decide
  have lit6 : (6 : Int32).toInt = 6 := by decide
  obtain ⟨r0, r1, r2, r3, r4, r5, r6, rr0, rr1, rr2, rr3, rr4, exs⟩ := r
  have rs : (0 : Int) ≤ (σ.1 18).toInt ∧ (σ.1 18).toInt ≤ 60 := iC.1 18
  unfold f_law_c2
  generalize xs (i + (1 : Int32)).toNatClampNeg = b1
  refine fd_e_gd (fd_gk h0 h1 hL (by decide)) ?_
  refine fd_e_bd (s_L_output_0_39 N hN _ _ iC) ?_
  rintro v_1 s_2 ⟨i_3, f_4, x_5, y_6, y_7⟩
  have t_8 : (s_2.1 1).toInt = (σ.1 1).toInt := congrArg Int32.toInt (f_4.1 1 (by decide))
  have t_9 : (s_2.1 2).toInt = (σ.1 2).toInt := congrArg Int32.toInt (f_4.1 2 (by decide))
  have t_10 : (s_2.1 3).toInt = (σ.1 3).toInt := congrArg Int32.toInt (f_4.1 3 (by decide))
  have t_11 : (s_2.1 16).toInt = (σ.1 16).toInt := congrArg Int32.toInt (f_4.1 16 (by decide))
  have t_12 : (s_2.1 17).toInt = (σ.1 17).toInt := congrArg Int32.toInt (f_4.1 17 (by decide))
  have t_13 : (s_2.1 18).toInt = (σ.1 18).toInt := congrArg Int32.toInt (f_4.1 18 (by decide))
  have w_14 : s_2.2.1 32 = σ.2.1 32 := f_4.2.1 32 (by decide)
  have w_15 : s_2.2.1 33 = σ.2.1 33 := f_4.2.1 33 (by decide)
  have w_16 : s_2.2.1 34 = σ.2.1 34 := f_4.2.1 34 (by decide)
  have w_17 : s_2.2.1 35 = σ.2.1 35 := f_4.2.1 35 (by decide)
  have w_18 : s_2.2.1 36 = σ.2.1 36 := f_4.2.1 36 (by decide)
  refine fd_e_gd (fd_gk h0 h1 hL (by decide)) ?_
  refine fd_e_bd (s_X11_output_0 N hN _ _ iM) ?_
  rintro v_19 s_20 ⟨i_21, f_22, x_23, y_24, y_25⟩
  have t_26 : (s_20.1 1).toInt = (μ.1 1).toInt := congrArg Int32.toInt (f_22.1 1 (by decide))
  have t_27 : (s_20.1 2).toInt = (μ.1 2).toInt := congrArg Int32.toInt (f_22.1 2 (by decide))
  have t_28 : (s_20.1 4).toInt = (μ.1 4).toInt := congrArg Int32.toInt (f_22.1 4 (by decide))
  have t_29 : (s_20.1 12).toInt = (μ.1 12).toInt := congrArg Int32.toInt (f_22.1 12 (by decide))
  have t_30 : (s_20.1 13).toInt = (μ.1 13).toInt := congrArg Int32.toInt (f_22.1 13 (by decide))
  have t_31 : (s_20.1 14).toInt = (μ.1 14).toInt := congrArg Int32.toInt (f_22.1 14 (by decide))
  have w_32 : s_20.2.1 22 = μ.2.1 22 := f_22.2.1 22 (by decide)
  have w_33 : s_20.2.1 23 = μ.2.1 23 := f_22.2.1 23 (by decide)
  have w_34 : s_20.2.1 24 = μ.2.1 24 := f_22.2.1 24 (by decide)
  have w_35 : s_20.2.1 25 = μ.2.1 25 := f_22.2.1 25 (by decide)
  have w_36 : s_20.2.1 26 = μ.2.1 26 := f_22.2.1 26 (by decide)
  have e_37 : s_2.2.1 32 = s_20.2.1 22 := (w_14.trans rr0).trans w_32.symm
  have e_38 : s_2.2.1 33 = s_20.2.1 23 := (w_15.trans rr1).trans w_33.symm
  have e_39 : s_2.2.1 34 = s_20.2.1 24 := (w_16.trans rr2).trans w_34.symm
  have e_40 : s_2.2.1 35 = s_20.2.1 25 := (w_17.trans rr3).trans w_35.symm
  have e_41 : s_2.2.1 36 = s_20.2.1 26 := (w_18.trans rr4).trans w_36.symm
  have e_42 : fd_Sh (s_2.2.1 33) (s_2.2.1 34) (s_2.2.1 35) (s_2.2.1 36) (s_2.1 18).toNatClampNeg := by
    have n8 : s_2.1 18 = σ.1 18 := Int32.toInt_inj.mp (by omega); rw [w_15, w_16, w_17, w_18, n8]; exact exs
  refine fd_e_lt (fun y_43 ey_43 => ?_)
  have t_44 := fd_la ey_43 (by omega) (by omega)
  have r_45 : fd_R s_2 s_20 := ⟨by omega, by omega, by omega, by omega, by omega, by omega, by omega, e_37, e_38, e_39, e_40, e_41, e_42⟩
  exact hK _ _ _ i_3 i_21 r_45 (by omega)
set_option maxHeartbeats 4000000 in
theorem u_c3 (N L : Nat) (hN : 1000 ≤ N) (hL : L ≤ 3072) (xs : Nat → Int32) (K : Int32 → fd_St → fd_St → Option Int32) (i : Int32) (σ μ : fd_St) (iC : fd_InvC σ) (iM : fd_InvM μ) (r : fd_R σ μ) (h0 : 0 ≤ i.toInt) (h1 : i.toInt + 6 ≤ (L : Int)) (hK : ∀ (j : Int32) (σ1 μ1 : fd_St), fd_InvC σ1 → fd_InvM μ1 → fd_R σ1 μ1 → j.toInt = i.toInt + 6 → K j σ1 μ1 = some 1) : f_law_c3 N L xs K i σ μ = some 1 := by
  have lit0 : (0 : Int32).toInt = 0 := by decide
  have lit6 : (6 : Int32).toInt = 6 := by decide
  obtain ⟨r0, r1, r2, r3, r4, r5, r6, rr0, rr1, rr2, rr3, rr4, exs⟩ := r
  have rs : (0 : Int) ≤ (σ.1 18).toInt ∧ (σ.1 18).toInt ≤ 60 := iC.1 18
  unfold f_law_c3
  generalize xs (i + (1 : Int32)).toNatClampNeg = b1
  refine fd_e_gd (fd_gk h0 h1 hL (by decide)) ?_
  refine fd_e_bd (s_L_patterns_0_39 N hN _ _ iC) ?_
  rintro v_1 s_2 ⟨i_3, f_4, x_5⟩
  have t_6 : (s_2.1 1).toInt = (σ.1 1).toInt := congrArg Int32.toInt (f_4.1 1 (by decide))
  have t_7 : (s_2.1 2).toInt = (σ.1 2).toInt := congrArg Int32.toInt (f_4.1 2 (by decide))
  have t_8 : (s_2.1 4).toInt = (σ.1 4).toInt := congrArg Int32.toInt (f_4.1 4 (by decide))
  have t_9 : (s_2.1 16).toInt = (σ.1 16).toInt := congrArg Int32.toInt (f_4.1 16 (by decide))
  have t_10 : (s_2.1 17).toInt = (σ.1 17).toInt := congrArg Int32.toInt (f_4.1 17 (by decide))
  have t_11 : (s_2.1 18).toInt = (σ.1 18).toInt := congrArg Int32.toInt (f_4.1 18 (by decide))
  have w_12 : s_2.2.1 32 = σ.2.1 32 := f_4.2.1 32 (by decide)
  have w_13 : s_2.2.1 33 = σ.2.1 33 := f_4.2.1 33 (by decide)
  have w_14 : s_2.2.1 34 = σ.2.1 34 := f_4.2.1 34 (by decide)
  have w_15 : s_2.2.1 35 = σ.2.1 35 := f_4.2.1 35 (by decide)
  have w_16 : s_2.2.1 36 = σ.2.1 36 := f_4.2.1 36 (by decide)
  refine fd_e_gd (fd_gk h0 h1 hL (by decide)) ?_
  refine fd_e_bd (s_X11_patterns_0 N hN _ _ iM) ?_
  rintro v_17 s_18 ⟨i_19, f_20, x_21⟩
  have t_22 : (s_18.1 1).toInt = (μ.1 1).toInt := congrArg Int32.toInt (f_20.1 1 (by decide))
  have t_23 : (s_18.1 2).toInt = (μ.1 2).toInt := congrArg Int32.toInt (f_20.1 2 (by decide))
  have t_24 : (s_18.1 3).toInt = (μ.1 3).toInt := congrArg Int32.toInt (f_20.1 3 (by decide))
  have t_25 : (s_18.1 12).toInt = (μ.1 12).toInt := congrArg Int32.toInt (f_20.1 12 (by decide))
  have t_26 : (s_18.1 13).toInt = (μ.1 13).toInt := congrArg Int32.toInt (f_20.1 13 (by decide))
  have t_27 : (s_18.1 14).toInt = (μ.1 14).toInt := congrArg Int32.toInt (f_20.1 14 (by decide))
  have w_28 : s_18.2.1 22 = μ.2.1 22 := f_20.2.1 22 (by decide)
  have w_29 : s_18.2.1 23 = μ.2.1 23 := f_20.2.1 23 (by decide)
  have w_30 : s_18.2.1 24 = μ.2.1 24 := f_20.2.1 24 (by decide)
  have w_31 : s_18.2.1 25 = μ.2.1 25 := f_20.2.1 25 (by decide)
  have w_32 : s_18.2.1 26 = μ.2.1 26 := f_20.2.1 26 (by decide)
  have e_33 : s_2.2.1 32 = s_18.2.1 22 := (w_12.trans rr0).trans w_28.symm
  have e_34 : s_2.2.1 33 = s_18.2.1 23 := (w_13.trans rr1).trans w_29.symm
  have e_35 : s_2.2.1 34 = s_18.2.1 24 := (w_14.trans rr2).trans w_30.symm
  have e_36 : s_2.2.1 35 = s_18.2.1 25 := (w_15.trans rr3).trans w_31.symm
  have e_37 : s_2.2.1 36 = s_18.2.1 26 := (w_16.trans rr4).trans w_32.symm
  have e_38 : fd_Sh (s_2.2.1 33) (s_2.2.1 34) (s_2.2.1 35) (s_2.2.1 36) (s_2.1 18).toNatClampNeg := by
    have n8 : s_2.1 18 = σ.1 18 := Int32.toInt_inj.mp (by omega); rw [w_13, w_14, w_15, w_16, n8]; exact exs
  refine fd_e_lt (fun y_39 ey_39 => ?_)
  have t_40 := fd_la ey_39 (by omega) (by omega)
  have r_41 : fd_R s_2 s_18 := ⟨by omega, by omega, by omega, by omega, by omega, by omega, by omega, e_33, e_34, e_35, e_36, e_37, e_38⟩
  exact hK _ _ _ i_3 i_19 r_41 (by omega)
set_option maxHeartbeats 4000000 in
theorem u_c4 (N L : Nat) (hN : 1000 ≤ N) (hL : L ≤ 3072) (xs : Nat → Int32) (K : Int32 → fd_St → fd_St → Option Int32) (i : Int32) (σ μ : fd_St) (iC : fd_InvC σ) (iM : fd_InvM μ) (r : fd_R σ μ) (h0 : 0 ≤ i.toInt) (h1 : i.toInt + 6 ≤ (L : Int)) (hK : ∀ (j : Int32) (σ1 μ1 : fd_St), fd_InvC σ1 → fd_InvM μ1 → fd_R σ1 μ1 → j.toInt = i.toInt + 6 → K j σ1 μ1 = some 1) : f_law_c4 N L xs K i σ μ = some 1 := by
  have lit0 : (0 : Int32).toInt = 0 := by decide
  have lit6 : (6 : Int32).toInt = 6 := by decide
  obtain ⟨r0, r1, r2, r3, r4, r5, r6, rr0, rr1, rr2, rr3, rr4, exs⟩ := r
  have rs : (0 : Int) ≤ (σ.1 18).toInt ∧ (σ.1 18).toInt ≤ 60 := iC.1 18
  unfold f_law_c4
  generalize xs (i + (1 : Int32)).toNatClampNeg = b1
  generalize xs (i + (2 : Int32)).toNatClampNeg = b2
  generalize xs (i + (3 : Int32)).toNatClampNeg = b3
  refine fd_e_gd (fd_gk h0 h1 hL (by decide)) ?_
  refine fd_e_gd (fd_gk h0 h1 hL (by decide)) ?_
  refine fd_e_gd (fd_gk h0 h1 hL (by decide)) ?_
  refine fd_e_bd (s_L_pattern_0_39 N hN _ _ _ iC) ?_
  rintro v_1 s_2 ⟨i_3, f_4, x_5, y_6, y_7⟩
  have t_8 : (s_2.1 1).toInt = (σ.1 1).toInt := congrArg Int32.toInt (f_4.1 1 (by decide))
  have t_9 : (s_2.1 2).toInt = (σ.1 2).toInt := congrArg Int32.toInt (f_4.1 2 (by decide))
  have t_10 : (s_2.1 3).toInt = (σ.1 3).toInt := congrArg Int32.toInt (f_4.1 3 (by decide))
  have t_11 : (s_2.1 4).toInt = (σ.1 4).toInt := congrArg Int32.toInt (f_4.1 4 (by decide))
  have t_12 : (s_2.1 16).toInt = (σ.1 16).toInt := congrArg Int32.toInt (f_4.1 16 (by decide))
  have t_13 : (s_2.1 17).toInt = (σ.1 17).toInt := congrArg Int32.toInt (f_4.1 17 (by decide))
  have t_14 : (s_2.1 18).toInt = (σ.1 18).toInt := congrArg Int32.toInt (f_4.1 18 (by decide))
  have w_15 : s_2.2.1 32 = σ.2.1 32 := f_4.2.1 32 (by decide)
  have w_16 : s_2.2.1 33 = σ.2.1 33 := f_4.2.1 33 (by decide)
  have w_17 : s_2.2.1 34 = σ.2.1 34 := f_4.2.1 34 (by decide)
  have w_18 : s_2.2.1 35 = σ.2.1 35 := f_4.2.1 35 (by decide)
  have w_19 : s_2.2.1 36 = σ.2.1 36 := f_4.2.1 36 (by decide)
  refine fd_e_gd (fd_gk h0 h1 hL (by decide)) ?_
  refine fd_e_gd (fd_gk h0 h1 hL (by decide)) ?_
  refine fd_e_gd (fd_gk h0 h1 hL (by decide)) ?_
  refine fd_e_bd (s_X11_pattern_0 N hN _ _ _ iM) ?_
  rintro v_20 s_21 ⟨i_22, f_23, x_24, y_25, y_26⟩
  have t_27 : (s_21.1 1).toInt = (μ.1 1).toInt := congrArg Int32.toInt (f_23.1 1 (by decide))
  have t_28 : (s_21.1 2).toInt = (μ.1 2).toInt := congrArg Int32.toInt (f_23.1 2 (by decide))
  have t_29 : (s_21.1 4).toInt = (μ.1 4).toInt := congrArg Int32.toInt (f_23.1 4 (by decide))
  have t_30 : (s_21.1 3).toInt = (μ.1 3).toInt := congrArg Int32.toInt (f_23.1 3 (by decide))
  have t_31 : (s_21.1 12).toInt = (μ.1 12).toInt := congrArg Int32.toInt (f_23.1 12 (by decide))
  have t_32 : (s_21.1 13).toInt = (μ.1 13).toInt := congrArg Int32.toInt (f_23.1 13 (by decide))
  have t_33 : (s_21.1 14).toInt = (μ.1 14).toInt := congrArg Int32.toInt (f_23.1 14 (by decide))
  have w_34 : s_21.2.1 22 = μ.2.1 22 := f_23.2.1 22 (by decide)
  have w_35 : s_21.2.1 23 = μ.2.1 23 := f_23.2.1 23 (by decide)
  have w_36 : s_21.2.1 24 = μ.2.1 24 := f_23.2.1 24 (by decide)
  have w_37 : s_21.2.1 25 = μ.2.1 25 := f_23.2.1 25 (by decide)
  have w_38 : s_21.2.1 26 = μ.2.1 26 := f_23.2.1 26 (by decide)
  have e_39 : s_2.2.1 32 = s_21.2.1 22 := (w_15.trans rr0).trans w_34.symm
  have e_40 : s_2.2.1 33 = s_21.2.1 23 := (w_16.trans rr1).trans w_35.symm
  have e_41 : s_2.2.1 34 = s_21.2.1 24 := (w_17.trans rr2).trans w_36.symm
  have e_42 : s_2.2.1 35 = s_21.2.1 25 := (w_18.trans rr3).trans w_37.symm
  have e_43 : s_2.2.1 36 = s_21.2.1 26 := (w_19.trans rr4).trans w_38.symm
  have e_44 : fd_Sh (s_2.2.1 33) (s_2.2.1 34) (s_2.2.1 35) (s_2.2.1 36) (s_2.1 18).toNatClampNeg := by
    have n8 : s_2.1 18 = σ.1 18 := Int32.toInt_inj.mp (by omega); rw [w_16, w_17, w_18, w_19, n8]; exact exs
  refine fd_e_lt (fun y_45 ey_45 => ?_)
  have t_46 := fd_la ey_45 (by omega) (by omega)
  have r_47 : fd_R s_2 s_21 := ⟨by omega, by omega, by omega, by omega, by omega, by omega, by omega, e_39, e_40, e_41, e_42, e_43, e_44⟩
  exact hK _ _ _ i_3 i_22 r_47 (by omega)
set_option maxHeartbeats 4000000 in
theorem u_c5 (N L : Nat) (hN : 1000 ≤ N) (hL : L ≤ 3072) (xs : Nat → Int32) (K : Int32 → fd_St → fd_St → Option Int32) (i : Int32) (σ μ : fd_St) (iC : fd_InvC σ) (iM : fd_InvM μ) (r : fd_R σ μ) (h0 : 0 ≤ i.toInt) (h1 : i.toInt + 6 ≤ (L : Int)) (hK : ∀ (j : Int32) (σ1 μ1 : fd_St), fd_InvC σ1 → fd_InvM μ1 → fd_R σ1 μ1 → j.toInt = i.toInt + 6 → K j σ1 μ1 = some 1) : f_law_c5 N L xs K i σ μ = some 1 := by
  have lit0 : (0 : Int32).toInt = 0 := by decide
  have lit6 : (6 : Int32).toInt = 6 := by decide
  obtain ⟨r0, r1, r2, r3, r4, r5, r6, rr0, rr1, rr2, rr3, rr4, exs⟩ := r
  have rs : (0 : Int) ≤ (σ.1 18).toInt ∧ (σ.1 18).toInt ≤ 60 := iC.1 18
  unfold f_law_c5
  generalize xs (i + (1 : Int32)).toNatClampNeg = b1
  refine fd_e_gd (fd_gk h0 h1 hL (by decide)) ?_
  refine fd_e_bd (s_L_row_0_39 N hN _ _ iC) ?_
  rintro v_1 s_2 ⟨i_3, f_4, x_5, y_6⟩
  have t_7 : (s_2.1 1).toInt = (σ.1 1).toInt := congrArg Int32.toInt (f_4.1 1 (by decide))
  have t_8 : (s_2.1 2).toInt = (σ.1 2).toInt := congrArg Int32.toInt (f_4.1 2 (by decide))
  have t_9 : (s_2.1 3).toInt = (σ.1 3).toInt := congrArg Int32.toInt (f_4.1 3 (by decide))
  have t_10 : (s_2.1 4).toInt = (σ.1 4).toInt := congrArg Int32.toInt (f_4.1 4 (by decide))
  have t_11 : (s_2.1 16).toInt = (σ.1 16).toInt := congrArg Int32.toInt (f_4.1 16 (by decide))
  have t_12 : (s_2.1 17).toInt = (σ.1 17).toInt := congrArg Int32.toInt (f_4.1 17 (by decide))
  have t_13 : (s_2.1 18).toInt = (σ.1 18).toInt := congrArg Int32.toInt (f_4.1 18 (by decide))
  have w_14 : s_2.2.1 32 = σ.2.1 32 := f_4.2.1 32 (by decide)
  have w_15 : s_2.2.1 33 = σ.2.1 33 := f_4.2.1 33 (by decide)
  have w_16 : s_2.2.1 34 = σ.2.1 34 := f_4.2.1 34 (by decide)
  have w_17 : s_2.2.1 35 = σ.2.1 35 := f_4.2.1 35 (by decide)
  have w_18 : s_2.2.1 36 = σ.2.1 36 := f_4.2.1 36 (by decide)
  refine fd_e_gd (fd_gk h0 h1 hL (by decide)) ?_
  refine fd_e_bd (s_X11_row_0 N hN _ _ iM) ?_
  rintro v_19 s_20 ⟨i_21, f_22, x_23, y_24⟩
  have t_25 : (s_20.1 1).toInt = (μ.1 1).toInt := congrArg Int32.toInt (f_22.1 1 (by decide))
  have t_26 : (s_20.1 2).toInt = (μ.1 2).toInt := congrArg Int32.toInt (f_22.1 2 (by decide))
  have t_27 : (s_20.1 4).toInt = (μ.1 4).toInt := congrArg Int32.toInt (f_22.1 4 (by decide))
  have t_28 : (s_20.1 3).toInt = (μ.1 3).toInt := congrArg Int32.toInt (f_22.1 3 (by decide))
  have t_29 : (s_20.1 12).toInt = (μ.1 12).toInt := congrArg Int32.toInt (f_22.1 12 (by decide))
  have t_30 : (s_20.1 13).toInt = (μ.1 13).toInt := congrArg Int32.toInt (f_22.1 13 (by decide))
  have t_31 : (s_20.1 14).toInt = (μ.1 14).toInt := congrArg Int32.toInt (f_22.1 14 (by decide))
  have w_32 : s_20.2.1 22 = μ.2.1 22 := f_22.2.1 22 (by decide)
  have w_33 : s_20.2.1 23 = μ.2.1 23 := f_22.2.1 23 (by decide)
  have w_34 : s_20.2.1 24 = μ.2.1 24 := f_22.2.1 24 (by decide)
  have w_35 : s_20.2.1 25 = μ.2.1 25 := f_22.2.1 25 (by decide)
  have w_36 : s_20.2.1 26 = μ.2.1 26 := f_22.2.1 26 (by decide)
  have e_37 : s_2.2.1 32 = s_20.2.1 22 := (w_14.trans rr0).trans w_32.symm
  have e_38 : s_2.2.1 33 = s_20.2.1 23 := (w_15.trans rr1).trans w_33.symm
  have e_39 : s_2.2.1 34 = s_20.2.1 24 := (w_16.trans rr2).trans w_34.symm
  have e_40 : s_2.2.1 35 = s_20.2.1 25 := (w_17.trans rr3).trans w_35.symm
  have e_41 : s_2.2.1 36 = s_20.2.1 26 := (w_18.trans rr4).trans w_36.symm
  have e_42 : fd_Sh (s_2.2.1 33) (s_2.2.1 34) (s_2.2.1 35) (s_2.2.1 36) (s_2.1 18).toNatClampNeg := by
    have n8 : s_2.1 18 = σ.1 18 := Int32.toInt_inj.mp (by omega); rw [w_15, w_16, w_17, w_18, n8]; exact exs
  refine fd_e_lt (fun y_43 ey_43 => ?_)
  have t_44 := fd_la ey_43 (by omega) (by omega)
  have r_45 : fd_R s_2 s_20 := ⟨by omega, by omega, by omega, by omega, by omega, by omega, by omega, e_37, e_38, e_39, e_40, e_41, e_42⟩
  exact hK _ _ _ i_3 i_21 r_45 (by omega)
set_option maxHeartbeats 4000000 in
theorem u_c6 (N L : Nat) (hN : 1000 ≤ N) (hL : L ≤ 3072) (xs : Nat → Int32) (K : Int32 → fd_St → fd_St → Option Int32) (i : Int32) (σ μ : fd_St) (iC : fd_InvC σ) (iM : fd_InvM μ) (r : fd_R σ μ) (h0 : 0 ≤ i.toInt) (h1 : i.toInt + 6 ≤ (L : Int)) (hK : ∀ (j : Int32) (σ1 μ1 : fd_St), fd_InvC σ1 → fd_InvM μ1 → fd_R σ1 μ1 → j.toInt = i.toInt + 6 → K j σ1 μ1 = some 1) : f_law_c6 N L xs K i σ μ = some 1 := by
  have lit0 : (0 : Int32).toInt = 0 := by decide
  have lit6 : (6 : Int32).toInt = 6 := by decide
  obtain ⟨r0, r1, r2, r3, r4, r5, r6, rr0, rr1, rr2, rr3, rr4, exs⟩ := r
  have rs : (0 : Int) ≤ (σ.1 18).toInt ∧ (σ.1 18).toInt ≤ 60 := iC.1 18
  unfold f_law_c6
  generalize xs (i + (1 : Int32)).toNatClampNeg = b1
  generalize xs (i + (2 : Int32)).toNatClampNeg = b2
  generalize xs (i + (3 : Int32)).toNatClampNeg = b3
  refine fd_e_gd (fd_gk h0 h1 hL (by decide)) ?_
  refine fd_e_gd (fd_gk h0 h1 hL (by decide)) ?_
  refine fd_e_gd (fd_gk h0 h1 hL (by decide)) ?_
  refine fd_e_bd (s_L_fail_0_39 N hN _ _ _ iC) ?_
  rintro v_1 s_2 ⟨i_3, f_4, x_5, y_6, y_7⟩
  have t_8 : (s_2.1 1).toInt = (σ.1 1).toInt := congrArg Int32.toInt (f_4.1 1 (by decide))
  have t_9 : (s_2.1 2).toInt = (σ.1 2).toInt := congrArg Int32.toInt (f_4.1 2 (by decide))
  have t_10 : (s_2.1 3).toInt = (σ.1 3).toInt := congrArg Int32.toInt (f_4.1 3 (by decide))
  have t_11 : (s_2.1 4).toInt = (σ.1 4).toInt := congrArg Int32.toInt (f_4.1 4 (by decide))
  have t_12 : (s_2.1 16).toInt = (σ.1 16).toInt := congrArg Int32.toInt (f_4.1 16 (by decide))
  have t_13 : (s_2.1 17).toInt = (σ.1 17).toInt := congrArg Int32.toInt (f_4.1 17 (by decide))
  have t_14 : (s_2.1 18).toInt = (σ.1 18).toInt := congrArg Int32.toInt (f_4.1 18 (by decide))
  have w_15 : s_2.2.1 32 = σ.2.1 32 := f_4.2.1 32 (by decide)
  have w_16 : s_2.2.1 33 = σ.2.1 33 := f_4.2.1 33 (by decide)
  have w_17 : s_2.2.1 34 = σ.2.1 34 := f_4.2.1 34 (by decide)
  have w_18 : s_2.2.1 35 = σ.2.1 35 := f_4.2.1 35 (by decide)
  have w_19 : s_2.2.1 36 = σ.2.1 36 := f_4.2.1 36 (by decide)
  refine fd_e_gd (fd_gk h0 h1 hL (by decide)) ?_
  refine fd_e_gd (fd_gk h0 h1 hL (by decide)) ?_
  refine fd_e_gd (fd_gk h0 h1 hL (by decide)) ?_
  refine fd_e_bd (s_X11_fail_0 N hN _ _ _ iM) ?_
  rintro v_20 s_21 ⟨i_22, f_23, x_24, y_25, y_26⟩
  have t_27 : (s_21.1 1).toInt = (μ.1 1).toInt := congrArg Int32.toInt (f_23.1 1 (by decide))
  have t_28 : (s_21.1 2).toInt = (μ.1 2).toInt := congrArg Int32.toInt (f_23.1 2 (by decide))
  have t_29 : (s_21.1 4).toInt = (μ.1 4).toInt := congrArg Int32.toInt (f_23.1 4 (by decide))
  have t_30 : (s_21.1 3).toInt = (μ.1 3).toInt := congrArg Int32.toInt (f_23.1 3 (by decide))
  have t_31 : (s_21.1 12).toInt = (μ.1 12).toInt := congrArg Int32.toInt (f_23.1 12 (by decide))
  have t_32 : (s_21.1 13).toInt = (μ.1 13).toInt := congrArg Int32.toInt (f_23.1 13 (by decide))
  have t_33 : (s_21.1 14).toInt = (μ.1 14).toInt := congrArg Int32.toInt (f_23.1 14 (by decide))
  have w_34 : s_21.2.1 22 = μ.2.1 22 := f_23.2.1 22 (by decide)
  have w_35 : s_21.2.1 23 = μ.2.1 23 := f_23.2.1 23 (by decide)
  have w_36 : s_21.2.1 24 = μ.2.1 24 := f_23.2.1 24 (by decide)
  have w_37 : s_21.2.1 25 = μ.2.1 25 := f_23.2.1 25 (by decide)
  have w_38 : s_21.2.1 26 = μ.2.1 26 := f_23.2.1 26 (by decide)
  have e_39 : s_2.2.1 32 = s_21.2.1 22 := (w_15.trans rr0).trans w_34.symm
  have e_40 : s_2.2.1 33 = s_21.2.1 23 := (w_16.trans rr1).trans w_35.symm
  have e_41 : s_2.2.1 34 = s_21.2.1 24 := (w_17.trans rr2).trans w_36.symm
  have e_42 : s_2.2.1 35 = s_21.2.1 25 := (w_18.trans rr3).trans w_37.symm
  have e_43 : s_2.2.1 36 = s_21.2.1 26 := (w_19.trans rr4).trans w_38.symm
  have e_44 : fd_Sh (s_2.2.1 33) (s_2.2.1 34) (s_2.2.1 35) (s_2.2.1 36) (s_2.1 18).toNatClampNeg := by
    have n8 : s_2.1 18 = σ.1 18 := Int32.toInt_inj.mp (by omega); rw [w_16, w_17, w_18, w_19, n8]; exact exs
  refine fd_e_lt (fun y_45 ey_45 => ?_)
  have t_46 := fd_la ey_45 (by omega) (by omega)
  have r_47 : fd_R s_2 s_21 := ⟨by omega, by omega, by omega, by omega, by omega, by omega, by omega, e_39, e_40, e_41, e_42, e_43, e_44⟩
  exact hK _ _ _ i_3 i_22 r_47 (by omega)
set_option maxHeartbeats 4000000 in
theorem u_c7 (N L : Nat) (hN : 1000 ≤ N) (hL : L ≤ 3072) (xs : Nat → Int32) (K : Int32 → fd_St → fd_St → Option Int32) (i : Int32) (σ μ : fd_St) (iC : fd_InvC σ) (iM : fd_InvM μ) (r : fd_R σ μ) (h0 : 0 ≤ i.toInt) (h1 : i.toInt + 6 ≤ (L : Int)) (hK : ∀ (j : Int32) (σ1 μ1 : fd_St), fd_InvC σ1 → fd_InvM μ1 → fd_R σ1 μ1 → j.toInt = i.toInt + 6 → K j σ1 μ1 = some 1) : f_law_c7 N L xs K i σ μ = some 1 := by
  have lit0 : (0 : Int32).toInt = 0 := by decide
  have lit6 : (6 : Int32).toInt = 6 := by decide
  obtain ⟨r0, r1, r2, r3, r4, r5, r6, rr0, rr1, rr2, rr3, rr4, exs⟩ := r
  have rs : (0 : Int) ≤ (σ.1 18).toInt ∧ (σ.1 18).toInt ≤ 60 := iC.1 18
  unfold f_law_c7
  generalize xs (i + (1 : Int32)).toNatClampNeg = b1
  generalize xs (i + (2 : Int32)).toNatClampNeg = b2
  refine fd_e_gd (fd_gk h0 h1 hL (by decide)) ?_
  refine fd_e_gd (fd_gk h0 h1 hL (by decide)) ?_
  refine fd_e_bd (s_L_near_0_39 N hN _ _ _ iC) ?_
  rintro v_1 s_2 ⟨i_3, f_4, x_5⟩
  have t_6 : (s_2.1 1).toInt = (σ.1 1).toInt := congrArg Int32.toInt (f_4.1 1 (by decide))
  have t_7 : (s_2.1 2).toInt = (σ.1 2).toInt := congrArg Int32.toInt (f_4.1 2 (by decide))
  have t_8 : (s_2.1 3).toInt = (σ.1 3).toInt := congrArg Int32.toInt (f_4.1 3 (by decide))
  have t_9 : (s_2.1 4).toInt = (σ.1 4).toInt := congrArg Int32.toInt (f_4.1 4 (by decide))
  have t_10 : (s_2.1 16).toInt = (σ.1 16).toInt := congrArg Int32.toInt (f_4.1 16 (by decide))
  have t_11 : (s_2.1 17).toInt = (σ.1 17).toInt := congrArg Int32.toInt (f_4.1 17 (by decide))
  have t_12 : (s_2.1 18).toInt = (σ.1 18).toInt := congrArg Int32.toInt (f_4.1 18 (by decide))
  have w_13 : s_2.2.1 32 = σ.2.1 32 := f_4.2.1 32 (by decide)
  have w_14 : s_2.2.1 33 = σ.2.1 33 := f_4.2.1 33 (by decide)
  have w_15 : s_2.2.1 34 = σ.2.1 34 := f_4.2.1 34 (by decide)
  have w_16 : s_2.2.1 35 = σ.2.1 35 := f_4.2.1 35 (by decide)
  have w_17 : s_2.2.1 36 = σ.2.1 36 := f_4.2.1 36 (by decide)
  refine fd_e_gd (fd_gk h0 h1 hL (by decide)) ?_
  refine fd_e_gd (fd_gk h0 h1 hL (by decide)) ?_
  refine fd_e_bd (s_X11_near_0 N hN _ _ _ iM) ?_
  rintro v_18 s_19 ⟨i_20, f_21, x_22⟩
  have t_23 : (s_19.1 1).toInt = (μ.1 1).toInt := congrArg Int32.toInt (f_21.1 1 (by decide))
  have t_24 : (s_19.1 2).toInt = (μ.1 2).toInt := congrArg Int32.toInt (f_21.1 2 (by decide))
  have t_25 : (s_19.1 4).toInt = (μ.1 4).toInt := congrArg Int32.toInt (f_21.1 4 (by decide))
  have t_26 : (s_19.1 3).toInt = (μ.1 3).toInt := congrArg Int32.toInt (f_21.1 3 (by decide))
  have t_27 : (s_19.1 12).toInt = (μ.1 12).toInt := congrArg Int32.toInt (f_21.1 12 (by decide))
  have t_28 : (s_19.1 13).toInt = (μ.1 13).toInt := congrArg Int32.toInt (f_21.1 13 (by decide))
  have t_29 : (s_19.1 14).toInt = (μ.1 14).toInt := congrArg Int32.toInt (f_21.1 14 (by decide))
  have w_30 : s_19.2.1 22 = μ.2.1 22 := f_21.2.1 22 (by decide)
  have w_31 : s_19.2.1 23 = μ.2.1 23 := f_21.2.1 23 (by decide)
  have w_32 : s_19.2.1 24 = μ.2.1 24 := f_21.2.1 24 (by decide)
  have w_33 : s_19.2.1 25 = μ.2.1 25 := f_21.2.1 25 (by decide)
  have w_34 : s_19.2.1 26 = μ.2.1 26 := f_21.2.1 26 (by decide)
  have e_35 : s_2.2.1 32 = s_19.2.1 22 := (w_13.trans rr0).trans w_30.symm
  have e_36 : s_2.2.1 33 = s_19.2.1 23 := (w_14.trans rr1).trans w_31.symm
  have e_37 : s_2.2.1 34 = s_19.2.1 24 := (w_15.trans rr2).trans w_32.symm
  have e_38 : s_2.2.1 35 = s_19.2.1 25 := (w_16.trans rr3).trans w_33.symm
  have e_39 : s_2.2.1 36 = s_19.2.1 26 := (w_17.trans rr4).trans w_34.symm
  have e_40 : fd_Sh (s_2.2.1 33) (s_2.2.1 34) (s_2.2.1 35) (s_2.2.1 36) (s_2.1 18).toNatClampNeg := by
    have n8 : s_2.1 18 = σ.1 18 := Int32.toInt_inj.mp (by omega); rw [w_14, w_15, w_16, w_17, n8]; exact exs
  refine fd_e_lt (fun y_41 ey_41 => ?_)
  have t_42 := fd_la ey_41 (by omega) (by omega)
  have r_43 : fd_R s_2 s_19 := ⟨by omega, by omega, by omega, by omega, by omega, by omega, by omega, e_35, e_36, e_37, e_38, e_39, e_40⟩
  exact hK _ _ _ i_3 i_20 r_43 (by omega)
