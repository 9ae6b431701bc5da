set_option maxHeartbeats 4000000 in
theorem u_c8 (N L : Nat) (hN : 1000 ≤ N) (hL : L ≤ 3072) (xs : Nat → Int32) (K : Int32 → fd_St → fd_St → Option Int32) (i : Int32) (σ μ : fd_St) (iC : fd_InvC σ) (iM : fd_InvM μ) (r : fd_R σ μ) (h0 : 0 ≤ i.toInt) (h1 : i.toInt + 6 ≤ (L : Int)) (hK : ∀ (j : Int32) (σ1 μ1 : fd_St), fd_InvC σ1 → fd_InvM μ1 → fd_R σ1 μ1 → j.toInt = i.toInt + 6 → K j σ1 μ1 = some 1) : f_law_c8 N L xs K i σ μ = some 1 := by
  have lit0 : (0 : Int32).toInt = 0 := by decide
  have lit6 : (6 : Int32).toInt = 6 := by decide
  obtain ⟨r0, r1, r2, r3, r4, r5, r6, rr0, rr1, rr2, ex⟩ := r
  have rg : (0 : Int) ≤ (σ.1 1).toInt ∧ (σ.1 1).toInt ≤ 200 := iC.1 1
  have rh : (0 : Int) ≤ (μ.1 4).toInt ∧ (μ.1 4).toInt ≤ 64 := iM.1 4
  unfold f_law_c8
  generalize xs (i + (1 : Int32)).toNatClampNeg = b1
  generalize xs (i + (2 : Int32)).toNatClampNeg = b2
  generalize xs (i + (3 : Int32)).toNatClampNeg = b3
  refine fd_e_gd (fd_gk h0 h1 hL (by decide)) ?_
  refine fd_e_gd (fd_gk h0 h1 hL (by decide)) ?_
  refine fd_e_gd (fd_gk h0 h1 hL (by decide)) ?_
  refine fd_e_bd (s_L_shows_0_39 N hN _ _ _ _ iC) ?_
  rintro v_1 s_2 ⟨i_3, f_4, x_5⟩
  have t_6 : (s_2.1 1).toInt = (σ.1 1).toInt := congrArg Int32.toInt (f_4.1 1 (by decide))
  have t_7 : (s_2.1 2).toInt = (σ.1 2).toInt := congrArg Int32.toInt (f_4.1 2 (by decide))
  have t_8 : (s_2.1 3).toInt = (σ.1 3).toInt := congrArg Int32.toInt (f_4.1 3 (by decide))
  have t_9 : (s_2.1 4).toInt = (σ.1 4).toInt := congrArg Int32.toInt (f_4.1 4 (by decide))
  have t_10 : (s_2.1 16).toInt = (σ.1 16).toInt := congrArg Int32.toInt (f_4.1 16 (by decide))
  have t_11 : (s_2.1 17).toInt = (σ.1 17).toInt := congrArg Int32.toInt (f_4.1 17 (by decide))
  have t_12 : (s_2.1 18).toInt = (σ.1 18).toInt := congrArg Int32.toInt (f_4.1 18 (by decide))
  have w_13 : s_2.2.1 12 = σ.2.1 12 := f_4.2.1 12 (by decide)
  have w_14 : s_2.2.1 13 = σ.2.1 13 := f_4.2.1 13 (by decide)
  have w_15 : s_2.2.1 14 = σ.2.1 14 := f_4.2.1 14 (by decide)
  have w_16 : s_2.2.2 15 = σ.2.2 15 := f_4.2.2 15 (by decide)
  refine fd_e_gd (fd_gk h0 h1 hL (by decide)) ?_
  refine fd_e_gd (fd_gk h0 h1 hL (by decide)) ?_
  refine fd_e_gd (fd_gk h0 h1 hL (by decide)) ?_
  refine fd_e_bd (s_X11_shows_0 N hN _ _ _ _ iM) ?_
  rintro v_17 s_18 ⟨i_19, f_20, x_21⟩
  have t_22 : (s_18.1 1).toInt = (μ.1 1).toInt := congrArg Int32.toInt (f_20.1 1 (by decide))
  have t_23 : (s_18.1 2).toInt = (μ.1 2).toInt := congrArg Int32.toInt (f_20.1 2 (by decide))
  have t_24 : (s_18.1 4).toInt = (μ.1 4).toInt := congrArg Int32.toInt (f_20.1 4 (by decide))
  have t_25 : (s_18.1 3).toInt = (μ.1 3).toInt := congrArg Int32.toInt (f_20.1 3 (by decide))
  have t_26 : (s_18.1 12).toInt = (μ.1 12).toInt := congrArg Int32.toInt (f_20.1 12 (by decide))
  have t_27 : (s_18.1 13).toInt = (μ.1 13).toInt := congrArg Int32.toInt (f_20.1 13 (by decide))
  have t_28 : (s_18.1 14).toInt = (μ.1 14).toInt := congrArg Int32.toInt (f_20.1 14 (by decide))
  have w_29 : s_18.2.1 1 = μ.2.1 1 := f_20.2.1 1 (by decide)
  have w_30 : s_18.2.1 2 = μ.2.1 2 := f_20.2.1 2 (by decide)
  have w_31 : s_18.2.1 3 = μ.2.1 3 := f_20.2.1 3 (by decide)
  have w_32 : s_18.2.2 4 = μ.2.2 4 := f_20.2.2 4 (by decide)
  have e_33 : s_2.2.1 12 = s_18.2.1 1 := (w_13.trans rr0).trans w_29.symm
  have e_34 : s_2.2.1 13 = s_18.2.1 2 := (w_14.trans rr1).trans w_30.symm
  have e_35 : s_2.2.1 14 = s_18.2.1 3 := (w_15.trans rr2).trans w_31.symm
  have e_36 : fd_E (s_2.2.1 12) (s_2.2.1 13) (s_2.2.1 14) (s_2.2.2 15) (s_18.2.2 4) (s_2.1 1).toNatClampNeg := by
    have n1 : s_2.1 1 = σ.1 1 := Int32.toInt_inj.mp (by omega); rw [w_13, w_14, w_15, w_16, w_32, n1]; exact ex
  refine fd_e_lt (fun y_37 ey_37 => ?_)
  have t_38 := fd_la ey_37 (by omega) (by omega)
  have r_39 : fd_R s_2 s_18 := ⟨by omega, by omega, by omega, by omega, by omega, by omega, by omega, e_33, e_34, e_35, e_36⟩
  exact hK _ _ _ i_3 i_19 r_39 (by omega)
set_option maxHeartbeats 4000000 in
theorem u_c9 (N L : Nat) (hN : 1000 ≤ N) (hL : L ≤ 3072) (xs : Nat → Int32) (K : Int32 → fd_St → fd_St → Option Int32) (i : Int32) (σ μ : fd_St) (iC : fd_InvC σ) (iM : fd_InvM μ) (r : fd_R σ μ) (h0 : 0 ≤ i.toInt) (h1 : i.toInt + 6 ≤ (L : Int)) (hK : ∀ (j : Int32) (σ1 μ1 : fd_St), fd_InvC σ1 → fd_InvM μ1 → fd_R σ1 μ1 → j.toInt = i.toInt + 6 → K j σ1 μ1 = some 1) : f_law_c9 N L xs K i σ μ = some 1 := by
  have lit0 : (0 : Int32).toInt = 0 := by decide
  have lit6 : (6 : Int32).toInt = 6 := by decide
  obtain ⟨r0, r1, r2, r3, r4, r5, r6, rr0, rr1, rr2, ex⟩ := r
  have rg : (0 : Int) ≤ (σ.1 1).toInt ∧ (σ.1 1).toInt ≤ 200 := iC.1 1
  have rh : (0 : Int) ≤ (μ.1 4).toInt ∧ (μ.1 4).toInt ≤ 64 := iM.1 4
  unfold f_law_c9
  refine fd_e_bd (s_X10_run_0 N hN _ iC) ?_
  rintro v_1 s_2 ⟨i_3, f_4, x_5⟩
  have t_6 : (s_2.1 1).toInt = (σ.1 1).toInt := congrArg Int32.toInt (f_4.1 1 (by decide))
  have t_7 : (s_2.1 2).toInt = (σ.1 2).toInt := congrArg Int32.toInt (f_4.1 2 (by decide))
  have t_8 : (s_2.1 3).toInt = (σ.1 3).toInt := congrArg Int32.toInt (f_4.1 3 (by decide))
  have t_9 : (s_2.1 4).toInt = (σ.1 4).toInt := congrArg Int32.toInt (f_4.1 4 (by decide))
  have t_10 : (s_2.1 16).toInt = (σ.1 16).toInt := congrArg Int32.toInt (f_4.1 16 (by decide))
  have t_11 : (s_2.1 17).toInt = (σ.1 17).toInt := congrArg Int32.toInt (f_4.1 17 (by decide))
  have t_12 : (s_2.1 18).toInt = (σ.1 18).toInt := congrArg Int32.toInt (f_4.1 18 (by decide))
  have w_13 : s_2.2.1 12 = σ.2.1 12 := f_4.2.1 12 (by decide)
  have w_14 : s_2.2.1 13 = σ.2.1 13 := f_4.2.1 13 (by decide)
  have w_15 : s_2.2.1 14 = σ.2.1 14 := f_4.2.1 14 (by decide)
  have w_16 : s_2.2.2 15 = σ.2.2 15 := f_4.2.2 15 (by decide)
  refine fd_e_lt (fun y_17 ey_17 => ?_)
  have i_18 : fd_InvC y_17 := by subst ey_17; exact i_3
  have t_19 : (y_17.1 1).toInt = (s_2.1 1).toInt := by subst ey_17; rfl
  have t_20 : (y_17.1 2).toInt = (s_2.1 2).toInt := by subst ey_17; rfl
  have t_21 : (y_17.1 3).toInt = (s_2.1 3).toInt := by subst ey_17; rfl
  have t_22 : (y_17.1 4).toInt = (s_2.1 4).toInt := by subst ey_17; rfl
  have t_23 : (y_17.1 16).toInt = (s_2.1 16).toInt := by subst ey_17; rfl
  have t_24 : (y_17.1 17).toInt = (s_2.1 17).toInt := by subst ey_17; rfl
  have t_25 : (y_17.1 18).toInt = (s_2.1 18).toInt := by subst ey_17; rfl
  have w_26 := fd_ymixA (d := 12) ey_17 w_13
  have w_27 := fd_ymixA (d := 13) ey_17 w_14
  have w_28 := fd_ymixA (d := 14) ey_17 w_15
  have w_29 := fd_ymix (d := 15) ey_17 (by decide) w_16
  refine fd_e_bd (s_X11_run_0 N hN _ iM) ?_
  rintro v_30 s_31 ⟨i_32, f_33, x_34⟩
  have t_35 : (s_31.1 1).toInt = (μ.1 1).toInt := congrArg Int32.toInt (f_33.1 1 (by decide))
  have t_36 : (s_31.1 2).toInt = (μ.1 2).toInt := congrArg Int32.toInt (f_33.1 2 (by decide))
  have t_37 : (s_31.1 4).toInt = (μ.1 4).toInt := congrArg Int32.toInt (f_33.1 4 (by decide))
  have t_38 : (s_31.1 3).toInt = (μ.1 3).toInt := congrArg Int32.toInt (f_33.1 3 (by decide))
  have t_39 : (s_31.1 12).toInt = (μ.1 12).toInt := congrArg Int32.toInt (f_33.1 12 (by decide))
  have t_40 : (s_31.1 13).toInt = (μ.1 13).toInt := congrArg Int32.toInt (f_33.1 13 (by decide))
  have t_41 : (s_31.1 14).toInt = (μ.1 14).toInt := congrArg Int32.toInt (f_33.1 14 (by decide))
  have w_42 : s_31.2.1 1 = μ.2.1 1 := f_33.2.1 1 (by decide)
  have w_43 : s_31.2.1 2 = μ.2.1 2 := f_33.2.1 2 (by decide)
  have w_44 : s_31.2.1 3 = μ.2.1 3 := f_33.2.1 3 (by decide)
  have w_45 : s_31.2.2 4 = μ.2.2 4 := f_33.2.2 4 (by decide)
  have e_46 : y_17.2.1 12 = s_31.2.1 1 := (w_26.trans rr0).trans w_42.symm
  have e_47 : y_17.2.1 13 = s_31.2.1 2 := (w_27.trans rr1).trans w_43.symm
  have e_48 : y_17.2.1 14 = s_31.2.1 3 := (w_28.trans rr2).trans w_44.symm
  have e_49 : fd_E (y_17.2.1 12) (y_17.2.1 13) (y_17.2.1 14) (y_17.2.2 15) (s_31.2.2 4) (y_17.1 1).toNatClampNeg := by
    have n1 : y_17.1 1 = σ.1 1 := Int32.toInt_inj.mp (by omega); rw [w_26, w_27, w_28, w_29, w_45, n1]; exact ex
  refine fd_e_lt (fun y_50 ey_50 => ?_)
  have t_51 := fd_la ey_50 (by omega) (by omega)
  have r_52 : fd_R y_17 s_31 := ⟨by omega, by omega, by omega, by omega, by omega, by omega, by omega, e_46, e_47, e_48, e_49⟩
  exact hK _ _ _ i_18 i_32 r_52 (by omega)
set_option maxHeartbeats 4000000 in
theorem u_c10 (N L : Nat) (hN : 1000 ≤ N) (hL : L ≤ 3072) (xs : Nat → Int32) (K : Int32 → fd_St → fd_St → Option Int32) (i : Int32) (σ μ : fd_St) (iC : fd_InvC σ) (iM : fd_InvM μ) (r : fd_R σ μ) (h0 : 0 ≤ i.toInt) (h1 : i.toInt + 6 ≤ (L : Int)) (hK : ∀ (j : Int32) (σ1 μ1 : fd_St), fd_InvC σ1 → fd_InvM μ1 → fd_R σ1 μ1 → j.toInt = i.toInt + 6 → K j σ1 μ1 = some 1) : f_law_c10 N L xs K i σ μ = some 1 := by
  have lit0 : (0 : Int32).toInt = 0 := by decide
  have lit6 : (6 : Int32).toInt = 6 := by decide
  obtain ⟨r0, r1, r2, r3, r4, r5, r6, rr0, rr1, rr2, ex⟩ := r
  have rg : (0 : Int) ≤ (σ.1 1).toInt ∧ (σ.1 1).toInt ≤ 200 := iC.1 1
  have rh : (0 : Int) ≤ (μ.1 4).toInt ∧ (μ.1 4).toInt ≤ 64 := iM.1 4
  unfold f_law_c10
  generalize xs (i + (1 : Int32)).toNatClampNeg = b1
  generalize xs (i + (2 : Int32)).toNatClampNeg = b2
  refine fd_e_gd (fd_gk h0 h1 hL (by decide)) ?_
  refine fd_e_gd (fd_gk h0 h1 hL (by decide)) ?_
  refine fd_e_bd (s_L_suspect_0_39 N hN _ _ _ iC) ?_
  rintro v_1 s_2 ⟨i_3, f_4, x_5⟩
  have t_6 : (s_2.1 1).toInt = (σ.1 1).toInt := congrArg Int32.toInt (f_4.1 1 (by decide))
  have t_7 : (s_2.1 2).toInt = (σ.1 2).toInt := congrArg Int32.toInt (f_4.1 2 (by decide))
  have t_8 : (s_2.1 3).toInt = (σ.1 3).toInt := congrArg Int32.toInt (f_4.1 3 (by decide))
  have t_9 : (s_2.1 4).toInt = (σ.1 4).toInt := congrArg Int32.toInt (f_4.1 4 (by decide))
  have t_10 : (s_2.1 16).toInt = (σ.1 16).toInt := congrArg Int32.toInt (f_4.1 16 (by decide))
  have t_11 : (s_2.1 17).toInt = (σ.1 17).toInt := congrArg Int32.toInt (f_4.1 17 (by decide))
  have t_12 : (s_2.1 18).toInt = (σ.1 18).toInt := congrArg Int32.toInt (f_4.1 18 (by decide))
  have w_13 : s_2.2.1 12 = σ.2.1 12 := f_4.2.1 12 (by decide)
  have w_14 : s_2.2.1 13 = σ.2.1 13 := f_4.2.1 13 (by decide)
  have w_15 : s_2.2.1 14 = σ.2.1 14 := f_4.2.1 14 (by decide)
  have w_16 : s_2.2.2 15 = σ.2.2 15 := f_4.2.2 15 (by decide)
  refine fd_e_gd (fd_gk h0 h1 hL (by decide)) ?_
  refine fd_e_gd (fd_gk h0 h1 hL (by decide)) ?_
  refine fd_e_bd (s_X11_suspect_0 N hN _ _ _ iM) ?_
  rintro v_17 s_18 ⟨i_19, f_20, x_21⟩
  have t_22 : (s_18.1 1).toInt = (μ.1 1).toInt := congrArg Int32.toInt (f_20.1 1 (by decide))
  have t_23 : (s_18.1 2).toInt = (μ.1 2).toInt := congrArg Int32.toInt (f_20.1 2 (by decide))
  have t_24 : (s_18.1 4).toInt = (μ.1 4).toInt := congrArg Int32.toInt (f_20.1 4 (by decide))
  have t_25 : (s_18.1 3).toInt = (μ.1 3).toInt := congrArg Int32.toInt (f_20.1 3 (by decide))
  have t_26 : (s_18.1 12).toInt = (μ.1 12).toInt := congrArg Int32.toInt (f_20.1 12 (by decide))
  have t_27 : (s_18.1 13).toInt = (μ.1 13).toInt := congrArg Int32.toInt (f_20.1 13 (by decide))
  have t_28 : (s_18.1 14).toInt = (μ.1 14).toInt := congrArg Int32.toInt (f_20.1 14 (by decide))
  have w_29 : s_18.2.1 1 = μ.2.1 1 := f_20.2.1 1 (by decide)
  have w_30 : s_18.2.1 2 = μ.2.1 2 := f_20.2.1 2 (by decide)
  have w_31 : s_18.2.1 3 = μ.2.1 3 := f_20.2.1 3 (by decide)
  have w_32 : s_18.2.2 4 = μ.2.2 4 := f_20.2.2 4 (by decide)
  have e_33 : s_2.2.1 12 = s_18.2.1 1 := (w_13.trans rr0).trans w_29.symm
  have e_34 : s_2.2.1 13 = s_18.2.1 2 := (w_14.trans rr1).trans w_30.symm
  have e_35 : s_2.2.1 14 = s_18.2.1 3 := (w_15.trans rr2).trans w_31.symm
  have e_36 : fd_E (s_2.2.1 12) (s_2.2.1 13) (s_2.2.1 14) (s_2.2.2 15) (s_18.2.2 4) (s_2.1 1).toNatClampNeg := by
    have n1 : s_2.1 1 = σ.1 1 := Int32.toInt_inj.mp (by omega); rw [w_13, w_14, w_15, w_16, w_32, n1]; exact ex
  refine fd_e_lt (fun y_37 ey_37 => ?_)
  have t_38 := fd_la ey_37 (by omega) (by omega)
  have r_39 : fd_R s_2 s_18 := ⟨by omega, by omega, by omega, by omega, by omega, by omega, by omega, e_33, e_34, e_35, e_36⟩
  exact hK _ _ _ i_3 i_19 r_39 (by omega)
set_option maxHeartbeats 4000000 in
theorem u_c11 (N L : Nat) (hN : 1000 ≤ N) (hL : L ≤ 3072) (xs : Nat → Int32) (K : Int32 → fd_St → fd_St → Option Int32) (i : Int32) (σ μ : fd_St) (iC : fd_InvC σ) (iM : fd_InvM μ) (r : fd_R σ μ) (h0 : 0 ≤ i.toInt) (h1 : i.toInt + 6 ≤ (L : Int)) (hK : ∀ (j : Int32) (σ1 μ1 : fd_St), fd_InvC σ1 → fd_InvM μ1 → fd_R σ1 μ1 → j.toInt = i.toInt + 6 → K j σ1 μ1 = some 1) : f_law_c11 N L xs K i σ μ = some 1 := by
  have lit0 : (0 : Int32).toInt = 0 := by decide
  have lit6 : (6 : Int32).toInt = 6 := by decide
  obtain ⟨r0, r1, r2, r3, r4, r5, r6, rr0, rr1, rr2, ex⟩ := r
  have rg : (0 : Int) ≤ (σ.1 1).toInt ∧ (σ.1 1).toInt ≤ 200 := iC.1 1
  have rh : (0 : Int) ≤ (μ.1 4).toInt ∧ (μ.1 4).toInt ≤ 64 := iM.1 4
  unfold f_law_c11
  generalize xs (i + (1 : Int32)).toNatClampNeg = b1
  refine fd_e_gd (fd_gk h0 h1 hL (by decide)) ?_
  refine fd_e_bd (s_L_pair_0_39 N hN _ _ iC) ?_
  rintro v_1 s_2 ⟨i_3, f_4, x_5⟩
  have t_6 : (s_2.1 1).toInt = (σ.1 1).toInt := congrArg Int32.toInt (f_4.1 1 (by decide))
  have t_7 : (s_2.1 2).toInt = (σ.1 2).toInt := congrArg Int32.toInt (f_4.1 2 (by decide))
  have t_8 : (s_2.1 3).toInt = (σ.1 3).toInt := congrArg Int32.toInt (f_4.1 3 (by decide))
  have t_9 : (s_2.1 4).toInt = (σ.1 4).toInt := congrArg Int32.toInt (f_4.1 4 (by decide))
  have t_10 : (s_2.1 16).toInt = (σ.1 16).toInt := congrArg Int32.toInt (f_4.1 16 (by decide))
  have t_11 : (s_2.1 17).toInt = (σ.1 17).toInt := congrArg Int32.toInt (f_4.1 17 (by decide))
  have t_12 : (s_2.1 18).toInt = (σ.1 18).toInt := congrArg Int32.toInt (f_4.1 18 (by decide))
  have w_13 : s_2.2.1 12 = σ.2.1 12 := f_4.2.1 12 (by decide)
  have w_14 : s_2.2.1 13 = σ.2.1 13 := f_4.2.1 13 (by decide)
  have w_15 : s_2.2.1 14 = σ.2.1 14 := f_4.2.1 14 (by decide)
  have w_16 : s_2.2.2 15 = σ.2.2 15 := f_4.2.2 15 (by decide)
  refine fd_e_gd (fd_gk h0 h1 hL (by decide)) ?_
  refine fd_e_bd (s_X11_pair_0 N hN _ _ iM) ?_
  rintro v_17 s_18 ⟨i_19, f_20, x_21⟩
  have t_22 : (s_18.1 1).toInt = (μ.1 1).toInt := congrArg Int32.toInt (f_20.1 1 (by decide))
  have t_23 : (s_18.1 2).toInt = (μ.1 2).toInt := congrArg Int32.toInt (f_20.1 2 (by decide))
  have t_24 : (s_18.1 4).toInt = (μ.1 4).toInt := congrArg Int32.toInt (f_20.1 4 (by decide))
  have t_25 : (s_18.1 3).toInt = (μ.1 3).toInt := congrArg Int32.toInt (f_20.1 3 (by decide))
  have t_26 : (s_18.1 12).toInt = (μ.1 12).toInt := congrArg Int32.toInt (f_20.1 12 (by decide))
  have t_27 : (s_18.1 13).toInt = (μ.1 13).toInt := congrArg Int32.toInt (f_20.1 13 (by decide))
  have t_28 : (s_18.1 14).toInt = (μ.1 14).toInt := congrArg Int32.toInt (f_20.1 14 (by decide))
  have w_29 : s_18.2.1 1 = μ.2.1 1 := f_20.2.1 1 (by decide)
  have w_30 : s_18.2.1 2 = μ.2.1 2 := f_20.2.1 2 (by decide)
  have w_31 : s_18.2.1 3 = μ.2.1 3 := f_20.2.1 3 (by decide)
  have w_32 : s_18.2.2 4 = μ.2.2 4 := f_20.2.2 4 (by decide)
  have e_33 : s_2.2.1 12 = s_18.2.1 1 := (w_13.trans rr0).trans w_29.symm
  have e_34 : s_2.2.1 13 = s_18.2.1 2 := (w_14.trans rr1).trans w_30.symm
  have e_35 : s_2.2.1 14 = s_18.2.1 3 := (w_15.trans rr2).trans w_31.symm
  have e_36 : fd_E (s_2.2.1 12) (s_2.2.1 13) (s_2.2.1 14) (s_2.2.2 15) (s_18.2.2 4) (s_2.1 1).toNatClampNeg := by
    have n1 : s_2.1 1 = σ.1 1 := Int32.toInt_inj.mp (by omega); rw [w_13, w_14, w_15, w_16, w_32, n1]; exact ex
  refine fd_e_lt (fun y_37 ey_37 => ?_)
  have t_38 := fd_la ey_37 (by omega) (by omega)
  have r_39 : fd_R s_2 s_18 := ⟨by omega, by omega, by omega, by omega, by omega, by omega, by omega, e_33, e_34, e_35, e_36⟩
  exact hK _ _ _ i_3 i_19 r_39 (by omega)
set_option maxHeartbeats 4000000 in
theorem u_c12 (N L : Nat) (hN : 1000 ≤ N) (hL : L ≤ 3072) (xs : Nat → Int32) (K : Int32 → fd_St → fd_St → Option Int32) (i : Int32) (σ μ : fd_St) (iC : fd_InvC σ) (iM : fd_InvM μ) (r : fd_R σ μ) (h0 : 0 ≤ i.toInt) (h1 : i.toInt + 6 ≤ (L : Int)) (hK : ∀ (j : Int32) (σ1 μ1 : fd_St), fd_InvC σ1 → fd_InvM μ1 → fd_R σ1 μ1 → j.toInt = i.toInt + 6 → K j σ1 μ1 = some 1) : f_law_c12 N L xs K i σ μ = some 1 := by
  have lit0 : (0 : Int32).toInt = 0 := by decide
  have lit6 : (6 : Int32).toInt = 6 := by decide
  obtain ⟨r0, r1, r2, r3, r4, r5, r6, rr0, rr1, rr2, ex⟩ := r
  have rg : (0 : Int) ≤ (σ.1 1).toInt ∧ (σ.1 1).toInt ≤ 200 := iC.1 1
  have rh : (0 : Int) ≤ (μ.1 4).toInt ∧ (μ.1 4).toInt ≤ 64 := iM.1 4
  unfold f_law_c12
  refine fd_e_bd (s_L_join_0_39 N hN _ iC) ?_
  rintro v_1 s_2 ⟨i_3, f_4, x_5⟩
  have t_6 : (s_2.1 1).toInt = (σ.1 1).toInt := congrArg Int32.toInt (f_4.1 1 (by decide))
  have t_7 : (s_2.1 2).toInt = (σ.1 2).toInt := congrArg Int32.toInt (f_4.1 2 (by decide))
  have t_8 : (s_2.1 3).toInt = (σ.1 3).toInt := congrArg Int32.toInt (f_4.1 3 (by decide))
  have t_9 : (s_2.1 4).toInt = (σ.1 4).toInt := congrArg Int32.toInt (f_4.1 4 (by decide))
  have t_10 : (s_2.1 16).toInt = (σ.1 16).toInt := congrArg Int32.toInt (f_4.1 16 (by decide))
  have t_11 : (s_2.1 17).toInt = (σ.1 17).toInt := congrArg Int32.toInt (f_4.1 17 (by decide))
  have t_12 : (s_2.1 18).toInt = (σ.1 18).toInt := congrArg Int32.toInt (f_4.1 18 (by decide))
  have w_13 : s_2.2.1 12 = σ.2.1 12 := f_4.2.1 12 (by decide)
  have w_14 : s_2.2.1 13 = σ.2.1 13 := f_4.2.1 13 (by decide)
  have w_15 : s_2.2.1 14 = σ.2.1 14 := f_4.2.1 14 (by decide)
  have w_16 : s_2.2.2 15 = σ.2.2 15 := f_4.2.2 15 (by decide)
  refine fd_e_bd (s_X11_join_0 N hN _ iM) ?_
  rintro v_17 s_18 ⟨i_19, f_20, x_21⟩
  have t_22 : (s_18.1 1).toInt = (μ.1 1).toInt := congrArg Int32.toInt (f_20.1 1 (by decide))
  have t_23 : (s_18.1 2).toInt = (μ.1 2).toInt := congrArg Int32.toInt (f_20.1 2 (by decide))
  have t_24 : (s_18.1 4).toInt = (μ.1 4).toInt := congrArg Int32.toInt (f_20.1 4 (by decide))
  have t_25 : (s_18.1 3).toInt = (μ.1 3).toInt := congrArg Int32.toInt (f_20.1 3 (by decide))
  have t_26 : (s_18.1 12).toInt = (μ.1 12).toInt := congrArg Int32.toInt (f_20.1 12 (by decide))
  have t_27 : (s_18.1 13).toInt = (μ.1 13).toInt := congrArg Int32.toInt (f_20.1 13 (by decide))
  have t_28 : (s_18.1 14).toInt = (μ.1 14).toInt := congrArg Int32.toInt (f_20.1 14 (by decide))
  have w_29 : s_18.2.1 1 = μ.2.1 1 := f_20.2.1 1 (by decide)
  have w_30 : s_18.2.1 2 = μ.2.1 2 := f_20.2.1 2 (by decide)
  have w_31 : s_18.2.1 3 = μ.2.1 3 := f_20.2.1 3 (by decide)
  have w_32 : s_18.2.2 4 = μ.2.2 4 := f_20.2.2 4 (by decide)
  have e_33 : s_2.2.1 12 = s_18.2.1 1 := (w_13.trans rr0).trans w_29.symm
  have e_34 : s_2.2.1 13 = s_18.2.1 2 := (w_14.trans rr1).trans w_30.symm
  have e_35 : s_2.2.1 14 = s_18.2.1 3 := (w_15.trans rr2).trans w_31.symm
  have e_36 : fd_E (s_2.2.1 12) (s_2.2.1 13) (s_2.2.1 14) (s_2.2.2 15) (s_18.2.2 4) (s_2.1 1).toNatClampNeg := by
    have n1 : s_2.1 1 = σ.1 1 := Int32.toInt_inj.mp (by omega); rw [w_13, w_14, w_15, w_16, w_32, n1]; exact ex
  refine fd_e_lt (fun y_37 ey_37 => ?_)
  have t_38 := fd_la ey_37 (by omega) (by omega)
  have r_39 : fd_R s_2 s_18 := ⟨by omega, by omega, by omega, by omega, by omega, by omega, by omega, e_33, e_34, e_35, e_36⟩
  exact hK _ _ _ i_3 i_19 r_39 (by omega)
set_option maxHeartbeats 4000000 in
theorem u_c13 (N L : Nat) (hN : 1000 ≤ N) (hL : L ≤ 3072) (xs : Nat → Int32) (K : Int32 → fd_St → fd_St → Option Int32) (i : Int32) (σ μ : fd_St) (iC : fd_InvC σ) (iM : fd_InvM μ) (r : fd_R σ μ) (h0 : 0 ≤ i.toInt) (h1 : i.toInt + 6 ≤ (L : Int)) (hK : ∀ (j : Int32) (σ1 μ1 : fd_St), fd_InvC σ1 → fd_InvM μ1 → fd_R σ1 μ1 → j.toInt = i.toInt + 6 → K j σ1 μ1 = some 1) : f_law_c13 N L xs K i σ μ = some 1 := by
  have lit0 : (0 : Int32).toInt = 0 := by decide
  have lit6 : (6 : Int32).toInt = 6 := by decide
  obtain ⟨r0, r1, r2, r3, r4, r5, r6, rr0, rr1, rr2, ex⟩ := r
  have rg : (0 : Int) ≤ (σ.1 1).toInt ∧ (σ.1 1).toInt ≤ 200 := iC.1 1
  have rh : (0 : Int) ≤ (μ.1 4).toInt ∧ (μ.1 4).toInt ≤ 64 := iM.1 4
  unfold f_law_c13
  generalize xs (i + (1 : Int32)).toNatClampNeg = b1
  refine fd_e_gd (fd_gk h0 h1 hL (by decide)) ?_
  refine fd_e_bd (s_L_share_0_39 N hN _ _ iC) ?_
  rintro v_1 s_2 ⟨i_3, f_4, x_5⟩
  have t_6 : (s_2.1 1).toInt = (σ.1 1).toInt := congrArg Int32.toInt (f_4.1 1 (by decide))
  have t_7 : (s_2.1 2).toInt = (σ.1 2).toInt := congrArg Int32.toInt (f_4.1 2 (by decide))
  have t_8 : (s_2.1 3).toInt = (σ.1 3).toInt := congrArg Int32.toInt (f_4.1 3 (by decide))
  have t_9 : (s_2.1 4).toInt = (σ.1 4).toInt := congrArg Int32.toInt (f_4.1 4 (by decide))
  have t_10 : (s_2.1 16).toInt = (σ.1 16).toInt := congrArg Int32.toInt (f_4.1 16 (by decide))
  have t_11 : (s_2.1 17).toInt = (σ.1 17).toInt := congrArg Int32.toInt (f_4.1 17 (by decide))
  have t_12 : (s_2.1 18).toInt = (σ.1 18).toInt := congrArg Int32.toInt (f_4.1 18 (by decide))
  have w_13 : s_2.2.1 12 = σ.2.1 12 := f_4.2.1 12 (by decide)
  have w_14 : s_2.2.1 13 = σ.2.1 13 := f_4.2.1 13 (by decide)
  have w_15 : s_2.2.1 14 = σ.2.1 14 := f_4.2.1 14 (by decide)
  have w_16 : s_2.2.2 15 = σ.2.2 15 := f_4.2.2 15 (by decide)
  refine fd_e_gd (fd_gk h0 h1 hL (by decide)) ?_
  refine fd_e_bd (s_X11_share_0 N hN _ _ iM) ?_
  rintro v_17 s_18 ⟨i_19, f_20, x_21⟩
  have t_22 : (s_18.1 1).toInt = (μ.1 1).toInt := congrArg Int32.toInt (f_20.1 1 (by decide))
  have t_23 : (s_18.1 2).toInt = (μ.1 2).toInt := congrArg Int32.toInt (f_20.1 2 (by decide))
  have t_24 : (s_18.1 4).toInt = (μ.1 4).toInt := congrArg Int32.toInt (f_20.1 4 (by decide))
  have t_25 : (s_18.1 3).toInt = (μ.1 3).toInt := congrArg Int32.toInt (f_20.1 3 (by decide))
  have t_26 : (s_18.1 12).toInt = (μ.1 12).toInt := congrArg Int32.toInt (f_20.1 12 (by decide))
  have t_27 : (s_18.1 13).toInt = (μ.1 13).toInt := congrArg Int32.toInt (f_20.1 13 (by decide))
  have t_28 : (s_18.1 14).toInt = (μ.1 14).toInt := congrArg Int32.toInt (f_20.1 14 (by decide))
  have w_29 : s_18.2.1 1 = μ.2.1 1 := f_20.2.1 1 (by decide)
  have w_30 : s_18.2.1 2 = μ.2.1 2 := f_20.2.1 2 (by decide)
  have w_31 : s_18.2.1 3 = μ.2.1 3 := f_20.2.1 3 (by decide)
  have w_32 : s_18.2.2 4 = μ.2.2 4 := f_20.2.2 4 (by decide)
  have e_33 : s_2.2.1 12 = s_18.2.1 1 := (w_13.trans rr0).trans w_29.symm
  have e_34 : s_2.2.1 13 = s_18.2.1 2 := (w_14.trans rr1).trans w_30.symm
  have e_35 : s_2.2.1 14 = s_18.2.1 3 := (w_15.trans rr2).trans w_31.symm
  have e_36 : fd_E (s_2.2.1 12) (s_2.2.1 13) (s_2.2.1 14) (s_2.2.2 15) (s_18.2.2 4) (s_2.1 1).toNatClampNeg := by
    have n1 : s_2.1 1 = σ.1 1 := Int32.toInt_inj.mp (by omega); rw [w_13, w_14, w_15, w_16, w_32, n1]; exact ex
  refine fd_e_lt (fun y_37 ey_37 => ?_)
  have t_38 := fd_la ey_37 (by omega) (by omega)
  have r_39 : fd_R s_2 s_18 := ⟨by omega, by omega, by omega, by omega, by omega, by omega, by omega, e_33, e_34, e_35, e_36⟩
  exact hK _ _ _ i_3 i_19 r_39 (by omega)
set_option maxHeartbeats 4000000 in
theorem u_c14 (N L : Nat) (hN : 1000 ≤ N) (hL : L ≤ 3072) (xs : Nat → Int32) (K : Int32 → fd_St → fd_St → Option Int32) (i : Int32) (σ μ : fd_St) (iC : fd_InvC σ) (iM : fd_InvM μ) (r : fd_R σ μ) (h0 : 0 ≤ i.toInt) (h1 : i.toInt + 6 ≤ (L : Int)) (hK : ∀ (j : Int32) (σ1 μ1 : fd_St), fd_InvC σ1 → fd_InvM μ1 → fd_R σ1 μ1 → j.toInt = i.toInt + 6 → K j σ1 μ1 = some 1) : f_law_c14 N L xs K i σ μ = some 1 := by
  have lit0 : (0 : Int32).toInt = 0 := by decide
  have lit6 : (6 : Int32).toInt = 6 := by decide
  obtain ⟨r0, r1, r2, r3, r4, r5, r6, rr0, rr1, rr2, ex⟩ := r
  have rg : (0 : Int) ≤ (σ.1 1).toInt ∧ (σ.1 1).toInt ≤ 200 := iC.1 1
  have rh : (0 : Int) ≤ (μ.1 4).toInt ∧ (μ.1 4).toInt ≤ 64 := iM.1 4
  unfold f_law_c14
  generalize xs (i + (1 : Int32)).toNatClampNeg = b1
  refine fd_e_gd (fd_gk h0 h1 hL (by decide)) ?_
  refine fd_e_bd (s_L_chain_0 N hN _ _ iC) ?_
  rintro v_1 s_2 ⟨i_3, f_4, x_5⟩
  have t_6 : (s_2.1 1).toInt = (σ.1 1).toInt := congrArg Int32.toInt (f_4.1 1 (by decide))
  have t_7 : (s_2.1 2).toInt = (σ.1 2).toInt := congrArg Int32.toInt (f_4.1 2 (by decide))
  have t_8 : (s_2.1 3).toInt = (σ.1 3).toInt := congrArg Int32.toInt (f_4.1 3 (by decide))
  have t_9 : (s_2.1 4).toInt = (σ.1 4).toInt := congrArg Int32.toInt (f_4.1 4 (by decide))
  have t_10 : (s_2.1 18).toInt = (σ.1 18).toInt := congrArg Int32.toInt (f_4.1 18 (by decide))
  have w_11 : s_2.2.1 12 = σ.2.1 12 := f_4.2.1 12 (by decide)
  have w_12 : s_2.2.1 13 = σ.2.1 13 := f_4.2.1 13 (by decide)
  have w_13 : s_2.2.1 14 = σ.2.1 14 := f_4.2.1 14 (by decide)
  have w_14 : s_2.2.2 15 = σ.2.2 15 := f_4.2.2 15 (by decide)
  refine fd_e_gd (fd_gk h0 h1 hL (by decide)) ?_
  refine fd_e_bd (s_X11_chain_0 N hN _ _ iM) ?_
  rintro v_15 s_16 ⟨i_17, f_18, x_19⟩
  have t_20 : (s_16.1 1).toInt = (μ.1 1).toInt := congrArg Int32.toInt (f_18.1 1 (by decide))
  have t_21 : (s_16.1 2).toInt = (μ.1 2).toInt := congrArg Int32.toInt (f_18.1 2 (by decide))
  have t_22 : (s_16.1 4).toInt = (μ.1 4).toInt := congrArg Int32.toInt (f_18.1 4 (by decide))
  have t_23 : (s_16.1 3).toInt = (μ.1 3).toInt := congrArg Int32.toInt (f_18.1 3 (by decide))
  have t_24 : (s_16.1 14).toInt = (μ.1 14).toInt := congrArg Int32.toInt (f_18.1 14 (by decide))
  have w_25 : s_16.2.1 1 = μ.2.1 1 := f_18.2.1 1 (by decide)
  have w_26 : s_16.2.1 2 = μ.2.1 2 := f_18.2.1 2 (by decide)
  have w_27 : s_16.2.1 3 = μ.2.1 3 := f_18.2.1 3 (by decide)
  have w_28 : s_16.2.2 4 = μ.2.2 4 := f_18.2.2 4 (by decide)
  have e_29 : s_2.2.1 12 = s_16.2.1 1 := (w_11.trans rr0).trans w_25.symm
  have e_30 : s_2.2.1 13 = s_16.2.1 2 := (w_12.trans rr1).trans w_26.symm
  have e_31 : s_2.2.1 14 = s_16.2.1 3 := (w_13.trans rr2).trans w_27.symm
  have e_32 : fd_E (s_2.2.1 12) (s_2.2.1 13) (s_2.2.1 14) (s_2.2.2 15) (s_16.2.2 4) (s_2.1 1).toNatClampNeg := by
    have n1 : s_2.1 1 = σ.1 1 := Int32.toInt_inj.mp (by omega); rw [w_11, w_12, w_13, w_14, w_28, n1]; exact ex
  refine fd_e_lt (fun y_33 ey_33 => ?_)
  have t_34 := fd_la ey_33 (by omega) (by omega)
  have r_35 : fd_R s_2 s_16 := ⟨by omega, by omega, by omega, by omega, by omega, by omega, by omega, e_29, e_30, e_31, e_32⟩
  exact hK _ _ _ i_3 i_17 r_35 (by omega)
