set_option maxHeartbeats 4000000 in
theorem u_c8 (N L : Nat) (hN : 1000 ≤ N) (hL : L ≤ 3072) (xs : Nat → Int32) (K : Int32 → fd_St → fd_St → Option Int32) (i : Int32) (σ μ : fd_St) (iC : fd_InvC σ) (iM : fd_InvM μ) (r : fd_R σ μ) (h0 : 0 ≤ i.toInt) (h1 : i.toInt + 6 ≤ (L : Int)) (hK : ∀ (j : Int32) (σ1 μ1 : fd_St), fd_InvC σ1 → fd_InvM μ1 → fd_R σ1 μ1 → j.toInt = i.toInt + 6 → K j σ1 μ1 = some 1) : f_law_c8 N L xs K i σ μ = some 1 := by
  have lit0 : (0 : Int32).toInt = 0 := by decide
  have lit6 : (6 : Int32).toInt = 6 := by decide
  obtain ⟨r0, r1, r2, r3, r4, r5, r6, rr0, rr1, rr2, rr3, rr4, exs⟩ := r
  have rs : (0 : Int) ≤ (σ.1 18).toInt ∧ (σ.1 18).toInt ≤ 60 := iC.1 18
  unfold f_law_c8
  generalize xs (i + (1 : Int32)).toNatClampNeg = b1
  generalize xs (i + (2 : Int32)).toNatClampNeg = b2
  generalize xs (i + (3 : Int32)).toNatClampNeg = b3
  refine fd_e_gd (fd_gk h0 h1 hL (by decide)) ?_
  refine fd_e_gd (fd_gk h0 h1 hL (by decide)) ?_
  refine fd_e_gd (fd_gk h0 h1 hL (by decide)) ?_
  refine fd_e_bd (s_L_shows_0_39 N hN _ _ _ _ iC) ?_
  rintro v_1 s_2 ⟨i_3, f_4, x_5⟩
  have t_6 : (s_2.1 1).toInt = (σ.1 1).toInt := congrArg Int32.toInt (f_4.1 1 (by decide))
  have t_7 : (s_2.1 2).toInt = (σ.1 2).toInt := congrArg Int32.toInt (f_4.1 2 (by decide))
  have t_8 : (s_2.1 3).toInt = (σ.1 3).toInt := congrArg Int32.toInt (f_4.1 3 (by decide))
  have t_9 : (s_2.1 4).toInt = (σ.1 4).toInt := congrArg Int32.toInt (f_4.1 4 (by decide))
  have t_10 : (s_2.1 16).toInt = (σ.1 16).toInt := congrArg Int32.toInt (f_4.1 16 (by decide))
  have t_11 : (s_2.1 17).toInt = (σ.1 17).toInt := congrArg Int32.toInt (f_4.1 17 (by decide))
  have t_12 : (s_2.1 18).toInt = (σ.1 18).toInt := congrArg Int32.toInt (f_4.1 18 (by decide))
  have w_13 : s_2.2.1 32 = σ.2.1 32 := f_4.2.1 32 (by decide)
  have w_14 : s_2.2.1 33 = σ.2.1 33 := f_4.2.1 33 (by decide)
  have w_15 : s_2.2.1 34 = σ.2.1 34 := f_4.2.1 34 (by decide)
  have w_16 : s_2.2.1 35 = σ.2.1 35 := f_4.2.1 35 (by decide)
  have w_17 : s_2.2.1 36 = σ.2.1 36 := f_4.2.1 36 (by decide)
  refine fd_e_gd (fd_gk h0 h1 hL (by decide)) ?_
  refine fd_e_gd (fd_gk h0 h1 hL (by decide)) ?_
  refine fd_e_gd (fd_gk h0 h1 hL (by decide)) ?_
  refine fd_e_bd (s_X11_shows_0 N hN _ _ _ _ iM) ?_
  rintro v_18 s_19 ⟨i_20, f_21, x_22⟩
  have t_23 : (s_19.1 1).toInt = (μ.1 1).toInt := congrArg Int32.toInt (f_21.1 1 (by decide))
  have t_24 : (s_19.1 2).toInt = (μ.1 2).toInt := congrArg Int32.toInt (f_21.1 2 (by decide))
  have t_25 : (s_19.1 4).toInt = (μ.1 4).toInt := congrArg Int32.toInt (f_21.1 4 (by decide))
  have t_26 : (s_19.1 3).toInt = (μ.1 3).toInt := congrArg Int32.toInt (f_21.1 3 (by decide))
  have t_27 : (s_19.1 12).toInt = (μ.1 12).toInt := congrArg Int32.toInt (f_21.1 12 (by decide))
  have t_28 : (s_19.1 13).toInt = (μ.1 13).toInt := congrArg Int32.toInt (f_21.1 13 (by decide))
  have t_29 : (s_19.1 14).toInt = (μ.1 14).toInt := congrArg Int32.toInt (f_21.1 14 (by decide))
  have w_30 : s_19.2.1 22 = μ.2.1 22 := f_21.2.1 22 (by decide)
  have w_31 : s_19.2.1 23 = μ.2.1 23 := f_21.2.1 23 (by decide)
  have w_32 : s_19.2.1 24 = μ.2.1 24 := f_21.2.1 24 (by decide)
  have w_33 : s_19.2.1 25 = μ.2.1 25 := f_21.2.1 25 (by decide)
  have w_34 : s_19.2.1 26 = μ.2.1 26 := f_21.2.1 26 (by decide)
  have e_35 : s_2.2.1 32 = s_19.2.1 22 := (w_13.trans rr0).trans w_30.symm
  have e_36 : s_2.2.1 33 = s_19.2.1 23 := (w_14.trans rr1).trans w_31.symm
  have e_37 : s_2.2.1 34 = s_19.2.1 24 := (w_15.trans rr2).trans w_32.symm
  have e_38 : s_2.2.1 35 = s_19.2.1 25 := (w_16.trans rr3).trans w_33.symm
  have e_39 : s_2.2.1 36 = s_19.2.1 26 := (w_17.trans rr4).trans w_34.symm
  have e_40 : fd_Sh (s_2.2.1 33) (s_2.2.1 34) (s_2.2.1 35) (s_2.2.1 36) (s_2.1 18).toNatClampNeg := by
    have n8 : s_2.1 18 = σ.1 18 := Int32.toInt_inj.mp (by omega); rw [w_14, w_15, w_16, w_17, n8]; exact exs
  refine fd_e_lt (fun y_41 ey_41 => ?_)
  have t_42 := fd_la ey_41 (by omega) (by omega)
  have r_43 : fd_R s_2 s_19 := ⟨by omega, by omega, by omega, by omega, by omega, by omega, by omega, e_35, e_36, e_37, e_38, e_39, e_40⟩
  exact hK _ _ _ i_3 i_20 r_43 (by omega)
set_option maxHeartbeats 4000000 in
theorem u_c9 (N L : Nat) (hN : 1000 ≤ N) (hL : L ≤ 3072) (xs : Nat → Int32) (K : Int32 → fd_St → fd_St → Option Int32) (i : Int32) (σ μ : fd_St) (iC : fd_InvC σ) (iM : fd_InvM μ) (r : fd_R σ μ) (h0 : 0 ≤ i.toInt) (h1 : i.toInt + 6 ≤ (L : Int)) (hK : ∀ (j : Int32) (σ1 μ1 : fd_St), fd_InvC σ1 → fd_InvM μ1 → fd_R σ1 μ1 → j.toInt = i.toInt + 6 → K j σ1 μ1 = some 1) : f_law_c9 N L xs K i σ μ = some 1 := by
  have lit0 : (0 : Int32).toInt = 0 := by decide
  have lit6 : (6 : Int32).toInt = 6 := by decide
  obtain ⟨r0, r1, r2, r3, r4, r5, r6, rr0, rr1, rr2, rr3, rr4, exs⟩ := r
  have rs : (0 : Int) ≤ (σ.1 18).toInt ∧ (σ.1 18).toInt ≤ 60 := iC.1 18
  unfold f_law_c9
  refine fd_e_bd (s_X10_run_0 N hN _ iC) ?_
  rintro v_1 s_2 ⟨i_3, f_4, x_5⟩
  have t_6 : (s_2.1 1).toInt = (σ.1 1).toInt := congrArg Int32.toInt (f_4.1 1 (by decide))
  have t_7 : (s_2.1 2).toInt = (σ.1 2).toInt := congrArg Int32.toInt (f_4.1 2 (by decide))
  have t_8 : (s_2.1 3).toInt = (σ.1 3).toInt := congrArg Int32.toInt (f_4.1 3 (by decide))
  have t_9 : (s_2.1 4).toInt = (σ.1 4).toInt := congrArg Int32.toInt (f_4.1 4 (by decide))
  have t_10 : (s_2.1 16).toInt = (σ.1 16).toInt := congrArg Int32.toInt (f_4.1 16 (by decide))
  have t_11 : (s_2.1 17).toInt = (σ.1 17).toInt := congrArg Int32.toInt (f_4.1 17 (by decide))
  have t_12 : (s_2.1 18).toInt = (σ.1 18).toInt := congrArg Int32.toInt (f_4.1 18 (by decide))
  have w_13 : s_2.2.1 32 = σ.2.1 32 := f_4.2.1 32 (by decide)
  have w_14 : s_2.2.1 33 = σ.2.1 33 := f_4.2.1 33 (by decide)
  have w_15 : s_2.2.1 34 = σ.2.1 34 := f_4.2.1 34 (by decide)
  have w_16 : s_2.2.1 35 = σ.2.1 35 := f_4.2.1 35 (by decide)
  have w_17 : s_2.2.1 36 = σ.2.1 36 := f_4.2.1 36 (by decide)
  refine fd_e_lt (fun y_18 ey_18 => ?_)
  have i_19 : fd_InvC y_18 := by subst ey_18; exact i_3
  have t_20 : (y_18.1 1).toInt = (s_2.1 1).toInt := by subst ey_18; rfl
  have t_21 : (y_18.1 2).toInt = (s_2.1 2).toInt := by subst ey_18; rfl
  have t_22 : (y_18.1 3).toInt = (s_2.1 3).toInt := by subst ey_18; rfl
  have t_23 : (y_18.1 4).toInt = (s_2.1 4).toInt := by subst ey_18; rfl
  have t_24 : (y_18.1 16).toInt = (s_2.1 16).toInt := by subst ey_18; rfl
  have t_25 : (y_18.1 17).toInt = (s_2.1 17).toInt := by subst ey_18; rfl
  have t_26 : (y_18.1 18).toInt = (s_2.1 18).toInt := by subst ey_18; rfl
  have w_27 := fd_ymixA (d := 32) ey_18 w_13
  have w_28 := fd_ymixA (d := 33) ey_18 w_14
  have w_29 := fd_ymixA (d := 34) ey_18 w_15
  have w_30 := fd_ymixA (d := 35) ey_18 w_16
  have w_31 := fd_ymixA (d := 36) ey_18 w_17
  refine fd_e_bd (s_X11_run_0 N hN _ iM) ?_
  rintro v_32 s_33 ⟨i_34, f_35, x_36⟩
  have t_37 : (s_33.1 1).toInt = (μ.1 1).toInt := congrArg Int32.toInt (f_35.1 1 (by decide))
  have t_38 : (s_33.1 2).toInt = (μ.1 2).toInt := congrArg Int32.toInt (f_35.1 2 (by decide))
  have t_39 : (s_33.1 4).toInt = (μ.1 4).toInt := congrArg Int32.toInt (f_35.1 4 (by decide))
  have t_40 : (s_33.1 3).toInt = (μ.1 3).toInt := congrArg Int32.toInt (f_35.1 3 (by decide))
  have t_41 : (s_33.1 12).toInt = (μ.1 12).toInt := congrArg Int32.toInt (f_35.1 12 (by decide))
  have t_42 : (s_33.1 13).toInt = (μ.1 13).toInt := congrArg Int32.toInt (f_35.1 13 (by decide))
  have t_43 : (s_33.1 14).toInt = (μ.1 14).toInt := congrArg Int32.toInt (f_35.1 14 (by decide))
  have w_44 : s_33.2.1 22 = μ.2.1 22 := f_35.2.1 22 (by decide)
  have w_45 : s_33.2.1 23 = μ.2.1 23 := f_35.2.1 23 (by decide)
  have w_46 : s_33.2.1 24 = μ.2.1 24 := f_35.2.1 24 (by decide)
  have w_47 : s_33.2.1 25 = μ.2.1 25 := f_35.2.1 25 (by decide)
  have w_48 : s_33.2.1 26 = μ.2.1 26 := f_35.2.1 26 (by decide)
  have e_49 : y_18.2.1 32 = s_33.2.1 22 := (w_27.trans rr0).trans w_44.symm
  have e_50 : y_18.2.1 33 = s_33.2.1 23 := (w_28.trans rr1).trans w_45.symm
  have e_51 : y_18.2.1 34 = s_33.2.1 24 := (w_29.trans rr2).trans w_46.symm
  have e_52 : y_18.2.1 35 = s_33.2.1 25 := (w_30.trans rr3).trans w_47.symm
  have e_53 : y_18.2.1 36 = s_33.2.1 26 := (w_31.trans rr4).trans w_48.symm
  have e_54 : fd_Sh (y_18.2.1 33) (y_18.2.1 34) (y_18.2.1 35) (y_18.2.1 36) (y_18.1 18).toNatClampNeg := by
    have n8 : y_18.1 18 = σ.1 18 := Int32.toInt_inj.mp (by omega); rw [w_28, w_29, w_30, w_31, n8]; exact exs
  refine fd_e_lt (fun y_55 ey_55 => ?_)
  have t_56 := fd_la ey_55 (by omega) (by omega)
  have r_57 : fd_R y_18 s_33 := ⟨by omega, by omega, by omega, by omega, by omega, by omega, by omega, e_49, e_50, e_51, e_52, e_53, e_54⟩
  exact hK _ _ _ i_19 i_34 r_57 (by omega)
set_option maxHeartbeats 4000000 in
theorem u_c10 (N L : Nat) (hN : 1000 ≤ N) (hL : L ≤ 3072) (xs : Nat → Int32) (K : Int32 → fd_St → fd_St → Option Int32) (i : Int32) (σ μ : fd_St) (iC : fd_InvC σ) (iM : fd_InvM μ) (r : fd_R σ μ) (h0 : 0 ≤ i.toInt) (h1 : i.toInt + 6 ≤ (L : Int)) (hK : ∀ (j : Int32) (σ1 μ1 : fd_St), fd_InvC σ1 → fd_InvM μ1 → fd_R σ1 μ1 → j.toInt = i.toInt + 6 → K j σ1 μ1 = some 1) : f_law_c10 N L xs K i σ μ = some 1 := by
  have lit0 : (0 : Int32).toInt = 0 := by decide
  have lit6 : (6 : Int32).toInt = 6 := by decide
  obtain ⟨r0, r1, r2, r3, r4, r5, r6, rr0, rr1, rr2, rr3, rr4, exs⟩ := r
  have rs : (0 : Int) ≤ (σ.1 18).toInt ∧ (σ.1 18).toInt ≤ 60 := iC.1 18
  unfold f_law_c10
  generalize xs (i + (1 : Int32)).toNatClampNeg = b1
  generalize xs (i + (2 : Int32)).toNatClampNeg = b2
  refine fd_e_gd (fd_gk h0 h1 hL (by decide)) ?_
  refine fd_e_gd (fd_gk h0 h1 hL (by decide)) ?_
  refine fd_e_bd (s_L_suspect_0_39 N hN _ _ _ iC) ?_
  rintro v_1 s_2 ⟨i_3, f_4, x_5⟩
  have t_6 : (s_2.1 1).toInt = (σ.1 1).toInt := congrArg Int32.toInt (f_4.1 1 (by decide))
  have t_7 : (s_2.1 2).toInt = (σ.1 2).toInt := congrArg Int32.toInt (f_4.1 2 (by decide))
  have t_8 : (s_2.1 3).toInt = (σ.1 3).toInt := congrArg Int32.toInt (f_4.1 3 (by decide))
  have t_9 : (s_2.1 4).toInt = (σ.1 4).toInt := congrArg Int32.toInt (f_4.1 4 (by decide))
  have t_10 : (s_2.1 16).toInt = (σ.1 16).toInt := congrArg Int32.toInt (f_4.1 16 (by decide))
  have t_11 : (s_2.1 17).toInt = (σ.1 17).toInt := congrArg Int32.toInt (f_4.1 17 (by decide))
  have t_12 : (s_2.1 18).toInt = (σ.1 18).toInt := congrArg Int32.toInt (f_4.1 18 (by decide))
  have w_13 : s_2.2.1 32 = σ.2.1 32 := f_4.2.1 32 (by decide)
  have w_14 : s_2.2.1 33 = σ.2.1 33 := f_4.2.1 33 (by decide)
  have w_15 : s_2.2.1 34 = σ.2.1 34 := f_4.2.1 34 (by decide)
  have w_16 : s_2.2.1 35 = σ.2.1 35 := f_4.2.1 35 (by decide)
  have w_17 : s_2.2.1 36 = σ.2.1 36 := f_4.2.1 36 (by decide)
  refine fd_e_gd (fd_gk h0 h1 hL (by decide)) ?_
  refine fd_e_gd (fd_gk h0 h1 hL (by decide)) ?_
  refine fd_e_bd (s_X11_suspect_0 N hN _ _ _ iM) ?_
  rintro v_18 s_19 ⟨i_20, f_21, x_22⟩
  have t_23 : (s_19.1 1).toInt = (μ.1 1).toInt := congrArg Int32.toInt (f_21.1 1 (by decide))
  have t_24 : (s_19.1 2).toInt = (μ.1 2).toInt := congrArg Int32.toInt (f_21.1 2 (by decide))
  have t_25 : (s_19.1 4).toInt = (μ.1 4).toInt := congrArg Int32.toInt (f_21.1 4 (by decide))
  have t_26 : (s_19.1 3).toInt = (μ.1 3).toInt := congrArg Int32.toInt (f_21.1 3 (by decide))
  have t_27 : (s_19.1 12).toInt = (μ.1 12).toInt := congrArg Int32.toInt (f_21.1 12 (by decide))
  have t_28 : (s_19.1 13).toInt = (μ.1 13).toInt := congrArg Int32.toInt (f_21.1 13 (by decide))
  have t_29 : (s_19.1 14).toInt = (μ.1 14).toInt := congrArg Int32.toInt (f_21.1 14 (by decide))
  have w_30 : s_19.2.1 22 = μ.2.1 22 := f_21.2.1 22 (by decide)
  have w_31 : s_19.2.1 23 = μ.2.1 23 := f_21.2.1 23 (by decide)
  have w_32 : s_19.2.1 24 = μ.2.1 24 := f_21.2.1 24 (by decide)
  have w_33 : s_19.2.1 25 = μ.2.1 25 := f_21.2.1 25 (by decide)
  have w_34 : s_19.2.1 26 = μ.2.1 26 := f_21.2.1 26 (by decide)
  have e_35 : s_2.2.1 32 = s_19.2.1 22 := (w_13.trans rr0).trans w_30.symm
  have e_36 : s_2.2.1 33 = s_19.2.1 23 := (w_14.trans rr1).trans w_31.symm
  have e_37 : s_2.2.1 34 = s_19.2.1 24 := (w_15.trans rr2).trans w_32.symm
  have e_38 : s_2.2.1 35 = s_19.2.1 25 := (w_16.trans rr3).trans w_33.symm
  have e_39 : s_2.2.1 36 = s_19.2.1 26 := (w_17.trans rr4).trans w_34.symm
  have e_40 : fd_Sh (s_2.2.1 33) (s_2.2.1 34) (s_2.2.1 35) (s_2.2.1 36) (s_2.1 18).toNatClampNeg := by
    have n8 : s_2.1 18 = σ.1 18 := Int32.toInt_inj.mp (by omega); rw [w_14, w_15, w_16, w_17, n8]; exact exs
  refine fd_e_lt (fun y_41 ey_41 => ?_)
  have t_42 := fd_la ey_41 (by omega) (by omega)
  have r_43 : fd_R s_2 s_19 := ⟨by omega, by omega, by omega, by omega, by omega, by omega, by omega, e_35, e_36, e_37, e_38, e_39, e_40⟩
  exact hK _ _ _ i_3 i_20 r_43 (by omega)
set_option maxHeartbeats 4000000 in
theorem u_c11 (N L : Nat) (hN : 1000 ≤ N) (hL : L ≤ 3072) (xs : Nat → Int32) (K : Int32 → fd_St → fd_St → Option Int32) (i : Int32) (σ μ : fd_St) (iC : fd_InvC σ) (iM : fd_InvM μ) (r : fd_R σ μ) (h0 : 0 ≤ i.toInt) (h1 : i.toInt + 6 ≤ (L : Int)) (hK : ∀ (j : Int32) (σ1 μ1 : fd_St), fd_InvC σ1 → fd_InvM μ1 → fd_R σ1 μ1 → j.toInt = i.toInt + 6 → K j σ1 μ1 = some 1) : f_law_c11 N L xs K i σ μ = some 1 := by
  have lit0 : (0 : Int32).toInt = 0 := by decide
  have lit6 : (6 : Int32).toInt = 6 := by decide
  obtain ⟨r0, r1, r2, r3, r4, r5, r6, rr0, rr1, rr2, rr3, rr4, exs⟩ := r
  have rs : (0 : Int) ≤ (σ.1 18).toInt ∧ (σ.1 18).toInt ≤ 60 := iC.1 18
  unfold f_law_c11
  generalize xs (i + (1 : Int32)).toNatClampNeg = b1
  refine fd_e_gd (fd_gk h0 h1 hL (by decide)) ?_
  refine fd_e_bd (s_L_pair_0_39 N hN _ _ iC) ?_
  rintro v_1 s_2 ⟨i_3, f_4, x_5⟩
  have t_6 : (s_2.1 1).toInt = (σ.1 1).toInt := congrArg Int32.toInt (f_4.1 1 (by decide))
  have t_7 : (s_2.1 2).toInt = (σ.1 2).toInt := congrArg Int32.toInt (f_4.1 2 (by decide))
  have t_8 : (s_2.1 3).toInt = (σ.1 3).toInt := congrArg Int32.toInt (f_4.1 3 (by decide))
  have t_9 : (s_2.1 4).toInt = (σ.1 4).toInt := congrArg Int32.toInt (f_4.1 4 (by decide))
  have t_10 : (s_2.1 16).toInt = (σ.1 16).toInt := congrArg Int32.toInt (f_4.1 16 (by decide))
  have t_11 : (s_2.1 17).toInt = (σ.1 17).toInt := congrArg Int32.toInt (f_4.1 17 (by decide))
  have t_12 : (s_2.1 18).toInt = (σ.1 18).toInt := congrArg Int32.toInt (f_4.1 18 (by decide))
  have w_13 : s_2.2.1 32 = σ.2.1 32 := f_4.2.1 32 (by decide)
  have w_14 : s_2.2.1 33 = σ.2.1 33 := f_4.2.1 33 (by decide)
  have w_15 : s_2.2.1 34 = σ.2.1 34 := f_4.2.1 34 (by decide)
  have w_16 : s_2.2.1 35 = σ.2.1 35 := f_4.2.1 35 (by decide)
  have w_17 : s_2.2.1 36 = σ.2.1 36 := f_4.2.1 36 (by decide)
  refine fd_e_gd (fd_gk h0 h1 hL (by decide)) ?_
  refine fd_e_bd (s_X11_pair_0 N hN _ _ iM) ?_
  rintro v_18 s_19 ⟨i_20, f_21, x_22⟩
  have t_23 : (s_19.1 1).toInt = (μ.1 1).toInt := congrArg Int32.toInt (f_21.1 1 (by decide))
  have t_24 : (s_19.1 2).toInt = (μ.1 2).toInt := congrArg Int32.toInt (f_21.1 2 (by decide))
  have t_25 : (s_19.1 4).toInt = (μ.1 4).toInt := congrArg Int32.toInt (f_21.1 4 (by decide))
  have t_26 : (s_19.1 3).toInt = (μ.1 3).toInt := congrArg Int32.toInt (f_21.1 3 (by decide))
  have t_27 : (s_19.1 12).toInt = (μ.1 12).toInt := congrArg Int32.toInt (f_21.1 12 (by decide))
  have t_28 : (s_19.1 13).toInt = (μ.1 13).toInt := congrArg Int32.toInt (f_21.1 13 (by decide))
  have t_29 : (s_19.1 14).toInt = (μ.1 14).toInt := congrArg Int32.toInt (f_21.1 14 (by decide))
  have w_30 : s_19.2.1 22 = μ.2.1 22 := f_21.2.1 22 (by decide)
  have w_31 : s_19.2.1 23 = μ.2.1 23 := f_21.2.1 23 (by decide)
  have w_32 : s_19.2.1 24 = μ.2.1 24 := f_21.2.1 24 (by decide)
  have w_33 : s_19.2.1 25 = μ.2.1 25 := f_21.2.1 25 (by decide)
  have w_34 : s_19.2.1 26 = μ.2.1 26 := f_21.2.1 26 (by decide)
  have e_35 : s_2.2.1 32 = s_19.2.1 22 := (w_13.trans rr0).trans w_30.symm
  have e_36 : s_2.2.1 33 = s_19.2.1 23 := (w_14.trans rr1).trans w_31.symm
  have e_37 : s_2.2.1 34 = s_19.2.1 24 := (w_15.trans rr2).trans w_32.symm
  have e_38 : s_2.2.1 35 = s_19.2.1 25 := (w_16.trans rr3).trans w_33.symm
  have e_39 : s_2.2.1 36 = s_19.2.1 26 := (w_17.trans rr4).trans w_34.symm
  have e_40 : fd_Sh (s_2.2.1 33) (s_2.2.1 34) (s_2.2.1 35) (s_2.2.1 36) (s_2.1 18).toNatClampNeg := by
    have n8 : s_2.1 18 = σ.1 18 := Int32.toInt_inj.mp (by omega); rw [w_14, w_15, w_16, w_17, n8]; exact exs
  refine fd_e_lt (fun y_41 ey_41 => ?_)
  have t_42 := fd_la ey_41 (by omega) (by omega)
  have r_43 : fd_R s_2 s_19 := ⟨by omega, by omega, by omega, by omega, by omega, by omega, by omega, e_35, e_36, e_37, e_38, e_39, e_40⟩
  exact hK _ _ _ i_3 i_20 r_43 (by omega)
set_option maxHeartbeats 4000000 in
theorem u_c12 (N L : Nat) (hN : 1000 ≤ N) (hL : L ≤ 3072) (xs : Nat → Int32) (K : Int32 → fd_St → fd_St → Option Int32) (i : Int32) (σ μ : fd_St) (iC : fd_InvC σ) (iM : fd_InvM μ) (r : fd_R σ μ) (h0 : 0 ≤ i.toInt) (h1 : i.toInt + 6 ≤ (L : Int)) (hK : ∀ (j : Int32) (σ1 μ1 : fd_St), fd_InvC σ1 → fd_InvM μ1 → fd_R σ1 μ1 → j.toInt = i.toInt + 6 → K j σ1 μ1 = some 1) : f_law_c12 N L xs K i σ μ = some 1 := by
  have lit0 : (0 : Int32).toInt = 0 := by decide
  have lit6 : (6 : Int32).toInt = 6 := by decide
  obtain ⟨r0, r1, r2, r3, r4, r5, r6, rr0, rr1, rr2, rr3, rr4, exs⟩ := r
  have rs : (0 : Int) ≤ (σ.1 18).toInt ∧ (σ.1 18).toInt ≤ 60 := iC.1 18
  unfold f_law_c12
  refine fd_e_bd (s_L_join_0_39 N hN _ iC) ?_
  rintro v_1 s_2 ⟨i_3, f_4, x_5⟩
  have t_6 : (s_2.1 1).toInt = (σ.1 1).toInt := congrArg Int32.toInt (f_4.1 1 (by decide))
  have t_7 : (s_2.1 2).toInt = (σ.1 2).toInt := congrArg Int32.toInt (f_4.1 2 (by decide))
  have t_8 : (s_2.1 3).toInt = (σ.1 3).toInt := congrArg Int32.toInt (f_4.1 3 (by decide))
  have t_9 : (s_2.1 4).toInt = (σ.1 4).toInt := congrArg Int32.toInt (f_4.1 4 (by decide))
  have t_10 : (s_2.1 16).toInt = (σ.1 16).toInt := congrArg Int32.toInt (f_4.1 16 (by decide))
  have t_11 : (s_2.1 17).toInt = (σ.1 17).toInt := congrArg Int32.toInt (f_4.1 17 (by decide))
  have t_12 : (s_2.1 18).toInt = (σ.1 18).toInt := congrArg Int32.toInt (f_4.1 18 (by decide))
  have w_13 : s_2.2.1 32 = σ.2.1 32 := f_4.2.1 32 (by decide)
  have w_14 : s_2.2.1 33 = σ.2.1 33 := f_4.2.1 33 (by decide)
  have w_15 : s_2.2.1 34 = σ.2.1 34 := f_4.2.1 34 (by decide)
  have w_16 : s_2.2.1 35 = σ.2.1 35 := f_4.2.1 35 (by decide)
  have w_17 : s_2.2.1 36 = σ.2.1 36 := f_4.2.1 36 (by decide)
  refine fd_e_bd (s_X11_join_0 N hN _ iM) ?_
  rintro v_18 s_19 ⟨i_20, f_21, x_22⟩
  have t_23 : (s_19.1 1).toInt = (μ.1 1).toInt := congrArg Int32.toInt (f_21.1 1 (by decide))
  have t_24 : (s_19.1 2).toInt = (μ.1 2).toInt := congrArg Int32.toInt (f_21.1 2 (by decide))
  have t_25 : (s_19.1 4).toInt = (μ.1 4).toInt := congrArg Int32.toInt (f_21.1 4 (by decide))
  have t_26 : (s_19.1 3).toInt = (μ.1 3).toInt := congrArg Int32.toInt (f_21.1 3 (by decide))
  have t_27 : (s_19.1 12).toInt = (μ.1 12).toInt := congrArg Int32.toInt (f_21.1 12 (by decide))
  have t_28 : (s_19.1 13).toInt = (μ.1 13).toInt := congrArg Int32.toInt (f_21.1 13 (by decide))
  have t_29 : (s_19.1 14).toInt = (μ.1 14).toInt := congrArg Int32.toInt (f_21.1 14 (by decide))
  have w_30 : s_19.2.1 22 = μ.2.1 22 := f_21.2.1 22 (by decide)
  have w_31 : s_19.2.1 23 = μ.2.1 23 := f_21.2.1 23 (by decide)
  have w_32 : s_19.2.1 24 = μ.2.1 24 := f_21.2.1 24 (by decide)
  have w_33 : s_19.2.1 25 = μ.2.1 25 := f_21.2.1 25 (by decide)
  have w_34 : s_19.2.1 26 = μ.2.1 26 := f_21.2.1 26 (by decide)
  have e_35 : s_2.2.1 32 = s_19.2.1 22 := (w_13.trans rr0).trans w_30.symm
  have e_36 : s_2.2.1 33 = s_19.2.1 23 := (w_14.trans rr1).trans w_31.symm
  have e_37 : s_2.2.1 34 = s_19.2.1 24 := (w_15.trans rr2).trans w_32.symm
  have e_38 : s_2.2.1 35 = s_19.2.1 25 := (w_16.trans rr3).trans w_33.symm
  have e_39 : s_2.2.1 36 = s_19.2.1 26 := (w_17.trans rr4).trans w_34.symm
  have e_40 : fd_Sh (s_2.2.1 33) (s_2.2.1 34) (s_2.2.1 35) (s_2.2.1 36) (s_2.1 18).toNatClampNeg := by
    have n8 : s_2.1 18 = σ.1 18 := Int32.toInt_inj.mp (by omega); rw [w_14, w_15, w_16, w_17, n8]; exact exs
  refine fd_e_lt (fun y_41 ey_41 => ?_)
  have t_42 := fd_la ey_41 (by omega) (by omega)
  have r_43 : fd_R s_2 s_19 := ⟨by omega, by omega, by omega, by omega, by omega, by omega, by omega, e_35, e_36, e_37, e_38, e_39, e_40⟩
  exact hK _ _ _ i_3 i_20 r_43 (by omega)
set_option maxHeartbeats 4000000 in
theorem u_c13 (N L : Nat) (hN : 1000 ≤ N) (hL : L ≤ 3072) (xs : Nat → Int32) (K : Int32 → fd_St → fd_St → Option Int32) (i : Int32) (σ μ : fd_St) (iC : fd_InvC σ) (iM : fd_InvM μ) (r : fd_R σ μ) (h0 : 0 ≤ i.toInt) (h1 : i.toInt + 6 ≤ (L : Int)) (hK : ∀ (j : Int32) (σ1 μ1 : fd_St), fd_InvC σ1 → fd_InvM μ1 → fd_R σ1 μ1 → j.toInt = i.toInt + 6 → K j σ1 μ1 = some 1) : f_law_c13 N L xs K i σ μ = some 1 := by
  have lit0 : (0 : Int32).toInt = 0 := by decide
  have lit6 : (6 : Int32).toInt = 6 := by decide
  obtain ⟨r0, r1, r2, r3, r4, r5, r6, rr0, rr1, rr2, rr3, rr4, exs⟩ := r
  have rs : (0 : Int) ≤ (σ.1 18).toInt ∧ (σ.1 18).toInt ≤ 60 := iC.1 18
  unfold f_law_c13
  generalize xs (i + (1 : Int32)).toNatClampNeg = b1
  refine fd_e_gd (fd_gk h0 h1 hL (by decide)) ?_
  refine fd_e_bd (s_L_share_0_39 N hN _ _ iC) ?_
  rintro v_1 s_2 ⟨i_3, f_4, x_5⟩
  have t_6 : (s_2.1 1).toInt = (σ.1 1).toInt := congrArg Int32.toInt (f_4.1 1 (by decide))
  have t_7 : (s_2.1 2).toInt = (σ.1 2).toInt := congrArg Int32.toInt (f_4.1 2 (by decide))
  have t_8 : (s_2.1 3).toInt = (σ.1 3).toInt := congrArg Int32.toInt (f_4.1 3 (by decide))
  have t_9 : (s_2.1 4).toInt = (σ.1 4).toInt := congrArg Int32.toInt (f_4.1 4 (by decide))
  have t_10 : (s_2.1 16).toInt = (σ.1 16).toInt := congrArg Int32.toInt (f_4.1 16 (by decide))
  have t_11 : (s_2.1 17).toInt = (σ.1 17).toInt := congrArg Int32.toInt (f_4.1 17 (by decide))
  have t_12 : (s_2.1 18).toInt = (σ.1 18).toInt := congrArg Int32.toInt (f_4.1 18 (by decide))
  have w_13 : s_2.2.1 32 = σ.2.1 32 := f_4.2.1 32 (by decide)
  have w_14 : s_2.2.1 33 = σ.2.1 33 := f_4.2.1 33 (by decide)
  have w_15 : s_2.2.1 34 = σ.2.1 34 := f_4.2.1 34 (by decide)
  have w_16 : s_2.2.1 35 = σ.2.1 35 := f_4.2.1 35 (by decide)
  have w_17 : s_2.2.1 36 = σ.2.1 36 := f_4.2.1 36 (by decide)
  refine fd_e_gd (fd_gk h0 h1 hL (by decide)) ?_
  refine fd_e_bd (s_X11_share_0 N hN _ _ iM) ?_
  rintro v_18 s_19 ⟨i_20, f_21, x_22⟩
  have t_23 : (s_19.1 1).toInt = (μ.1 1).toInt := congrArg Int32.toInt (f_21.1 1 (by decide))
  have t_24 : (s_19.1 2).toInt = (μ.1 2).toInt := congrArg Int32.toInt (f_21.1 2 (by decide))
  have t_25 : (s_19.1 4).toInt = (μ.1 4).toInt := congrArg Int32.toInt (f_21.1 4 (by decide))
  have t_26 : (s_19.1 3).toInt = (μ.1 3).toInt := congrArg Int32.toInt (f_21.1 3 (by decide))
  have t_27 : (s_19.1 12).toInt = (μ.1 12).toInt := congrArg Int32.toInt (f_21.1 12 (by decide))
  have t_28 : (s_19.1 13).toInt = (μ.1 13).toInt := congrArg Int32.toInt (f_21.1 13 (by decide))
  have t_29 : (s_19.1 14).toInt = (μ.1 14).toInt := congrArg Int32.toInt (f_21.1 14 (by decide))
  have w_30 : s_19.2.1 22 = μ.2.1 22 := f_21.2.1 22 (by decide)
  have w_31 : s_19.2.1 23 = μ.2.1 23 := f_21.2.1 23 (by decide)
  have w_32 : s_19.2.1 24 = μ.2.1 24 := f_21.2.1 24 (by decide)
  have w_33 : s_19.2.1 25 = μ.2.1 25 := f_21.2.1 25 (by decide)
  have w_34 : s_19.2.1 26 = μ.2.1 26 := f_21.2.1 26 (by decide)
  have e_35 : s_2.2.1 32 = s_19.2.1 22 := (w_13.trans rr0).trans w_30.symm
  have e_36 : s_2.2.1 33 = s_19.2.1 23 := (w_14.trans rr1).trans w_31.symm
  have e_37 : s_2.2.1 34 = s_19.2.1 24 := (w_15.trans rr2).trans w_32.symm
  have e_38 : s_2.2.1 35 = s_19.2.1 25 := (w_16.trans rr3).trans w_33.symm
  have e_39 : s_2.2.1 36 = s_19.2.1 26 := (w_17.trans rr4).trans w_34.symm
  have e_40 : fd_Sh (s_2.2.1 33) (s_2.2.1 34) (s_2.2.1 35) (s_2.2.1 36) (s_2.1 18).toNatClampNeg := by
    have n8 : s_2.1 18 = σ.1 18 := Int32.toInt_inj.mp (by omega); rw [w_14, w_15, w_16, w_17, n8]; exact exs
  refine fd_e_lt (fun y_41 ey_41 => ?_)
  have t_42 := fd_la ey_41 (by omega) (by omega)
  have r_43 : fd_R s_2 s_19 := ⟨by omega, by omega, by omega, by omega, by omega, by omega, by omega, e_35, e_36, e_37, e_38, e_39, e_40⟩
  exact hK _ _ _ i_3 i_20 r_43 (by omega)
set_option maxHeartbeats 4000000 in
theorem u_c14 (N L : Nat) (hN : 1000 ≤ N) (hL : L ≤ 3072) (xs : Nat → Int32) (K : Int32 → fd_St → fd_St → Option Int32) (i : Int32) (σ μ : fd_St) (iC : fd_InvC σ) (iM : fd_InvM μ) (r : fd_R σ μ) (h0 : 0 ≤ i.toInt) (h1 : i.toInt + 6 ≤ (L : Int)) (hK : ∀ (j : Int32) (σ1 μ1 : fd_St), fd_InvC σ1 → fd_InvM μ1 → fd_R σ1 μ1 → j.toInt = i.toInt + 6 → K j σ1 μ1 = some 1) : f_law_c14 N L xs K i σ μ = some 1 := by
  have lit0 : (0 : Int32).toInt = 0 := by decide
  have lit6 : (6 : Int32).toInt = 6 := by decide
  obtain ⟨r0, r1, r2, r3, r4, r5, r6, rr0, rr1, rr2, rr3, rr4, exs⟩ := r
  have rs : (0 : Int) ≤ (σ.1 18).toInt ∧ (σ.1 18).toInt ≤ 60 := iC.1 18
  unfold f_law_c14
  generalize xs (i + (1 : Int32)).toNatClampNeg = b1
  refine fd_e_gd (fd_gk h0 h1 hL (by decide)) ?_
  refine fd_e_bd (s_L_chain_0 N hN _ _ iC) ?_
  rintro v_1 s_2 ⟨i_3, f_4, x_5⟩
  have t_6 : (s_2.1 1).toInt = (σ.1 1).toInt := congrArg Int32.toInt (f_4.1 1 (by decide))
  have t_7 : (s_2.1 2).toInt = (σ.1 2).toInt := congrArg Int32.toInt (f_4.1 2 (by decide))
  have t_8 : (s_2.1 3).toInt = (σ.1 3).toInt := congrArg Int32.toInt (f_4.1 3 (by decide))
  have t_9 : (s_2.1 4).toInt = (σ.1 4).toInt := congrArg Int32.toInt (f_4.1 4 (by decide))
  have t_10 : (s_2.1 18).toInt = (σ.1 18).toInt := congrArg Int32.toInt (f_4.1 18 (by decide))
  have w_11 : s_2.2.1 32 = σ.2.1 32 := f_4.2.1 32 (by decide)
  have w_12 : s_2.2.1 33 = σ.2.1 33 := f_4.2.1 33 (by decide)
  have w_13 : s_2.2.1 34 = σ.2.1 34 := f_4.2.1 34 (by decide)
  have w_14 : s_2.2.1 35 = σ.2.1 35 := f_4.2.1 35 (by decide)
  have w_15 : s_2.2.1 36 = σ.2.1 36 := f_4.2.1 36 (by decide)
  refine fd_e_gd (fd_gk h0 h1 hL (by decide)) ?_
  refine fd_e_bd (s_X11_chain_0 N hN _ _ iM) ?_
  rintro v_16 s_17 ⟨i_18, f_19, x_20⟩
  have t_21 : (s_17.1 1).toInt = (μ.1 1).toInt := congrArg Int32.toInt (f_19.1 1 (by decide))
  have t_22 : (s_17.1 2).toInt = (μ.1 2).toInt := congrArg Int32.toInt (f_19.1 2 (by decide))
  have t_23 : (s_17.1 4).toInt = (μ.1 4).toInt := congrArg Int32.toInt (f_19.1 4 (by decide))
  have t_24 : (s_17.1 3).toInt = (μ.1 3).toInt := congrArg Int32.toInt (f_19.1 3 (by decide))
  have t_25 : (s_17.1 14).toInt = (μ.1 14).toInt := congrArg Int32.toInt (f_19.1 14 (by decide))
  have w_26 : s_17.2.1 22 = μ.2.1 22 := f_19.2.1 22 (by decide)
  have w_27 : s_17.2.1 23 = μ.2.1 23 := f_19.2.1 23 (by decide)
  have w_28 : s_17.2.1 24 = μ.2.1 24 := f_19.2.1 24 (by decide)
  have w_29 : s_17.2.1 25 = μ.2.1 25 := f_19.2.1 25 (by decide)
  have w_30 : s_17.2.1 26 = μ.2.1 26 := f_19.2.1 26 (by decide)
  have e_31 : s_2.2.1 32 = s_17.2.1 22 := (w_11.trans rr0).trans w_26.symm
  have e_32 : s_2.2.1 33 = s_17.2.1 23 := (w_12.trans rr1).trans w_27.symm
  have e_33 : s_2.2.1 34 = s_17.2.1 24 := (w_13.trans rr2).trans w_28.symm
  have e_34 : s_2.2.1 35 = s_17.2.1 25 := (w_14.trans rr3).trans w_29.symm
  have e_35 : s_2.2.1 36 = s_17.2.1 26 := (w_15.trans rr4).trans w_30.symm
  have e_36 : fd_Sh (s_2.2.1 33) (s_2.2.1 34) (s_2.2.1 35) (s_2.2.1 36) (s_2.1 18).toNatClampNeg := by
    have n8 : s_2.1 18 = σ.1 18 := Int32.toInt_inj.mp (by omega); rw [w_12, w_13, w_14, w_15, n8]; exact exs
  refine fd_e_lt (fun y_37 ey_37 => ?_)
  have t_38 := fd_la ey_37 (by omega) (by omega)
  have r_39 : fd_R s_2 s_17 := ⟨by omega, by omega, by omega, by omega, by omega, by omega, by omega, e_31, e_32, e_33, e_34, e_35, e_36⟩
  exact hK _ _ _ i_3 i_18 r_39 (by omega)
