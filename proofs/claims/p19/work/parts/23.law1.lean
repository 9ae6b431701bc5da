set_option maxHeartbeats 4000000 in
theorem u_c8 (N L : Nat) (hN : 1000 ≤ N) (hL : L ≤ 3072) (xs : Nat → Int32) (K : Int32 → fd_St → fd_St → Option Int32) (i : Int32) (σ μ : fd_St) (iC : fd_InvC σ) (iM : fd_InvM μ) (r : fd_R σ μ) (h0 : 0 ≤ i.toInt) (h1 : i.toInt + 6 ≤ (L : Int)) (hK : ∀ (j : Int32) (σ1 μ1 : fd_St), fd_InvC σ1 → fd_InvM μ1 → fd_R σ1 μ1 → j.toInt = i.toInt + 6 → K j σ1 μ1 = some 1) : f_law_c8 N L xs K i σ μ = some 1 := by
  have lit0 : (0 : Int32).toInt = 0 := by decide
  have lit6 : (6 : Int32).toInt = 6 := by decide
  obtain ⟨r0, r1, r2, r3, r4, r5, r6, rr0⟩ := r
  unfold f_law_c8
  generalize xs (i + (1 : Int32)).toNatClampNeg = b1
  generalize xs (i + (2 : Int32)).toNatClampNeg = b2
  generalize xs (i + (3 : Int32)).toNatClampNeg = b3
  refine fd_e_gd (fd_gk h0 h1 hL (by decide)) ?_
  refine fd_e_gd (fd_gk h0 h1 hL (by decide)) ?_
  refine fd_e_gd (fd_gk h0 h1 hL (by decide)) ?_
  refine fd_e_bd (s_L_shows_0_39 N hN _ _ _ _ iC) ?_
  rintro v_1 s_2 ⟨i_3, f_4, x_5⟩
  have t_6 : (s_2.1 1).toInt = (σ.1 1).toInt := congrArg Int32.toInt (f_4.1 1 (by decide))
  have t_7 : (s_2.1 2).toInt = (σ.1 2).toInt := congrArg Int32.toInt (f_4.1 2 (by decide))
  have t_8 : (s_2.1 3).toInt = (σ.1 3).toInt := congrArg Int32.toInt (f_4.1 3 (by decide))
  have t_9 : (s_2.1 4).toInt = (σ.1 4).toInt := congrArg Int32.toInt (f_4.1 4 (by decide))
  have t_10 : (s_2.1 16).toInt = (σ.1 16).toInt := congrArg Int32.toInt (f_4.1 16 (by decide))
  have t_11 : (s_2.1 17).toInt = (σ.1 17).toInt := congrArg Int32.toInt (f_4.1 17 (by decide))
  have t_12 : (s_2.1 18).toInt = (σ.1 18).toInt := congrArg Int32.toInt (f_4.1 18 (by decide))
  have w_13 : s_2.2.1 32 = σ.2.1 32 := f_4.2.1 32 (by decide)
  refine fd_e_gd (fd_gk h0 h1 hL (by decide)) ?_
  refine fd_e_gd (fd_gk h0 h1 hL (by decide)) ?_
  refine fd_e_gd (fd_gk h0 h1 hL (by decide)) ?_
  refine fd_e_bd (s_X11_shows_0 N hN _ _ _ _ iM) ?_
  rintro v_14 s_15 ⟨i_16, f_17, x_18⟩
  have t_19 : (s_15.1 1).toInt = (μ.1 1).toInt := congrArg Int32.toInt (f_17.1 1 (by decide))
  have t_20 : (s_15.1 2).toInt = (μ.1 2).toInt := congrArg Int32.toInt (f_17.1 2 (by decide))
  have t_21 : (s_15.1 4).toInt = (μ.1 4).toInt := congrArg Int32.toInt (f_17.1 4 (by decide))
  have t_22 : (s_15.1 3).toInt = (μ.1 3).toInt := congrArg Int32.toInt (f_17.1 3 (by decide))
  have t_23 : (s_15.1 12).toInt = (μ.1 12).toInt := congrArg Int32.toInt (f_17.1 12 (by decide))
  have t_24 : (s_15.1 13).toInt = (μ.1 13).toInt := congrArg Int32.toInt (f_17.1 13 (by decide))
  have t_25 : (s_15.1 14).toInt = (μ.1 14).toInt := congrArg Int32.toInt (f_17.1 14 (by decide))
  have w_26 : s_15.2.1 22 = μ.2.1 22 := f_17.2.1 22 (by decide)
  have e_27 : s_2.2.1 32 = s_15.2.1 22 := (w_13.trans rr0).trans w_26.symm
  refine fd_e_lt (fun y_28 ey_28 => ?_)
  have t_29 := fd_la ey_28 (by omega) (by omega)
  have r_30 : fd_R s_2 s_15 := ⟨by omega, by omega, by omega, by omega, by omega, by omega, by omega, e_27⟩
  exact hK _ _ _ i_3 i_16 r_30 (by omega)
set_option maxHeartbeats 4000000 in
theorem u_c9 (N L : Nat) (hN : 1000 ≤ N) (hL : L ≤ 3072) (xs : Nat → Int32) (K : Int32 → fd_St → fd_St → Option Int32) (i : Int32) (σ μ : fd_St) (iC : fd_InvC σ) (iM : fd_InvM μ) (r : fd_R σ μ) (h0 : 0 ≤ i.toInt) (h1 : i.toInt + 6 ≤ (L : Int)) (hK : ∀ (j : Int32) (σ1 μ1 : fd_St), fd_InvC σ1 → fd_InvM μ1 → fd_R σ1 μ1 → j.toInt = i.toInt + 6 → K j σ1 μ1 = some 1) : f_law_c9 N L xs K i σ μ = some 1 := by
  have lit0 : (0 : Int32).toInt = 0 := by decide
  have lit6 : (6 : Int32).toInt = 6 := by decide
  obtain ⟨r0, r1, r2, r3, r4, r5, r6, rr0⟩ := r
  unfold f_law_c9
  refine fd_e_bd (s_X10_run_0 N hN _ iC) ?_
  rintro v_1 s_2 ⟨i_3, f_4, x_5⟩
  have t_6 : (s_2.1 1).toInt = (σ.1 1).toInt := congrArg Int32.toInt (f_4.1 1 (by decide))
  have t_7 : (s_2.1 2).toInt = (σ.1 2).toInt := congrArg Int32.toInt (f_4.1 2 (by decide))
  have t_8 : (s_2.1 3).toInt = (σ.1 3).toInt := congrArg Int32.toInt (f_4.1 3 (by decide))
  have t_9 : (s_2.1 4).toInt = (σ.1 4).toInt := congrArg Int32.toInt (f_4.1 4 (by decide))
  have t_10 : (s_2.1 16).toInt = (σ.1 16).toInt := congrArg Int32.toInt (f_4.1 16 (by decide))
  have t_11 : (s_2.1 17).toInt = (σ.1 17).toInt := congrArg Int32.toInt (f_4.1 17 (by decide))
  have t_12 : (s_2.1 18).toInt = (σ.1 18).toInt := congrArg Int32.toInt (f_4.1 18 (by decide))
  have w_13 : s_2.2.1 32 = σ.2.1 32 := f_4.2.1 32 (by decide)
  refine fd_e_lt (fun y_14 ey_14 => ?_)
  have i_15 : fd_InvC y_14 := by subst ey_14; exact i_3
  have t_16 : (y_14.1 1).toInt = (s_2.1 1).toInt := by subst ey_14; rfl
  have t_17 : (y_14.1 2).toInt = (s_2.1 2).toInt := by subst ey_14; rfl
  have t_18 : (y_14.1 3).toInt = (s_2.1 3).toInt := by subst ey_14; rfl
  have t_19 : (y_14.1 4).toInt = (s_2.1 4).toInt := by subst ey_14; rfl
  have t_20 : (y_14.1 16).toInt = (s_2.1 16).toInt := by subst ey_14; rfl
  have t_21 : (y_14.1 17).toInt = (s_2.1 17).toInt := by subst ey_14; rfl
  have t_22 : (y_14.1 18).toInt = (s_2.1 18).toInt := by subst ey_14; rfl
  have w_23 := fd_ymixA (d := 32) ey_14 w_13
  refine fd_e_bd (s_X11_run_0 N hN _ iM) ?_
  rintro v_24 s_25 ⟨i_26, f_27, x_28⟩
  have t_29 : (s_25.1 1).toInt = (μ.1 1).toInt := congrArg Int32.toInt (f_27.1 1 (by decide))
  have t_30 : (s_25.1 2).toInt = (μ.1 2).toInt := congrArg Int32.toInt (f_27.1 2 (by decide))
  have t_31 : (s_25.1 4).toInt = (μ.1 4).toInt := congrArg Int32.toInt (f_27.1 4 (by decide))
  have t_32 : (s_25.1 3).toInt = (μ.1 3).toInt := congrArg Int32.toInt (f_27.1 3 (by decide))
  have t_33 : (s_25.1 12).toInt = (μ.1 12).toInt := congrArg Int32.toInt (f_27.1 12 (by decide))
  have t_34 : (s_25.1 13).toInt = (μ.1 13).toInt := congrArg Int32.toInt (f_27.1 13 (by decide))
  have t_35 : (s_25.1 14).toInt = (μ.1 14).toInt := congrArg Int32.toInt (f_27.1 14 (by decide))
  have w_36 : s_25.2.1 22 = μ.2.1 22 := f_27.2.1 22 (by decide)
  have e_37 : y_14.2.1 32 = s_25.2.1 22 := (w_23.trans rr0).trans w_36.symm
  refine fd_e_lt (fun y_38 ey_38 => ?_)
  have t_39 := fd_la ey_38 (by omega) (by omega)
  have r_40 : fd_R y_14 s_25 := ⟨by omega, by omega, by omega, by omega, by omega, by omega, by omega, e_37⟩
  exact hK _ _ _ i_15 i_26 r_40 (by omega)
set_option maxHeartbeats 4000000 in
theorem u_c10 (N L : Nat) (hN : 1000 ≤ N) (hL : L ≤ 3072) (xs : Nat → Int32) (K : Int32 → fd_St → fd_St → Option Int32) (i : Int32) (σ μ : fd_St) (iC : fd_InvC σ) (iM : fd_InvM μ) (r : fd_R σ μ) (h0 : 0 ≤ i.toInt) (h1 : i.toInt + 6 ≤ (L : Int)) (hK : ∀ (j : Int32) (σ1 μ1 : fd_St), fd_InvC σ1 → fd_InvM μ1 → fd_R σ1 μ1 → j.toInt = i.toInt + 6 → K j σ1 μ1 = some 1) : f_law_c10 N L xs K i σ μ = some 1 := by
  have lit0 : (0 : Int32).toInt = 0 := by decide
  have lit6 : (6 : Int32).toInt = 6 := by decide
  obtain ⟨r0, r1, r2, r3, r4, r5, r6, rr0⟩ := r
  unfold f_law_c10
  generalize xs (i + (1 : Int32)).toNatClampNeg = b1
  generalize xs (i + (2 : Int32)).toNatClampNeg = b2
  refine fd_e_gd (fd_gk h0 h1 hL (by decide)) ?_
  refine fd_e_gd (fd_gk h0 h1 hL (by decide)) ?_
  refine fd_e_bd (s_L_suspect_0_39 N hN _ _ _ iC) ?_
  rintro v_1 s_2 ⟨i_3, f_4, x_5⟩
  have t_6 : (s_2.1 1).toInt = (σ.1 1).toInt := congrArg Int32.toInt (f_4.1 1 (by decide))
  have t_7 : (s_2.1 2).toInt = (σ.1 2).toInt := congrArg Int32.toInt (f_4.1 2 (by decide))
  have t_8 : (s_2.1 3).toInt = (σ.1 3).toInt := congrArg Int32.toInt (f_4.1 3 (by decide))
  have t_9 : (s_2.1 4).toInt = (σ.1 4).toInt := congrArg Int32.toInt (f_4.1 4 (by decide))
  have t_10 : (s_2.1 16).toInt = (σ.1 16).toInt := congrArg Int32.toInt (f_4.1 16 (by decide))
  have t_11 : (s_2.1 17).toInt = (σ.1 17).toInt := congrArg Int32.toInt (f_4.1 17 (by decide))
  have t_12 : (s_2.1 18).toInt = (σ.1 18).toInt := congrArg Int32.toInt (f_4.1 18 (by decide))
  have w_13 : s_2.2.1 32 = σ.2.1 32 := f_4.2.1 32 (by decide)
  refine fd_e_gd (fd_gk h0 h1 hL (by decide)) ?_
  refine fd_e_gd (fd_gk h0 h1 hL (by decide)) ?_
  refine fd_e_bd (s_X11_suspect_0 N hN _ _ _ iM) ?_
  rintro v_14 s_15 ⟨i_16, f_17, x_18⟩
  have t_19 : (s_15.1 1).toInt = (μ.1 1).toInt := congrArg Int32.toInt (f_17.1 1 (by decide))
  have t_20 : (s_15.1 2).toInt = (μ.1 2).toInt := congrArg Int32.toInt (f_17.1 2 (by decide))
  have t_21 : (s_15.1 4).toInt = (μ.1 4).toInt := congrArg Int32.toInt (f_17.1 4 (by decide))
  have t_22 : (s_15.1 3).toInt = (μ.1 3).toInt := congrArg Int32.toInt (f_17.1 3 (by decide))
  have t_23 : (s_15.1 12).toInt = (μ.1 12).toInt := congrArg Int32.toInt (f_17.1 12 (by decide))
  have t_24 : (s_15.1 13).toInt = (μ.1 13).toInt := congrArg Int32.toInt (f_17.1 13 (by decide))
  have t_25 : (s_15.1 14).toInt = (μ.1 14).toInt := congrArg Int32.toInt (f_17.1 14 (by decide))
  have w_26 : s_15.2.1 22 = μ.2.1 22 := f_17.2.1 22 (by decide)
  have e_27 : s_2.2.1 32 = s_15.2.1 22 := (w_13.trans rr0).trans w_26.symm
  refine fd_e_lt (fun y_28 ey_28 => ?_)
  have t_29 := fd_la ey_28 (by omega) (by omega)
  have r_30 : fd_R s_2 s_15 := ⟨by omega, by omega, by omega, by omega, by omega, by omega, by omega, e_27⟩
  exact hK _ _ _ i_3 i_16 r_30 (by omega)
set_option maxHeartbeats 4000000 in
theorem u_c11 (N L : Nat) (hN : 1000 ≤ N) (hL : L ≤ 3072) (xs : Nat → Int32) (K : Int32 → fd_St → fd_St → Option Int32) (i : Int32) (σ μ : fd_St) (iC : fd_InvC σ) (iM : fd_InvM μ) (r : fd_R σ μ) (h0 : 0 ≤ i.toInt) (h1 : i.toInt + 6 ≤ (L : Int)) (hK : ∀ (j : Int32) (σ1 μ1 : fd_St), fd_InvC σ1 → fd_InvM μ1 → fd_R σ1 μ1 → j.toInt = i.toInt + 6 → K j σ1 μ1 = some 1) : f_law_c11 N L xs K i σ μ = some 1 := by
  have lit0 : (0 : Int32).toInt = 0 := by decide
  have lit6 : (6 : Int32).toInt = 6 := by decide
  obtain ⟨r0, r1, r2, r3, r4, r5, r6, rr0⟩ := r
  unfold f_law_c11
  generalize xs (i + (1 : Int32)).toNatClampNeg = b1
  refine fd_e_gd (fd_gk h0 h1 hL (by decide)) ?_
  refine fd_e_bd (s_L_pair_0_39 N hN _ _ iC) ?_
  rintro v_1 s_2 ⟨i_3, f_4, x_5⟩
  have t_6 : (s_2.1 1).toInt = (σ.1 1).toInt := congrArg Int32.toInt (f_4.1 1 (by decide))
  have t_7 : (s_2.1 2).toInt = (σ.1 2).toInt := congrArg Int32.toInt (f_4.1 2 (by decide))
  have t_8 : (s_2.1 3).toInt = (σ.1 3).toInt := congrArg Int32.toInt (f_4.1 3 (by decide))
  have t_9 : (s_2.1 4).toInt = (σ.1 4).toInt := congrArg Int32.toInt (f_4.1 4 (by decide))
  have t_10 : (s_2.1 16).toInt = (σ.1 16).toInt := congrArg Int32.toInt (f_4.1 16 (by decide))
  have t_11 : (s_2.1 17).toInt = (σ.1 17).toInt := congrArg Int32.toInt (f_4.1 17 (by decide))
  have t_12 : (s_2.1 18).toInt = (σ.1 18).toInt := congrArg Int32.toInt (f_4.1 18 (by decide))
  have w_13 : s_2.2.1 32 = σ.2.1 32 := f_4.2.1 32 (by decide)
  refine fd_e_gd (fd_gk h0 h1 hL (by decide)) ?_
  refine fd_e_bd (s_X11_pair_0 N hN _ _ iM) ?_
  rintro v_14 s_15 ⟨i_16, f_17, x_18⟩
  have t_19 : (s_15.1 1).toInt = (μ.1 1).toInt := congrArg Int32.toInt (f_17.1 1 (by decide))
  have t_20 : (s_15.1 2).toInt = (μ.1 2).toInt := congrArg Int32.toInt (f_17.1 2 (by decide))
  have t_21 : (s_15.1 4).toInt = (μ.1 4).toInt := congrArg Int32.toInt (f_17.1 4 (by decide))
  have t_22 : (s_15.1 3).toInt = (μ.1 3).toInt := congrArg Int32.toInt (f_17.1 3 (by decide))
  have t_23 : (s_15.1 12).toInt = (μ.1 12).toInt := congrArg Int32.toInt (f_17.1 12 (by decide))
  have t_24 : (s_15.1 13).toInt = (μ.1 13).toInt := congrArg Int32.toInt (f_17.1 13 (by decide))
  have t_25 : (s_15.1 14).toInt = (μ.1 14).toInt := congrArg Int32.toInt (f_17.1 14 (by decide))
  have w_26 : s_15.2.1 22 = μ.2.1 22 := f_17.2.1 22 (by decide)
  have e_27 : s_2.2.1 32 = s_15.2.1 22 := (w_13.trans rr0).trans w_26.symm
  refine fd_e_lt (fun y_28 ey_28 => ?_)
  have t_29 := fd_la ey_28 (by omega) (by omega)
  have r_30 : fd_R s_2 s_15 := ⟨by omega, by omega, by omega, by omega, by omega, by omega, by omega, e_27⟩
  exact hK _ _ _ i_3 i_16 r_30 (by omega)
set_option maxHeartbeats 4000000 in
theorem u_c12 (N L : Nat) (hN : 1000 ≤ N) (hL : L ≤ 3072) (xs : Nat → Int32) (K : Int32 → fd_St → fd_St → Option Int32) (i : Int32) (σ μ : fd_St) (iC : fd_InvC σ) (iM : fd_InvM μ) (r : fd_R σ μ) (h0 : 0 ≤ i.toInt) (h1 : i.toInt + 6 ≤ (L : Int)) (hK : ∀ (j : Int32) (σ1 μ1 : fd_St), fd_InvC σ1 → fd_InvM μ1 → fd_R σ1 μ1 → j.toInt = i.toInt + 6 → K j σ1 μ1 = some 1) : f_law_c12 N L xs K i σ μ = some 1 := by
  have lit0 : (0 : Int32).toInt = 0 := by decide
  have lit6 : (6 : Int32).toInt = 6 := by decide
  obtain ⟨r0, r1, r2, r3, r4, r5, r6, rr0⟩ := r
  unfold f_law_c12
  refine fd_e_bd (s_L_join_0_39 N hN _ iC) ?_
  rintro v_1 s_2 ⟨i_3, f_4, x_5⟩
  have t_6 : (s_2.1 1).toInt = (σ.1 1).toInt := congrArg Int32.toInt (f_4.1 1 (by decide))
  have t_7 : (s_2.1 2).toInt = (σ.1 2).toInt := congrArg Int32.toInt (f_4.1 2 (by decide))
  have t_8 : (s_2.1 3).toInt = (σ.1 3).toInt := congrArg Int32.toInt (f_4.1 3 (by decide))
  have t_9 : (s_2.1 4).toInt = (σ.1 4).toInt := congrArg Int32.toInt (f_4.1 4 (by decide))
  have t_10 : (s_2.1 16).toInt = (σ.1 16).toInt := congrArg Int32.toInt (f_4.1 16 (by decide))
  have t_11 : (s_2.1 17).toInt = (σ.1 17).toInt := congrArg Int32.toInt (f_4.1 17 (by decide))
  have t_12 : (s_2.1 18).toInt = (σ.1 18).toInt := congrArg Int32.toInt (f_4.1 18 (by decide))
  have w_13 : s_2.2.1 32 = σ.2.1 32 := f_4.2.1 32 (by decide)
  refine fd_e_bd (s_X11_join_0 N hN _ iM) ?_
  rintro v_14 s_15 ⟨i_16, f_17, x_18⟩
  have t_19 : (s_15.1 1).toInt = (μ.1 1).toInt := congrArg Int32.toInt (f_17.1 1 (by decide))
  have t_20 : (s_15.1 2).toInt = (μ.1 2).toInt := congrArg Int32.toInt (f_17.1 2 (by decide))
  have t_21 : (s_15.1 4).toInt = (μ.1 4).toInt := congrArg Int32.toInt (f_17.1 4 (by decide))
  have t_22 : (s_15.1 3).toInt = (μ.1 3).toInt := congrArg Int32.toInt (f_17.1 3 (by decide))
  have t_23 : (s_15.1 12).toInt = (μ.1 12).toInt := congrArg Int32.toInt (f_17.1 12 (by decide))
  have t_24 : (s_15.1 13).toInt = (μ.1 13).toInt := congrArg Int32.toInt (f_17.1 13 (by decide))
  have t_25 : (s_15.1 14).toInt = (μ.1 14).toInt := congrArg Int32.toInt (f_17.1 14 (by decide))
  have w_26 : s_15.2.1 22 = μ.2.1 22 := f_17.2.1 22 (by decide)
  have e_27 : s_2.2.1 32 = s_15.2.1 22 := (w_13.trans rr0).trans w_26.symm
  refine fd_e_lt (fun y_28 ey_28 => ?_)
  have t_29 := fd_la ey_28 (by omega) (by omega)
  have r_30 : fd_R s_2 s_15 := ⟨by omega, by omega, by omega, by omega, by omega, by omega, by omega, e_27⟩
  exact hK _ _ _ i_3 i_16 r_30 (by omega)
set_option maxHeartbeats 4000000 in
theorem u_c13 (N L : Nat) (hN : 1000 ≤ N) (hL : L ≤ 3072) (xs : Nat → Int32) (K : Int32 → fd_St → fd_St → Option Int32) (i : Int32) (σ μ : fd_St) (iC : fd_InvC σ) (iM : fd_InvM μ) (r : fd_R σ μ) (h0 : 0 ≤ i.toInt) (h1 : i.toInt + 6 ≤ (L : Int)) (hK : ∀ (j : Int32) (σ1 μ1 : fd_St), fd_InvC σ1 → fd_InvM μ1 → fd_R σ1 μ1 → j.toInt = i.toInt + 6 → K j σ1 μ1 = some 1) : f_law_c13 N L xs K i σ μ = some 1 := by
  have lit0 : (0 : Int32).toInt = 0 := by decide
  have lit6 : (6 : Int32).toInt = 6 := by decide
  obtain ⟨r0, r1, r2, r3, r4, r5, r6, rr0⟩ := r
  unfold f_law_c13
  generalize xs (i + (1 : Int32)).toNatClampNeg = b1
  refine fd_e_gd (fd_gk h0 h1 hL (by decide)) ?_
  refine fd_e_bd (s_L_share_0_39 N hN _ _ iC) ?_
  rintro v_1 s_2 ⟨i_3, f_4, x_5⟩
  have t_6 : (s_2.1 1).toInt = (σ.1 1).toInt := congrArg Int32.toInt (f_4.1 1 (by decide))
  have t_7 : (s_2.1 2).toInt = (σ.1 2).toInt := congrArg Int32.toInt (f_4.1 2 (by decide))
  have t_8 : (s_2.1 3).toInt = (σ.1 3).toInt := congrArg Int32.toInt (f_4.1 3 (by decide))
  have t_9 : (s_2.1 4).toInt = (σ.1 4).toInt := congrArg Int32.toInt (f_4.1 4 (by decide))
  have t_10 : (s_2.1 16).toInt = (σ.1 16).toInt := congrArg Int32.toInt (f_4.1 16 (by decide))
  have t_11 : (s_2.1 17).toInt = (σ.1 17).toInt := congrArg Int32.toInt (f_4.1 17 (by decide))
  have t_12 : (s_2.1 18).toInt = (σ.1 18).toInt := congrArg Int32.toInt (f_4.1 18 (by decide))
  have w_13 : s_2.2.1 32 = σ.2.1 32 := f_4.2.1 32 (by decide)
  refine fd_e_gd (fd_gk h0 h1 hL (by decide)) ?_
  refine fd_e_bd (s_X11_share_0 N hN _ _ iM) ?_
  rintro v_14 s_15 ⟨i_16, f_17, x_18⟩
  have t_19 : (s_15.1 1).toInt = (μ.1 1).toInt := congrArg Int32.toInt (f_17.1 1 (by decide))
  have t_20 : (s_15.1 2).toInt = (μ.1 2).toInt := congrArg Int32.toInt (f_17.1 2 (by decide))
  have t_21 : (s_15.1 4).toInt = (μ.1 4).toInt := congrArg Int32.toInt (f_17.1 4 (by decide))
  have t_22 : (s_15.1 3).toInt = (μ.1 3).toInt := congrArg Int32.toInt (f_17.1 3 (by decide))
  have t_23 : (s_15.1 12).toInt = (μ.1 12).toInt := congrArg Int32.toInt (f_17.1 12 (by decide))
  have t_24 : (s_15.1 13).toInt = (μ.1 13).toInt := congrArg Int32.toInt (f_17.1 13 (by decide))
  have t_25 : (s_15.1 14).toInt = (μ.1 14).toInt := congrArg Int32.toInt (f_17.1 14 (by decide))
  have w_26 : s_15.2.1 22 = μ.2.1 22 := f_17.2.1 22 (by decide)
  have e_27 : s_2.2.1 32 = s_15.2.1 22 := (w_13.trans rr0).trans w_26.symm
  refine fd_e_lt (fun y_28 ey_28 => ?_)
  have t_29 := fd_la ey_28 (by omega) (by omega)
  have r_30 : fd_R s_2 s_15 := ⟨by omega, by omega, by omega, by omega, by omega, by omega, by omega, e_27⟩
  exact hK _ _ _ i_3 i_16 r_30 (by omega)
set_option maxHeartbeats 4000000 in
theorem u_c14 (N L : Nat) (hN : 1000 ≤ N) (hL : L ≤ 3072) (xs : Nat → Int32) (K : Int32 → fd_St → fd_St → Option Int32) (i : Int32) (σ μ : fd_St) (iC : fd_InvC σ) (iM : fd_InvM μ) (r : fd_R σ μ) (h0 : 0 ≤ i.toInt) (h1 : i.toInt + 6 ≤ (L : Int)) (hK : ∀ (j : Int32) (σ1 μ1 : fd_St), fd_InvC σ1 → fd_InvM μ1 → fd_R σ1 μ1 → j.toInt = i.toInt + 6 → K j σ1 μ1 = some 1) : f_law_c14 N L xs K i σ μ = some 1 := by
  have lit0 : (0 : Int32).toInt = 0 := by decide
  have lit6 : (6 : Int32).toInt = 6 := by decide
  obtain ⟨r0, r1, r2, r3, r4, r5, r6, rr0⟩ := r
  unfold f_law_c14
  generalize xs (i + (1 : Int32)).toNatClampNeg = b1
  refine fd_e_gd (fd_gk h0 h1 hL (by decide)) ?_
  refine fd_e_bd (s_L_chain_0 N hN _ _ iC) ?_
  rintro v_1 s_2 ⟨i_3, f_4, x_5⟩
  have t_6 : (s_2.1 1).toInt = (σ.1 1).toInt := congrArg Int32.toInt (f_4.1 1 (by decide))
  have t_7 : (s_2.1 2).toInt = (σ.1 2).toInt := congrArg Int32.toInt (f_4.1 2 (by decide))
  have t_8 : (s_2.1 3).toInt = (σ.1 3).toInt := congrArg Int32.toInt (f_4.1 3 (by decide))
  have t_9 : (s_2.1 4).toInt = (σ.1 4).toInt := congrArg Int32.toInt (f_4.1 4 (by decide))
  have t_10 : (s_2.1 18).toInt = (σ.1 18).toInt := congrArg Int32.toInt (f_4.1 18 (by decide))
  have w_11 : s_2.2.1 32 = σ.2.1 32 := f_4.2.1 32 (by decide)
  refine fd_e_gd (fd_gk h0 h1 hL (by decide)) ?_
  refine fd_e_bd (s_X11_chain_0 N hN _ _ iM) ?_
  rintro v_12 s_13 ⟨i_14, f_15, x_16⟩
  have t_17 : (s_13.1 1).toInt = (μ.1 1).toInt := congrArg Int32.toInt (f_15.1 1 (by decide))
  have t_18 : (s_13.1 2).toInt = (μ.1 2).toInt := congrArg Int32.toInt (f_15.1 2 (by decide))
  have t_19 : (s_13.1 4).toInt = (μ.1 4).toInt := congrArg Int32.toInt (f_15.1 4 (by decide))
  have t_20 : (s_13.1 3).toInt = (μ.1 3).toInt := congrArg Int32.toInt (f_15.1 3 (by decide))
  have t_21 : (s_13.1 14).toInt = (μ.1 14).toInt := congrArg Int32.toInt (f_15.1 14 (by decide))
  have w_22 : s_13.2.1 22 = μ.2.1 22 := f_15.2.1 22 (by decide)
  have e_23 : s_2.2.1 32 = s_13.2.1 22 := (w_11.trans rr0).trans w_22.symm
  refine fd_e_lt (fun y_24 ey_24 => ?_)
  have t_25 := fd_la ey_24 (by omega) (by omega)
  have r_26 : fd_R s_2 s_13 := ⟨by omega, by omega, by omega, by omega, by omega, by omega, by omega, e_23⟩
  exact hK _ _ _ i_3 i_14 r_26 (by omega)
