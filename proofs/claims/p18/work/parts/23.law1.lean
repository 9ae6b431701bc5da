set_option maxHeartbeats 4000000 in
theorem u_c8 (N L : Nat) (hN : 1000 ≤ N) (hL : L ≤ 3072) (xs : Nat → Int32) (K : Int32 → fd_St → fd_St → Option Int32) (i : Int32) (σ μ : fd_St) (iC : fd_InvC σ) (iM : fd_InvM μ) (r : fd_R σ μ) (h0 : 0 ≤ i.toInt) (h1 : i.toInt + 6 ≤ (L : Int)) (hK : ∀ (j : Int32) (σ1 μ1 : fd_St), fd_InvC σ1 → fd_InvM μ1 → fd_R σ1 μ1 → j.toInt = i.toInt + 6 → K j σ1 μ1 = some 1) : f_law_c8 N L xs K i σ μ = some 1 := by
  have lit0 : (0 : Int32).toInt = 0 := by decide
  have lit6 : (6 : Int32).toInt = 6 := by decide
  obtain ⟨r0, r1, r2, r3, r4, r5, r6, rr0, rr1⟩ := r
  unfold f_law_c8
  generalize xs (i + (1 : Int32)).toNatClampNeg = b1
  generalize xs (i + (2 : Int32)).toNatClampNeg = b2
  generalize xs (i + (3 : Int32)).toNatClampNeg = b3
  refine fd_e_gd (fd_gk h0 h1 hL (by decide)) ?_
  refine fd_e_gd (fd_gk h0 h1 hL (by decide)) ?_
  refine fd_e_gd (fd_gk h0 h1 hL (by decide)) ?_
  refine fd_e_bd (s_L_shows_0_39 N hN _ _ _ _ iC) ?_
  rintro v_1 s_2 ⟨i_3, f_4, x_5⟩
  have t_6 : (s_2.1 1).toInt = (σ.1 1).toInt := congrArg Int32.toInt (f_4.1 1 (by decide))
  have t_7 : (s_2.1 2).toInt = (σ.1 2).toInt := congrArg Int32.toInt (f_4.1 2 (by decide))
  have t_8 : (s_2.1 3).toInt = (σ.1 3).toInt := congrArg Int32.toInt (f_4.1 3 (by decide))
  have t_9 : (s_2.1 4).toInt = (σ.1 4).toInt := congrArg Int32.toInt (f_4.1 4 (by decide))
  have t_10 : (s_2.1 16).toInt = (σ.1 16).toInt := congrArg Int32.toInt (f_4.1 16 (by decide))
  have t_11 : (s_2.1 17).toInt = (σ.1 17).toInt := congrArg Int32.toInt (f_4.1 17 (by decide))
  have t_12 : (s_2.1 18).toInt = (σ.1 18).toInt := congrArg Int32.toInt (f_4.1 18 (by decide))
  have w_13 : s_2.2.2 30 = σ.2.2 30 := f_4.2.2 30 (by decide)
  have w_14 : s_2.2.2 31 = σ.2.2 31 := f_4.2.2 31 (by decide)
  refine fd_e_gd (fd_gk h0 h1 hL (by decide)) ?_
  refine fd_e_gd (fd_gk h0 h1 hL (by decide)) ?_
  refine fd_e_gd (fd_gk h0 h1 hL (by decide)) ?_
  refine fd_e_bd (s_X11_shows_0 N hN _ _ _ _ iM) ?_
  rintro v_15 s_16 ⟨i_17, f_18, x_19⟩
  have t_20 : (s_16.1 1).toInt = (μ.1 1).toInt := congrArg Int32.toInt (f_18.1 1 (by decide))
  have t_21 : (s_16.1 2).toInt = (μ.1 2).toInt := congrArg Int32.toInt (f_18.1 2 (by decide))
  have t_22 : (s_16.1 4).toInt = (μ.1 4).toInt := congrArg Int32.toInt (f_18.1 4 (by decide))
  have t_23 : (s_16.1 3).toInt = (μ.1 3).toInt := congrArg Int32.toInt (f_18.1 3 (by decide))
  have t_24 : (s_16.1 12).toInt = (μ.1 12).toInt := congrArg Int32.toInt (f_18.1 12 (by decide))
  have t_25 : (s_16.1 13).toInt = (μ.1 13).toInt := congrArg Int32.toInt (f_18.1 13 (by decide))
  have t_26 : (s_16.1 14).toInt = (μ.1 14).toInt := congrArg Int32.toInt (f_18.1 14 (by decide))
  have w_27 : s_16.2.2 20 = μ.2.2 20 := f_18.2.2 20 (by decide)
  have w_28 : s_16.2.2 21 = μ.2.2 21 := f_18.2.2 21 (by decide)
  have e_29 : s_2.2.2 30 = s_16.2.2 20 := (w_13.trans rr0).trans w_27.symm
  have e_30 : s_2.2.2 31 = s_16.2.2 21 := (w_14.trans rr1).trans w_28.symm
  refine fd_e_lt (fun y_31 ey_31 => ?_)
  have t_32 := fd_la ey_31 (by omega) (by omega)
  have r_33 : fd_R s_2 s_16 := ⟨by omega, by omega, by omega, by omega, by omega, by omega, by omega, e_29, e_30⟩
  exact hK _ _ _ i_3 i_17 r_33 (by omega)
set_option maxHeartbeats 4000000 in
theorem u_c9 (N L : Nat) (hN : 1000 ≤ N) (hL : L ≤ 3072) (xs : Nat → Int32) (K : Int32 → fd_St → fd_St → Option Int32) (i : Int32) (σ μ : fd_St) (iC : fd_InvC σ) (iM : fd_InvM μ) (r : fd_R σ μ) (h0 : 0 ≤ i.toInt) (h1 : i.toInt + 6 ≤ (L : Int)) (hK : ∀ (j : Int32) (σ1 μ1 : fd_St), fd_InvC σ1 → fd_InvM μ1 → fd_R σ1 μ1 → j.toInt = i.toInt + 6 → K j σ1 μ1 = some 1) : f_law_c9 N L xs K i σ μ = some 1 := by
  have lit0 : (0 : Int32).toInt = 0 := by decide
  have lit6 : (6 : Int32).toInt = 6 := by decide
  obtain ⟨r0, r1, r2, r3, r4, r5, r6, rr0, rr1⟩ := r
  unfold f_law_c9
  refine fd_e_bd (s_X10_run_0 N hN _ iC) ?_
  rintro v_1 s_2 ⟨i_3, f_4, x_5⟩
  have t_6 : (s_2.1 1).toInt = (σ.1 1).toInt := congrArg Int32.toInt (f_4.1 1 (by decide))
  have t_7 : (s_2.1 2).toInt = (σ.1 2).toInt := congrArg Int32.toInt (f_4.1 2 (by decide))
  have t_8 : (s_2.1 3).toInt = (σ.1 3).toInt := congrArg Int32.toInt (f_4.1 3 (by decide))
  have t_9 : (s_2.1 4).toInt = (σ.1 4).toInt := congrArg Int32.toInt (f_4.1 4 (by decide))
  have t_10 : (s_2.1 16).toInt = (σ.1 16).toInt := congrArg Int32.toInt (f_4.1 16 (by decide))
  have t_11 : (s_2.1 17).toInt = (σ.1 17).toInt := congrArg Int32.toInt (f_4.1 17 (by decide))
  have t_12 : (s_2.1 18).toInt = (σ.1 18).toInt := congrArg Int32.toInt (f_4.1 18 (by decide))
  have w_13 : s_2.2.2 30 = σ.2.2 30 := f_4.2.2 30 (by decide)
  have w_14 : s_2.2.2 31 = σ.2.2 31 := f_4.2.2 31 (by decide)
  refine fd_e_lt (fun y_15 ey_15 => ?_)
  have i_16 : fd_InvC y_15 := by subst ey_15; exact i_3
  have t_17 : (y_15.1 1).toInt = (s_2.1 1).toInt := by subst ey_15; rfl
  have t_18 : (y_15.1 2).toInt = (s_2.1 2).toInt := by subst ey_15; rfl
  have t_19 : (y_15.1 3).toInt = (s_2.1 3).toInt := by subst ey_15; rfl
  have t_20 : (y_15.1 4).toInt = (s_2.1 4).toInt := by subst ey_15; rfl
  have t_21 : (y_15.1 16).toInt = (s_2.1 16).toInt := by subst ey_15; rfl
  have t_22 : (y_15.1 17).toInt = (s_2.1 17).toInt := by subst ey_15; rfl
  have t_23 : (y_15.1 18).toInt = (s_2.1 18).toInt := by subst ey_15; rfl
  have w_24 := fd_ymix (d := 30) ey_15 (by decide) w_13
  have w_25 := fd_ymix (d := 31) ey_15 (by decide) w_14
  refine fd_e_bd (s_X11_run_0 N hN _ iM) ?_
  rintro v_26 s_27 ⟨i_28, f_29, x_30⟩
  have t_31 : (s_27.1 1).toInt = (μ.1 1).toInt := congrArg Int32.toInt (f_29.1 1 (by decide))
  have t_32 : (s_27.1 2).toInt = (μ.1 2).toInt := congrArg Int32.toInt (f_29.1 2 (by decide))
  have t_33 : (s_27.1 4).toInt = (μ.1 4).toInt := congrArg Int32.toInt (f_29.1 4 (by decide))
  have t_34 : (s_27.1 3).toInt = (μ.1 3).toInt := congrArg Int32.toInt (f_29.1 3 (by decide))
  have t_35 : (s_27.1 12).toInt = (μ.1 12).toInt := congrArg Int32.toInt (f_29.1 12 (by decide))
  have t_36 : (s_27.1 13).toInt = (μ.1 13).toInt := congrArg Int32.toInt (f_29.1 13 (by decide))
  have t_37 : (s_27.1 14).toInt = (μ.1 14).toInt := congrArg Int32.toInt (f_29.1 14 (by decide))
  have w_38 : s_27.2.2 20 = μ.2.2 20 := f_29.2.2 20 (by decide)
  have w_39 : s_27.2.2 21 = μ.2.2 21 := f_29.2.2 21 (by decide)
  have e_40 : y_15.2.2 30 = s_27.2.2 20 := (w_24.trans rr0).trans w_38.symm
  have e_41 : y_15.2.2 31 = s_27.2.2 21 := (w_25.trans rr1).trans w_39.symm
  refine fd_e_lt (fun y_42 ey_42 => ?_)
  have t_43 := fd_la ey_42 (by omega) (by omega)
  have r_44 : fd_R y_15 s_27 := ⟨by omega, by omega, by omega, by omega, by omega, by omega, by omega, e_40, e_41⟩
  exact hK _ _ _ i_16 i_28 r_44 (by omega)
set_option maxHeartbeats 4000000 in
theorem u_c10 (N L : Nat) (hN : 1000 ≤ N) (hL : L ≤ 3072) (xs : Nat → Int32) (K : Int32 → fd_St → fd_St → Option Int32) (i : Int32) (σ μ : fd_St) (iC : fd_InvC σ) (iM : fd_InvM μ) (r : fd_R σ μ) (h0 : 0 ≤ i.toInt) (h1 : i.toInt + 6 ≤ (L : Int)) (hK : ∀ (j : Int32) (σ1 μ1 : fd_St), fd_InvC σ1 → fd_InvM μ1 → fd_R σ1 μ1 → j.toInt = i.toInt + 6 → K j σ1 μ1 = some 1) : f_law_c10 N L xs K i σ μ = some 1 := by
  have lit0 : (0 : Int32).toInt = 0 := by decide
  have lit6 : (6 : Int32).toInt = 6 := by decide
  obtain ⟨r0, r1, r2, r3, r4, r5, r6, rr0, rr1⟩ := r
  unfold f_law_c10
  generalize xs (i + (1 : Int32)).toNatClampNeg = b1
  generalize xs (i + (2 : Int32)).toNatClampNeg = b2
  refine fd_e_gd (fd_gk h0 h1 hL (by decide)) ?_
  refine fd_e_gd (fd_gk h0 h1 hL (by decide)) ?_
  refine fd_e_bd (s_L_suspect_0_39 N hN _ _ _ iC) ?_
  rintro v_1 s_2 ⟨i_3, f_4, x_5⟩
  have t_6 : (s_2.1 1).toInt = (σ.1 1).toInt := congrArg Int32.toInt (f_4.1 1 (by decide))
  have t_7 : (s_2.1 2).toInt = (σ.1 2).toInt := congrArg Int32.toInt (f_4.1 2 (by decide))
  have t_8 : (s_2.1 3).toInt = (σ.1 3).toInt := congrArg Int32.toInt (f_4.1 3 (by decide))
  have t_9 : (s_2.1 4).toInt = (σ.1 4).toInt := congrArg Int32.toInt (f_4.1 4 (by decide))
  have t_10 : (s_2.1 16).toInt = (σ.1 16).toInt := congrArg Int32.toInt (f_4.1 16 (by decide))
  have t_11 : (s_2.1 17).toInt = (σ.1 17).toInt := congrArg Int32.toInt (f_4.1 17 (by decide))
  have t_12 : (s_2.1 18).toInt = (σ.1 18).toInt := congrArg Int32.toInt (f_4.1 18 (by decide))
  have w_13 : s_2.2.2 30 = σ.2.2 30 := f_4.2.2 30 (by decide)
  have w_14 : s_2.2.2 31 = σ.2.2 31 := f_4.2.2 31 (by decide)
  refine fd_e_gd (fd_gk h0 h1 hL (by decide)) ?_
  refine fd_e_gd (fd_gk h0 h1 hL (by decide)) ?_
  refine fd_e_bd (s_X11_suspect_0 N hN _ _ _ iM) ?_
  rintro v_15 s_16 ⟨i_17, f_18, x_19⟩
  have t_20 : (s_16.1 1).toInt = (μ.1 1).toInt := congrArg Int32.toInt (f_18.1 1 (by decide))
  have t_21 : (s_16.1 2).toInt = (μ.1 2).toInt := congrArg Int32.toInt (f_18.1 2 (by decide))
  have t_22 : (s_16.1 4).toInt = (μ.1 4).toInt := congrArg Int32.toInt (f_18.1 4 (by decide))
  have t_23 : (s_16.1 3).toInt = (μ.1 3).toInt := congrArg Int32.toInt (f_18.1 3 (by decide))
  have t_24 : (s_16.1 12).toInt = (μ.1 12).toInt := congrArg Int32.toInt (f_18.1 12 (by decide))
  have t_25 : (s_16.1 13).toInt = (μ.1 13).toInt := congrArg Int32.toInt (f_18.1 13 (by decide))
  have t_26 : (s_16.1 14).toInt = (μ.1 14).toInt := congrArg Int32.toInt (f_18.1 14 (by decide))
  have w_27 : s_16.2.2 20 = μ.2.2 20 := f_18.2.2 20 (by decide)
  have w_28 : s_16.2.2 21 = μ.2.2 21 := f_18.2.2 21 (by decide)
  have e_29 : s_2.2.2 30 = s_16.2.2 20 := (w_13.trans rr0).trans w_27.symm
  have e_30 : s_2.2.2 31 = s_16.2.2 21 := (w_14.trans rr1).trans w_28.symm
  refine fd_e_lt (fun y_31 ey_31 => ?_)
  have t_32 := fd_la ey_31 (by omega) (by omega)
  have r_33 : fd_R s_2 s_16 := ⟨by omega, by omega, by omega, by omega, by omega, by omega, by omega, e_29, e_30⟩
  exact hK _ _ _ i_3 i_17 r_33 (by omega)
set_option maxHeartbeats 4000000 in
theorem u_c11 (N L : Nat) (hN : 1000 ≤ N) (hL : L ≤ 3072) (xs : Nat → Int32) (K : Int32 → fd_St → fd_St → Option Int32) (i : Int32) (σ μ : fd_St) (iC : fd_InvC σ) (iM : fd_InvM μ) (r : fd_R σ μ) (h0 : 0 ≤ i.toInt) (h1 : i.toInt + 6 ≤ (L : Int)) (hK : ∀ (j : Int32) (σ1 μ1 : fd_St), fd_InvC σ1 → fd_InvM μ1 → fd_R σ1 μ1 → j.toInt = i.toInt + 6 → K j σ1 μ1 = some 1) : f_law_c11 N L xs K i σ μ = some 1 := by
  have lit0 : (0 : Int32).toInt = 0 := by decide
  have lit6 : (6 : Int32).toInt = 6 := by decide
  obtain ⟨r0, r1, r2, r3, r4, r5, r6, rr0, rr1⟩ := r
  unfold f_law_c11
  generalize xs (i + (1 : Int32)).toNatClampNeg = b1
  refine fd_e_gd (fd_gk h0 h1 hL (by decide)) ?_
  refine fd_e_bd (s_L_pair_0_39 N hN _ _ iC) ?_
  rintro v_1 s_2 ⟨i_3, f_4, x_5⟩
  have t_6 : (s_2.1 1).toInt = (σ.1 1).toInt := congrArg Int32.toInt (f_4.1 1 (by decide))
  have t_7 : (s_2.1 2).toInt = (σ.1 2).toInt := congrArg Int32.toInt (f_4.1 2 (by decide))
  have t_8 : (s_2.1 3).toInt = (σ.1 3).toInt := congrArg Int32.toInt (f_4.1 3 (by decide))
  have t_9 : (s_2.1 4).toInt = (σ.1 4).toInt := congrArg Int32.toInt (f_4.1 4 (by decide))
  have t_10 : (s_2.1 16).toInt = (σ.1 16).toInt := congrArg Int32.toInt (f_4.1 16 (by decide))
  have t_11 : (s_2.1 17).toInt = (σ.1 17).toInt := congrArg Int32.toInt (f_4.1 17 (by decide))
  have t_12 : (s_2.1 18).toInt = (σ.1 18).toInt := congrArg Int32.toInt (f_4.1 18 (by decide))
  have w_13 : s_2.2.2 30 = σ.2.2 30 := f_4.2.2 30 (by decide)
  have w_14 : s_2.2.2 31 = σ.2.2 31 := f_4.2.2 31 (by decide)
  refine fd_e_gd (fd_gk h0 h1 hL (by decide)) ?_
  refine fd_e_bd (s_X11_pair_0 N hN _ _ iM) ?_
  rintro v_15 s_16 ⟨i_17, f_18, x_19⟩
  have t_20 : (s_16.1 1).toInt = (μ.1 1).toInt := congrArg Int32.toInt (f_18.1 1 (by decide))
  have t_21 : (s_16.1 2).toInt = (μ.1 2).toInt := congrArg Int32.toInt (f_18.1 2 (by decide))
  have t_22 : (s_16.1 4).toInt = (μ.1 4).toInt := congrArg Int32.toInt (f_18.1 4 (by decide))
  have t_23 : (s_16.1 3).toInt = (μ.1 3).toInt := congrArg Int32.toInt (f_18.1 3 (by decide))
  have t_24 : (s_16.1 12).toInt = (μ.1 12).toInt := congrArg Int32.toInt (f_18.1 12 (by decide))
  have t_25 : (s_16.1 13).toInt = (μ.1 13).toInt := congrArg Int32.toInt (f_18.1 13 (by decide))
  have t_26 : (s_16.1 14).toInt = (μ.1 14).toInt := congrArg Int32.toInt (f_18.1 14 (by decide))
  have w_27 : s_16.2.2 20 = μ.2.2 20 := f_18.2.2 20 (by decide)
  have w_28 : s_16.2.2 21 = μ.2.2 21 := f_18.2.2 21 (by decide)
  have e_29 : s_2.2.2 30 = s_16.2.2 20 := (w_13.trans rr0).trans w_27.symm
  have e_30 : s_2.2.2 31 = s_16.2.2 21 := (w_14.trans rr1).trans w_28.symm
  refine fd_e_lt (fun y_31 ey_31 => ?_)
  have t_32 := fd_la ey_31 (by omega) (by omega)
  have r_33 : fd_R s_2 s_16 := ⟨by omega, by omega, by omega, by omega, by omega, by omega, by omega, e_29, e_30⟩
  exact hK _ _ _ i_3 i_17 r_33 (by omega)
set_option maxHeartbeats 4000000 in
theorem u_c12 (N L : Nat) (hN : 1000 ≤ N) (hL : L ≤ 3072) (xs : Nat → Int32) (K : Int32 → fd_St → fd_St → Option Int32) (i : Int32) (σ μ : fd_St) (iC : fd_InvC σ) (iM : fd_InvM μ) (r : fd_R σ μ) (h0 : 0 ≤ i.toInt) (h1 : i.toInt + 6 ≤ (L : Int)) (hK : ∀ (j : Int32) (σ1 μ1 : fd_St), fd_InvC σ1 → fd_InvM μ1 → fd_R σ1 μ1 → j.toInt = i.toInt + 6 → K j σ1 μ1 = some 1) : f_law_c12 N L xs K i σ μ = some 1 := by
  have lit0 : (0 : Int32).toInt = 0 := by decide
  have lit6 : (6 : Int32).toInt = 6 := by decide
  obtain ⟨r0, r1, r2, r3, r4, r5, r6, rr0, rr1⟩ := r
  unfold f_law_c12
  refine fd_e_bd (s_L_join_0_39 N hN _ iC) ?_
  rintro v_1 s_2 ⟨i_3, f_4, x_5⟩
  have t_6 : (s_2.1 1).toInt = (σ.1 1).toInt := congrArg Int32.toInt (f_4.1 1 (by decide))
  have t_7 : (s_2.1 2).toInt = (σ.1 2).toInt := congrArg Int32.toInt (f_4.1 2 (by decide))
  have t_8 : (s_2.1 3).toInt = (σ.1 3).toInt := congrArg Int32.toInt (f_4.1 3 (by decide))
  have t_9 : (s_2.1 4).toInt = (σ.1 4).toInt := congrArg Int32.toInt (f_4.1 4 (by decide))
  have t_10 : (s_2.1 16).toInt = (σ.1 16).toInt := congrArg Int32.toInt (f_4.1 16 (by decide))
  have t_11 : (s_2.1 17).toInt = (σ.1 17).toInt := congrArg Int32.toInt (f_4.1 17 (by decide))
  have t_12 : (s_2.1 18).toInt = (σ.1 18).toInt := congrArg Int32.toInt (f_4.1 18 (by decide))
  have w_13 : s_2.2.2 30 = σ.2.2 30 := f_4.2.2 30 (by decide)
  have w_14 : s_2.2.2 31 = σ.2.2 31 := f_4.2.2 31 (by decide)
  refine fd_e_bd (s_X11_join_0 N hN _ iM) ?_
  rintro v_15 s_16 ⟨i_17, f_18, x_19⟩
  have t_20 : (s_16.1 1).toInt = (μ.1 1).toInt := congrArg Int32.toInt (f_18.1 1 (by decide))
  have t_21 : (s_16.1 2).toInt = (μ.1 2).toInt := congrArg Int32.toInt (f_18.1 2 (by decide))
  have t_22 : (s_16.1 4).toInt = (μ.1 4).toInt := congrArg Int32.toInt (f_18.1 4 (by decide))
  have t_23 : (s_16.1 3).toInt = (μ.1 3).toInt := congrArg Int32.toInt (f_18.1 3 (by decide))
  have t_24 : (s_16.1 12).toInt = (μ.1 12).toInt := congrArg Int32.toInt (f_18.1 12 (by decide))
  have t_25 : (s_16.1 13).toInt = (μ.1 13).toInt := congrArg Int32.toInt (f_18.1 13 (by decide))
  have t_26 : (s_16.1 14).toInt = (μ.1 14).toInt := congrArg Int32.toInt (f_18.1 14 (by decide))
  have w_27 : s_16.2.2 20 = μ.2.2 20 := f_18.2.2 20 (by decide)
  have w_28 : s_16.2.2 21 = μ.2.2 21 := f_18.2.2 21 (by decide)
  have e_29 : s_2.2.2 30 = s_16.2.2 20 := (w_13.trans rr0).trans w_27.symm
  have e_30 : s_2.2.2 31 = s_16.2.2 21 := (w_14.trans rr1).trans w_28.symm
  refine fd_e_lt (fun y_31 ey_31 => ?_)
  have t_32 := fd_la ey_31 (by omega) (by omega)
  have r_33 : fd_R s_2 s_16 := ⟨by omega, by omega, by omega, by omega, by omega, by omega, by omega, e_29, e_30⟩
  exact hK _ _ _ i_3 i_17 r_33 (by omega)
set_option maxHeartbeats 4000000 in
theorem u_c13 (N L : Nat) (hN : 1000 ≤ N) (hL : L ≤ 3072) (xs : Nat → Int32) (K : Int32 → fd_St → fd_St → Option Int32) (i : Int32) (σ μ : fd_St) (iC : fd_InvC σ) (iM : fd_InvM μ) (r : fd_R σ μ) (h0 : 0 ≤ i.toInt) (h1 : i.toInt + 6 ≤ (L : Int)) (hK : ∀ (j : Int32) (σ1 μ1 : fd_St), fd_InvC σ1 → fd_InvM μ1 → fd_R σ1 μ1 → j.toInt = i.toInt + 6 → K j σ1 μ1 = some 1) : f_law_c13 N L xs K i σ μ = some 1 := by
  have lit0 : (0 : Int32).toInt = 0 := by decide
  have lit6 : (6 : Int32).toInt = 6 := by decide
  obtain ⟨r0, r1, r2, r3, r4, r5, r6, rr0, rr1⟩ := r
  unfold f_law_c13
  generalize xs (i + (1 : Int32)).toNatClampNeg = b1
  refine fd_e_gd (fd_gk h0 h1 hL (by decide)) ?_
  refine fd_e_bd (s_L_share_0_39 N hN _ _ iC) ?_
  rintro v_1 s_2 ⟨i_3, f_4, x_5⟩
  have t_6 : (s_2.1 1).toInt = (σ.1 1).toInt := congrArg Int32.toInt (f_4.1 1 (by decide))
  have t_7 : (s_2.1 2).toInt = (σ.1 2).toInt := congrArg Int32.toInt (f_4.1 2 (by decide))
  have t_8 : (s_2.1 3).toInt = (σ.1 3).toInt := congrArg Int32.toInt (f_4.1 3 (by decide))
  have t_9 : (s_2.1 4).toInt = (σ.1 4).toInt := congrArg Int32.toInt (f_4.1 4 (by decide))
  have t_10 : (s_2.1 16).toInt = (σ.1 16).toInt := congrArg Int32.toInt (f_4.1 16 (by decide))
  have t_11 : (s_2.1 17).toInt = (σ.1 17).toInt := congrArg Int32.toInt (f_4.1 17 (by decide))
  have t_12 : (s_2.1 18).toInt = (σ.1 18).toInt := congrArg Int32.toInt (f_4.1 18 (by decide))
  have w_13 : s_2.2.2 30 = σ.2.2 30 := f_4.2.2 30 (by decide)
  have w_14 : s_2.2.2 31 = σ.2.2 31 := f_4.2.2 31 (by decide)
  refine fd_e_gd (fd_gk h0 h1 hL (by decide)) ?_
  refine fd_e_bd (s_X11_share_0 N hN _ _ iM) ?_
  rintro v_15 s_16 ⟨i_17, f_18, x_19⟩
  have t_20 : (s_16.1 1).toInt = (μ.1 1).toInt := congrArg Int32.toInt (f_18.1 1 (by decide))
  have t_21 : (s_16.1 2).toInt = (μ.1 2).toInt := congrArg Int32.toInt (f_18.1 2 (by decide))
  have t_22 : (s_16.1 4).toInt = (μ.1 4).toInt := congrArg Int32.toInt (f_18.1 4 (by decide))
  have t_23 : (s_16.1 3).toInt = (μ.1 3).toInt := congrArg Int32.toInt (f_18.1 3 (by decide))
  have t_24 : (s_16.1 12).toInt = (μ.1 12).toInt := congrArg Int32.toInt (f_18.1 12 (by decide))
  have t_25 : (s_16.1 13).toInt = (μ.1 13).toInt := congrArg Int32.toInt (f_18.1 13 (by decide))
  have t_26 : (s_16.1 14).toInt = (μ.1 14).toInt := congrArg Int32.toInt (f_18.1 14 (by decide))
  have w_27 : s_16.2.2 20 = μ.2.2 20 := f_18.2.2 20 (by decide)
  have w_28 : s_16.2.2 21 = μ.2.2 21 := f_18.2.2 21 (by decide)
  have e_29 : s_2.2.2 30 = s_16.2.2 20 := (w_13.trans rr0).trans w_27.symm
  have e_30 : s_2.2.2 31 = s_16.2.2 21 := (w_14.trans rr1).trans w_28.symm
  refine fd_e_lt (fun y_31 ey_31 => ?_)
  have t_32 := fd_la ey_31 (by omega) (by omega)
  have r_33 : fd_R s_2 s_16 := ⟨by omega, by omega, by omega, by omega, by omega, by omega, by omega, e_29, e_30⟩
  exact hK _ _ _ i_3 i_17 r_33 (by omega)
set_option maxHeartbeats 4000000 in
theorem u_c14 (N L : Nat) (hN : 1000 ≤ N) (hL : L ≤ 3072) (xs : Nat → Int32) (K : Int32 → fd_St → fd_St → Option Int32) (i : Int32) (σ μ : fd_St) (iC : fd_InvC σ) (iM : fd_InvM μ) (r : fd_R σ μ) (h0 : 0 ≤ i.toInt) (h1 : i.toInt + 6 ≤ (L : Int)) (hK : ∀ (j : Int32) (σ1 μ1 : fd_St), fd_InvC σ1 → fd_InvM μ1 → fd_R σ1 μ1 → j.toInt = i.toInt + 6 → K j σ1 μ1 = some 1) : f_law_c14 N L xs K i σ μ = some 1 := by
  have lit0 : (0 : Int32).toInt = 0 := by decide
  have lit6 : (6 : Int32).toInt = 6 := by decide
  obtain ⟨r0, r1, r2, r3, r4, r5, r6, rr0, rr1⟩ := r
  unfold f_law_c14
  generalize xs (i + (1 : Int32)).toNatClampNeg = b1
  refine fd_e_gd (fd_gk h0 h1 hL (by decide)) ?_
  refine fd_e_bd (s_L_chain_0 N hN _ _ iC) ?_
  rintro v_1 s_2 ⟨i_3, f_4, x_5⟩
  have t_6 : (s_2.1 1).toInt = (σ.1 1).toInt := congrArg Int32.toInt (f_4.1 1 (by decide))
  have t_7 : (s_2.1 2).toInt = (σ.1 2).toInt := congrArg Int32.toInt (f_4.1 2 (by decide))
  have t_8 : (s_2.1 3).toInt = (σ.1 3).toInt := congrArg Int32.toInt (f_4.1 3 (by decide))
  have t_9 : (s_2.1 4).toInt = (σ.1 4).toInt := congrArg Int32.toInt (f_4.1 4 (by decide))
  have t_10 : (s_2.1 18).toInt = (σ.1 18).toInt := congrArg Int32.toInt (f_4.1 18 (by decide))
  have w_11 : s_2.2.2 30 = σ.2.2 30 := f_4.2.2 30 (by decide)
  have w_12 : s_2.2.2 31 = σ.2.2 31 := f_4.2.2 31 (by decide)
  refine fd_e_gd (fd_gk h0 h1 hL (by decide)) ?_
  refine fd_e_bd (s_X11_chain_0 N hN _ _ iM) ?_
  rintro v_13 s_14 ⟨i_15, f_16, x_17⟩
  have t_18 : (s_14.1 1).toInt = (μ.1 1).toInt := congrArg Int32.toInt (f_16.1 1 (by decide))
  have t_19 : (s_14.1 2).toInt = (μ.1 2).toInt := congrArg Int32.toInt (f_16.1 2 (by decide))
  have t_20 : (s_14.1 4).toInt = (μ.1 4).toInt := congrArg Int32.toInt (f_16.1 4 (by decide))
  have t_21 : (s_14.1 3).toInt = (μ.1 3).toInt := congrArg Int32.toInt (f_16.1 3 (by decide))
  have t_22 : (s_14.1 14).toInt = (μ.1 14).toInt := congrArg Int32.toInt (f_16.1 14 (by decide))
  have w_23 : s_14.2.2 20 = μ.2.2 20 := f_16.2.2 20 (by decide)
  have w_24 : s_14.2.2 21 = μ.2.2 21 := f_16.2.2 21 (by decide)
  have e_25 : s_2.2.2 30 = s_14.2.2 20 := (w_11.trans rr0).trans w_23.symm
  have e_26 : s_2.2.2 31 = s_14.2.2 21 := (w_12.trans rr1).trans w_24.symm
  refine fd_e_lt (fun y_27 ey_27 => ?_)
  have t_28 := fd_la ey_27 (by omega) (by omega)
  have r_29 : fd_R s_2 s_14 := ⟨by omega, by omega, by omega, by omega, by omega, by omega, by omega, e_25, e_26⟩
  exact hK _ _ _ i_3 i_15 r_29 (by omega)
