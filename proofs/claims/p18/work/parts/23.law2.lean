set_option maxHeartbeats 4000000 in
theorem u_c15 (N L : Nat) (hN : 1000 ≤ N) (hL : L ≤ 3072) (xs : Nat → Int32) (K : Int32 → fd_St → fd_St → Option Int32) (i : Int32) (σ μ : fd_St) (iC : fd_InvC σ) (iM : fd_InvM μ) (r : fd_R σ μ) (h0 : 0 ≤ i.toInt) (h1 : i.toInt + 6 ≤ (L : Int)) (hK : ∀ (j : Int32) (σ1 μ1 : fd_St), fd_InvC σ1 → fd_InvM μ1 → fd_R σ1 μ1 → j.toInt = i.toInt + 6 → K j σ1 μ1 = some 1) : f_law_c15 N L xs K i σ μ = some 1 := by
  have lit0 : (0 : Int32).toInt = 0 := by decide
  have lit6 : (6 : Int32).toInt = 6 := by decide
  obtain ⟨r0, r1, r2, r3, r4, r5, r6, rr0, rr1⟩ := r
  unfold f_law_c15
  generalize xs (i + (1 : Int32)).toNatClampNeg = b1
  generalize xs (i + (2 : Int32)).toNatClampNeg = b2
  generalize xs (i + (3 : Int32)).toNatClampNeg = b3
  generalize xs (i + (4 : Int32)).toNatClampNeg = b4
  refine fd_e_gd (fd_gk h0 h1 hL (by decide)) ?_
  refine fd_e_gd (fd_gk h0 h1 hL (by decide)) ?_
  refine fd_e_gd (fd_gk h0 h1 hL (by decide)) ?_
  refine fd_e_gd (fd_gk h0 h1 hL (by decide)) ?_
  refine fd_e_bd (s_L_caught_0_39 N hN _ _ _ iC) ?_
  rintro v_1 s_2 ⟨i_3, f_4, x_5, y_6, y_7⟩
  have t_8 : (s_2.1 1).toInt = (σ.1 1).toInt := congrArg Int32.toInt (f_4.1 1 (by decide))
  have t_9 : (s_2.1 2).toInt = (σ.1 2).toInt := congrArg Int32.toInt (f_4.1 2 (by decide))
  have t_10 : (s_2.1 3).toInt = (σ.1 3).toInt := congrArg Int32.toInt (f_4.1 3 (by decide))
  have t_11 : (s_2.1 4).toInt = (σ.1 4).toInt := congrArg Int32.toInt (f_4.1 4 (by decide))
  have t_12 : (s_2.1 16).toInt = (σ.1 16).toInt := congrArg Int32.toInt (f_4.1 16 (by decide))
  have t_13 : (s_2.1 18).toInt = (σ.1 18).toInt := congrArg Int32.toInt (f_4.1 18 (by decide))
  refine fd_e_gd (fd_gk h0 h1 hL (by decide)) ?_
  refine fd_e_gd (fd_gk h0 h1 hL (by decide)) ?_
  refine fd_e_gd (fd_gk h0 h1 hL (by decide)) ?_
  refine fd_e_gd (fd_gk h0 h1 hL (by decide)) ?_
  refine fd_e_bd (s_X11_caught_0 N hN _ _ _ iM) ?_
  rintro v_14 s_15 ⟨i_16, f_17, x_18, y_19, y_20⟩
  have t_21 : (s_15.1 1).toInt = (μ.1 1).toInt := congrArg Int32.toInt (f_17.1 1 (by decide))
  have t_22 : (s_15.1 2).toInt = (μ.1 2).toInt := congrArg Int32.toInt (f_17.1 2 (by decide))
  have t_23 : (s_15.1 4).toInt = (μ.1 4).toInt := congrArg Int32.toInt (f_17.1 4 (by decide))
  have t_24 : (s_15.1 3).toInt = (μ.1 3).toInt := congrArg Int32.toInt (f_17.1 3 (by decide))
  have t_25 : (s_15.1 12).toInt = (μ.1 12).toInt := congrArg Int32.toInt (f_17.1 12 (by decide))
  have t_26 : (s_15.1 14).toInt = (μ.1 14).toInt := congrArg Int32.toInt (f_17.1 14 (by decide))
  have e_27 : s_2.2.2 30 = s_15.2.2 20 := by
    by_cases z : v_1.toInt = 0
    · obtain ⟨j, q, e⟩ := (fd_un y_6).2 z; obtain ⟨j1, q1, e1⟩ := (fd_un y_19).2 (by omega); have ej : j = j1 := Int32.toInt_inj.mp (by omega); rw [e, e1, ej, rr0]
    · rw [(fd_un y_6).1 z, (fd_un y_19).1 (by omega), rr0]
  have e_28 : s_2.2.2 31 = s_15.2.2 21 := by
    by_cases z : v_1.toInt = 0
    · obtain ⟨j, q, e⟩ := (fd_un y_7).2 z; obtain ⟨j1, q1, e1⟩ := (fd_un y_20).2 (by omega); have ej : j = j1 := Int32.toInt_inj.mp (by omega); rw [e, e1, ej, rr1]
    · rw [(fd_un y_7).1 z, (fd_un y_20).1 (by omega), rr1]
  refine fd_e_lt (fun y_29 ey_29 => ?_)
  have t_30 := fd_la ey_29 (by omega) (by omega)
  have r_31 : fd_R s_2 s_15 := ⟨by omega, by omega, by omega, by omega, by omega, by omega, by omega, e_27, e_28⟩
  exact hK _ _ _ i_3 i_16 r_31 (by omega)
set_option maxHeartbeats 4000000 in
theorem u_c16 (N L : Nat) (hN : 1000 ≤ N) (hL : L ≤ 3072) (xs : Nat → Int32) (K : Int32 → fd_St → fd_St → Option Int32) (i : Int32) (σ μ : fd_St) (iC : fd_InvC σ) (iM : fd_InvM μ) (r : fd_R σ μ) (h0 : 0 ≤ i.toInt) (h1 : i.toInt + 6 ≤ (L : Int)) (hK : ∀ (j : Int32) (σ1 μ1 : fd_St), fd_InvC σ1 → fd_InvM μ1 → fd_R σ1 μ1 → j.toInt = i.toInt + 6 → K j σ1 μ1 = some 1) : f_law_c16 N L xs K i σ μ = some 1 := by
  have lit0 : (0 : Int32).toInt = 0 := by decide
  have lit6 : (6 : Int32).toInt = 6 := by decide
  obtain ⟨r0, r1, r2, r3, r4, r5, r6, rr0, rr1⟩ := r
  unfold f_law_c16
  generalize xs (i + (1 : Int32)).toNatClampNeg = b1
  generalize xs (i + (2 : Int32)).toNatClampNeg = b2
  refine fd_e_gd (fd_gk h0 h1 hL (by decide)) ?_
  refine fd_e_gd (fd_gk h0 h1 hL (by decide)) ?_
  refine fd_e_bd (s_L_span_0_39 N hN _ _ _ iC) ?_
  rintro v_1 s_2 ⟨i_3, f_4, x_5, y_6⟩
  have t_7 : (s_2.1 1).toInt = (σ.1 1).toInt := congrArg Int32.toInt (f_4.1 1 (by decide))
  have t_8 : (s_2.1 2).toInt = (σ.1 2).toInt := congrArg Int32.toInt (f_4.1 2 (by decide))
  have t_9 : (s_2.1 3).toInt = (σ.1 3).toInt := congrArg Int32.toInt (f_4.1 3 (by decide))
  have t_10 : (s_2.1 4).toInt = (σ.1 4).toInt := congrArg Int32.toInt (f_4.1 4 (by decide))
  have t_11 : (s_2.1 16).toInt = (σ.1 16).toInt := congrArg Int32.toInt (f_4.1 16 (by decide))
  have t_12 : (s_2.1 17).toInt = (σ.1 17).toInt := congrArg Int32.toInt (f_4.1 17 (by decide))
  have t_13 : (s_2.1 18).toInt = (σ.1 18).toInt := congrArg Int32.toInt (f_4.1 18 (by decide))
  have w_14 : s_2.2.2 30 = σ.2.2 30 := f_4.2.2 30 (by decide)
  have w_15 : s_2.2.2 31 = σ.2.2 31 := f_4.2.2 31 (by decide)
  refine fd_e_gd (fd_gk h0 h1 hL (by decide)) ?_
  refine fd_e_gd (fd_gk h0 h1 hL (by decide)) ?_
  refine fd_e_bd (s_X11_span_0 N hN _ _ _ iM) ?_
  rintro v_16 s_17 ⟨i_18, f_19, x_20, y_21⟩
  have t_22 : (s_17.1 1).toInt = (μ.1 1).toInt := congrArg Int32.toInt (f_19.1 1 (by decide))
  have t_23 : (s_17.1 2).toInt = (μ.1 2).toInt := congrArg Int32.toInt (f_19.1 2 (by decide))
  have t_24 : (s_17.1 4).toInt = (μ.1 4).toInt := congrArg Int32.toInt (f_19.1 4 (by decide))
  have t_25 : (s_17.1 3).toInt = (μ.1 3).toInt := congrArg Int32.toInt (f_19.1 3 (by decide))
  have t_26 : (s_17.1 12).toInt = (μ.1 12).toInt := congrArg Int32.toInt (f_19.1 12 (by decide))
  have t_27 : (s_17.1 13).toInt = (μ.1 13).toInt := congrArg Int32.toInt (f_19.1 13 (by decide))
  have t_28 : (s_17.1 14).toInt = (μ.1 14).toInt := congrArg Int32.toInt (f_19.1 14 (by decide))
  have w_29 : s_17.2.2 20 = μ.2.2 20 := f_19.2.2 20 (by decide)
  have w_30 : s_17.2.2 21 = μ.2.2 21 := f_19.2.2 21 (by decide)
  have e_31 : s_2.2.2 30 = s_17.2.2 20 := (w_14.trans rr0).trans w_29.symm
  have e_32 : s_2.2.2 31 = s_17.2.2 21 := (w_15.trans rr1).trans w_30.symm
  refine fd_e_th ?_
  refine fd_e_itp (Int32.toInt_inj.mp (by omega)) ?_
  refine fd_e_ite (fun c_33 => ?_) (fun c_33 => ?_)
  ·
    have d_34 := congrArg Int32.toInt c_33
    refine fd_e_gd (by unfold vp_in; decide) ?_
    have o1 := (fd_un y_6) (by omega)
    have o2 := (fd_un y_21) (by omega)
    have o3 : σ.1 16 = μ.1 12 := Int32.toInt_inj.mp (by omega)
    have o4 : σ.1 17 = μ.1 13 := Int32.toInt_inj.mp (by omega)
    have o5 : ∀ b, fd_mC σ b = fd_mM μ b := fun b => by unfold fd_mC fd_mM; rw [rr0, rr1, o3, o4]
    rw [o5, o3] at o1
    refine fd_e_itp (fd_lg (fd_sp_1 o1 o2)) ?_
    refine fd_e_lt (fun y_35 ey_35 => ?_)
    have t_36 := fd_la ey_35 (by omega) (by omega)
    have r_37 : fd_R s_2 s_17 := ⟨by omega, by omega, by omega, by omega, by omega, by omega, by omega, e_31, e_32⟩
    exact hK _ _ _ i_3 i_18 r_37 (by omega)
  ·
    refine fd_e_lt (fun y_38 ey_38 => ?_)
    have t_39 := fd_la ey_38 (by omega) (by omega)
    have r_40 : fd_R s_2 s_17 := ⟨by omega, by omega, by omega, by omega, by omega, by omega, by omega, e_31, e_32⟩
    exact hK _ _ _ i_3 i_18 r_40 (by omega)
set_option maxHeartbeats 4000000 in
theorem u_c17 (N L : Nat) (hN : 1000 ≤ N) (hL : L ≤ 3072) (xs : Nat → Int32) (K : Int32 → fd_St → fd_St → Option Int32) (i : Int32) (σ μ : fd_St) (iC : fd_InvC σ) (iM : fd_InvM μ) (r : fd_R σ μ) (h0 : 0 ≤ i.toInt) (h1 : i.toInt + 6 ≤ (L : Int)) (hK : ∀ (j : Int32) (σ1 μ1 : fd_St), fd_InvC σ1 → fd_InvM μ1 → fd_R σ1 μ1 → j.toInt = i.toInt + 6 → K j σ1 μ1 = some 1) : f_law_c17 N L xs K i σ μ = some 1 := by
  have lit0 : (0 : Int32).toInt = 0 := by decide
  have lit6 : (6 : Int32).toInt = 6 := by decide
  obtain ⟨r0, r1, r2, r3, r4, r5, r6, rr0, rr1⟩ := r
  unfold f_law_c17
  generalize xs (i + (1 : Int32)).toNatClampNeg = b1
  generalize xs (i + (2 : Int32)).toNatClampNeg = b2
  generalize xs (i + (3 : Int32)).toNatClampNeg = b3
  generalize xs (i + (4 : Int32)).toNatClampNeg = b4
  generalize xs (i + (5 : Int32)).toNatClampNeg = b5
  refine fd_e_gd (fd_gk h0 h1 hL (by decide)) ?_
  refine fd_e_gd (fd_gk h0 h1 hL (by decide)) ?_
  refine fd_e_gd (fd_gk h0 h1 hL (by decide)) ?_
  refine fd_e_gd (fd_gk h0 h1 hL (by decide)) ?_
  refine fd_e_gd (fd_gk h0 h1 hL (by decide)) ?_
  refine fd_e_bd (s_L_shape_0_39 N hN _ _ _ _ _ _ iC) ?_
  rintro v_1 s_2 ⟨i_3, f_4, x_5, y_6, y_7, y_8, y_9, y_10, y_11⟩
  have t_12 : (s_2.1 1).toInt = (σ.1 1).toInt := congrArg Int32.toInt (f_4.1 1 (by decide))
  have t_13 : (s_2.1 2).toInt = (σ.1 2).toInt := congrArg Int32.toInt (f_4.1 2 (by decide))
  have t_14 : (s_2.1 3).toInt = (σ.1 3).toInt := congrArg Int32.toInt (f_4.1 3 (by decide))
  have t_15 : (s_2.1 4).toInt = (σ.1 4).toInt := congrArg Int32.toInt (f_4.1 4 (by decide))
  have t_16 : (s_2.1 16).toInt = (σ.1 16).toInt := congrArg Int32.toInt (f_4.1 16 (by decide))
  have t_17 : (s_2.1 17).toInt = (σ.1 17).toInt := congrArg Int32.toInt (f_4.1 17 (by decide))
  have w_18 : s_2.2.2 30 = σ.2.2 30 := f_4.2.2 30 (by decide)
  have w_19 : s_2.2.2 31 = σ.2.2 31 := f_4.2.2 31 (by decide)
  refine fd_e_gd (fd_gk h0 h1 hL (by decide)) ?_
  refine fd_e_gd (fd_gk h0 h1 hL (by decide)) ?_
  refine fd_e_gd (fd_gk h0 h1 hL (by decide)) ?_
  refine fd_e_gd (fd_gk h0 h1 hL (by decide)) ?_
  refine fd_e_gd (fd_gk h0 h1 hL (by decide)) ?_
  refine fd_e_bd (s_X11_shape_0 N hN _ _ _ _ _ _ iM) ?_
  rintro v_20 s_21 ⟨i_22, f_23, x_24, y_25, y_26, y_27, y_28, y_29, y_30⟩
  have t_31 : (s_21.1 1).toInt = (μ.1 1).toInt := congrArg Int32.toInt (f_23.1 1 (by decide))
  have t_32 : (s_21.1 2).toInt = (μ.1 2).toInt := congrArg Int32.toInt (f_23.1 2 (by decide))
  have t_33 : (s_21.1 4).toInt = (μ.1 4).toInt := congrArg Int32.toInt (f_23.1 4 (by decide))
  have t_34 : (s_21.1 3).toInt = (μ.1 3).toInt := congrArg Int32.toInt (f_23.1 3 (by decide))
  have t_35 : (s_21.1 12).toInt = (μ.1 12).toInt := congrArg Int32.toInt (f_23.1 12 (by decide))
  have t_36 : (s_21.1 13).toInt = (μ.1 13).toInt := congrArg Int32.toInt (f_23.1 13 (by decide))
  have w_37 : s_21.2.2 20 = μ.2.2 20 := f_23.2.2 20 (by decide)
  have w_38 : s_21.2.2 21 = μ.2.2 21 := f_23.2.2 21 (by decide)
  have e_39 : s_2.2.2 30 = s_21.2.2 20 := (w_18.trans rr0).trans w_37.symm
  have e_40 : s_2.2.2 31 = s_21.2.2 21 := (w_19.trans rr1).trans w_38.symm
  refine fd_e_lt (fun y_41 ey_41 => ?_)
  have t_42 := fd_la ey_41 (by omega) (by omega)
  have r_43 : fd_R s_2 s_21 := ⟨by omega, by omega, by omega, by omega, by omega, by omega, by omega, e_39, e_40⟩
  exact hK _ _ _ i_3 i_22 r_43 (by omega)
set_option maxHeartbeats 4000000 in
theorem u_c18 (N L : Nat) (hN : 1000 ≤ N) (hL : L ≤ 3072) (xs : Nat → Int32) (K : Int32 → fd_St → fd_St → Option Int32) (i : Int32) (σ μ : fd_St) (iC : fd_InvC σ) (iM : fd_InvM μ) (r : fd_R σ μ) (h0 : 0 ≤ i.toInt) (h1 : i.toInt + 6 ≤ (L : Int)) (hK : ∀ (j : Int32) (σ1 μ1 : fd_St), fd_InvC σ1 → fd_InvM μ1 → fd_R σ1 μ1 → j.toInt = i.toInt + 6 → K j σ1 μ1 = some 1) : f_law_c18 N L xs K i σ μ = some 1 := by
  have lit0 : (0 : Int32).toInt = 0 := by decide
  have lit6 : (6 : Int32).toInt = 6 := by decide
  obtain ⟨r0, r1, r2, r3, r4, r5, r6, rr0, rr1⟩ := r
  unfold f_law_c18
  generalize xs (i + (1 : Int32)).toNatClampNeg = b1
  generalize xs (i + (2 : Int32)).toNatClampNeg = b2
  refine fd_e_gd (fd_gk h0 h1 hL (by decide)) ?_
  refine fd_e_gd (fd_gk h0 h1 hL (by decide)) ?_
  refine fd_e_bd (s_L_area_0_39 N hN _ _ _ iC) ?_
  rintro v_1 s_2 ⟨i_3, f_4, x_5⟩
  have t_6 : (s_2.1 1).toInt = (σ.1 1).toInt := congrArg Int32.toInt (f_4.1 1 (by decide))
  have t_7 : (s_2.1 2).toInt = (σ.1 2).toInt := congrArg Int32.toInt (f_4.1 2 (by decide))
  have t_8 : (s_2.1 3).toInt = (σ.1 3).toInt := congrArg Int32.toInt (f_4.1 3 (by decide))
  have t_9 : (s_2.1 4).toInt = (σ.1 4).toInt := congrArg Int32.toInt (f_4.1 4 (by decide))
  have t_10 : (s_2.1 16).toInt = (σ.1 16).toInt := congrArg Int32.toInt (f_4.1 16 (by decide))
  have t_11 : (s_2.1 17).toInt = (σ.1 17).toInt := congrArg Int32.toInt (f_4.1 17 (by decide))
  have t_12 : (s_2.1 18).toInt = (σ.1 18).toInt := congrArg Int32.toInt (f_4.1 18 (by decide))
  have w_13 : s_2.2.2 30 = σ.2.2 30 := f_4.2.2 30 (by decide)
  have w_14 : s_2.2.2 31 = σ.2.2 31 := f_4.2.2 31 (by decide)
  refine fd_e_gd (fd_gk h0 h1 hL (by decide)) ?_
  refine fd_e_gd (fd_gk h0 h1 hL (by decide)) ?_
  refine fd_e_bd (s_X11_area_0 N hN _ _ _ iM) ?_
  rintro v_15 s_16 ⟨i_17, f_18, x_19⟩
  have t_20 : (s_16.1 1).toInt = (μ.1 1).toInt := congrArg Int32.toInt (f_18.1 1 (by decide))
  have t_21 : (s_16.1 2).toInt = (μ.1 2).toInt := congrArg Int32.toInt (f_18.1 2 (by decide))
  have t_22 : (s_16.1 4).toInt = (μ.1 4).toInt := congrArg Int32.toInt (f_18.1 4 (by decide))
  have t_23 : (s_16.1 3).toInt = (μ.1 3).toInt := congrArg Int32.toInt (f_18.1 3 (by decide))
  have t_24 : (s_16.1 12).toInt = (μ.1 12).toInt := congrArg Int32.toInt (f_18.1 12 (by decide))
  have t_25 : (s_16.1 13).toInt = (μ.1 13).toInt := congrArg Int32.toInt (f_18.1 13 (by decide))
  have t_26 : (s_16.1 14).toInt = (μ.1 14).toInt := congrArg Int32.toInt (f_18.1 14 (by decide))
  have w_27 : s_16.2.2 20 = μ.2.2 20 := f_18.2.2 20 (by decide)
  have w_28 : s_16.2.2 21 = μ.2.2 21 := f_18.2.2 21 (by decide)
  have e_29 : s_2.2.2 30 = s_16.2.2 20 := (w_13.trans rr0).trans w_27.symm
  have e_30 : s_2.2.2 31 = s_16.2.2 21 := (w_14.trans rr1).trans w_28.symm
  refine fd_e_lt (fun y_31 ey_31 => ?_)
  have t_32 := fd_la ey_31 (by omega) (by omega)
  have r_33 : fd_R s_2 s_16 := ⟨by omega, by omega, by omega, by omega, by omega, by omega, by omega, e_29, e_30⟩
  exact hK _ _ _ i_3 i_17 r_33 (by omega)
set_option maxHeartbeats 4000000 in
theorem u_c19 (N L : Nat) (hN : 1000 ≤ N) (hL : L ≤ 3072) (xs : Nat → Int32) (K : Int32 → fd_St → fd_St → Option Int32) (i : Int32) (σ μ : fd_St) (iC : fd_InvC σ) (iM : fd_InvM μ) (r : fd_R σ μ) (h0 : 0 ≤ i.toInt) (h1 : i.toInt + 6 ≤ (L : Int)) (hK : ∀ (j : Int32) (σ1 μ1 : fd_St), fd_InvC σ1 → fd_InvM μ1 → fd_R σ1 μ1 → j.toInt = i.toInt + 6 → K j σ1 μ1 = some 1) : f_law_c19 N L xs K i σ μ = some 1 := by
  have lit0 : (0 : Int32).toInt = 0 := by decide
  have lit6 : (6 : Int32).toInt = 6 := by decide
  obtain ⟨r0, r1, r2, r3, r4, r5, r6, rr0, rr1⟩ := r
  unfold f_law_c19
  generalize xs (i + (1 : Int32)).toNatClampNeg = b1
  generalize xs (i + (2 : Int32)).toNatClampNeg = b2
  generalize xs (i + (3 : Int32)).toNatClampNeg = b3
  refine fd_e_gd (fd_gk h0 h1 hL (by decide)) ?_
  refine fd_e_gd (fd_gk h0 h1 hL (by decide)) ?_
  refine fd_e_gd (fd_gk h0 h1 hL (by decide)) ?_
  refine fd_e_bd (s_L_common_0_39 N hN _ _ _ _ iC) ?_
  rintro v_1 s_2 ⟨i_3, f_4, x_5⟩
  have t_6 : (s_2.1 1).toInt = (σ.1 1).toInt := congrArg Int32.toInt (f_4.1 1 (by decide))
  have t_7 : (s_2.1 2).toInt = (σ.1 2).toInt := congrArg Int32.toInt (f_4.1 2 (by decide))
  have t_8 : (s_2.1 3).toInt = (σ.1 3).toInt := congrArg Int32.toInt (f_4.1 3 (by decide))
  have t_9 : (s_2.1 4).toInt = (σ.1 4).toInt := congrArg Int32.toInt (f_4.1 4 (by decide))
  have t_10 : (s_2.1 16).toInt = (σ.1 16).toInt := congrArg Int32.toInt (f_4.1 16 (by decide))
  have t_11 : (s_2.1 17).toInt = (σ.1 17).toInt := congrArg Int32.toInt (f_4.1 17 (by decide))
  have t_12 : (s_2.1 18).toInt = (σ.1 18).toInt := congrArg Int32.toInt (f_4.1 18 (by decide))
  have w_13 : s_2.2.2 30 = σ.2.2 30 := f_4.2.2 30 (by decide)
  have w_14 : s_2.2.2 31 = σ.2.2 31 := f_4.2.2 31 (by decide)
  refine fd_e_gd (fd_gk h0 h1 hL (by decide)) ?_
  refine fd_e_gd (fd_gk h0 h1 hL (by decide)) ?_
  refine fd_e_gd (fd_gk h0 h1 hL (by decide)) ?_
  refine fd_e_bd (s_X11_common_0 N hN _ _ _ _ iM) ?_
  rintro v_15 s_16 ⟨i_17, f_18, x_19⟩
  have t_20 : (s_16.1 1).toInt = (μ.1 1).toInt := congrArg Int32.toInt (f_18.1 1 (by decide))
  have t_21 : (s_16.1 2).toInt = (μ.1 2).toInt := congrArg Int32.toInt (f_18.1 2 (by decide))
  have t_22 : (s_16.1 4).toInt = (μ.1 4).toInt := congrArg Int32.toInt (f_18.1 4 (by decide))
  have t_23 : (s_16.1 3).toInt = (μ.1 3).toInt := congrArg Int32.toInt (f_18.1 3 (by decide))
  have t_24 : (s_16.1 12).toInt = (μ.1 12).toInt := congrArg Int32.toInt (f_18.1 12 (by decide))
  have t_25 : (s_16.1 13).toInt = (μ.1 13).toInt := congrArg Int32.toInt (f_18.1 13 (by decide))
  have t_26 : (s_16.1 14).toInt = (μ.1 14).toInt := congrArg Int32.toInt (f_18.1 14 (by decide))
  have w_27 : s_16.2.2 20 = μ.2.2 20 := f_18.2.2 20 (by decide)
  have w_28 : s_16.2.2 21 = μ.2.2 21 := f_18.2.2 21 (by decide)
  have e_29 : s_2.2.2 30 = s_16.2.2 20 := (w_13.trans rr0).trans w_27.symm
  have e_30 : s_2.2.2 31 = s_16.2.2 21 := (w_14.trans rr1).trans w_28.symm
  refine fd_e_lt (fun y_31 ey_31 => ?_)
  have t_32 := fd_la ey_31 (by omega) (by omega)
  have r_33 : fd_R s_2 s_16 := ⟨by omega, by omega, by omega, by omega, by omega, by omega, by omega, e_29, e_30⟩
  exact hK _ _ _ i_3 i_17 r_33 (by omega)
set_option maxHeartbeats 4000000 in
theorem u_c20 (N L : Nat) (hN : 1000 ≤ N) (hL : L ≤ 3072) (xs : Nat → Int32) (K : Int32 → fd_St → fd_St → Option Int32) (i : Int32) (σ μ : fd_St) (iC : fd_InvC σ) (iM : fd_InvM μ) (r : fd_R σ μ) (h0 : 0 ≤ i.toInt) (h1 : i.toInt + 6 ≤ (L : Int)) (hK : ∀ (j : Int32) (σ1 μ1 : fd_St), fd_InvC σ1 → fd_InvM μ1 → fd_R σ1 μ1 → j.toInt = i.toInt + 6 → K j σ1 μ1 = some 1) : f_law_c20 N L xs K i σ μ = some 1 := by
  have lit0 : (0 : Int32).toInt = 0 := by decide
  have lit6 : (6 : Int32).toInt = 6 := by decide
  obtain ⟨r0, r1, r2, r3, r4, r5, r6, rr0, rr1⟩ := r
  unfold f_law_c20
  generalize xs (i + (1 : Int32)).toNatClampNeg = b1
  refine fd_e_gd (fd_gk h0 h1 hL (by decide)) ?_
  refine fd_e_bd (s_L_count_0_39 N hN _ _ iC) ?_
  rintro v_1 s_2 ⟨i_3, f_4, x_5⟩
  have t_6 : (s_2.1 1).toInt = (σ.1 1).toInt := congrArg Int32.toInt (f_4.1 1 (by decide))
  have t_7 : (s_2.1 2).toInt = (σ.1 2).toInt := congrArg Int32.toInt (f_4.1 2 (by decide))
  have t_8 : (s_2.1 3).toInt = (σ.1 3).toInt := congrArg Int32.toInt (f_4.1 3 (by decide))
  have t_9 : (s_2.1 4).toInt = (σ.1 4).toInt := congrArg Int32.toInt (f_4.1 4 (by decide))
  have t_10 : (s_2.1 16).toInt = (σ.1 16).toInt := congrArg Int32.toInt (f_4.1 16 (by decide))
  have t_11 : (s_2.1 17).toInt = (σ.1 17).toInt := congrArg Int32.toInt (f_4.1 17 (by decide))
  have t_12 : (s_2.1 18).toInt = (σ.1 18).toInt := congrArg Int32.toInt (f_4.1 18 (by decide))
  have w_13 : s_2.2.2 30 = σ.2.2 30 := f_4.2.2 30 (by decide)
  have w_14 : s_2.2.2 31 = σ.2.2 31 := f_4.2.2 31 (by decide)
  refine fd_e_gd (fd_gk h0 h1 hL (by decide)) ?_
  refine fd_e_bd (s_X11_count_0 N hN _ _ iM) ?_
  rintro v_15 s_16 ⟨i_17, f_18, x_19⟩
  have t_20 : (s_16.1 1).toInt = (μ.1 1).toInt := congrArg Int32.toInt (f_18.1 1 (by decide))
  have t_21 : (s_16.1 2).toInt = (μ.1 2).toInt := congrArg Int32.toInt (f_18.1 2 (by decide))
  have t_22 : (s_16.1 4).toInt = (μ.1 4).toInt := congrArg Int32.toInt (f_18.1 4 (by decide))
  have t_23 : (s_16.1 3).toInt = (μ.1 3).toInt := congrArg Int32.toInt (f_18.1 3 (by decide))
  have t_24 : (s_16.1 12).toInt = (μ.1 12).toInt := congrArg Int32.toInt (f_18.1 12 (by decide))
  have t_25 : (s_16.1 13).toInt = (μ.1 13).toInt := congrArg Int32.toInt (f_18.1 13 (by decide))
  have t_26 : (s_16.1 14).toInt = (μ.1 14).toInt := congrArg Int32.toInt (f_18.1 14 (by decide))
  have w_27 : s_16.2.2 20 = μ.2.2 20 := f_18.2.2 20 (by decide)
  have w_28 : s_16.2.2 21 = μ.2.2 21 := f_18.2.2 21 (by decide)
  have e_29 : s_2.2.2 30 = s_16.2.2 20 := (w_13.trans rr0).trans w_27.symm
  have e_30 : s_2.2.2 31 = s_16.2.2 21 := (w_14.trans rr1).trans w_28.symm
  refine fd_e_lt (fun y_31 ey_31 => ?_)
  have t_32 := fd_la ey_31 (by omega) (by omega)
  have r_33 : fd_R s_2 s_16 := ⟨by omega, by omega, by omega, by omega, by omega, by omega, by omega, e_29, e_30⟩
  exact hK _ _ _ i_3 i_17 r_33 (by omega)
set_option maxHeartbeats 4000000 in
theorem u_c21 (N L : Nat) (hN : 1000 ≤ N) (hL : L ≤ 3072) (xs : Nat → Int32) (K : Int32 → fd_St → fd_St → Option Int32) (i : Int32) (σ μ : fd_St) (iC : fd_InvC σ) (iM : fd_InvM μ) (r : fd_R σ μ) (h0 : 0 ≤ i.toInt) (h1 : i.toInt + 6 ≤ (L : Int)) (hK : ∀ (j : Int32) (σ1 μ1 : fd_St), fd_InvC σ1 → fd_InvM μ1 → fd_R σ1 μ1 → j.toInt = i.toInt + 6 → K j σ1 μ1 = some 1) : f_law_c21 N L xs K i σ μ = some 1 := by
  have lit0 : (0 : Int32).toInt = 0 := by decide
  have lit6 : (6 : Int32).toInt = 6 := by decide
  obtain ⟨r0, r1, r2, r3, r4, r5, r6, rr0, rr1⟩ := r
  unfold f_law_c21
  refine fd_e_bd (s_X10_clear_0 N hN _ iC) ?_
  rintro v_1 s_2 ⟨i_3, f_4, x_5⟩
  have w_6 : s_2.2.2 30 = σ.2.2 30 := f_4.2.2 30 (by decide)
  have w_7 : s_2.2.2 31 = σ.2.2 31 := f_4.2.2 31 (by decide)
  refine fd_e_lt (fun y_8 ey_8 => ?_)
  have i_9 : fd_InvC y_8 := by subst ey_8; exact i_3
  have t_10 : (y_8.1 1).toInt = (s_2.1 1).toInt := by subst ey_8; rfl
  have t_11 : (y_8.1 2).toInt = (s_2.1 2).toInt := by subst ey_8; rfl
  have t_12 : (y_8.1 3).toInt = (s_2.1 3).toInt := by subst ey_8; rfl
  have t_13 : (y_8.1 4).toInt = (s_2.1 4).toInt := by subst ey_8; rfl
  have t_14 : (y_8.1 16).toInt = (s_2.1 16).toInt := by subst ey_8; rfl
  have t_15 : (y_8.1 17).toInt = (s_2.1 17).toInt := by subst ey_8; rfl
  have t_16 : (y_8.1 18).toInt = (s_2.1 18).toInt := by subst ey_8; rfl
  have w_17 := fd_ymix (d := 30) ey_8 (by decide) w_6
  have w_18 := fd_ymix (d := 31) ey_8 (by decide) w_7
  refine fd_e_bd (s_X11_clear_0 N hN _ iM) ?_
  rintro v_19 s_20 ⟨i_21, f_22, x_23⟩
  have w_24 : s_20.2.2 20 = μ.2.2 20 := f_22.2.2 20 (by decide)
  have w_25 : s_20.2.2 21 = μ.2.2 21 := f_22.2.2 21 (by decide)
  have e_26 : y_8.2.2 30 = s_20.2.2 20 := (w_17.trans rr0).trans w_24.symm
  have e_27 : y_8.2.2 31 = s_20.2.2 21 := (w_18.trans rr1).trans w_25.symm
  refine fd_e_lt (fun y_28 ey_28 => ?_)
  have t_29 := fd_la ey_28 (by omega) (by omega)
  have r_30 : fd_R y_8 s_20 := ⟨by omega, by omega, by omega, by omega, by omega, by omega, by omega, e_26, e_27⟩
  exact hK _ _ _ i_9 i_21 r_30 (by omega)
