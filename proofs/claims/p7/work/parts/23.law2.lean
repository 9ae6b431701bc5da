set_option maxHeartbeats 4000000 in
theorem u_c15 (N L : Nat) (hN : 1000 ≤ N) (hL : L ≤ 3072) (xs : Nat → Int32) (K : Int32 → fd_St → fd_St → Option Int32) (i : Int32) (σ μ : fd_St) (iC : fd_InvC σ) (iM : fd_InvM μ) (r : fd_R σ μ) (h0 : 0 ≤ i.toInt) (h1 : i.toInt + 6 ≤ (L : Int)) (hK : ∀ (j : Int32) (σ1 μ1 : fd_St), fd_InvC σ1 → fd_InvM μ1 → fd_R σ1 μ1 → j.toInt = i.toInt + 6 → K j σ1 μ1 = some 1) : f_law_c15 N L xs K i σ μ = some 1 := by
  have lit0 : (0 : Int32).toInt = 0 := by decide
  have lit6 : (6 : Int32).toInt = 6 := by decide
  obtain ⟨r0, r1, r2, r3, r4, r5, r6, rr0, rr1, rr2, ex⟩ := r
  have rg : (0 : Int) ≤ (σ.1 1).toInt ∧ (σ.1 1).toInt ≤ 200 := iC.1 1
  have rh : (0 : Int) ≤ (μ.1 4).toInt ∧ (μ.1 4).toInt ≤ 64 := iM.1 4
  unfold f_law_c15
  generalize xs (i + (1 : Int32)).toNatClampNeg = b1
  generalize xs (i + (2 : Int32)).toNatClampNeg = b2
  generalize xs (i + (3 : Int32)).toNatClampNeg = b3
  generalize xs (i + (4 : Int32)).toNatClampNeg = b4
  refine fd_e_gd (fd_gk h0 h1 hL (by decide)) ?_
  refine fd_e_gd (fd_gk h0 h1 hL (by decide)) ?_
  refine fd_e_gd (fd_gk h0 h1 hL (by decide)) ?_
  refine fd_e_gd (fd_gk h0 h1 hL (by decide)) ?_
  refine fd_e_bd (s_L_caught_0_39 N hN _ _ _ iC) ?_
  rintro v_1 s_2 ⟨i_3, f_4, x_5, y_6, y_7⟩
  have t_8 : (s_2.1 1).toInt = (σ.1 1).toInt := congrArg Int32.toInt (f_4.1 1 (by decide))
  have t_9 : (s_2.1 2).toInt = (σ.1 2).toInt := congrArg Int32.toInt (f_4.1 2 (by decide))
  have t_10 : (s_2.1 3).toInt = (σ.1 3).toInt := congrArg Int32.toInt (f_4.1 3 (by decide))
  have t_11 : (s_2.1 4).toInt = (σ.1 4).toInt := congrArg Int32.toInt (f_4.1 4 (by decide))
  have t_12 : (s_2.1 16).toInt = (σ.1 16).toInt := congrArg Int32.toInt (f_4.1 16 (by decide))
  have t_13 : (s_2.1 18).toInt = (σ.1 18).toInt := congrArg Int32.toInt (f_4.1 18 (by decide))
  have w_14 : s_2.2.1 12 = σ.2.1 12 := f_4.2.1 12 (by decide)
  have w_15 : s_2.2.1 13 = σ.2.1 13 := f_4.2.1 13 (by decide)
  have w_16 : s_2.2.1 14 = σ.2.1 14 := f_4.2.1 14 (by decide)
  have w_17 : s_2.2.2 15 = σ.2.2 15 := f_4.2.2 15 (by decide)
  refine fd_e_gd (fd_gk h0 h1 hL (by decide)) ?_
  refine fd_e_gd (fd_gk h0 h1 hL (by decide)) ?_
  refine fd_e_gd (fd_gk h0 h1 hL (by decide)) ?_
  refine fd_e_gd (fd_gk h0 h1 hL (by decide)) ?_
  refine fd_e_bd (s_X11_caught_0 N hN _ _ _ iM) ?_
  rintro v_18 s_19 ⟨i_20, f_21, x_22, y_23, y_24⟩
  have t_25 : (s_19.1 1).toInt = (μ.1 1).toInt := congrArg Int32.toInt (f_21.1 1 (by decide))
  have t_26 : (s_19.1 2).toInt = (μ.1 2).toInt := congrArg Int32.toInt (f_21.1 2 (by decide))
  have t_27 : (s_19.1 4).toInt = (μ.1 4).toInt := congrArg Int32.toInt (f_21.1 4 (by decide))
  have t_28 : (s_19.1 3).toInt = (μ.1 3).toInt := congrArg Int32.toInt (f_21.1 3 (by decide))
  have t_29 : (s_19.1 12).toInt = (μ.1 12).toInt := congrArg Int32.toInt (f_21.1 12 (by decide))
  have t_30 : (s_19.1 14).toInt = (μ.1 14).toInt := congrArg Int32.toInt (f_21.1 14 (by decide))
  have w_31 : s_19.2.1 1 = μ.2.1 1 := f_21.2.1 1 (by decide)
  have w_32 : s_19.2.1 2 = μ.2.1 2 := f_21.2.1 2 (by decide)
  have w_33 : s_19.2.1 3 = μ.2.1 3 := f_21.2.1 3 (by decide)
  have w_34 : s_19.2.2 4 = μ.2.2 4 := f_21.2.2 4 (by decide)
  have e_35 : s_2.2.1 12 = s_19.2.1 1 := (w_14.trans rr0).trans w_31.symm
  have e_36 : s_2.2.1 13 = s_19.2.1 2 := (w_15.trans rr1).trans w_32.symm
  have e_37 : s_2.2.1 14 = s_19.2.1 3 := (w_16.trans rr2).trans w_33.symm
  have e_38 : fd_E (s_2.2.1 12) (s_2.2.1 13) (s_2.2.1 14) (s_2.2.2 15) (s_19.2.2 4) (s_2.1 1).toNatClampNeg := by
    have n1 : s_2.1 1 = σ.1 1 := Int32.toInt_inj.mp (by omega); rw [w_14, w_15, w_16, w_17, w_34, n1]; exact ex
  refine fd_e_lt (fun y_39 ey_39 => ?_)
  have t_40 := fd_la ey_39 (by omega) (by omega)
  have r_41 : fd_R s_2 s_19 := ⟨by omega, by omega, by omega, by omega, by omega, by omega, by omega, e_35, e_36, e_37, e_38⟩
  exact hK _ _ _ i_3 i_20 r_41 (by omega)
set_option maxHeartbeats 4000000 in
theorem u_c16 (N L : Nat) (hN : 1000 ≤ N) (hL : L ≤ 3072) (xs : Nat → Int32) (K : Int32 → fd_St → fd_St → Option Int32) (i : Int32) (σ μ : fd_St) (iC : fd_InvC σ) (iM : fd_InvM μ) (r : fd_R σ μ) (h0 : 0 ≤ i.toInt) (h1 : i.toInt + 6 ≤ (L : Int)) (hK : ∀ (j : Int32) (σ1 μ1 : fd_St), fd_InvC σ1 → fd_InvM μ1 → fd_R σ1 μ1 → j.toInt = i.toInt + 6 → K j σ1 μ1 = some 1) : f_law_c16 N L xs K i σ μ = some 1 := by
  have lit0 : (0 : Int32).toInt = 0 := by decide
  have lit6 : (6 : Int32).toInt = 6 := by decide
  obtain ⟨r0, r1, r2, r3, r4, r5, r6, rr0, rr1, rr2, ex⟩ := r
  have rg : (0 : Int) ≤ (σ.1 1).toInt ∧ (σ.1 1).toInt ≤ 200 := iC.1 1
  have rh : (0 : Int) ≤ (μ.1 4).toInt ∧ (μ.1 4).toInt ≤ 64 := iM.1 4
  unfold f_law_c16
  generalize xs (i + (1 : Int32)).toNatClampNeg = b1
  generalize xs (i + (2 : Int32)).toNatClampNeg = b2
  refine fd_e_gd (fd_gk h0 h1 hL (by decide)) ?_
  refine fd_e_gd (fd_gk h0 h1 hL (by decide)) ?_
  refine fd_e_bd (s_L_span_0_39 N hN _ _ _ iC) ?_
  rintro v_1 s_2 ⟨i_3, f_4, x_5, y_6⟩
  have t_7 : (s_2.1 1).toInt = (σ.1 1).toInt := congrArg Int32.toInt (f_4.1 1 (by decide))
  have t_8 : (s_2.1 2).toInt = (σ.1 2).toInt := congrArg Int32.toInt (f_4.1 2 (by decide))
  have t_9 : (s_2.1 3).toInt = (σ.1 3).toInt := congrArg Int32.toInt (f_4.1 3 (by decide))
  have t_10 : (s_2.1 4).toInt = (σ.1 4).toInt := congrArg Int32.toInt (f_4.1 4 (by decide))
  have t_11 : (s_2.1 16).toInt = (σ.1 16).toInt := congrArg Int32.toInt (f_4.1 16 (by decide))
  have t_12 : (s_2.1 17).toInt = (σ.1 17).toInt := congrArg Int32.toInt (f_4.1 17 (by decide))
  have t_13 : (s_2.1 18).toInt = (σ.1 18).toInt := congrArg Int32.toInt (f_4.1 18 (by decide))
  have w_14 : s_2.2.1 12 = σ.2.1 12 := f_4.2.1 12 (by decide)
  have w_15 : s_2.2.1 13 = σ.2.1 13 := f_4.2.1 13 (by decide)
  have w_16 : s_2.2.1 14 = σ.2.1 14 := f_4.2.1 14 (by decide)
  have w_17 : s_2.2.2 15 = σ.2.2 15 := f_4.2.2 15 (by decide)
  refine fd_e_gd (fd_gk h0 h1 hL (by decide)) ?_
  refine fd_e_gd (fd_gk h0 h1 hL (by decide)) ?_
  refine fd_e_bd (s_X11_span_0 N hN _ _ _ iM) ?_
  rintro v_18 s_19 ⟨i_20, f_21, x_22, y_23⟩
  have t_24 : (s_19.1 1).toInt = (μ.1 1).toInt := congrArg Int32.toInt (f_21.1 1 (by decide))
  have t_25 : (s_19.1 2).toInt = (μ.1 2).toInt := congrArg Int32.toInt (f_21.1 2 (by decide))
  have t_26 : (s_19.1 4).toInt = (μ.1 4).toInt := congrArg Int32.toInt (f_21.1 4 (by decide))
  have t_27 : (s_19.1 3).toInt = (μ.1 3).toInt := congrArg Int32.toInt (f_21.1 3 (by decide))
  have t_28 : (s_19.1 12).toInt = (μ.1 12).toInt := congrArg Int32.toInt (f_21.1 12 (by decide))
  have t_29 : (s_19.1 13).toInt = (μ.1 13).toInt := congrArg Int32.toInt (f_21.1 13 (by decide))
  have t_30 : (s_19.1 14).toInt = (μ.1 14).toInt := congrArg Int32.toInt (f_21.1 14 (by decide))
  have w_31 : s_19.2.1 1 = μ.2.1 1 := f_21.2.1 1 (by decide)
  have w_32 : s_19.2.1 2 = μ.2.1 2 := f_21.2.1 2 (by decide)
  have w_33 : s_19.2.1 3 = μ.2.1 3 := f_21.2.1 3 (by decide)
  have w_34 : s_19.2.2 4 = μ.2.2 4 := f_21.2.2 4 (by decide)
  have e_35 : s_2.2.1 12 = s_19.2.1 1 := (w_14.trans rr0).trans w_31.symm
  have e_36 : s_2.2.1 13 = s_19.2.1 2 := (w_15.trans rr1).trans w_32.symm
  have e_37 : s_2.2.1 14 = s_19.2.1 3 := (w_16.trans rr2).trans w_33.symm
  have e_38 : fd_E (s_2.2.1 12) (s_2.2.1 13) (s_2.2.1 14) (s_2.2.2 15) (s_19.2.2 4) (s_2.1 1).toNatClampNeg := by
    have n1 : s_2.1 1 = σ.1 1 := Int32.toInt_inj.mp (by omega); rw [w_14, w_15, w_16, w_17, w_34, n1]; exact ex
  refine fd_e_lt (fun y_39 ey_39 => ?_)
  have t_40 := fd_la ey_39 (by omega) (by omega)
  have r_41 : fd_R s_2 s_19 := ⟨by omega, by omega, by omega, by omega, by omega, by omega, by omega, e_35, e_36, e_37, e_38⟩
  exact hK _ _ _ i_3 i_20 r_41 (by omega)
set_option maxHeartbeats 4000000 in
theorem u_c17 (N L : Nat) (hN : 1000 ≤ N) (hL : L ≤ 3072) (xs : Nat → Int32) (K : Int32 → fd_St → fd_St → Option Int32) (i : Int32) (σ μ : fd_St) (iC : fd_InvC σ) (iM : fd_InvM μ) (r : fd_R σ μ) (h0 : 0 ≤ i.toInt) (h1 : i.toInt + 6 ≤ (L : Int)) (hK : ∀ (j : Int32) (σ1 μ1 : fd_St), fd_InvC σ1 → fd_InvM μ1 → fd_R σ1 μ1 → j.toInt = i.toInt + 6 → K j σ1 μ1 = some 1) : f_law_c17 N L xs K i σ μ = some 1 := by
  have lit0 : (0 : Int32).toInt = 0 := by decide
  have lit6 : (6 : Int32).toInt = 6 := by decide
  obtain ⟨r0, r1, r2, r3, r4, r5, r6, rr0, rr1, rr2, ex⟩ := r
  have rg : (0 : Int) ≤ (σ.1 1).toInt ∧ (σ.1 1).toInt ≤ 200 := iC.1 1
  have rh : (0 : Int) ≤ (μ.1 4).toInt ∧ (μ.1 4).toInt ≤ 64 := iM.1 4
  unfold f_law_c17
  generalize xs (i + (1 : Int32)).toNatClampNeg = b1
  generalize xs (i + (2 : Int32)).toNatClampNeg = b2
  generalize xs (i + (3 : Int32)).toNatClampNeg = b3
  generalize xs (i + (4 : Int32)).toNatClampNeg = b4
  generalize xs (i + (5 : Int32)).toNatClampNeg = b5
  refine fd_e_gd (fd_gk h0 h1 hL (by decide)) ?_
  refine fd_e_gd (fd_gk h0 h1 hL (by decide)) ?_
  refine fd_e_gd (fd_gk h0 h1 hL (by decide)) ?_
  refine fd_e_gd (fd_gk h0 h1 hL (by decide)) ?_
  refine fd_e_gd (fd_gk h0 h1 hL (by decide)) ?_
  refine fd_e_bd (s_L_shape_0_39 N hN _ _ _ _ _ _ iC) ?_
  rintro v_1 s_2 ⟨i_3, f_4, x_5, y_6, y_7, y_8, y_9, y_10, y_11⟩
  have t_12 : (s_2.1 1).toInt = (σ.1 1).toInt := congrArg Int32.toInt (f_4.1 1 (by decide))
  have t_13 : (s_2.1 2).toInt = (σ.1 2).toInt := congrArg Int32.toInt (f_4.1 2 (by decide))
  have t_14 : (s_2.1 3).toInt = (σ.1 3).toInt := congrArg Int32.toInt (f_4.1 3 (by decide))
  have t_15 : (s_2.1 4).toInt = (σ.1 4).toInt := congrArg Int32.toInt (f_4.1 4 (by decide))
  have t_16 : (s_2.1 16).toInt = (σ.1 16).toInt := congrArg Int32.toInt (f_4.1 16 (by decide))
  have t_17 : (s_2.1 17).toInt = (σ.1 17).toInt := congrArg Int32.toInt (f_4.1 17 (by decide))
  have w_18 : s_2.2.1 12 = σ.2.1 12 := f_4.2.1 12 (by decide)
  have w_19 : s_2.2.1 13 = σ.2.1 13 := f_4.2.1 13 (by decide)
  have w_20 : s_2.2.1 14 = σ.2.1 14 := f_4.2.1 14 (by decide)
  have w_21 : s_2.2.2 15 = σ.2.2 15 := f_4.2.2 15 (by decide)
  refine fd_e_gd (fd_gk h0 h1 hL (by decide)) ?_
  refine fd_e_gd (fd_gk h0 h1 hL (by decide)) ?_
  refine fd_e_gd (fd_gk h0 h1 hL (by decide)) ?_
  refine fd_e_gd (fd_gk h0 h1 hL (by decide)) ?_
  refine fd_e_gd (fd_gk h0 h1 hL (by decide)) ?_
  refine fd_e_bd (s_X11_shape_0 N hN _ _ _ _ _ _ iM) ?_
  rintro v_22 s_23 ⟨i_24, f_25, x_26, y_27, y_28, y_29, y_30, y_31, y_32⟩
  have t_33 : (s_23.1 1).toInt = (μ.1 1).toInt := congrArg Int32.toInt (f_25.1 1 (by decide))
  have t_34 : (s_23.1 2).toInt = (μ.1 2).toInt := congrArg Int32.toInt (f_25.1 2 (by decide))
  have t_35 : (s_23.1 4).toInt = (μ.1 4).toInt := congrArg Int32.toInt (f_25.1 4 (by decide))
  have t_36 : (s_23.1 3).toInt = (μ.1 3).toInt := congrArg Int32.toInt (f_25.1 3 (by decide))
  have t_37 : (s_23.1 12).toInt = (μ.1 12).toInt := congrArg Int32.toInt (f_25.1 12 (by decide))
  have t_38 : (s_23.1 13).toInt = (μ.1 13).toInt := congrArg Int32.toInt (f_25.1 13 (by decide))
  have w_39 : s_23.2.1 1 = μ.2.1 1 := f_25.2.1 1 (by decide)
  have w_40 : s_23.2.1 2 = μ.2.1 2 := f_25.2.1 2 (by decide)
  have w_41 : s_23.2.1 3 = μ.2.1 3 := f_25.2.1 3 (by decide)
  have w_42 : s_23.2.2 4 = μ.2.2 4 := f_25.2.2 4 (by decide)
  have e_43 : s_2.2.1 12 = s_23.2.1 1 := (w_18.trans rr0).trans w_39.symm
  have e_44 : s_2.2.1 13 = s_23.2.1 2 := (w_19.trans rr1).trans w_40.symm
  have e_45 : s_2.2.1 14 = s_23.2.1 3 := (w_20.trans rr2).trans w_41.symm
  have e_46 : fd_E (s_2.2.1 12) (s_2.2.1 13) (s_2.2.1 14) (s_2.2.2 15) (s_23.2.2 4) (s_2.1 1).toNatClampNeg := by
    have n1 : s_2.1 1 = σ.1 1 := Int32.toInt_inj.mp (by omega); rw [w_18, w_19, w_20, w_21, w_42, n1]; exact ex
  refine fd_e_lt (fun y_47 ey_47 => ?_)
  have t_48 := fd_la ey_47 (by omega) (by omega)
  have r_49 : fd_R s_2 s_23 := ⟨by omega, by omega, by omega, by omega, by omega, by omega, by omega, e_43, e_44, e_45, e_46⟩
  exact hK _ _ _ i_3 i_24 r_49 (by omega)
set_option maxHeartbeats 4000000 in
theorem u_c18 (N L : Nat) (hN : 1000 ≤ N) (hL : L ≤ 3072) (xs : Nat → Int32) (K : Int32 → fd_St → fd_St → Option Int32) (i : Int32) (σ μ : fd_St) (iC : fd_InvC σ) (iM : fd_InvM μ) (r : fd_R σ μ) (h0 : 0 ≤ i.toInt) (h1 : i.toInt + 6 ≤ (L : Int)) (hK : ∀ (j : Int32) (σ1 μ1 : fd_St), fd_InvC σ1 → fd_InvM μ1 → fd_R σ1 μ1 → j.toInt = i.toInt + 6 → K j σ1 μ1 = some 1) : f_law_c18 N L xs K i σ μ = some 1 := by
  have lit0 : (0 : Int32).toInt = 0 := by decide
  have lit6 : (6 : Int32).toInt = 6 := by decide
  obtain ⟨r0, r1, r2, r3, r4, r5, r6, rr0, rr1, rr2, ex⟩ := r
  have rg : (0 : Int) ≤ (σ.1 1).toInt ∧ (σ.1 1).toInt ≤ 200 := iC.1 1
  have rh : (0 : Int) ≤ (μ.1 4).toInt ∧ (μ.1 4).toInt ≤ 64 := iM.1 4
  unfold f_law_c18
  generalize xs (i + (1 : Int32)).toNatClampNeg = b1
  generalize xs (i + (2 : Int32)).toNatClampNeg = b2
  refine fd_e_gd (fd_gk h0 h1 hL (by decide)) ?_
  refine fd_e_gd (fd_gk h0 h1 hL (by decide)) ?_
  refine fd_e_bd (s_L_area_0_39 N hN _ _ _ iC) ?_
  rintro v_1 s_2 ⟨i_3, f_4, x_5⟩
  have t_6 : (s_2.1 1).toInt = (σ.1 1).toInt := congrArg Int32.toInt (f_4.1 1 (by decide))
  have t_7 : (s_2.1 2).toInt = (σ.1 2).toInt := congrArg Int32.toInt (f_4.1 2 (by decide))
  have t_8 : (s_2.1 3).toInt = (σ.1 3).toInt := congrArg Int32.toInt (f_4.1 3 (by decide))
  have t_9 : (s_2.1 4).toInt = (σ.1 4).toInt := congrArg Int32.toInt (f_4.1 4 (by decide))
  have t_10 : (s_2.1 16).toInt = (σ.1 16).toInt := congrArg Int32.toInt (f_4.1 16 (by decide))
  have t_11 : (s_2.1 17).toInt = (σ.1 17).toInt := congrArg Int32.toInt (f_4.1 17 (by decide))
  have t_12 : (s_2.1 18).toInt = (σ.1 18).toInt := congrArg Int32.toInt (f_4.1 18 (by decide))
  have w_13 : s_2.2.1 12 = σ.2.1 12 := f_4.2.1 12 (by decide)
  have w_14 : s_2.2.1 13 = σ.2.1 13 := f_4.2.1 13 (by decide)
  have w_15 : s_2.2.1 14 = σ.2.1 14 := f_4.2.1 14 (by decide)
  have w_16 : s_2.2.2 15 = σ.2.2 15 := f_4.2.2 15 (by decide)
  refine fd_e_gd (fd_gk h0 h1 hL (by decide)) ?_
  refine fd_e_gd (fd_gk h0 h1 hL (by decide)) ?_
  refine fd_e_bd (s_X11_area_0 N hN _ _ _ iM) ?_
  rintro v_17 s_18 ⟨i_19, f_20, x_21⟩
  have t_22 : (s_18.1 1).toInt = (μ.1 1).toInt := congrArg Int32.toInt (f_20.1 1 (by decide))
  have t_23 : (s_18.1 2).toInt = (μ.1 2).toInt := congrArg Int32.toInt (f_20.1 2 (by decide))
  have t_24 : (s_18.1 4).toInt = (μ.1 4).toInt := congrArg Int32.toInt (f_20.1 4 (by decide))
  have t_25 : (s_18.1 3).toInt = (μ.1 3).toInt := congrArg Int32.toInt (f_20.1 3 (by decide))
  have t_26 : (s_18.1 12).toInt = (μ.1 12).toInt := congrArg Int32.toInt (f_20.1 12 (by decide))
  have t_27 : (s_18.1 13).toInt = (μ.1 13).toInt := congrArg Int32.toInt (f_20.1 13 (by decide))
  have t_28 : (s_18.1 14).toInt = (μ.1 14).toInt := congrArg Int32.toInt (f_20.1 14 (by decide))
  have w_29 : s_18.2.1 1 = μ.2.1 1 := f_20.2.1 1 (by decide)
  have w_30 : s_18.2.1 2 = μ.2.1 2 := f_20.2.1 2 (by decide)
  have w_31 : s_18.2.1 3 = μ.2.1 3 := f_20.2.1 3 (by decide)
  have w_32 : s_18.2.2 4 = μ.2.2 4 := f_20.2.2 4 (by decide)
  have e_33 : s_2.2.1 12 = s_18.2.1 1 := (w_13.trans rr0).trans w_29.symm
  have e_34 : s_2.2.1 13 = s_18.2.1 2 := (w_14.trans rr1).trans w_30.symm
  have e_35 : s_2.2.1 14 = s_18.2.1 3 := (w_15.trans rr2).trans w_31.symm
  have e_36 : fd_E (s_2.2.1 12) (s_2.2.1 13) (s_2.2.1 14) (s_2.2.2 15) (s_18.2.2 4) (s_2.1 1).toNatClampNeg := by
    have n1 : s_2.1 1 = σ.1 1 := Int32.toInt_inj.mp (by omega); rw [w_13, w_14, w_15, w_16, w_32, n1]; exact ex
  refine fd_e_lt (fun y_37 ey_37 => ?_)
  have t_38 := fd_la ey_37 (by omega) (by omega)
  have r_39 : fd_R s_2 s_18 := ⟨by omega, by omega, by omega, by omega, by omega, by omega, by omega, e_33, e_34, e_35, e_36⟩
  exact hK _ _ _ i_3 i_19 r_39 (by omega)
set_option maxHeartbeats 4000000 in
theorem u_c19 (N L : Nat) (hN : 1000 ≤ N) (hL : L ≤ 3072) (xs : Nat → Int32) (K : Int32 → fd_St → fd_St → Option Int32) (i : Int32) (σ μ : fd_St) (iC : fd_InvC σ) (iM : fd_InvM μ) (r : fd_R σ μ) (h0 : 0 ≤ i.toInt) (h1 : i.toInt + 6 ≤ (L : Int)) (hK : ∀ (j : Int32) (σ1 μ1 : fd_St), fd_InvC σ1 → fd_InvM μ1 → fd_R σ1 μ1 → j.toInt = i.toInt + 6 → K j σ1 μ1 = some 1) : f_law_c19 N L xs K i σ μ = some 1 := by
  have lit0 : (0 : Int32).toInt = 0 := by decide
  have lit6 : (6 : Int32).toInt = 6 := by decide
  obtain ⟨r0, r1, r2, r3, r4, r5, r6, rr0, rr1, rr2, ex⟩ := r
  have rg : (0 : Int) ≤ (σ.1 1).toInt ∧ (σ.1 1).toInt ≤ 200 := iC.1 1
  have rh : (0 : Int) ≤ (μ.1 4).toInt ∧ (μ.1 4).toInt ≤ 64 := iM.1 4
  unfold f_law_c19
  generalize xs (i + (1 : Int32)).toNatClampNeg = b1
  generalize xs (i + (2 : Int32)).toNatClampNeg = b2
  generalize xs (i + (3 : Int32)).toNatClampNeg = b3
  refine fd_e_gd (fd_gk h0 h1 hL (by decide)) ?_
  refine fd_e_gd (fd_gk h0 h1 hL (by decide)) ?_
  refine fd_e_gd (fd_gk h0 h1 hL (by decide)) ?_
  refine fd_e_bd (s_L_common_0_39 N hN _ _ _ _ iC) ?_
  rintro v_1 s_2 ⟨i_3, f_4, x_5⟩
  have t_6 : (s_2.1 1).toInt = (σ.1 1).toInt := congrArg Int32.toInt (f_4.1 1 (by decide))
  have t_7 : (s_2.1 2).toInt = (σ.1 2).toInt := congrArg Int32.toInt (f_4.1 2 (by decide))
  have t_8 : (s_2.1 3).toInt = (σ.1 3).toInt := congrArg Int32.toInt (f_4.1 3 (by decide))
  have t_9 : (s_2.1 4).toInt = (σ.1 4).toInt := congrArg Int32.toInt (f_4.1 4 (by decide))
  have t_10 : (s_2.1 16).toInt = (σ.1 16).toInt := congrArg Int32.toInt (f_4.1 16 (by decide))
  have t_11 : (s_2.1 17).toInt = (σ.1 17).toInt := congrArg Int32.toInt (f_4.1 17 (by decide))
  have t_12 : (s_2.1 18).toInt = (σ.1 18).toInt := congrArg Int32.toInt (f_4.1 18 (by decide))
  have w_13 : s_2.2.1 12 = σ.2.1 12 := f_4.2.1 12 (by decide)
  have w_14 : s_2.2.1 13 = σ.2.1 13 := f_4.2.1 13 (by decide)
  have w_15 : s_2.2.1 14 = σ.2.1 14 := f_4.2.1 14 (by decide)
  have w_16 : s_2.2.2 15 = σ.2.2 15 := f_4.2.2 15 (by decide)
  refine fd_e_gd (fd_gk h0 h1 hL (by decide)) ?_
  refine fd_e_gd (fd_gk h0 h1 hL (by decide)) ?_
  refine fd_e_gd (fd_gk h0 h1 hL (by decide)) ?_
  refine fd_e_bd (s_X11_common_0 N hN _ _ _ _ iM) ?_
  rintro v_17 s_18 ⟨i_19, f_20, x_21⟩
  have t_22 : (s_18.1 1).toInt = (μ.1 1).toInt := congrArg Int32.toInt (f_20.1 1 (by decide))
  have t_23 : (s_18.1 2).toInt = (μ.1 2).toInt := congrArg Int32.toInt (f_20.1 2 (by decide))
  have t_24 : (s_18.1 4).toInt = (μ.1 4).toInt := congrArg Int32.toInt (f_20.1 4 (by decide))
  have t_25 : (s_18.1 3).toInt = (μ.1 3).toInt := congrArg Int32.toInt (f_20.1 3 (by decide))
  have t_26 : (s_18.1 12).toInt = (μ.1 12).toInt := congrArg Int32.toInt (f_20.1 12 (by decide))
  have t_27 : (s_18.1 13).toInt = (μ.1 13).toInt := congrArg Int32.toInt (f_20.1 13 (by decide))
  have t_28 : (s_18.1 14).toInt = (μ.1 14).toInt := congrArg Int32.toInt (f_20.1 14 (by decide))
  have w_29 : s_18.2.1 1 = μ.2.1 1 := f_20.2.1 1 (by decide)
  have w_30 : s_18.2.1 2 = μ.2.1 2 := f_20.2.1 2 (by decide)
  have w_31 : s_18.2.1 3 = μ.2.1 3 := f_20.2.1 3 (by decide)
  have w_32 : s_18.2.2 4 = μ.2.2 4 := f_20.2.2 4 (by decide)
  have e_33 : s_2.2.1 12 = s_18.2.1 1 := (w_13.trans rr0).trans w_29.symm
  have e_34 : s_2.2.1 13 = s_18.2.1 2 := (w_14.trans rr1).trans w_30.symm
  have e_35 : s_2.2.1 14 = s_18.2.1 3 := (w_15.trans rr2).trans w_31.symm
  have e_36 : fd_E (s_2.2.1 12) (s_2.2.1 13) (s_2.2.1 14) (s_2.2.2 15) (s_18.2.2 4) (s_2.1 1).toNatClampNeg := by
    have n1 : s_2.1 1 = σ.1 1 := Int32.toInt_inj.mp (by omega); rw [w_13, w_14, w_15, w_16, w_32, n1]; exact ex
  refine fd_e_lt (fun y_37 ey_37 => ?_)
  have t_38 := fd_la ey_37 (by omega) (by omega)
  have r_39 : fd_R s_2 s_18 := ⟨by omega, by omega, by omega, by omega, by omega, by omega, by omega, e_33, e_34, e_35, e_36⟩
  exact hK _ _ _ i_3 i_19 r_39 (by omega)
set_option maxHeartbeats 4000000 in
theorem u_c20 (N L : Nat) (hN : 1000 ≤ N) (hL : L ≤ 3072) (xs : Nat → Int32) (K : Int32 → fd_St → fd_St → Option Int32) (i : Int32) (σ μ : fd_St) (iC : fd_InvC σ) (iM : fd_InvM μ) (r : fd_R σ μ) (h0 : 0 ≤ i.toInt) (h1 : i.toInt + 6 ≤ (L : Int)) (hK : ∀ (j : Int32) (σ1 μ1 : fd_St), fd_InvC σ1 → fd_InvM μ1 → fd_R σ1 μ1 → j.toInt = i.toInt + 6 → K j σ1 μ1 = some 1) : f_law_c20 N L xs K i σ μ = some 1 := by
  have lit0 : (0 : Int32).toInt = 0 := by decide
  have lit6 : (6 : Int32).toInt = 6 := by decide
  obtain ⟨r0, r1, r2, r3, r4, r5, r6, rr0, rr1, rr2, ex⟩ := r
  have rg : (0 : Int) ≤ (σ.1 1).toInt ∧ (σ.1 1).toInt ≤ 200 := iC.1 1
  have rh : (0 : Int) ≤ (μ.1 4).toInt ∧ (μ.1 4).toInt ≤ 64 := iM.1 4
  unfold f_law_c20
  generalize xs (i + (1 : Int32)).toNatClampNeg = b1
  refine fd_e_gd (fd_gk h0 h1 hL (by decide)) ?_
  refine fd_e_bd (s_L_count_0_39 N hN _ _ iC) ?_
  rintro v_1 s_2 ⟨i_3, f_4, x_5⟩
  have t_6 : (s_2.1 1).toInt = (σ.1 1).toInt := congrArg Int32.toInt (f_4.1 1 (by decide))
  have t_7 : (s_2.1 2).toInt = (σ.1 2).toInt := congrArg Int32.toInt (f_4.1 2 (by decide))
  have t_8 : (s_2.1 3).toInt = (σ.1 3).toInt := congrArg Int32.toInt (f_4.1 3 (by decide))
  have t_9 : (s_2.1 4).toInt = (σ.1 4).toInt := congrArg Int32.toInt (f_4.1 4 (by decide))
  have t_10 : (s_2.1 16).toInt = (σ.1 16).toInt := congrArg Int32.toInt (f_4.1 16 (by decide))
  have t_11 : (s_2.1 17).toInt = (σ.1 17).toInt := congrArg Int32.toInt (f_4.1 17 (by decide))
  have t_12 : (s_2.1 18).toInt = (σ.1 18).toInt := congrArg Int32.toInt (f_4.1 18 (by decide))
  have w_13 : s_2.2.1 12 = σ.2.1 12 := f_4.2.1 12 (by decide)
  have w_14 : s_2.2.1 13 = σ.2.1 13 := f_4.2.1 13 (by decide)
  have w_15 : s_2.2.1 14 = σ.2.1 14 := f_4.2.1 14 (by decide)
  have w_16 : s_2.2.2 15 = σ.2.2 15 := f_4.2.2 15 (by decide)
  refine fd_e_gd (fd_gk h0 h1 hL (by decide)) ?_
  refine fd_e_bd (s_X11_count_0 N hN _ _ iM) ?_
  rintro v_17 s_18 ⟨i_19, f_20, x_21⟩
  have t_22 : (s_18.1 1).toInt = (μ.1 1).toInt := congrArg Int32.toInt (f_20.1 1 (by decide))
  have t_23 : (s_18.1 2).toInt = (μ.1 2).toInt := congrArg Int32.toInt (f_20.1 2 (by decide))
  have t_24 : (s_18.1 4).toInt = (μ.1 4).toInt := congrArg Int32.toInt (f_20.1 4 (by decide))
  have t_25 : (s_18.1 3).toInt = (μ.1 3).toInt := congrArg Int32.toInt (f_20.1 3 (by decide))
  have t_26 : (s_18.1 12).toInt = (μ.1 12).toInt := congrArg Int32.toInt (f_20.1 12 (by decide))
  have t_27 : (s_18.1 13).toInt = (μ.1 13).toInt := congrArg Int32.toInt (f_20.1 13 (by decide))
  have t_28 : (s_18.1 14).toInt = (μ.1 14).toInt := congrArg Int32.toInt (f_20.1 14 (by decide))
  have w_29 : s_18.2.1 1 = μ.2.1 1 := f_20.2.1 1 (by decide)
  have w_30 : s_18.2.1 2 = μ.2.1 2 := f_20.2.1 2 (by decide)
  have w_31 : s_18.2.1 3 = μ.2.1 3 := f_20.2.1 3 (by decide)
  have w_32 : s_18.2.2 4 = μ.2.2 4 := f_20.2.2 4 (by decide)
  have e_33 : s_2.2.1 12 = s_18.2.1 1 := (w_13.trans rr0).trans w_29.symm
  have e_34 : s_2.2.1 13 = s_18.2.1 2 := (w_14.trans rr1).trans w_30.symm
  have e_35 : s_2.2.1 14 = s_18.2.1 3 := (w_15.trans rr2).trans w_31.symm
  have e_36 : fd_E (s_2.2.1 12) (s_2.2.1 13) (s_2.2.1 14) (s_2.2.2 15) (s_18.2.2 4) (s_2.1 1).toNatClampNeg := by
    have n1 : s_2.1 1 = σ.1 1 := Int32.toInt_inj.mp (by omega); rw [w_13, w_14, w_15, w_16, w_32, n1]; exact ex
  refine fd_e_lt (fun y_37 ey_37 => ?_)
  have t_38 := fd_la ey_37 (by omega) (by omega)
  have r_39 : fd_R s_2 s_18 := ⟨by omega, by omega, by omega, by omega, by omega, by omega, by omega, e_33, e_34, e_35, e_36⟩
  exact hK _ _ _ i_3 i_19 r_39 (by omega)
set_option maxHeartbeats 4000000 in
theorem u_c21 (N L : Nat) (hN : 1000 ≤ N) (hL : L ≤ 3072) (xs : Nat → Int32) (K : Int32 → fd_St → fd_St → Option Int32) (i : Int32) (σ μ : fd_St) (iC : fd_InvC σ) (iM : fd_InvM μ) (r : fd_R σ μ) (h0 : 0 ≤ i.toInt) (h1 : i.toInt + 6 ≤ (L : Int)) (hK : ∀ (j : Int32) (σ1 μ1 : fd_St), fd_InvC σ1 → fd_InvM μ1 → fd_R σ1 μ1 → j.toInt = i.toInt + 6 → K j σ1 μ1 = some 1) : f_law_c21 N L xs K i σ μ = some 1 := by
  have lit0 : (0 : Int32).toInt = 0 := by decide
  have lit6 : (6 : Int32).toInt = 6 := by decide
  obtain ⟨r0, r1, r2, r3, r4, r5, r6, rr0, rr1, rr2, ex⟩ := r
  have rg : (0 : Int) ≤ (σ.1 1).toInt ∧ (σ.1 1).toInt ≤ 200 := iC.1 1
  have rh : (0 : Int) ≤ (μ.1 4).toInt ∧ (μ.1 4).toInt ≤ 64 := iM.1 4
  unfold f_law_c21
  refine fd_e_bd (s_X10_clear_0 N hN _ iC) ?_
  rintro v_1 s_2 ⟨i_3, f_4, x_5⟩
  have w_6 : s_2.2.1 12 = σ.2.1 12 := f_4.2.1 12 (by decide)
  have w_7 : s_2.2.1 13 = σ.2.1 13 := f_4.2.1 13 (by decide)
  have w_8 : s_2.2.1 14 = σ.2.1 14 := f_4.2.1 14 (by decide)
  have w_9 : s_2.2.2 15 = σ.2.2 15 := f_4.2.2 15 (by decide)
  refine fd_e_lt (fun y_10 ey_10 => ?_)
  have i_11 : fd_InvC y_10 := by subst ey_10; exact i_3
  have t_12 : (y_10.1 1).toInt = (s_2.1 1).toInt := by subst ey_10; rfl
  have t_13 : (y_10.1 2).toInt = (s_2.1 2).toInt := by subst ey_10; rfl
  have t_14 : (y_10.1 3).toInt = (s_2.1 3).toInt := by subst ey_10; rfl
  have t_15 : (y_10.1 4).toInt = (s_2.1 4).toInt := by subst ey_10; rfl
  have t_16 : (y_10.1 16).toInt = (s_2.1 16).toInt := by subst ey_10; rfl
  have t_17 : (y_10.1 17).toInt = (s_2.1 17).toInt := by subst ey_10; rfl
  have t_18 : (y_10.1 18).toInt = (s_2.1 18).toInt := by subst ey_10; rfl
  have w_19 := fd_ymixA (d := 12) ey_10 w_6
  have w_20 := fd_ymixA (d := 13) ey_10 w_7
  have w_21 := fd_ymixA (d := 14) ey_10 w_8
  have w_22 := fd_ymix (d := 15) ey_10 (by decide) w_9
  refine fd_e_bd (s_X11_clear_0 N hN _ iM) ?_
  rintro v_23 s_24 ⟨i_25, f_26, x_27⟩
  have w_28 : s_24.2.1 1 = μ.2.1 1 := f_26.2.1 1 (by decide)
  have w_29 : s_24.2.1 2 = μ.2.1 2 := f_26.2.1 2 (by decide)
  have w_30 : s_24.2.1 3 = μ.2.1 3 := f_26.2.1 3 (by decide)
  have w_31 : s_24.2.2 4 = μ.2.2 4 := f_26.2.2 4 (by decide)
  have e_32 : y_10.2.1 12 = s_24.2.1 1 := (w_19.trans rr0).trans w_28.symm
  have e_33 : y_10.2.1 13 = s_24.2.1 2 := (w_20.trans rr1).trans w_29.symm
  have e_34 : y_10.2.1 14 = s_24.2.1 3 := (w_21.trans rr2).trans w_30.symm
  have e_35 : fd_E (y_10.2.1 12) (y_10.2.1 13) (y_10.2.1 14) (y_10.2.2 15) (s_24.2.2 4) (y_10.1 1).toNatClampNeg := by
    have n0 : (y_10.1 1).toNatClampNeg = 0 := by show (y_10.1 1).toInt.toNat = 0; omega
    rw [w_19, w_20, w_21, w_22, w_31, n0]; exact ⟨ex.1, fun i hi => absurd hi (Nat.not_lt_zero i), fun i hi => absurd hi (Nat.not_lt_zero i)⟩
  refine fd_e_lt (fun y_36 ey_36 => ?_)
  have t_37 := fd_la ey_36 (by omega) (by omega)
  have r_38 : fd_R y_10 s_24 := ⟨by omega, by omega, by omega, by omega, by omega, by omega, by omega, e_32, e_33, e_34, e_35⟩
  exact hK _ _ _ i_11 i_25 r_38 (by omega)
