set_option maxHeartbeats 4000000 in
theorem u_c15 (N L : Nat) (hN : 1000 ≤ N) (hL : L ≤ 3072) (xs : Nat → Int32) (K : Int32 → fd_St → fd_St → Option Int32) (i : Int32) (σ μ : fd_St) (iC : fd_InvC σ) (iM : fd_InvM μ) (r : fd_R σ μ) (h0 : 0 ≤ i.toInt) (h1 : i.toInt + 6 ≤ (L : Int)) (hK : ∀ (j : Int32) (σ1 μ1 : fd_St), fd_InvC σ1 → fd_InvM μ1 → fd_R σ1 μ1 → j.toInt = i.toInt + 6 → K j σ1 μ1 = some 1) : f_law_c15 N L xs K i σ μ = some 1 := by
  have lit0 : (0 : Int32).toInt = 0 := by decide
  have lit6 : (6 : Int32).toInt = 6 := by decide
  obtain ⟨r0, r1, r2, r3, r4, r5, r6, r7, rr0, rr1, rr2, rr3, rr4, rr5, rr6, ex, exq⟩ := r
  have rg : (0 : Int) ≤ (σ.1 1).toInt ∧ (σ.1 1).toInt ≤ 200 := iC.1 1
  have rh : (0 : Int) ≤ (μ.1 4).toInt ∧ (μ.1 4).toInt ≤ 64 := iM.1 4
  have rp : (0 : Int) ≤ (σ.1 5).toInt ∧ (σ.1 5).toInt ≤ 40 := iC.1 5
  have ro : (0 : Int) ≤ (σ.1 4).toInt ∧ (σ.1 4).toInt ≤ 32 := iC.1 4
  unfold f_law_c15
  generalize xs (i + (1 : Int32)).toNatClampNeg = b1
  generalize xs (i + (2 : Int32)).toNatClampNeg = b2
  generalize xs (i + (3 : Int32)).toNatClampNeg = b3
  generalize xs (i + (4 : Int32)).toNatClampNeg = b4
  refine fd_e_gd (fd_gk h0 h1 hL (by decide)) ?_
  refine fd_e_gd (fd_gk h0 h1 hL (by decide)) ?_
  refine fd_e_gd (fd_gk h0 h1 hL (by decide)) ?_
  refine fd_e_gd (fd_gk h0 h1 hL (by decide)) ?_
  refine fd_e_bd (s_L_caught_0_39 N hN _ _ _ iC) ?_
  rintro v_1 s_2 ⟨i_3, f_4, x_5, y_6, y_7⟩
  have t_8 : (s_2.1 1).toInt = (σ.1 1).toInt := congrArg Int32.toInt (f_4.1 1 (by decide))
  have t_9 : (s_2.1 2).toInt = (σ.1 2).toInt := congrArg Int32.toInt (f_4.1 2 (by decide))
  have t_10 : (s_2.1 3).toInt = (σ.1 3).toInt := congrArg Int32.toInt (f_4.1 3 (by decide))
  have t_11 : (s_2.1 4).toInt = (σ.1 4).toInt := congrArg Int32.toInt (f_4.1 4 (by decide))
  have t_12 : (s_2.1 16).toInt = (σ.1 16).toInt := congrArg Int32.toInt (f_4.1 16 (by decide))
  have t_13 : (s_2.1 18).toInt = (σ.1 18).toInt := congrArg Int32.toInt (f_4.1 18 (by decide))
  have t_14 : (s_2.1 5).toInt = (σ.1 5).toInt := congrArg Int32.toInt (f_4.1 5 (by decide))
  have w_15 : s_2.2.1 12 = σ.2.1 12 := f_4.2.1 12 (by decide)
  have w_16 : s_2.2.1 13 = σ.2.1 13 := f_4.2.1 13 (by decide)
  have w_17 : s_2.2.1 14 = σ.2.1 14 := f_4.2.1 14 (by decide)
  have w_18 : s_2.2.1 18 = σ.2.1 18 := f_4.2.1 18 (by decide)
  have w_19 : s_2.2.1 20 = σ.2.1 20 := f_4.2.1 20 (by decide)
  have w_20 : s_2.2.1 21 = σ.2.1 21 := f_4.2.1 21 (by decide)
  have w_21 : s_2.2.2 15 = σ.2.2 15 := f_4.2.2 15 (by decide)
  have w_22 : s_2.2.2 19 = σ.2.2 19 := f_4.2.2 19 (by decide)
  refine fd_e_gd (fd_gk h0 h1 hL (by decide)) ?_
  refine fd_e_gd (fd_gk h0 h1 hL (by decide)) ?_
  refine fd_e_gd (fd_gk h0 h1 hL (by decide)) ?_
  refine fd_e_gd (fd_gk h0 h1 hL (by decide)) ?_
  refine fd_e_bd (s_X11_caught_0 N hN _ _ _ iM) ?_
  rintro v_23 s_24 ⟨i_25, f_26, x_27, y_28, y_29⟩
  have t_30 : (s_24.1 1).toInt = (μ.1 1).toInt := congrArg Int32.toInt (f_26.1 1 (by decide))
  have t_31 : (s_24.1 2).toInt = (μ.1 2).toInt := congrArg Int32.toInt (f_26.1 2 (by decide))
  have t_32 : (s_24.1 4).toInt = (μ.1 4).toInt := congrArg Int32.toInt (f_26.1 4 (by decide))
  have t_33 : (s_24.1 3).toInt = (μ.1 3).toInt := congrArg Int32.toInt (f_26.1 3 (by decide))
  have t_34 : (s_24.1 12).toInt = (μ.1 12).toInt := congrArg Int32.toInt (f_26.1 12 (by decide))
  have t_35 : (s_24.1 14).toInt = (μ.1 14).toInt := congrArg Int32.toInt (f_26.1 14 (by decide))
  have t_36 : (s_24.1 5).toInt = (μ.1 5).toInt := congrArg Int32.toInt (f_26.1 5 (by decide))
  have w_37 : s_24.2.1 1 = μ.2.1 1 := f_26.2.1 1 (by decide)
  have w_38 : s_24.2.1 2 = μ.2.1 2 := f_26.2.1 2 (by decide)
  have w_39 : s_24.2.1 3 = μ.2.1 3 := f_26.2.1 3 (by decide)
  have w_40 : s_24.2.1 5 = μ.2.1 5 := f_26.2.1 5 (by decide)
  have w_41 : s_24.2.1 7 = μ.2.1 7 := f_26.2.1 7 (by decide)
  have w_42 : s_24.2.1 8 = μ.2.1 8 := f_26.2.1 8 (by decide)
  have w_43 : s_24.2.2 4 = μ.2.2 4 := f_26.2.2 4 (by decide)
  have w_44 : s_24.2.2 6 = μ.2.2 6 := f_26.2.2 6 (by decide)
  have e_45 : s_2.2.1 12 = s_24.2.1 1 := (w_15.trans rr0).trans w_37.symm
  have e_46 : s_2.2.1 13 = s_24.2.1 2 := (w_16.trans rr1).trans w_38.symm
  have e_47 : s_2.2.1 14 = s_24.2.1 3 := (w_17.trans rr2).trans w_39.symm
  have e_48 : s_2.2.1 18 = s_24.2.1 5 := (w_18.trans rr3).trans w_40.symm
  have e_49 : s_2.2.1 20 = s_24.2.1 7 := (w_19.trans rr4).trans w_41.symm
  have e_50 : s_2.2.1 21 = s_24.2.1 8 := (w_20.trans rr5).trans w_42.symm
  have e_51 : s_2.2.2 19 = s_24.2.2 6 := (w_22.trans rr6).trans w_44.symm
  have e_52 : fd_E (s_2.2.1 12) (s_2.2.1 13) (s_2.2.1 14) (s_2.2.2 15) (s_24.2.2 4) (s_2.1 1).toNatClampNeg := by
    have n1 : s_2.1 1 = σ.1 1 := Int32.toInt_inj.mp (by omega); rw [w_15, w_16, w_17, w_21, w_43, n1]; exact ex
  have e_53 : fd_Q (s_2.1 1) (s_2.1 5) (s_2.1 4) (s_2.2.1 20) (s_2.2.1 21) (s_2.2.1 18) := by
    have n1 : s_2.1 1 = σ.1 1 := Int32.toInt_inj.mp (by omega); have p5 : s_2.1 5 = σ.1 5 := Int32.toInt_inj.mp (by omega); have o4 : s_2.1 4 = σ.1 4 := Int32.toInt_inj.mp (by omega); rw [n1, p5, o4, w_19, w_20, w_18]; exact exq
  refine fd_e_lt (fun y_54 ey_54 => ?_)
  have t_55 := fd_la ey_54 (by omega) (by omega)
  have r_56 : fd_R s_2 s_24 := ⟨by omega, by omega, by omega, by omega, by omega, by omega, by omega, by omega, e_45, e_46, e_47, e_48, e_49, e_50, e_51, e_52, e_53⟩
  exact hK _ _ _ i_3 i_25 r_56 (by omega)
set_option maxHeartbeats 4000000 in
theorem u_c16 (N L : Nat) (hN : 1000 ≤ N) (hL : L ≤ 3072) (xs : Nat → Int32) (K : Int32 → fd_St → fd_St → Option Int32) (i : Int32) (σ μ : fd_St) (iC : fd_InvC σ) (iM : fd_InvM μ) (r : fd_R σ μ) (h0 : 0 ≤ i.toInt) (h1 : i.toInt + 6 ≤ (L : Int)) (hK : ∀ (j : Int32) (σ1 μ1 : fd_St), fd_InvC σ1 → fd_InvM μ1 → fd_R σ1 μ1 → j.toInt = i.toInt + 6 → K j σ1 μ1 = some 1) : f_law_c16 N L xs K i σ μ = some 1 := by
  have lit0 : (0 : Int32).toInt = 0 := by decide
  have lit6 : (6 : Int32).toInt = 6 := by decide
  obtain ⟨r0, r1, r2, r3, r4, r5, r6, r7, rr0, rr1, rr2, rr3, rr4, rr5, rr6, ex, exq⟩ := r
  have rg : (0 : Int) ≤ (σ.1 1).toInt ∧ (σ.1 1).toInt ≤ 200 := iC.1 1
  have rh : (0 : Int) ≤ (μ.1 4).toInt ∧ (μ.1 4).toInt ≤ 64 := iM.1 4
  have rp : (0 : Int) ≤ (σ.1 5).toInt ∧ (σ.1 5).toInt ≤ 40 := iC.1 5
  have ro : (0 : Int) ≤ (σ.1 4).toInt ∧ (σ.1 4).toInt ≤ 32 := iC.1 4
  unfold f_law_c16
  generalize xs (i + (1 : Int32)).toNatClampNeg = b1
  generalize xs (i + (2 : Int32)).toNatClampNeg = b2
  refine fd_e_gd (fd_gk h0 h1 hL (by decide)) ?_
  refine fd_e_gd (fd_gk h0 h1 hL (by decide)) ?_
  refine fd_e_bd (s_L_span_0_39 N hN _ _ _ iC) ?_
  rintro v_1 s_2 ⟨i_3, f_4, x_5, y_6⟩
  have t_7 : (s_2.1 1).toInt = (σ.1 1).toInt := congrArg Int32.toInt (f_4.1 1 (by decide))
  have t_8 : (s_2.1 2).toInt = (σ.1 2).toInt := congrArg Int32.toInt (f_4.1 2 (by decide))
  have t_9 : (s_2.1 3).toInt = (σ.1 3).toInt := congrArg Int32.toInt (f_4.1 3 (by decide))
  have t_10 : (s_2.1 4).toInt = (σ.1 4).toInt := congrArg Int32.toInt (f_4.1 4 (by decide))
  have t_11 : (s_2.1 16).toInt = (σ.1 16).toInt := congrArg Int32.toInt (f_4.1 16 (by decide))
  have t_12 : (s_2.1 17).toInt = (σ.1 17).toInt := congrArg Int32.toInt (f_4.1 17 (by decide))
  have t_13 : (s_2.1 18).toInt = (σ.1 18).toInt := congrArg Int32.toInt (f_4.1 18 (by decide))
  have t_14 : (s_2.1 5).toInt = (σ.1 5).toInt := congrArg Int32.toInt (f_4.1 5 (by decide))
  have w_15 : s_2.2.1 12 = σ.2.1 12 := f_4.2.1 12 (by decide)
  have w_16 : s_2.2.1 13 = σ.2.1 13 := f_4.2.1 13 (by decide)
  have w_17 : s_2.2.1 14 = σ.2.1 14 := f_4.2.1 14 (by decide)
  have w_18 : s_2.2.1 18 = σ.2.1 18 := f_4.2.1 18 (by decide)
  have w_19 : s_2.2.1 20 = σ.2.1 20 := f_4.2.1 20 (by decide)
  have w_20 : s_2.2.1 21 = σ.2.1 21 := f_4.2.1 21 (by decide)
  have w_21 : s_2.2.2 15 = σ.2.2 15 := f_4.2.2 15 (by decide)
  have w_22 : s_2.2.2 19 = σ.2.2 19 := f_4.2.2 19 (by decide)
  refine fd_e_gd (fd_gk h0 h1 hL (by decide)) ?_
  refine fd_e_gd (fd_gk h0 h1 hL (by decide)) ?_
  refine fd_e_bd (s_X11_span_0 N hN _ _ _ iM) ?_
  rintro v_23 s_24 ⟨i_25, f_26, x_27, y_28⟩
  have t_29 : (s_24.1 1).toInt = (μ.1 1).toInt := congrArg Int32.toInt (f_26.1 1 (by decide))
  have t_30 : (s_24.1 2).toInt = (μ.1 2).toInt := congrArg Int32.toInt (f_26.1 2 (by decide))
  have t_31 : (s_24.1 4).toInt = (μ.1 4).toInt := congrArg Int32.toInt (f_26.1 4 (by decide))
  have t_32 : (s_24.1 3).toInt = (μ.1 3).toInt := congrArg Int32.toInt (f_26.1 3 (by decide))
  have t_33 : (s_24.1 12).toInt = (μ.1 12).toInt := congrArg Int32.toInt (f_26.1 12 (by decide))
  have t_34 : (s_24.1 13).toInt = (μ.1 13).toInt := congrArg Int32.toInt (f_26.1 13 (by decide))
  have t_35 : (s_24.1 14).toInt = (μ.1 14).toInt := congrArg Int32.toInt (f_26.1 14 (by decide))
  have t_36 : (s_24.1 5).toInt = (μ.1 5).toInt := congrArg Int32.toInt (f_26.1 5 (by decide))
  have w_37 : s_24.2.1 1 = μ.2.1 1 := f_26.2.1 1 (by decide)
  have w_38 : s_24.2.1 2 = μ.2.1 2 := f_26.2.1 2 (by decide)
  have w_39 : s_24.2.1 3 = μ.2.1 3 := f_26.2.1 3 (by decide)
  have w_40 : s_24.2.1 5 = μ.2.1 5 := f_26.2.1 5 (by decide)
  have w_41 : s_24.2.1 7 = μ.2.1 7 := f_26.2.1 7 (by decide)
  have w_42 : s_24.2.1 8 = μ.2.1 8 := f_26.2.1 8 (by decide)
  have w_43 : s_24.2.2 4 = μ.2.2 4 := f_26.2.2 4 (by decide)
  have w_44 : s_24.2.2 6 = μ.2.2 6 := f_26.2.2 6 (by decide)
  have e_45 : s_2.2.1 12 = s_24.2.1 1 := (w_15.trans rr0).trans w_37.symm
  have e_46 : s_2.2.1 13 = s_24.2.1 2 := (w_16.trans rr1).trans w_38.symm
  have e_47 : s_2.2.1 14 = s_24.2.1 3 := (w_17.trans rr2).trans w_39.symm
  have e_48 : s_2.2.1 18 = s_24.2.1 5 := (w_18.trans rr3).trans w_40.symm
  have e_49 : s_2.2.1 20 = s_24.2.1 7 := (w_19.trans rr4).trans w_41.symm
  have e_50 : s_2.2.1 21 = s_24.2.1 8 := (w_20.trans rr5).trans w_42.symm
  have e_51 : s_2.2.2 19 = s_24.2.2 6 := (w_22.trans rr6).trans w_44.symm
  have e_52 : fd_E (s_2.2.1 12) (s_2.2.1 13) (s_2.2.1 14) (s_2.2.2 15) (s_24.2.2 4) (s_2.1 1).toNatClampNeg := by
    have n1 : s_2.1 1 = σ.1 1 := Int32.toInt_inj.mp (by omega); rw [w_15, w_16, w_17, w_21, w_43, n1]; exact ex
  have e_53 : fd_Q (s_2.1 1) (s_2.1 5) (s_2.1 4) (s_2.2.1 20) (s_2.2.1 21) (s_2.2.1 18) := by
    have n1 : s_2.1 1 = σ.1 1 := Int32.toInt_inj.mp (by omega); have p5 : s_2.1 5 = σ.1 5 := Int32.toInt_inj.mp (by omega); have o4 : s_2.1 4 = σ.1 4 := Int32.toInt_inj.mp (by omega); rw [n1, p5, o4, w_19, w_20, w_18]; exact exq
  refine fd_e_lt (fun y_54 ey_54 => ?_)
  have t_55 := fd_la ey_54 (by omega) (by omega)
  have r_56 : fd_R s_2 s_24 := ⟨by omega, by omega, by omega, by omega, by omega, by omega, by omega, by omega, e_45, e_46, e_47, e_48, e_49, e_50, e_51, e_52, e_53⟩
  exact hK _ _ _ i_3 i_25 r_56 (by omega)
set_option maxHeartbeats 4000000 in
theorem u_c17 (N L : Nat) (hN : 1000 ≤ N) (hL : L ≤ 3072) (xs : Nat → Int32) (K : Int32 → fd_St → fd_St → Option Int32) (i : Int32) (σ μ : fd_St) (iC : fd_InvC σ) (iM : fd_InvM μ) (r : fd_R σ μ) (h0 : 0 ≤ i.toInt) (h1 : i.toInt + 6 ≤ (L : Int)) (hK : ∀ (j : Int32) (σ1 μ1 : fd_St), fd_InvC σ1 → fd_InvM μ1 → fd_R σ1 μ1 → j.toInt = i.toInt + 6 → K j σ1 μ1 = some 1) : f_law_c17 N L xs K i σ μ = some 1 := by
  have lit0 : (0 : Int32).toInt = 0 := by decide
  have lit6 : (6 : Int32).toInt = 6 := by decide
  obtain ⟨r0, r1, r2, r3, r4, r5, r6, r7, rr0, rr1, rr2, rr3, rr4, rr5, rr6, ex, exq⟩ := r
  have rg : (0 : Int) ≤ (σ.1 1).toInt ∧ (σ.1 1).toInt ≤ 200 := iC.1 1
  have rh : (0 : Int) ≤ (μ.1 4).toInt ∧ (μ.1 4).toInt ≤ 64 := iM.1 4
  have rp : (0 : Int) ≤ (σ.1 5).toInt ∧ (σ.1 5).toInt ≤ 40 := iC.1 5
  have ro : (0 : Int) ≤ (σ.1 4).toInt ∧ (σ.1 4).toInt ≤ 32 := iC.1 4
  unfold f_law_c17
  generalize xs (i + (1 : Int32)).toNatClampNeg = b1
  generalize xs (i + (2 : Int32)).toNatClampNeg = b2
  generalize xs (i + (3 : Int32)).toNatClampNeg = b3
  generalize xs (i + (4 : Int32)).toNatClampNeg = b4
  generalize xs (i + (5 : Int32)).toNatClampNeg = b5
  refine fd_e_gd (fd_gk h0 h1 hL (by decide)) ?_
  refine fd_e_gd (fd_gk h0 h1 hL (by decide)) ?_
  refine fd_e_gd (fd_gk h0 h1 hL (by decide)) ?_
  refine fd_e_gd (fd_gk h0 h1 hL (by decide)) ?_
  refine fd_e_gd (fd_gk h0 h1 hL (by decide)) ?_
  refine fd_e_bd (s_L_shape_0_39 N hN _ _ _ _ _ _ iC) ?_
  rintro v_1 s_2 ⟨i_3, f_4, x_5, y_6, y_7, y_8, y_9, y_10, y_11⟩
  have t_12 : (s_2.1 1).toInt = (σ.1 1).toInt := congrArg Int32.toInt (f_4.1 1 (by decide))
  have t_13 : (s_2.1 2).toInt = (σ.1 2).toInt := congrArg Int32.toInt (f_4.1 2 (by decide))
  have t_14 : (s_2.1 3).toInt = (σ.1 3).toInt := congrArg Int32.toInt (f_4.1 3 (by decide))
  have t_15 : (s_2.1 4).toInt = (σ.1 4).toInt := congrArg Int32.toInt (f_4.1 4 (by decide))
  have t_16 : (s_2.1 16).toInt = (σ.1 16).toInt := congrArg Int32.toInt (f_4.1 16 (by decide))
  have t_17 : (s_2.1 17).toInt = (σ.1 17).toInt := congrArg Int32.toInt (f_4.1 17 (by decide))
  have t_18 : (s_2.1 5).toInt = (σ.1 5).toInt := congrArg Int32.toInt (f_4.1 5 (by decide))
  have w_19 : s_2.2.1 12 = σ.2.1 12 := f_4.2.1 12 (by decide)
  have w_20 : s_2.2.1 13 = σ.2.1 13 := f_4.2.1 13 (by decide)
  have w_21 : s_2.2.1 14 = σ.2.1 14 := f_4.2.1 14 (by decide)
  have w_22 : s_2.2.1 18 = σ.2.1 18 := f_4.2.1 18 (by decide)
  have w_23 : s_2.2.1 20 = σ.2.1 20 := f_4.2.1 20 (by decide)
  have w_24 : s_2.2.1 21 = σ.2.1 21 := f_4.2.1 21 (by decide)
  have w_25 : s_2.2.2 15 = σ.2.2 15 := f_4.2.2 15 (by decide)
  have w_26 : s_2.2.2 19 = σ.2.2 19 := f_4.2.2 19 (by decide)
  refine fd_e_gd (fd_gk h0 h1 hL (by decide)) ?_
  refine fd_e_gd (fd_gk h0 h1 hL (by decide)) ?_
  refine fd_e_gd (fd_gk h0 h1 hL (by decide)) ?_
  refine fd_e_gd (fd_gk h0 h1 hL (by decide)) ?_
  refine fd_e_gd (fd_gk h0 h1 hL (by decide)) ?_
  refine fd_e_bd (s_X11_shape_0 N hN _ _ _ _ _ _ iM) ?_
  rintro v_27 s_28 ⟨i_29, f_30, x_31, y_32, y_33, y_34, y_35, y_36, y_37⟩
  have t_38 : (s_28.1 1).toInt = (μ.1 1).toInt := congrArg Int32.toInt (f_30.1 1 (by decide))
  have t_39 : (s_28.1 2).toInt = (μ.1 2).toInt := congrArg Int32.toInt (f_30.1 2 (by decide))
  have t_40 : (s_28.1 4).toInt = (μ.1 4).toInt := congrArg Int32.toInt (f_30.1 4 (by decide))
  have t_41 : (s_28.1 3).toInt = (μ.1 3).toInt := congrArg Int32.toInt (f_30.1 3 (by decide))
  have t_42 : (s_28.1 12).toInt = (μ.1 12).toInt := congrArg Int32.toInt (f_30.1 12 (by decide))
  have t_43 : (s_28.1 13).toInt = (μ.1 13).toInt := congrArg Int32.toInt (f_30.1 13 (by decide))
  have t_44 : (s_28.1 5).toInt = (μ.1 5).toInt := congrArg Int32.toInt (f_30.1 5 (by decide))
  have w_45 : s_28.2.1 1 = μ.2.1 1 := f_30.2.1 1 (by decide)
  have w_46 : s_28.2.1 2 = μ.2.1 2 := f_30.2.1 2 (by decide)
  have w_47 : s_28.2.1 3 = μ.2.1 3 := f_30.2.1 3 (by decide)
  have w_48 : s_28.2.1 5 = μ.2.1 5 := f_30.2.1 5 (by decide)
  have w_49 : s_28.2.1 7 = μ.2.1 7 := f_30.2.1 7 (by decide)
  have w_50 : s_28.2.1 8 = μ.2.1 8 := f_30.2.1 8 (by decide)
  have w_51 : s_28.2.2 4 = μ.2.2 4 := f_30.2.2 4 (by decide)
  have w_52 : s_28.2.2 6 = μ.2.2 6 := f_30.2.2 6 (by decide)
  have e_53 : s_2.2.1 12 = s_28.2.1 1 := (w_19.trans rr0).trans w_45.symm
  have e_54 : s_2.2.1 13 = s_28.2.1 2 := (w_20.trans rr1).trans w_46.symm
  have e_55 : s_2.2.1 14 = s_28.2.1 3 := (w_21.trans rr2).trans w_47.symm
  have e_56 : s_2.2.1 18 = s_28.2.1 5 := (w_22.trans rr3).trans w_48.symm
  have e_57 : s_2.2.1 20 = s_28.2.1 7 := (w_23.trans rr4).trans w_49.symm
  have e_58 : s_2.2.1 21 = s_28.2.1 8 := (w_24.trans rr5).trans w_50.symm
  have e_59 : s_2.2.2 19 = s_28.2.2 6 := (w_26.trans rr6).trans w_52.symm
  have e_60 : fd_E (s_2.2.1 12) (s_2.2.1 13) (s_2.2.1 14) (s_2.2.2 15) (s_28.2.2 4) (s_2.1 1).toNatClampNeg := by
    have n1 : s_2.1 1 = σ.1 1 := Int32.toInt_inj.mp (by omega); rw [w_19, w_20, w_21, w_25, w_51, n1]; exact ex
  have e_61 : fd_Q (s_2.1 1) (s_2.1 5) (s_2.1 4) (s_2.2.1 20) (s_2.2.1 21) (s_2.2.1 18) := by
    have n1 : s_2.1 1 = σ.1 1 := Int32.toInt_inj.mp (by omega); have p5 : s_2.1 5 = σ.1 5 := Int32.toInt_inj.mp (by omega); have o4 : s_2.1 4 = σ.1 4 := Int32.toInt_inj.mp (by omega); rw [n1, p5, o4, w_23, w_24, w_22]; exact exq
  refine fd_e_lt (fun y_62 ey_62 => ?_)
  have t_63 := fd_la ey_62 (by omega) (by omega)
  have r_64 : fd_R s_2 s_28 := ⟨by omega, by omega, by omega, by omega, by omega, by omega, by omega, by omega, e_53, e_54, e_55, e_56, e_57, e_58, e_59, e_60, e_61⟩
  exact hK _ _ _ i_3 i_29 r_64 (by omega)
set_option maxHeartbeats 4000000 in
theorem u_c18 (N L : Nat) (hN : 1000 ≤ N) (hL : L ≤ 3072) (xs : Nat → Int32) (K : Int32 → fd_St → fd_St → Option Int32) (i : Int32) (σ μ : fd_St) (iC : fd_InvC σ) (iM : fd_InvM μ) (r : fd_R σ μ) (h0 : 0 ≤ i.toInt) (h1 : i.toInt + 6 ≤ (L : Int)) (hK : ∀ (j : Int32) (σ1 μ1 : fd_St), fd_InvC σ1 → fd_InvM μ1 → fd_R σ1 μ1 → j.toInt = i.toInt + 6 → K j σ1 μ1 = some 1) : f_law_c18 N L xs K i σ μ = some 1 := by
  have lit0 : (0 : Int32).toInt = 0 := by decide
  have lit6 : (6 : Int32).toInt = 6 := by decide
  obtain ⟨r0, r1, r2, r3, r4, r5, r6, r7, rr0, rr1, rr2, rr3, rr4, rr5, rr6, ex, exq⟩ := r
  have rg : (0 : Int) ≤ (σ.1 1).toInt ∧ (σ.1 1).toInt ≤ 200 := iC.1 1
  have rh : (0 : Int) ≤ (μ.1 4).toInt ∧ (μ.1 4).toInt ≤ 64 := iM.1 4
  have rp : (0 : Int) ≤ (σ.1 5).toInt ∧ (σ.1 5).toInt ≤ 40 := iC.1 5
  have ro : (0 : Int) ≤ (σ.1 4).toInt ∧ (σ.1 4).toInt ≤ 32 := iC.1 4
  unfold f_law_c18
  generalize xs (i + (1 : Int32)).toNatClampNeg = b1
  generalize xs (i + (2 : Int32)).toNatClampNeg = b2
  refine fd_e_gd (fd_gk h0 h1 hL (by decide)) ?_
  refine fd_e_gd (fd_gk h0 h1 hL (by decide)) ?_
  refine fd_e_bd (s_L_area_0_39 N hN _ _ _ iC) ?_
  rintro v_1 s_2 ⟨i_3, f_4, x_5⟩
  have t_6 : (s_2.1 1).toInt = (σ.1 1).toInt := congrArg Int32.toInt (f_4.1 1 (by decide))
  have t_7 : (s_2.1 2).toInt = (σ.1 2).toInt := congrArg Int32.toInt (f_4.1 2 (by decide))
  have t_8 : (s_2.1 3).toInt = (σ.1 3).toInt := congrArg Int32.toInt (f_4.1 3 (by decide))
  have t_9 : (s_2.1 4).toInt = (σ.1 4).toInt := congrArg Int32.toInt (f_4.1 4 (by decide))
  have t_10 : (s_2.1 16).toInt = (σ.1 16).toInt := congrArg Int32.toInt (f_4.1 16 (by decide))
  have t_11 : (s_2.1 17).toInt = (σ.1 17).toInt := congrArg Int32.toInt (f_4.1 17 (by decide))
  have t_12 : (s_2.1 18).toInt = (σ.1 18).toInt := congrArg Int32.toInt (f_4.1 18 (by decide))
  have t_13 : (s_2.1 5).toInt = (σ.1 5).toInt := congrArg Int32.toInt (f_4.1 5 (by decide))
  have w_14 : s_2.2.1 12 = σ.2.1 12 := f_4.2.1 12 (by decide)
  have w_15 : s_2.2.1 13 = σ.2.1 13 := f_4.2.1 13 (by decide)
  have w_16 : s_2.2.1 14 = σ.2.1 14 := f_4.2.1 14 (by decide)
  have w_17 : s_2.2.1 18 = σ.2.1 18 := f_4.2.1 18 (by decide)
  have w_18 : s_2.2.1 20 = σ.2.1 20 := f_4.2.1 20 (by decide)
  have w_19 : s_2.2.1 21 = σ.2.1 21 := f_4.2.1 21 (by decide)
  have w_20 : s_2.2.2 15 = σ.2.2 15 := f_4.2.2 15 (by decide)
  have w_21 : s_2.2.2 19 = σ.2.2 19 := f_4.2.2 19 (by decide)
  refine fd_e_gd (fd_gk h0 h1 hL (by decide)) ?_
  refine fd_e_gd (fd_gk h0 h1 hL (by decide)) ?_
  refine fd_e_bd (s_X11_area_0 N hN _ _ _ iM) ?_
  rintro v_22 s_23 ⟨i_24, f_25, x_26⟩
  have t_27 : (s_23.1 1).toInt = (μ.1 1).toInt := congrArg Int32.toInt (f_25.1 1 (by decide))
  have t_28 : (s_23.1 2).toInt = (μ.1 2).toInt := congrArg Int32.toInt (f_25.1 2 (by decide))
  have t_29 : (s_23.1 4).toInt = (μ.1 4).toInt := congrArg Int32.toInt (f_25.1 4 (by decide))
  have t_30 : (s_23.1 3).toInt = (μ.1 3).toInt := congrArg Int32.toInt (f_25.1 3 (by decide))
  have t_31 : (s_23.1 12).toInt = (μ.1 12).toInt := congrArg Int32.toInt (f_25.1 12 (by decide))
  have t_32 : (s_23.1 13).toInt = (μ.1 13).toInt := congrArg Int32.toInt (f_25.1 13 (by decide))
  have t_33 : (s_23.1 14).toInt = (μ.1 14).toInt := congrArg Int32.toInt (f_25.1 14 (by decide))
  have t_34 : (s_23.1 5).toInt = (μ.1 5).toInt := congrArg Int32.toInt (f_25.1 5 (by decide))
  have w_35 : s_23.2.1 1 = μ.2.1 1 := f_25.2.1 1 (by decide)
  have w_36 : s_23.2.1 2 = μ.2.1 2 := f_25.2.1 2 (by decide)
  have w_37 : s_23.2.1 3 = μ.2.1 3 := f_25.2.1 3 (by decide)
  have w_38 : s_23.2.1 5 = μ.2.1 5 := f_25.2.1 5 (by decide)
  have w_39 : s_23.2.1 7 = μ.2.1 7 := f_25.2.1 7 (by decide)
  have w_40 : s_23.2.1 8 = μ.2.1 8 := f_25.2.1 8 (by decide)
  have w_41 : s_23.2.2 4 = μ.2.2 4 := f_25.2.2 4 (by decide)
  have w_42 : s_23.2.2 6 = μ.2.2 6 := f_25.2.2 6 (by decide)
  have e_43 : s_2.2.1 12 = s_23.2.1 1 := (w_14.trans rr0).trans w_35.symm
  have e_44 : s_2.2.1 13 = s_23.2.1 2 := (w_15.trans rr1).trans w_36.symm
  have e_45 : s_2.2.1 14 = s_23.2.1 3 := (w_16.trans rr2).trans w_37.symm
  have e_46 : s_2.2.1 18 = s_23.2.1 5 := (w_17.trans rr3).trans w_38.symm
  have e_47 : s_2.2.1 20 = s_23.2.1 7 := (w_18.trans rr4).trans w_39.symm
  have e_48 : s_2.2.1 21 = s_23.2.1 8 := (w_19.trans rr5).trans w_40.symm
  have e_49 : s_2.2.2 19 = s_23.2.2 6 := (w_21.trans rr6).trans w_42.symm
  have e_50 : fd_E (s_2.2.1 12) (s_2.2.1 13) (s_2.2.1 14) (s_2.2.2 15) (s_23.2.2 4) (s_2.1 1).toNatClampNeg := by
    have n1 : s_2.1 1 = σ.1 1 := Int32.toInt_inj.mp (by omega); rw [w_14, w_15, w_16, w_20, w_41, n1]; exact ex
  have e_51 : fd_Q (s_2.1 1) (s_2.1 5) (s_2.1 4) (s_2.2.1 20) (s_2.2.1 21) (s_2.2.1 18) := by
    have n1 : s_2.1 1 = σ.1 1 := Int32.toInt_inj.mp (by omega); have p5 : s_2.1 5 = σ.1 5 := Int32.toInt_inj.mp (by omega); have o4 : s_2.1 4 = σ.1 4 := Int32.toInt_inj.mp (by omega); rw [n1, p5, o4, w_18, w_19, w_17]; exact exq
  refine fd_e_lt (fun y_52 ey_52 => ?_)
  have t_53 := fd_la ey_52 (by omega) (by omega)
  have r_54 : fd_R s_2 s_23 := ⟨by omega, by omega, by omega, by omega, by omega, by omega, by omega, by omega, e_43, e_44, e_45, e_46, e_47, e_48, e_49, e_50, e_51⟩
  exact hK _ _ _ i_3 i_24 r_54 (by omega)
set_option maxHeartbeats 4000000 in
theorem u_c19 (N L : Nat) (hN : 1000 ≤ N) (hL : L ≤ 3072) (xs : Nat → Int32) (K : Int32 → fd_St → fd_St → Option Int32) (i : Int32) (σ μ : fd_St) (iC : fd_InvC σ) (iM : fd_InvM μ) (r : fd_R σ μ) (h0 : 0 ≤ i.toInt) (h1 : i.toInt + 6 ≤ (L : Int)) (hK : ∀ (j : Int32) (σ1 μ1 : fd_St), fd_InvC σ1 → fd_InvM μ1 → fd_R σ1 μ1 → j.toInt = i.toInt + 6 → K j σ1 μ1 = some 1) : f_law_c19 N L xs K i σ μ = some 1 := by
  have lit0 : (0 : Int32).toInt = 0 := by decide
  have lit6 : (6 : Int32).toInt = 6 := by decide
  obtain ⟨r0, r1, r2, r3, r4, r5, r6, r7, rr0, rr1, rr2, rr3, rr4, rr5, rr6, ex, exq⟩ := r
  have rg : (0 : Int) ≤ (σ.1 1).toInt ∧ (σ.1 1).toInt ≤ 200 := iC.1 1
  have rh : (0 : Int) ≤ (μ.1 4).toInt ∧ (μ.1 4).toInt ≤ 64 := iM.1 4
  have rp : (0 : Int) ≤ (σ.1 5).toInt ∧ (σ.1 5).toInt ≤ 40 := iC.1 5
  have ro : (0 : Int) ≤ (σ.1 4).toInt ∧ (σ.1 4).toInt ≤ 32 := iC.1 4
  unfold f_law_c19
  generalize xs (i + (1 : Int32)).toNatClampNeg = b1
  generalize xs (i + (2 : Int32)).toNatClampNeg = b2
  generalize xs (i + (3 : Int32)).toNatClampNeg = b3
  refine fd_e_gd (fd_gk h0 h1 hL (by decide)) ?_
  refine fd_e_gd (fd_gk h0 h1 hL (by decide)) ?_
  refine fd_e_gd (fd_gk h0 h1 hL (by decide)) ?_
  refine fd_e_bd (s_L_common_0_39 N hN _ _ _ _ iC) ?_
  rintro v_1 s_2 ⟨i_3, f_4, x_5⟩
  have t_6 : (s_2.1 1).toInt = (σ.1 1).toInt := congrArg Int32.toInt (f_4.1 1 (by decide))
  have t_7 : (s_2.1 2).toInt = (σ.1 2).toInt := congrArg Int32.toInt (f_4.1 2 (by decide))
  have t_8 : (s_2.1 3).toInt = (σ.1 3).toInt := congrArg Int32.toInt (f_4.1 3 (by decide))
  have t_9 : (s_2.1 4).toInt = (σ.1 4).toInt := congrArg Int32.toInt (f_4.1 4 (by decide))
  have t_10 : (s_2.1 16).toInt = (σ.1 16).toInt := congrArg Int32.toInt (f_4.1 16 (by decide))
  have t_11 : (s_2.1 17).toInt = (σ.1 17).toInt := congrArg Int32.toInt (f_4.1 17 (by decide))
  have t_12 : (s_2.1 18).toInt = (σ.1 18).toInt := congrArg Int32.toInt (f_4.1 18 (by decide))
  have t_13 : (s_2.1 5).toInt = (σ.1 5).toInt := congrArg Int32.toInt (f_4.1 5 (by decide))
  have w_14 : s_2.2.1 12 = σ.2.1 12 := f_4.2.1 12 (by decide)
  have w_15 : s_2.2.1 13 = σ.2.1 13 := f_4.2.1 13 (by decide)
  have w_16 : s_2.2.1 14 = σ.2.1 14 := f_4.2.1 14 (by decide)
  have w_17 : s_2.2.1 18 = σ.2.1 18 := f_4.2.1 18 (by decide)
  have w_18 : s_2.2.1 20 = σ.2.1 20 := f_4.2.1 20 (by decide)
  have w_19 : s_2.2.1 21 = σ.2.1 21 := f_4.2.1 21 (by decide)
  have w_20 : s_2.2.2 15 = σ.2.2 15 := f_4.2.2 15 (by decide)
  have w_21 : s_2.2.2 19 = σ.2.2 19 := f_4.2.2 19 (by decide)
  refine fd_e_gd (fd_gk h0 h1 hL (by decide)) ?_
  refine fd_e_gd (fd_gk h0 h1 hL (by decide)) ?_
  refine fd_e_gd (fd_gk h0 h1 hL (by decide)) ?_
  refine fd_e_bd (s_X11_common_0 N hN _ _ _ _ iM) ?_
  rintro v_22 s_23 ⟨i_24, f_25, x_26⟩
  have t_27 : (s_23.1 1).toInt = (μ.1 1).toInt := congrArg Int32.toInt (f_25.1 1 (by decide))
  have t_28 : (s_23.1 2).toInt = (μ.1 2).toInt := congrArg Int32.toInt (f_25.1 2 (by decide))
  have t_29 : (s_23.1 4).toInt = (μ.1 4).toInt := congrArg Int32.toInt (f_25.1 4 (by decide))
  have t_30 : (s_23.1 3).toInt = (μ.1 3).toInt := congrArg Int32.toInt (f_25.1 3 (by decide))
  have t_31 : (s_23.1 12).toInt = (μ.1 12).toInt := congrArg Int32.toInt (f_25.1 12 (by decide))
  have t_32 : (s_23.1 13).toInt = (μ.1 13).toInt := congrArg Int32.toInt (f_25.1 13 (by decide))
  have t_33 : (s_23.1 14).toInt = (μ.1 14).toInt := congrArg Int32.toInt (f_25.1 14 (by decide))
  have t_34 : (s_23.1 5).toInt = (μ.1 5).toInt := congrArg Int32.toInt (f_25.1 5 (by decide))
  have w_35 : s_23.2.1 1 = μ.2.1 1 := f_25.2.1 1 (by decide)
  have w_36 : s_23.2.1 2 = μ.2.1 2 := f_25.2.1 2 (by decide)
  have w_37 : s_23.2.1 3 = μ.2.1 3 := f_25.2.1 3 (by decide)
  have w_38 : s_23.2.1 5 = μ.2.1 5 := f_25.2.1 5 (by decide)
  have w_39 : s_23.2.1 7 = μ.2.1 7 := f_25.2.1 7 (by decide)
  have w_40 : s_23.2.1 8 = μ.2.1 8 := f_25.2.1 8 (by decide)
  have w_41 : s_23.2.2 4 = μ.2.2 4 := f_25.2.2 4 (by decide)
  have w_42 : s_23.2.2 6 = μ.2.2 6 := f_25.2.2 6 (by decide)
  have e_43 : s_2.2.1 12 = s_23.2.1 1 := (w_14.trans rr0).trans w_35.symm
  have e_44 : s_2.2.1 13 = s_23.2.1 2 := (w_15.trans rr1).trans w_36.symm
  have e_45 : s_2.2.1 14 = s_23.2.1 3 := (w_16.trans rr2).trans w_37.symm
  have e_46 : s_2.2.1 18 = s_23.2.1 5 := (w_17.trans rr3).trans w_38.symm
  have e_47 : s_2.2.1 20 = s_23.2.1 7 := (w_18.trans rr4).trans w_39.symm
  have e_48 : s_2.2.1 21 = s_23.2.1 8 := (w_19.trans rr5).trans w_40.symm
  have e_49 : s_2.2.2 19 = s_23.2.2 6 := (w_21.trans rr6).trans w_42.symm
  have e_50 : fd_E (s_2.2.1 12) (s_2.2.1 13) (s_2.2.1 14) (s_2.2.2 15) (s_23.2.2 4) (s_2.1 1).toNatClampNeg := by
    have n1 : s_2.1 1 = σ.1 1 := Int32.toInt_inj.mp (by omega); rw [w_14, w_15, w_16, w_20, w_41, n1]; exact ex
  have e_51 : fd_Q (s_2.1 1) (s_2.1 5) (s_2.1 4) (s_2.2.1 20) (s_2.2.1 21) (s_2.2.1 18) := by
    have n1 : s_2.1 1 = σ.1 1 := Int32.toInt_inj.mp (by omega); have p5 : s_2.1 5 = σ.1 5 := Int32.toInt_inj.mp (by omega); have o4 : s_2.1 4 = σ.1 4 := Int32.toInt_inj.mp (by omega); rw [n1, p5, o4, w_18, w_19, w_17]; exact exq
  refine fd_e_lt (fun y_52 ey_52 => ?_)
  have t_53 := fd_la ey_52 (by omega) (by omega)
  have r_54 : fd_R s_2 s_23 := ⟨by omega, by omega, by omega, by omega, by omega, by omega, by omega, by omega, e_43, e_44, e_45, e_46, e_47, e_48, e_49, e_50, e_51⟩
  exact hK _ _ _ i_3 i_24 r_54 (by omega)
set_option maxHeartbeats 4000000 in
theorem u_c20 (N L : Nat) (hN : 1000 ≤ N) (hL : L ≤ 3072) (xs : Nat → Int32) (K : Int32 → fd_St → fd_St → Option Int32) (i : Int32) (σ μ : fd_St) (iC : fd_InvC σ) (iM : fd_InvM μ) (r : fd_R σ μ) (h0 : 0 ≤ i.toInt) (h1 : i.toInt + 6 ≤ (L : Int)) (hK : ∀ (j : Int32) (σ1 μ1 : fd_St), fd_InvC σ1 → fd_InvM μ1 → fd_R σ1 μ1 → j.toInt = i.toInt + 6 → K j σ1 μ1 = some 1) : f_law_c20 N L xs K i σ μ = some 1 := by
  have lit0 : (0 : Int32).toInt = 0 := by decide
  have lit6 : (6 : Int32).toInt = 6 := by decide
  obtain ⟨r0, r1, r2, r3, r4, r5, r6, r7, rr0, rr1, rr2, rr3, rr4, rr5, rr6, ex, exq⟩ := r
  have rg : (0 : Int) ≤ (σ.1 1).toInt ∧ (σ.1 1).toInt ≤ 200 := iC.1 1
  have rh : (0 : Int) ≤ (μ.1 4).toInt ∧ (μ.1 4).toInt ≤ 64 := iM.1 4
  have rp : (0 : Int) ≤ (σ.1 5).toInt ∧ (σ.1 5).toInt ≤ 40 := iC.1 5
  have ro : (0 : Int) ≤ (σ.1 4).toInt ∧ (σ.1 4).toInt ≤ 32 := iC.1 4
  unfold f_law_c20
  generalize xs (i + (1 : Int32)).toNatClampNeg = b1
  refine fd_e_gd (fd_gk h0 h1 hL (by decide)) ?_
  refine fd_e_bd (s_L_count_0_39 N hN _ _ iC) ?_
  rintro v_1 s_2 ⟨i_3, f_4, x_5⟩
  have t_6 : (s_2.1 1).toInt = (σ.1 1).toInt := congrArg Int32.toInt (f_4.1 1 (by decide))
  have t_7 : (s_2.1 2).toInt = (σ.1 2).toInt := congrArg Int32.toInt (f_4.1 2 (by decide))
  have t_8 : (s_2.1 3).toInt = (σ.1 3).toInt := congrArg Int32.toInt (f_4.1 3 (by decide))
  have t_9 : (s_2.1 4).toInt = (σ.1 4).toInt := congrArg Int32.toInt (f_4.1 4 (by decide))
  have t_10 : (s_2.1 16).toInt = (σ.1 16).toInt := congrArg Int32.toInt (f_4.1 16 (by decide))
  have t_11 : (s_2.1 17).toInt = (σ.1 17).toInt := congrArg Int32.toInt (f_4.1 17 (by decide))
  have t_12 : (s_2.1 18).toInt = (σ.1 18).toInt := congrArg Int32.toInt (f_4.1 18 (by decide))
  have t_13 : (s_2.1 5).toInt = (σ.1 5).toInt := congrArg Int32.toInt (f_4.1 5 (by decide))
  have w_14 : s_2.2.1 12 = σ.2.1 12 := f_4.2.1 12 (by decide)
  have w_15 : s_2.2.1 13 = σ.2.1 13 := f_4.2.1 13 (by decide)
  have w_16 : s_2.2.1 14 = σ.2.1 14 := f_4.2.1 14 (by decide)
  have w_17 : s_2.2.1 18 = σ.2.1 18 := f_4.2.1 18 (by decide)
  have w_18 : s_2.2.1 20 = σ.2.1 20 := f_4.2.1 20 (by decide)
  have w_19 : s_2.2.1 21 = σ.2.1 21 := f_4.2.1 21 (by decide)
  have w_20 : s_2.2.2 15 = σ.2.2 15 := f_4.2.2 15 (by decide)
  have w_21 : s_2.2.2 19 = σ.2.2 19 := f_4.2.2 19 (by decide)
  refine fd_e_gd (fd_gk h0 h1 hL (by decide)) ?_
  refine fd_e_bd (s_X11_count_0 N hN _ _ iM) ?_
  rintro v_22 s_23 ⟨i_24, f_25, x_26⟩
  have t_27 : (s_23.1 1).toInt = (μ.1 1).toInt := congrArg Int32.toInt (f_25.1 1 (by decide))
  have t_28 : (s_23.1 2).toInt = (μ.1 2).toInt := congrArg Int32.toInt (f_25.1 2 (by decide))
  have t_29 : (s_23.1 4).toInt = (μ.1 4).toInt := congrArg Int32.toInt (f_25.1 4 (by decide))
  have t_30 : (s_23.1 3).toInt = (μ.1 3).toInt := congrArg Int32.toInt (f_25.1 3 (by decide))
  have t_31 : (s_23.1 12).toInt = (μ.1 12).toInt := congrArg Int32.toInt (f_25.1 12 (by decide))
  have t_32 : (s_23.1 13).toInt = (μ.1 13).toInt := congrArg Int32.toInt (f_25.1 13 (by decide))
  have t_33 : (s_23.1 14).toInt = (μ.1 14).toInt := congrArg Int32.toInt (f_25.1 14 (by decide))
  have t_34 : (s_23.1 5).toInt = (μ.1 5).toInt := congrArg Int32.toInt (f_25.1 5 (by decide))
  have w_35 : s_23.2.1 1 = μ.2.1 1 := f_25.2.1 1 (by decide)
  have w_36 : s_23.2.1 2 = μ.2.1 2 := f_25.2.1 2 (by decide)
  have w_37 : s_23.2.1 3 = μ.2.1 3 := f_25.2.1 3 (by decide)
  have w_38 : s_23.2.1 5 = μ.2.1 5 := f_25.2.1 5 (by decide)
  have w_39 : s_23.2.1 7 = μ.2.1 7 := f_25.2.1 7 (by decide)
  have w_40 : s_23.2.1 8 = μ.2.1 8 := f_25.2.1 8 (by decide)
  have w_41 : s_23.2.2 4 = μ.2.2 4 := f_25.2.2 4 (by decide)
  have w_42 : s_23.2.2 6 = μ.2.2 6 := f_25.2.2 6 (by decide)
  have e_43 : s_2.2.1 12 = s_23.2.1 1 := (w_14.trans rr0).trans w_35.symm
  have e_44 : s_2.2.1 13 = s_23.2.1 2 := (w_15.trans rr1).trans w_36.symm
  have e_45 : s_2.2.1 14 = s_23.2.1 3 := (w_16.trans rr2).trans w_37.symm
  have e_46 : s_2.2.1 18 = s_23.2.1 5 := (w_17.trans rr3).trans w_38.symm
  have e_47 : s_2.2.1 20 = s_23.2.1 7 := (w_18.trans rr4).trans w_39.symm
  have e_48 : s_2.2.1 21 = s_23.2.1 8 := (w_19.trans rr5).trans w_40.symm
  have e_49 : s_2.2.2 19 = s_23.2.2 6 := (w_21.trans rr6).trans w_42.symm
  have e_50 : fd_E (s_2.2.1 12) (s_2.2.1 13) (s_2.2.1 14) (s_2.2.2 15) (s_23.2.2 4) (s_2.1 1).toNatClampNeg := by
    have n1 : s_2.1 1 = σ.1 1 := Int32.toInt_inj.mp (by omega); rw [w_14, w_15, w_16, w_20, w_41, n1]; exact ex
  have e_51 : fd_Q (s_2.1 1) (s_2.1 5) (s_2.1 4) (s_2.2.1 20) (s_2.2.1 21) (s_2.2.1 18) := by
    have n1 : s_2.1 1 = σ.1 1 := Int32.toInt_inj.mp (by omega); have p5 : s_2.1 5 = σ.1 5 := Int32.toInt_inj.mp (by omega); have o4 : s_2.1 4 = σ.1 4 := Int32.toInt_inj.mp (by omega); rw [n1, p5, o4, w_18, w_19, w_17]; exact exq
  refine fd_e_lt (fun y_52 ey_52 => ?_)
  have t_53 := fd_la ey_52 (by omega) (by omega)
  have r_54 : fd_R s_2 s_23 := ⟨by omega, by omega, by omega, by omega, by omega, by omega, by omega, by omega, e_43, e_44, e_45, e_46, e_47, e_48, e_49, e_50, e_51⟩
  exact hK _ _ _ i_3 i_24 r_54 (by omega)
set_option maxHeartbeats 4000000 in
theorem u_c21 (N L : Nat) (hN : 1000 ≤ N) (hL : L ≤ 3072) (xs : Nat → Int32) (K : Int32 → fd_St → fd_St → Option Int32) (i : Int32) (σ μ : fd_St) (iC : fd_InvC σ) (iM : fd_InvM μ) (r : fd_R σ μ) (h0 : 0 ≤ i.toInt) (h1 : i.toInt + 6 ≤ (L : Int)) (hK : ∀ (j : Int32) (σ1 μ1 : fd_St), fd_InvC σ1 → fd_InvM μ1 → fd_R σ1 μ1 → j.toInt = i.toInt + 6 → K j σ1 μ1 = some 1) : f_law_c21 N L xs K i σ μ = some 1 := by
  have lit0 : (0 : Int32).toInt = 0 := by decide
  have lit6 : (6 : Int32).toInt = 6 := by decide
  obtain ⟨r0, r1, r2, r3, r4, r5, r6, r7, rr0, rr1, rr2, rr3, rr4, rr5, rr6, ex, exq⟩ := r
  have rg : (0 : Int) ≤ (σ.1 1).toInt ∧ (σ.1 1).toInt ≤ 200 := iC.1 1
  have rh : (0 : Int) ≤ (μ.1 4).toInt ∧ (μ.1 4).toInt ≤ 64 := iM.1 4
  have rp : (0 : Int) ≤ (σ.1 5).toInt ∧ (σ.1 5).toInt ≤ 40 := iC.1 5
  have ro : (0 : Int) ≤ (σ.1 4).toInt ∧ (σ.1 4).toInt ≤ 32 := iC.1 4
  unfold f_law_c21
  refine fd_e_bd (s_X10_clear_0 N hN _ iC) ?_
  rintro v_1 s_2 ⟨i_3, f_4, x_5⟩
  have w_6 : s_2.2.1 12 = σ.2.1 12 := f_4.2.1 12 (by decide)
  have w_7 : s_2.2.1 13 = σ.2.1 13 := f_4.2.1 13 (by decide)
  have w_8 : s_2.2.1 14 = σ.2.1 14 := f_4.2.1 14 (by decide)
  have w_9 : s_2.2.1 18 = σ.2.1 18 := f_4.2.1 18 (by decide)
  have w_10 : s_2.2.1 20 = σ.2.1 20 := f_4.2.1 20 (by decide)
  have w_11 : s_2.2.1 21 = σ.2.1 21 := f_4.2.1 21 (by decide)
  have w_12 : s_2.2.2 15 = σ.2.2 15 := f_4.2.2 15 (by decide)
  have w_13 : s_2.2.2 19 = σ.2.2 19 := f_4.2.2 19 (by decide)
  refine fd_e_lt (fun y_14 ey_14 => ?_)
  have i_15 : fd_InvC y_14 := by subst ey_14; exact i_3
  have t_16 : (y_14.1 1).toInt = (s_2.1 1).toInt := by subst ey_14; rfl
  have t_17 : (y_14.1 2).toInt = (s_2.1 2).toInt := by subst ey_14; rfl
  have t_18 : (y_14.1 3).toInt = (s_2.1 3).toInt := by subst ey_14; rfl
  have t_19 : (y_14.1 4).toInt = (s_2.1 4).toInt := by subst ey_14; rfl
  have t_20 : (y_14.1 16).toInt = (s_2.1 16).toInt := by subst ey_14; rfl
  have t_21 : (y_14.1 17).toInt = (s_2.1 17).toInt := by subst ey_14; rfl
  have t_22 : (y_14.1 18).toInt = (s_2.1 18).toInt := by subst ey_14; rfl
  have t_23 : (y_14.1 5).toInt = (s_2.1 5).toInt := by subst ey_14; rfl
  have w_24 := fd_ymixA (d := 12) ey_14 w_6
  have w_25 := fd_ymixA (d := 13) ey_14 w_7
  have w_26 := fd_ymixA (d := 14) ey_14 w_8
  have w_27 := fd_ymixA (d := 18) ey_14 w_9
  have w_28 := fd_ymixA (d := 20) ey_14 w_10
  have w_29 := fd_ymixA (d := 21) ey_14 w_11
  have w_30 := fd_ymix (d := 15) ey_14 (by decide) w_12
  have w_31 := fd_ymix (d := 19) ey_14 (by decide) w_13
  refine fd_e_bd (s_X11_clear_0 N hN _ iM) ?_
  rintro v_32 s_33 ⟨i_34, f_35, x_36⟩
  have w_37 : s_33.2.1 1 = μ.2.1 1 := f_35.2.1 1 (by decide)
  have w_38 : s_33.2.1 2 = μ.2.1 2 := f_35.2.1 2 (by decide)
  have w_39 : s_33.2.1 3 = μ.2.1 3 := f_35.2.1 3 (by decide)
  have w_40 : s_33.2.1 5 = μ.2.1 5 := f_35.2.1 5 (by decide)
  have w_41 : s_33.2.1 7 = μ.2.1 7 := f_35.2.1 7 (by decide)
  have w_42 : s_33.2.1 8 = μ.2.1 8 := f_35.2.1 8 (by decide)
  have w_43 : s_33.2.2 4 = μ.2.2 4 := f_35.2.2 4 (by decide)
  have w_44 : s_33.2.2 6 = μ.2.2 6 := f_35.2.2 6 (by decide)
  have e_45 : y_14.2.1 12 = s_33.2.1 1 := (w_24.trans rr0).trans w_37.symm
  have e_46 : y_14.2.1 13 = s_33.2.1 2 := (w_25.trans rr1).trans w_38.symm
  have e_47 : y_14.2.1 14 = s_33.2.1 3 := (w_26.trans rr2).trans w_39.symm
  have e_48 : y_14.2.1 18 = s_33.2.1 5 := (w_27.trans rr3).trans w_40.symm
  have e_49 : y_14.2.1 20 = s_33.2.1 7 := (w_28.trans rr4).trans w_41.symm
  have e_50 : y_14.2.1 21 = s_33.2.1 8 := (w_29.trans rr5).trans w_42.symm
  have e_51 : y_14.2.2 19 = s_33.2.2 6 := (w_31.trans rr6).trans w_44.symm
  have e_52 : fd_E (y_14.2.1 12) (y_14.2.1 13) (y_14.2.1 14) (y_14.2.2 15) (s_33.2.2 4) (y_14.1 1).toNatClampNeg := by
    have n0 : (y_14.1 1).toNatClampNeg = 0 := by show (y_14.1 1).toInt.toNat = 0; omega
    rw [w_24, w_25, w_26, w_30, w_43, n0]; exact ⟨ex.1, fun i hi => absurd hi (Nat.not_lt_zero i), fun i hi => absurd hi (Nat.not_lt_zero i)⟩
  have e_53 : fd_Q (y_14.1 1) (y_14.1 5) (y_14.1 4) (y_14.2.1 20) (y_14.2.1 21) (y_14.2.1 18) := by
    have p0 : (y_14.1 5).toNatClampNeg = 0 := by show (y_14.1 5).toInt.toNat = 0; omega
    have o0 : (y_14.1 4).toNatClampNeg = 0 := by show (y_14.1 4).toInt.toNat = 0; omega
    exact ⟨fun i hi => by rw [p0] at hi; exact absurd hi (Nat.not_lt_zero i), fun i hi => by rw [o0] at hi; exact absurd hi (Nat.not_lt_zero i)⟩
  refine fd_e_lt (fun y_54 ey_54 => ?_)
  have t_55 := fd_la ey_54 (by omega) (by omega)
  have r_56 : fd_R y_14 s_33 := ⟨by omega, by omega, by omega, by omega, by omega, by omega, by omega, by omega, e_45, e_46, e_47, e_48, e_49, e_50, e_51, e_52, e_53⟩
  exact hK _ _ _ i_15 i_34 r_56 (by omega)
