set_option maxHeartbeats 4000000 in
theorem u_c8 (N L : Nat) (hN : 1000 ≤ N) (hL : L ≤ 3072) (xs : Nat → Int32) (K : Int32 → fd_St → fd_St → Option Int32) (i : Int32) (σ μ : fd_St) (iC : fd_InvC σ) (iM : fd_InvM μ) (r : fd_R σ μ) (h0 : 0 ≤ i.toInt) (h1 : i.toInt + 6 ≤ (L : Int)) (hK : ∀ (j : Int32) (σ1 μ1 : fd_St), fd_InvC σ1 → fd_InvM μ1 → fd_R σ1 μ1 → j.toInt = i.toInt + 6 → K j σ1 μ1 = some 1) : f_law_c8 N L xs K i σ μ = some 1 := by
  have lit0 : (0 : Int32).toInt = 0 := by decide
  have lit6 : (6 : Int32).toInt = 6 := by decide
  obtain ⟨r0, r1, r2, r3, r4, r5, r6, r7, rr0, rr1, rr2, rr3, rr4, rr5, ex, exq⟩ := r
  have rg : (0 : Int) ≤ (σ.1 1).toInt ∧ (σ.1 1).toInt ≤ 200 := iC.1 1
  have rh : (0 : Int) ≤ (μ.1 4).toInt ∧ (μ.1 4).toInt ≤ 64 := iM.1 4
  have rp : (0 : Int) ≤ (σ.1 5).toInt ∧ (σ.1 5).toInt ≤ 40 := iC.1 5
  have ro : (0 : Int) ≤ (σ.1 4).toInt ∧ (σ.1 4).toInt ≤ 32 := iC.1 4
  unfold f_law_c8
  generalize xs (i + (1 : Int32)).toNatClampNeg = b1
  generalize xs (i + (2 : Int32)).toNatClampNeg = b2
  generalize xs (i + (3 : Int32)).toNatClampNeg = b3
  refine fd_e_gd (fd_gk h0 h1 hL (by decide)) ?_
  refine fd_e_gd (fd_gk h0 h1 hL (by decide)) ?_
  refine fd_e_gd (fd_gk h0 h1 hL (by decide)) ?_
  refine fd_e_bd (s_L_shows_0_39 N hN _ _ _ _ iC) ?_
  rintro v_1 s_2 ⟨i_3, f_4, x_5, y_6⟩
  have t_7 : (s_2.1 1).toInt = (σ.1 1).toInt := congrArg Int32.toInt (f_4.1 1 (by decide))
  have t_8 : (s_2.1 2).toInt = (σ.1 2).toInt := congrArg Int32.toInt (f_4.1 2 (by decide))
  have t_9 : (s_2.1 3).toInt = (σ.1 3).toInt := congrArg Int32.toInt (f_4.1 3 (by decide))
  have t_10 : (s_2.1 4).toInt = (σ.1 4).toInt := congrArg Int32.toInt (f_4.1 4 (by decide))
  have t_11 : (s_2.1 16).toInt = (σ.1 16).toInt := congrArg Int32.toInt (f_4.1 16 (by decide))
  have t_12 : (s_2.1 17).toInt = (σ.1 17).toInt := congrArg Int32.toInt (f_4.1 17 (by decide))
  have t_13 : (s_2.1 18).toInt = (σ.1 18).toInt := congrArg Int32.toInt (f_4.1 18 (by decide))
  have t_14 : (s_2.1 5).toInt = (σ.1 5).toInt := congrArg Int32.toInt (f_4.1 5 (by decide))
  have w_15 : s_2.2.1 12 = σ.2.1 12 := f_4.2.1 12 (by decide)
  have w_16 : s_2.2.1 13 = σ.2.1 13 := f_4.2.1 13 (by decide)
  have w_17 : s_2.2.1 14 = σ.2.1 14 := f_4.2.1 14 (by decide)
  have w_18 : s_2.2.1 18 = σ.2.1 18 := f_4.2.1 18 (by decide)
  have w_19 : s_2.2.1 20 = σ.2.1 20 := f_4.2.1 20 (by decide)
  have w_20 : s_2.2.1 21 = σ.2.1 21 := f_4.2.1 21 (by decide)
  have w_21 : s_2.2.2 15 = σ.2.2 15 := f_4.2.2 15 (by decide)
  refine fd_e_gd (fd_gk h0 h1 hL (by decide)) ?_
  refine fd_e_gd (fd_gk h0 h1 hL (by decide)) ?_
  refine fd_e_gd (fd_gk h0 h1 hL (by decide)) ?_
  refine fd_e_bd (s_X11_shows_0 N hN _ _ _ _ iM) ?_
  rintro v_22 s_23 ⟨i_24, f_25, x_26, y_27⟩
  have t_28 : (s_23.1 1).toInt = (μ.1 1).toInt := congrArg Int32.toInt (f_25.1 1 (by decide))
  have t_29 : (s_23.1 2).toInt = (μ.1 2).toInt := congrArg Int32.toInt (f_25.1 2 (by decide))
  have t_30 : (s_23.1 4).toInt = (μ.1 4).toInt := congrArg Int32.toInt (f_25.1 4 (by decide))
  have t_31 : (s_23.1 3).toInt = (μ.1 3).toInt := congrArg Int32.toInt (f_25.1 3 (by decide))
  have t_32 : (s_23.1 12).toInt = (μ.1 12).toInt := congrArg Int32.toInt (f_25.1 12 (by decide))
  have t_33 : (s_23.1 13).toInt = (μ.1 13).toInt := congrArg Int32.toInt (f_25.1 13 (by decide))
  have t_34 : (s_23.1 14).toInt = (μ.1 14).toInt := congrArg Int32.toInt (f_25.1 14 (by decide))
  have t_35 : (s_23.1 5).toInt = (μ.1 5).toInt := congrArg Int32.toInt (f_25.1 5 (by decide))
  have w_36 : s_23.2.1 1 = μ.2.1 1 := f_25.2.1 1 (by decide)
  have w_37 : s_23.2.1 2 = μ.2.1 2 := f_25.2.1 2 (by decide)
  have w_38 : s_23.2.1 3 = μ.2.1 3 := f_25.2.1 3 (by decide)
  have w_39 : s_23.2.1 5 = μ.2.1 5 := f_25.2.1 5 (by decide)
  have w_40 : s_23.2.1 7 = μ.2.1 7 := f_25.2.1 7 (by decide)
  have w_41 : s_23.2.1 8 = μ.2.1 8 := f_25.2.1 8 (by decide)
  have w_42 : s_23.2.2 4 = μ.2.2 4 := f_25.2.2 4 (by decide)
  have e_43 : s_2.2.1 12 = s_23.2.1 1 := (w_15.trans rr0).trans w_36.symm
  have e_44 : s_2.2.1 13 = s_23.2.1 2 := (w_16.trans rr1).trans w_37.symm
  have e_45 : s_2.2.1 14 = s_23.2.1 3 := (w_17.trans rr2).trans w_38.symm
  have e_46 : s_2.2.1 18 = s_23.2.1 5 := (w_18.trans rr3).trans w_39.symm
  have e_47 : s_2.2.1 20 = s_23.2.1 7 := (w_19.trans rr4).trans w_40.symm
  have e_48 : s_2.2.1 21 = s_23.2.1 8 := (w_20.trans rr5).trans w_41.symm
  have e_49 : fd_E (s_2.2.1 12) (s_2.2.1 13) (s_2.2.1 14) (s_2.2.2 15) (s_23.2.2 4) (s_2.1 1).toNatClampNeg := by
    have n1 : s_2.1 1 = σ.1 1 := Int32.toInt_inj.mp (by omega); rw [w_15, w_16, w_17, w_21, w_42, n1]; exact ex
  have e_50 : fd_Q (s_2.1 1) (s_2.1 5) (s_2.1 4) (s_2.2.1 20) (s_2.2.1 21) (s_2.2.1 18) := by
    have n1 : s_2.1 1 = σ.1 1 := Int32.toInt_inj.mp (by omega); have p5 : s_2.1 5 = σ.1 5 := Int32.toInt_inj.mp (by omega); have o4 : s_2.1 4 = σ.1 4 := Int32.toInt_inj.mp (by omega); rw [n1, p5, o4, w_19, w_20, w_18]; exact exq
  refine fd_e_th ?_
  refine fd_e_itp (Int32.toInt_inj.mp (by omega)) ?_
  refine fd_e_ite (fun c_51 => ?_) (fun c_51 => ?_)
  ·
    have d_52 := congrArg Int32.toInt c_51
    refine fd_e_gd (by unfold vp_in; decide) ?_
    have en : σ.1 1 = μ.1 1 := Int32.toInt_inj.mp (by omega)
    have eM := fd_ctmk (a := σ.1 3) (b := μ.1 4) (by omega) (by omega) (by omega)
    obtain ⟨⟨u1, u2⟩, u3, u4⟩ := fd_qa_in (kd := b1) (wh := b2) exq (by omega) (by omega) (by omega)
    obtain ⟨w9, hw1, hw2⟩ := (fd_un y_6) (by omega) (μ.2.2 4) ex u1 u3 (by omega)
    have o1 := exq.2 b3.toNatClampNeg (fd_tl' (by omega) (by omega))
    have o2 := (fd_un y_27) (by omega) (σ.2.2 15) w9 (by rw [← rr0, ← rr1, ← rr2, ← en]; exact ex) (by rw [← rr4, ← en]; exact ⟨u1, u2⟩) (by rw [← rr5, ← en]; exact ⟨u3, u4⟩) (by rw [← rr0, ← rr1, ← rr2, ← rr4, ← rr5, ← en]; exact hw1) (by rw [← rr3, ← en]; exact fd_tl' o1.1 o1.2)
    rw [← rr3] at o2
    refine fd_e_itp (fd_lgL (hw2.trans (by rw [o2, eM]))) ?_
    refine fd_e_lt (fun y_53 ey_53 => ?_)
    have t_54 := fd_la ey_53 (by omega) (by omega)
    have r_55 : fd_R s_2 s_23 := ⟨by omega, by omega, by omega, by omega, by omega, by omega, by omega, by omega, e_43, e_44, e_45, e_46, e_47, e_48, e_49, e_50⟩
    exact hK _ _ _ i_3 i_24 r_55 (by omega)
  ·
    refine fd_e_lt (fun y_56 ey_56 => ?_)
    have t_57 := fd_la ey_56 (by omega) (by omega)
    have r_58 : fd_R s_2 s_23 := ⟨by omega, by omega, by omega, by omega, by omega, by omega, by omega, by omega, e_43, e_44, e_45, e_46, e_47, e_48, e_49, e_50⟩
    exact hK _ _ _ i_3 i_24 r_58 (by omega)
set_option maxHeartbeats 4000000 in
theorem u_c9 (N L : Nat) (hN : 1000 ≤ N) (hL : L ≤ 3072) (xs : Nat → Int32) (K : Int32 → fd_St → fd_St → Option Int32) (i : Int32) (σ μ : fd_St) (iC : fd_InvC σ) (iM : fd_InvM μ) (r : fd_R σ μ) (h0 : 0 ≤ i.toInt) (h1 : i.toInt + 6 ≤ (L : Int)) (hK : ∀ (j : Int32) (σ1 μ1 : fd_St), fd_InvC σ1 → fd_InvM μ1 → fd_R σ1 μ1 → j.toInt = i.toInt + 6 → K j σ1 μ1 = some 1) : f_law_c9 N L xs K i σ μ = some 1 := by
  have lit0 : (0 : Int32).toInt = 0 := by decide
  have lit6 : (6 : Int32).toInt = 6 := by decide
  obtain ⟨r0, r1, r2, r3, r4, r5, r6, r7, rr0, rr1, rr2, rr3, rr4, rr5, ex, exq⟩ := r
  have rg : (0 : Int) ≤ (σ.1 1).toInt ∧ (σ.1 1).toInt ≤ 200 := iC.1 1
  have rh : (0 : Int) ≤ (μ.1 4).toInt ∧ (μ.1 4).toInt ≤ 64 := iM.1 4
  have rp : (0 : Int) ≤ (σ.1 5).toInt ∧ (σ.1 5).toInt ≤ 40 := iC.1 5
  have ro : (0 : Int) ≤ (σ.1 4).toInt ∧ (σ.1 4).toInt ≤ 32 := iC.1 4
  unfold f_law_c9
  refine fd_e_bd (s_X10_run_0 N hN _ iC) ?_
  rintro v_1 s_2 ⟨i_3, f_4, x_5⟩
  have t_6 : (s_2.1 1).toInt = (σ.1 1).toInt := congrArg Int32.toInt (f_4.1 1 (by decide))
  have t_7 : (s_2.1 2).toInt = (σ.1 2).toInt := congrArg Int32.toInt (f_4.1 2 (by decide))
  have t_8 : (s_2.1 3).toInt = (σ.1 3).toInt := congrArg Int32.toInt (f_4.1 3 (by decide))
  have t_9 : (s_2.1 4).toInt = (σ.1 4).toInt := congrArg Int32.toInt (f_4.1 4 (by decide))
  have t_10 : (s_2.1 16).toInt = (σ.1 16).toInt := congrArg Int32.toInt (f_4.1 16 (by decide))
  have t_11 : (s_2.1 17).toInt = (σ.1 17).toInt := congrArg Int32.toInt (f_4.1 17 (by decide))
  have t_12 : (s_2.1 18).toInt = (σ.1 18).toInt := congrArg Int32.toInt (f_4.1 18 (by decide))
  have t_13 : (s_2.1 5).toInt = (σ.1 5).toInt := congrArg Int32.toInt (f_4.1 5 (by decide))
  have w_14 : s_2.2.1 12 = σ.2.1 12 := f_4.2.1 12 (by decide)
  have w_15 : s_2.2.1 13 = σ.2.1 13 := f_4.2.1 13 (by decide)
  have w_16 : s_2.2.1 14 = σ.2.1 14 := f_4.2.1 14 (by decide)
  have w_17 : s_2.2.1 18 = σ.2.1 18 := f_4.2.1 18 (by decide)
  have w_18 : s_2.2.1 20 = σ.2.1 20 := f_4.2.1 20 (by decide)
  have w_19 : s_2.2.1 21 = σ.2.1 21 := f_4.2.1 21 (by decide)
  have w_20 : s_2.2.2 15 = σ.2.2 15 := f_4.2.2 15 (by decide)
  refine fd_e_lt (fun y_21 ey_21 => ?_)
  have i_22 : fd_InvC y_21 := by subst ey_21; exact i_3
  have t_23 : (y_21.1 1).toInt = (s_2.1 1).toInt := by subst ey_21; rfl
  have t_24 : (y_21.1 2).toInt = (s_2.1 2).toInt := by subst ey_21; rfl
  have t_25 : (y_21.1 3).toInt = (s_2.1 3).toInt := by subst ey_21; rfl
  have t_26 : (y_21.1 4).toInt = (s_2.1 4).toInt := by subst ey_21; rfl
  have t_27 : (y_21.1 16).toInt = (s_2.1 16).toInt := by subst ey_21; rfl
  have t_28 : (y_21.1 17).toInt = (s_2.1 17).toInt := by subst ey_21; rfl
  have t_29 : (y_21.1 18).toInt = (s_2.1 18).toInt := by subst ey_21; rfl
  have t_30 : (y_21.1 5).toInt = (s_2.1 5).toInt := by subst ey_21; rfl
  have w_31 := fd_ymixA (d := 12) ey_21 w_14
  have w_32 := fd_ymixA (d := 13) ey_21 w_15
  have w_33 := fd_ymixA (d := 14) ey_21 w_16
  have w_34 := fd_ymixA (d := 18) ey_21 w_17
  have w_35 := fd_ymixA (d := 20) ey_21 w_18
  have w_36 := fd_ymixA (d := 21) ey_21 w_19
  have w_37 := fd_ymix (d := 15) ey_21 (by decide) w_20
  refine fd_e_bd (s_X11_run_0 N hN _ iM) ?_
  rintro v_38 s_39 ⟨i_40, f_41, x_42⟩
  have t_43 : (s_39.1 1).toInt = (μ.1 1).toInt := congrArg Int32.toInt (f_41.1 1 (by decide))
  have t_44 : (s_39.1 2).toInt = (μ.1 2).toInt := congrArg Int32.toInt (f_41.1 2 (by decide))
  have t_45 : (s_39.1 4).toInt = (μ.1 4).toInt := congrArg Int32.toInt (f_41.1 4 (by decide))
  have t_46 : (s_39.1 3).toInt = (μ.1 3).toInt := congrArg Int32.toInt (f_41.1 3 (by decide))
  have t_47 : (s_39.1 12).toInt = (μ.1 12).toInt := congrArg Int32.toInt (f_41.1 12 (by decide))
  have t_48 : (s_39.1 13).toInt = (μ.1 13).toInt := congrArg Int32.toInt (f_41.1 13 (by decide))
  have t_49 : (s_39.1 14).toInt = (μ.1 14).toInt := congrArg Int32.toInt (f_41.1 14 (by decide))
  have t_50 : (s_39.1 5).toInt = (μ.1 5).toInt := congrArg Int32.toInt (f_41.1 5 (by decide))
  have w_51 : s_39.2.1 1 = μ.2.1 1 := f_41.2.1 1 (by decide)
  have w_52 : s_39.2.1 2 = μ.2.1 2 := f_41.2.1 2 (by decide)
  have w_53 : s_39.2.1 3 = μ.2.1 3 := f_41.2.1 3 (by decide)
  have w_54 : s_39.2.1 5 = μ.2.1 5 := f_41.2.1 5 (by decide)
  have w_55 : s_39.2.1 7 = μ.2.1 7 := f_41.2.1 7 (by decide)
  have w_56 : s_39.2.1 8 = μ.2.1 8 := f_41.2.1 8 (by decide)
  have w_57 : s_39.2.2 4 = μ.2.2 4 := f_41.2.2 4 (by decide)
  have e_58 : y_21.2.1 12 = s_39.2.1 1 := (w_31.trans rr0).trans w_51.symm
  have e_59 : y_21.2.1 13 = s_39.2.1 2 := (w_32.trans rr1).trans w_52.symm
  have e_60 : y_21.2.1 14 = s_39.2.1 3 := (w_33.trans rr2).trans w_53.symm
  have e_61 : y_21.2.1 18 = s_39.2.1 5 := (w_34.trans rr3).trans w_54.symm
  have e_62 : y_21.2.1 20 = s_39.2.1 7 := (w_35.trans rr4).trans w_55.symm
  have e_63 : y_21.2.1 21 = s_39.2.1 8 := (w_36.trans rr5).trans w_56.symm
  have e_64 : fd_E (y_21.2.1 12) (y_21.2.1 13) (y_21.2.1 14) (y_21.2.2 15) (s_39.2.2 4) (y_21.1 1).toNatClampNeg := by
    have n1 : y_21.1 1 = σ.1 1 := Int32.toInt_inj.mp (by omega); rw [w_31, w_32, w_33, w_37, w_57, n1]; exact ex
  have e_65 : fd_Q (y_21.1 1) (y_21.1 5) (y_21.1 4) (y_21.2.1 20) (y_21.2.1 21) (y_21.2.1 18) := by
    have n1 : y_21.1 1 = σ.1 1 := Int32.toInt_inj.mp (by omega); have p5 : y_21.1 5 = σ.1 5 := Int32.toInt_inj.mp (by omega); have o4 : y_21.1 4 = σ.1 4 := Int32.toInt_inj.mp (by omega); rw [n1, p5, o4, w_35, w_36, w_34]; exact exq
  refine fd_e_lt (fun y_66 ey_66 => ?_)
  have t_67 := fd_la ey_66 (by omega) (by omega)
  have r_68 : fd_R y_21 s_39 := ⟨by omega, by omega, by omega, by omega, by omega, by omega, by omega, by omega, e_58, e_59, e_60, e_61, e_62, e_63, e_64, e_65⟩
  exact hK _ _ _ i_22 i_40 r_68 (by omega)
set_option maxHeartbeats 4000000 in
theorem u_c10 (N L : Nat) (hN : 1000 ≤ N) (hL : L ≤ 3072) (xs : Nat → Int32) (K : Int32 → fd_St → fd_St → Option Int32) (i : Int32) (σ μ : fd_St) (iC : fd_InvC σ) (iM : fd_InvM μ) (r : fd_R σ μ) (h0 : 0 ≤ i.toInt) (h1 : i.toInt + 6 ≤ (L : Int)) (hK : ∀ (j : Int32) (σ1 μ1 : fd_St), fd_InvC σ1 → fd_InvM μ1 → fd_R σ1 μ1 → j.toInt = i.toInt + 6 → K j σ1 μ1 = some 1) : f_law_c10 N L xs K i σ μ = some 1 := by
  have lit0 : (0 : Int32).toInt = 0 := by decide
  have lit6 : (6 : Int32).toInt = 6 := by decide
  obtain ⟨r0, r1, r2, r3, r4, r5, r6, r7, rr0, rr1, rr2, rr3, rr4, rr5, ex, exq⟩ := r
  have rg : (0 : Int) ≤ (σ.1 1).toInt ∧ (σ.1 1).toInt ≤ 200 := iC.1 1
  have rh : (0 : Int) ≤ (μ.1 4).toInt ∧ (μ.1 4).toInt ≤ 64 := iM.1 4
  have rp : (0 : Int) ≤ (σ.1 5).toInt ∧ (σ.1 5).toInt ≤ 40 := iC.1 5
  have ro : (0 : Int) ≤ (σ.1 4).toInt ∧ (σ.1 4).toInt ≤ 32 := iC.1 4
  unfold f_law_c10
  generalize xs (i + (1 : Int32)).toNatClampNeg = b1
  generalize xs (i + (2 : Int32)).toNatClampNeg = b2
  refine fd_e_gd (fd_gk h0 h1 hL (by decide)) ?_
  refine fd_e_gd (fd_gk h0 h1 hL (by decide)) ?_
  refine fd_e_bd (s_L_suspect_0_39 N hN _ _ _ iC) ?_
  rintro v_1 s_2 ⟨i_3, f_4, x_5⟩
  have t_6 : (s_2.1 1).toInt = (σ.1 1).toInt := congrArg Int32.toInt (f_4.1 1 (by decide))
  have t_7 : (s_2.1 2).toInt = (σ.1 2).toInt := congrArg Int32.toInt (f_4.1 2 (by decide))
  have t_8 : (s_2.1 3).toInt = (σ.1 3).toInt := congrArg Int32.toInt (f_4.1 3 (by decide))
  have t_9 : (s_2.1 4).toInt = (σ.1 4).toInt := congrArg Int32.toInt (f_4.1 4 (by decide))
  have t_10 : (s_2.1 16).toInt = (σ.1 16).toInt := congrArg Int32.toInt (f_4.1 16 (by decide))
  have t_11 : (s_2.1 17).toInt = (σ.1 17).toInt := congrArg Int32.toInt (f_4.1 17 (by decide))
  have t_12 : (s_2.1 18).toInt = (σ.1 18).toInt := congrArg Int32.toInt (f_4.1 18 (by decide))
  have t_13 : (s_2.1 5).toInt = (σ.1 5).toInt := congrArg Int32.toInt (f_4.1 5 (by decide))
  have w_14 : s_2.2.1 12 = σ.2.1 12 := f_4.2.1 12 (by decide)
  have w_15 : s_2.2.1 13 = σ.2.1 13 := f_4.2.1 13 (by decide)
  have w_16 : s_2.2.1 14 = σ.2.1 14 := f_4.2.1 14 (by decide)
  have w_17 : s_2.2.1 18 = σ.2.1 18 := f_4.2.1 18 (by decide)
  have w_18 : s_2.2.1 20 = σ.2.1 20 := f_4.2.1 20 (by decide)
  have w_19 : s_2.2.1 21 = σ.2.1 21 := f_4.2.1 21 (by decide)
  have w_20 : s_2.2.2 15 = σ.2.2 15 := f_4.2.2 15 (by decide)
  refine fd_e_gd (fd_gk h0 h1 hL (by decide)) ?_
  refine fd_e_gd (fd_gk h0 h1 hL (by decide)) ?_
  refine fd_e_bd (s_X11_suspect_0 N hN _ _ _ iM) ?_
  rintro v_21 s_22 ⟨i_23, f_24, x_25⟩
  have t_26 : (s_22.1 1).toInt = (μ.1 1).toInt := congrArg Int32.toInt (f_24.1 1 (by decide))
  have t_27 : (s_22.1 2).toInt = (μ.1 2).toInt := congrArg Int32.toInt (f_24.1 2 (by decide))
  have t_28 : (s_22.1 4).toInt = (μ.1 4).toInt := congrArg Int32.toInt (f_24.1 4 (by decide))
  have t_29 : (s_22.1 3).toInt = (μ.1 3).toInt := congrArg Int32.toInt (f_24.1 3 (by decide))
  have t_30 : (s_22.1 12).toInt = (μ.1 12).toInt := congrArg Int32.toInt (f_24.1 12 (by decide))
  have t_31 : (s_22.1 13).toInt = (μ.1 13).toInt := congrArg Int32.toInt (f_24.1 13 (by decide))
  have t_32 : (s_22.1 14).toInt = (μ.1 14).toInt := congrArg Int32.toInt (f_24.1 14 (by decide))
  have t_33 : (s_22.1 5).toInt = (μ.1 5).toInt := congrArg Int32.toInt (f_24.1 5 (by decide))
  have w_34 : s_22.2.1 1 = μ.2.1 1 := f_24.2.1 1 (by decide)
  have w_35 : s_22.2.1 2 = μ.2.1 2 := f_24.2.1 2 (by decide)
  have w_36 : s_22.2.1 3 = μ.2.1 3 := f_24.2.1 3 (by decide)
  have w_37 : s_22.2.1 5 = μ.2.1 5 := f_24.2.1 5 (by decide)
  have w_38 : s_22.2.1 7 = μ.2.1 7 := f_24.2.1 7 (by decide)
  have w_39 : s_22.2.1 8 = μ.2.1 8 := f_24.2.1 8 (by decide)
  have w_40 : s_22.2.2 4 = μ.2.2 4 := f_24.2.2 4 (by decide)
  have e_41 : s_2.2.1 12 = s_22.2.1 1 := (w_14.trans rr0).trans w_34.symm
  have e_42 : s_2.2.1 13 = s_22.2.1 2 := (w_15.trans rr1).trans w_35.symm
  have e_43 : s_2.2.1 14 = s_22.2.1 3 := (w_16.trans rr2).trans w_36.symm
  have e_44 : s_2.2.1 18 = s_22.2.1 5 := (w_17.trans rr3).trans w_37.symm
  have e_45 : s_2.2.1 20 = s_22.2.1 7 := (w_18.trans rr4).trans w_38.symm
  have e_46 : s_2.2.1 21 = s_22.2.1 8 := (w_19.trans rr5).trans w_39.symm
  have e_47 : fd_E (s_2.2.1 12) (s_2.2.1 13) (s_2.2.1 14) (s_2.2.2 15) (s_22.2.2 4) (s_2.1 1).toNatClampNeg := by
    have n1 : s_2.1 1 = σ.1 1 := Int32.toInt_inj.mp (by omega); rw [w_14, w_15, w_16, w_20, w_40, n1]; exact ex
  have e_48 : fd_Q (s_2.1 1) (s_2.1 5) (s_2.1 4) (s_2.2.1 20) (s_2.2.1 21) (s_2.2.1 18) := by
    have n1 : s_2.1 1 = σ.1 1 := Int32.toInt_inj.mp (by omega); have p5 : s_2.1 5 = σ.1 5 := Int32.toInt_inj.mp (by omega); have o4 : s_2.1 4 = σ.1 4 := Int32.toInt_inj.mp (by omega); rw [n1, p5, o4, w_18, w_19, w_17]; exact exq
  refine fd_e_lt (fun y_49 ey_49 => ?_)
  have t_50 := fd_la ey_49 (by omega) (by omega)
  have r_51 : fd_R s_2 s_22 := ⟨by omega, by omega, by omega, by omega, by omega, by omega, by omega, by omega, e_41, e_42, e_43, e_44, e_45, e_46, e_47, e_48⟩
  exact hK _ _ _ i_3 i_23 r_51 (by omega)
set_option maxHeartbeats 4000000 in
theorem u_c11 (N L : Nat) (hN : 1000 ≤ N) (hL : L ≤ 3072) (xs : Nat → Int32) (K : Int32 → fd_St → fd_St → Option Int32) (i : Int32) (σ μ : fd_St) (iC : fd_InvC σ) (iM : fd_InvM μ) (r : fd_R σ μ) (h0 : 0 ≤ i.toInt) (h1 : i.toInt + 6 ≤ (L : Int)) (hK : ∀ (j : Int32) (σ1 μ1 : fd_St), fd_InvC σ1 → fd_InvM μ1 → fd_R σ1 μ1 → j.toInt = i.toInt + 6 → K j σ1 μ1 = some 1) : f_law_c11 N L xs K i σ μ = some 1 := by
  have lit0 : (0 : Int32).toInt = 0 := by decide
  have lit6 : (6 : Int32).toInt = 6 := by decide
  obtain ⟨r0, r1, r2, r3, r4, r5, r6, r7, rr0, rr1, rr2, rr3, rr4, rr5, ex, exq⟩ := r
  have rg : (0 : Int) ≤ (σ.1 1).toInt ∧ (σ.1 1).toInt ≤ 200 := iC.1 1
  have rh : (0 : Int) ≤ (μ.1 4).toInt ∧ (μ.1 4).toInt ≤ 64 := iM.1 4
  have rp : (0 : Int) ≤ (σ.1 5).toInt ∧ (σ.1 5).toInt ≤ 40 := iC.1 5
  have ro : (0 : Int) ≤ (σ.1 4).toInt ∧ (σ.1 4).toInt ≤ 32 := iC.1 4
  unfold f_law_c11
  generalize xs (i + (1 : Int32)).toNatClampNeg = b1
  refine fd_e_gd (fd_gk h0 h1 hL (by decide)) ?_
  refine fd_e_bd (s_L_pair_0_39 N hN _ _ iC) ?_
  rintro v_1 s_2 ⟨i_3, f_4, x_5⟩
  have t_6 : (s_2.1 1).toInt = (σ.1 1).toInt := congrArg Int32.toInt (f_4.1 1 (by decide))
  have t_7 : (s_2.1 2).toInt = (σ.1 2).toInt := congrArg Int32.toInt (f_4.1 2 (by decide))
  have t_8 : (s_2.1 3).toInt = (σ.1 3).toInt := congrArg Int32.toInt (f_4.1 3 (by decide))
  have t_9 : (s_2.1 4).toInt = (σ.1 4).toInt := congrArg Int32.toInt (f_4.1 4 (by decide))
  have t_10 : (s_2.1 16).toInt = (σ.1 16).toInt := congrArg Int32.toInt (f_4.1 16 (by decide))
  have t_11 : (s_2.1 17).toInt = (σ.1 17).toInt := congrArg Int32.toInt (f_4.1 17 (by decide))
  have t_12 : (s_2.1 18).toInt = (σ.1 18).toInt := congrArg Int32.toInt (f_4.1 18 (by decide))
  have t_13 : (s_2.1 5).toInt = (σ.1 5).toInt := congrArg Int32.toInt (f_4.1 5 (by decide))
  have w_14 : s_2.2.1 12 = σ.2.1 12 := f_4.2.1 12 (by decide)
  have w_15 : s_2.2.1 13 = σ.2.1 13 := f_4.2.1 13 (by decide)
  have w_16 : s_2.2.1 14 = σ.2.1 14 := f_4.2.1 14 (by decide)
  have w_17 : s_2.2.1 18 = σ.2.1 18 := f_4.2.1 18 (by decide)
  have w_18 : s_2.2.1 20 = σ.2.1 20 := f_4.2.1 20 (by decide)
  have w_19 : s_2.2.1 21 = σ.2.1 21 := f_4.2.1 21 (by decide)
  have w_20 : s_2.2.2 15 = σ.2.2 15 := f_4.2.2 15 (by decide)
  refine fd_e_gd (fd_gk h0 h1 hL (by decide)) ?_
  refine fd_e_bd (s_X11_pair_0 N hN _ _ iM) ?_
  rintro v_21 s_22 ⟨i_23, f_24, x_25⟩
  have t_26 : (s_22.1 1).toInt = (μ.1 1).toInt := congrArg Int32.toInt (f_24.1 1 (by decide))
  have t_27 : (s_22.1 2).toInt = (μ.1 2).toInt := congrArg Int32.toInt (f_24.1 2 (by decide))
  have t_28 : (s_22.1 4).toInt = (μ.1 4).toInt := congrArg Int32.toInt (f_24.1 4 (by decide))
  have t_29 : (s_22.1 3).toInt = (μ.1 3).toInt := congrArg Int32.toInt (f_24.1 3 (by decide))
  have t_30 : (s_22.1 12).toInt = (μ.1 12).toInt := congrArg Int32.toInt (f_24.1 12 (by decide))
  have t_31 : (s_22.1 13).toInt = (μ.1 13).toInt := congrArg Int32.toInt (f_24.1 13 (by decide))
  have t_32 : (s_22.1 14).toInt = (μ.1 14).toInt := congrArg Int32.toInt (f_24.1 14 (by decide))
  have t_33 : (s_22.1 5).toInt = (μ.1 5).toInt := congrArg Int32.toInt (f_24.1 5 (by decide))
  have w_34 : s_22.2.1 1 = μ.2.1 1 := f_24.2.1 1 (by decide)
  have w_35 : s_22.2.1 2 = μ.2.1 2 := f_24.2.1 2 (by decide)
  have w_36 : s_22.2.1 3 = μ.2.1 3 := f_24.2.1 3 (by decide)
  have w_37 : s_22.2.1 5 = μ.2.1 5 := f_24.2.1 5 (by decide)
  have w_38 : s_22.2.1 7 = μ.2.1 7 := f_24.2.1 7 (by decide)
  have w_39 : s_22.2.1 8 = μ.2.1 8 := f_24.2.1 8 (by decide)
  have w_40 : s_22.2.2 4 = μ.2.2 4 := f_24.2.2 4 (by decide)
  have e_41 : s_2.2.1 12 = s_22.2.1 1 := (w_14.trans rr0).trans w_34.symm
  have e_42 : s_2.2.1 13 = s_22.2.1 2 := (w_15.trans rr1).trans w_35.symm
  have e_43 : s_2.2.1 14 = s_22.2.1 3 := (w_16.trans rr2).trans w_36.symm
  have e_44 : s_2.2.1 18 = s_22.2.1 5 := (w_17.trans rr3).trans w_37.symm
  have e_45 : s_2.2.1 20 = s_22.2.1 7 := (w_18.trans rr4).trans w_38.symm
  have e_46 : s_2.2.1 21 = s_22.2.1 8 := (w_19.trans rr5).trans w_39.symm
  have e_47 : fd_E (s_2.2.1 12) (s_2.2.1 13) (s_2.2.1 14) (s_2.2.2 15) (s_22.2.2 4) (s_2.1 1).toNatClampNeg := by
    have n1 : s_2.1 1 = σ.1 1 := Int32.toInt_inj.mp (by omega); rw [w_14, w_15, w_16, w_20, w_40, n1]; exact ex
  have e_48 : fd_Q (s_2.1 1) (s_2.1 5) (s_2.1 4) (s_2.2.1 20) (s_2.2.1 21) (s_2.2.1 18) := by
    have n1 : s_2.1 1 = σ.1 1 := Int32.toInt_inj.mp (by omega); have p5 : s_2.1 5 = σ.1 5 := Int32.toInt_inj.mp (by omega); have o4 : s_2.1 4 = σ.1 4 := Int32.toInt_inj.mp (by omega); rw [n1, p5, o4, w_18, w_19, w_17]; exact exq
  refine fd_e_lt (fun y_49 ey_49 => ?_)
  have t_50 := fd_la ey_49 (by omega) (by omega)
  have r_51 : fd_R s_2 s_22 := ⟨by omega, by omega, by omega, by omega, by omega, by omega, by omega, by omega, e_41, e_42, e_43, e_44, e_45, e_46, e_47, e_48⟩
  exact hK _ _ _ i_3 i_23 r_51 (by omega)
set_option maxHeartbeats 4000000 in
theorem u_c12 (N L : Nat) (hN : 1000 ≤ N) (hL : L ≤ 3072) (xs : Nat → Int32) (K : Int32 → fd_St → fd_St → Option Int32) (i : Int32) (σ μ : fd_St) (iC : fd_InvC σ) (iM : fd_InvM μ) (r : fd_R σ μ) (h0 : 0 ≤ i.toInt) (h1 : i.toInt + 6 ≤ (L : Int)) (hK : ∀ (j : Int32) (σ1 μ1 : fd_St), fd_InvC σ1 → fd_InvM μ1 → fd_R σ1 μ1 → j.toInt = i.toInt + 6 → K j σ1 μ1 = some 1) : f_law_c12 N L xs K i σ μ = some 1 := by
  have lit0 : (0 : Int32).toInt = 0 := by decide
  have lit6 : (6 : Int32).toInt = 6 := by decide
  obtain ⟨r0, r1, r2, r3, r4, r5, r6, r7, rr0, rr1, rr2, rr3, rr4, rr5, ex, exq⟩ := r
  have rg : (0 : Int) ≤ (σ.1 1).toInt ∧ (σ.1 1).toInt ≤ 200 := iC.1 1
  have rh : (0 : Int) ≤ (μ.1 4).toInt ∧ (μ.1 4).toInt ≤ 64 := iM.1 4
  have rp : (0 : Int) ≤ (σ.1 5).toInt ∧ (σ.1 5).toInt ≤ 40 := iC.1 5
  have ro : (0 : Int) ≤ (σ.1 4).toInt ∧ (σ.1 4).toInt ≤ 32 := iC.1 4
  unfold f_law_c12
  refine fd_e_bd (s_L_join_0_39 N hN _ iC) ?_
  rintro v_1 s_2 ⟨i_3, f_4, x_5⟩
  have t_6 : (s_2.1 1).toInt = (σ.1 1).toInt := congrArg Int32.toInt (f_4.1 1 (by decide))
  have t_7 : (s_2.1 2).toInt = (σ.1 2).toInt := congrArg Int32.toInt (f_4.1 2 (by decide))
  have t_8 : (s_2.1 3).toInt = (σ.1 3).toInt := congrArg Int32.toInt (f_4.1 3 (by decide))
  have t_9 : (s_2.1 4).toInt = (σ.1 4).toInt := congrArg Int32.toInt (f_4.1 4 (by decide))
  have t_10 : (s_2.1 16).toInt = (σ.1 16).toInt := congrArg Int32.toInt (f_4.1 16 (by decide))
  have t_11 : (s_2.1 17).toInt = (σ.1 17).toInt := congrArg Int32.toInt (f_4.1 17 (by decide))
  have t_12 : (s_2.1 18).toInt = (σ.1 18).toInt := congrArg Int32.toInt (f_4.1 18 (by decide))
  have t_13 : (s_2.1 5).toInt = (σ.1 5).toInt := congrArg Int32.toInt (f_4.1 5 (by decide))
  have w_14 : s_2.2.1 12 = σ.2.1 12 := f_4.2.1 12 (by decide)
  have w_15 : s_2.2.1 13 = σ.2.1 13 := f_4.2.1 13 (by decide)
  have w_16 : s_2.2.1 14 = σ.2.1 14 := f_4.2.1 14 (by decide)
  have w_17 : s_2.2.1 18 = σ.2.1 18 := f_4.2.1 18 (by decide)
  have w_18 : s_2.2.1 20 = σ.2.1 20 := f_4.2.1 20 (by decide)
  have w_19 : s_2.2.1 21 = σ.2.1 21 := f_4.2.1 21 (by decide)
  have w_20 : s_2.2.2 15 = σ.2.2 15 := f_4.2.2 15 (by decide)
  refine fd_e_bd (s_X11_join_0 N hN _ iM) ?_
  rintro v_21 s_22 ⟨i_23, f_24, x_25⟩
  have t_26 : (s_22.1 1).toInt = (μ.1 1).toInt := congrArg Int32.toInt (f_24.1 1 (by decide))
  have t_27 : (s_22.1 2).toInt = (μ.1 2).toInt := congrArg Int32.toInt (f_24.1 2 (by decide))
  have t_28 : (s_22.1 4).toInt = (μ.1 4).toInt := congrArg Int32.toInt (f_24.1 4 (by decide))
  have t_29 : (s_22.1 3).toInt = (μ.1 3).toInt := congrArg Int32.toInt (f_24.1 3 (by decide))
  have t_30 : (s_22.1 12).toInt = (μ.1 12).toInt := congrArg Int32.toInt (f_24.1 12 (by decide))
  have t_31 : (s_22.1 13).toInt = (μ.1 13).toInt := congrArg Int32.toInt (f_24.1 13 (by decide))
  have t_32 : (s_22.1 14).toInt = (μ.1 14).toInt := congrArg Int32.toInt (f_24.1 14 (by decide))
  have t_33 : (s_22.1 5).toInt = (μ.1 5).toInt := congrArg Int32.toInt (f_24.1 5 (by decide))
  have w_34 : s_22.2.1 1 = μ.2.1 1 := f_24.2.1 1 (by decide)
  have w_35 : s_22.2.1 2 = μ.2.1 2 := f_24.2.1 2 (by decide)
  have w_36 : s_22.2.1 3 = μ.2.1 3 := f_24.2.1 3 (by decide)
  have w_37 : s_22.2.1 5 = μ.2.1 5 := f_24.2.1 5 (by decide)
  have w_38 : s_22.2.1 7 = μ.2.1 7 := f_24.2.1 7 (by decide)
  have w_39 : s_22.2.1 8 = μ.2.1 8 := f_24.2.1 8 (by decide)
  have w_40 : s_22.2.2 4 = μ.2.2 4 := f_24.2.2 4 (by decide)
  have e_41 : s_2.2.1 12 = s_22.2.1 1 := (w_14.trans rr0).trans w_34.symm
  have e_42 : s_2.2.1 13 = s_22.2.1 2 := (w_15.trans rr1).trans w_35.symm
  have e_43 : s_2.2.1 14 = s_22.2.1 3 := (w_16.trans rr2).trans w_36.symm
  have e_44 : s_2.2.1 18 = s_22.2.1 5 := (w_17.trans rr3).trans w_37.symm
  have e_45 : s_2.2.1 20 = s_22.2.1 7 := (w_18.trans rr4).trans w_38.symm
  have e_46 : s_2.2.1 21 = s_22.2.1 8 := (w_19.trans rr5).trans w_39.symm
  have e_47 : fd_E (s_2.2.1 12) (s_2.2.1 13) (s_2.2.1 14) (s_2.2.2 15) (s_22.2.2 4) (s_2.1 1).toNatClampNeg := by
    have n1 : s_2.1 1 = σ.1 1 := Int32.toInt_inj.mp (by omega); rw [w_14, w_15, w_16, w_20, w_40, n1]; exact ex
  have e_48 : fd_Q (s_2.1 1) (s_2.1 5) (s_2.1 4) (s_2.2.1 20) (s_2.2.1 21) (s_2.2.1 18) := by
    have n1 : s_2.1 1 = σ.1 1 := Int32.toInt_inj.mp (by omega); have p5 : s_2.1 5 = σ.1 5 := Int32.toInt_inj.mp (by omega); have o4 : s_2.1 4 = σ.1 4 := Int32.toInt_inj.mp (by omega); rw [n1, p5, o4, w_18, w_19, w_17]; exact exq
  refine fd_e_lt (fun y_49 ey_49 => ?_)
  have t_50 := fd_la ey_49 (by omega) (by omega)
  have r_51 : fd_R s_2 s_22 := ⟨by omega, by omega, by omega, by omega, by omega, by omega, by omega, by omega, e_41, e_42, e_43, e_44, e_45, e_46, e_47, e_48⟩
  exact hK _ _ _ i_3 i_23 r_51 (by omega)
set_option maxHeartbeats 4000000 in
theorem u_c13 (N L : Nat) (hN : 1000 ≤ N) (hL : L ≤ 3072) (xs : Nat → Int32) (K : Int32 → fd_St → fd_St → Option Int32) (i : Int32) (σ μ : fd_St) (iC : fd_InvC σ) (iM : fd_InvM μ) (r : fd_R σ μ) (h0 : 0 ≤ i.toInt) (h1 : i.toInt + 6 ≤ (L : Int)) (hK : ∀ (j : Int32) (σ1 μ1 : fd_St), fd_InvC σ1 → fd_InvM μ1 → fd_R σ1 μ1 → j.toInt = i.toInt + 6 → K j σ1 μ1 = some 1) : f_law_c13 N L xs K i σ μ = some 1 := by
  have lit0 : (0 : Int32).toInt = 0 := by decide
  have lit6 : (6 : Int32).toInt = 6 := by decide
  obtain ⟨r0, r1, r2, r3, r4, r5, r6, r7, rr0, rr1, rr2, rr3, rr4, rr5, ex, exq⟩ := r
  have rg : (0 : Int) ≤ (σ.1 1).toInt ∧ (σ.1 1).toInt ≤ 200 := iC.1 1
  have rh : (0 : Int) ≤ (μ.1 4).toInt ∧ (μ.1 4).toInt ≤ 64 := iM.1 4
  have rp : (0 : Int) ≤ (σ.1 5).toInt ∧ (σ.1 5).toInt ≤ 40 := iC.1 5
  have ro : (0 : Int) ≤ (σ.1 4).toInt ∧ (σ.1 4).toInt ≤ 32 := iC.1 4
  unfold f_law_c13
  generalize xs (i + (1 : Int32)).toNatClampNeg = b1
  refine fd_e_gd (fd_gk h0 h1 hL (by decide)) ?_
  refine fd_e_bd (s_L_share_0_39 N hN _ _ iC) ?_
  rintro v_1 s_2 ⟨i_3, f_4, x_5⟩
  have t_6 : (s_2.1 1).toInt = (σ.1 1).toInt := congrArg Int32.toInt (f_4.1 1 (by decide))
  have t_7 : (s_2.1 2).toInt = (σ.1 2).toInt := congrArg Int32.toInt (f_4.1 2 (by decide))
  have t_8 : (s_2.1 3).toInt = (σ.1 3).toInt := congrArg Int32.toInt (f_4.1 3 (by decide))
  have t_9 : (s_2.1 4).toInt = (σ.1 4).toInt := congrArg Int32.toInt (f_4.1 4 (by decide))
  have t_10 : (s_2.1 16).toInt = (σ.1 16).toInt := congrArg Int32.toInt (f_4.1 16 (by decide))
  have t_11 : (s_2.1 17).toInt = (σ.1 17).toInt := congrArg Int32.toInt (f_4.1 17 (by decide))
  have t_12 : (s_2.1 18).toInt = (σ.1 18).toInt := congrArg Int32.toInt (f_4.1 18 (by decide))
  have t_13 : (s_2.1 5).toInt = (σ.1 5).toInt := congrArg Int32.toInt (f_4.1 5 (by decide))
  have w_14 : s_2.2.1 12 = σ.2.1 12 := f_4.2.1 12 (by decide)
  have w_15 : s_2.2.1 13 = σ.2.1 13 := f_4.2.1 13 (by decide)
  have w_16 : s_2.2.1 14 = σ.2.1 14 := f_4.2.1 14 (by decide)
  have w_17 : s_2.2.1 18 = σ.2.1 18 := f_4.2.1 18 (by decide)
  have w_18 : s_2.2.1 20 = σ.2.1 20 := f_4.2.1 20 (by decide)
  have w_19 : s_2.2.1 21 = σ.2.1 21 := f_4.2.1 21 (by decide)
  have w_20 : s_2.2.2 15 = σ.2.2 15 := f_4.2.2 15 (by decide)
  refine fd_e_gd (fd_gk h0 h1 hL (by decide)) ?_
  refine fd_e_bd (s_X11_share_0 N hN _ _ iM) ?_
  rintro v_21 s_22 ⟨i_23, f_24, x_25⟩
  have t_26 : (s_22.1 1).toInt = (μ.1 1).toInt := congrArg Int32.toInt (f_24.1 1 (by decide))
  have t_27 : (s_22.1 2).toInt = (μ.1 2).toInt := congrArg Int32.toInt (f_24.1 2 (by decide))
  have t_28 : (s_22.1 4).toInt = (μ.1 4).toInt := congrArg Int32.toInt (f_24.1 4 (by decide))
  have t_29 : (s_22.1 3).toInt = (μ.1 3).toInt := congrArg Int32.toInt (f_24.1 3 (by decide))
  have t_30 : (s_22.1 12).toInt = (μ.1 12).toInt := congrArg Int32.toInt (f_24.1 12 (by decide))
  have t_31 : (s_22.1 13).toInt = (μ.1 13).toInt := congrArg Int32.toInt (f_24.1 13 (by decide))
  have t_32 : (s_22.1 14).toInt = (μ.1 14).toInt := congrArg Int32.toInt (f_24.1 14 (by decide))
  have t_33 : (s_22.1 5).toInt = (μ.1 5).toInt := congrArg Int32.toInt (f_24.1 5 (by decide))
  have w_34 : s_22.2.1 1 = μ.2.1 1 := f_24.2.1 1 (by decide)
  have w_35 : s_22.2.1 2 = μ.2.1 2 := f_24.2.1 2 (by decide)
  have w_36 : s_22.2.1 3 = μ.2.1 3 := f_24.2.1 3 (by decide)
  have w_37 : s_22.2.1 5 = μ.2.1 5 := f_24.2.1 5 (by decide)
  have w_38 : s_22.2.1 7 = μ.2.1 7 := f_24.2.1 7 (by decide)
  have w_39 : s_22.2.1 8 = μ.2.1 8 := f_24.2.1 8 (by decide)
  have w_40 : s_22.2.2 4 = μ.2.2 4 := f_24.2.2 4 (by decide)
  have e_41 : s_2.2.1 12 = s_22.2.1 1 := (w_14.trans rr0).trans w_34.symm
  have e_42 : s_2.2.1 13 = s_22.2.1 2 := (w_15.trans rr1).trans w_35.symm
  have e_43 : s_2.2.1 14 = s_22.2.1 3 := (w_16.trans rr2).trans w_36.symm
  have e_44 : s_2.2.1 18 = s_22.2.1 5 := (w_17.trans rr3).trans w_37.symm
  have e_45 : s_2.2.1 20 = s_22.2.1 7 := (w_18.trans rr4).trans w_38.symm
  have e_46 : s_2.2.1 21 = s_22.2.1 8 := (w_19.trans rr5).trans w_39.symm
  have e_47 : fd_E (s_2.2.1 12) (s_2.2.1 13) (s_2.2.1 14) (s_2.2.2 15) (s_22.2.2 4) (s_2.1 1).toNatClampNeg := by
    have n1 : s_2.1 1 = σ.1 1 := Int32.toInt_inj.mp (by omega); rw [w_14, w_15, w_16, w_20, w_40, n1]; exact ex
  have e_48 : fd_Q (s_2.1 1) (s_2.1 5) (s_2.1 4) (s_2.2.1 20) (s_2.2.1 21) (s_2.2.1 18) := by
    have n1 : s_2.1 1 = σ.1 1 := Int32.toInt_inj.mp (by omega); have p5 : s_2.1 5 = σ.1 5 := Int32.toInt_inj.mp (by omega); have o4 : s_2.1 4 = σ.1 4 := Int32.toInt_inj.mp (by omega); rw [n1, p5, o4, w_18, w_19, w_17]; exact exq
  refine fd_e_lt (fun y_49 ey_49 => ?_)
  have t_50 := fd_la ey_49 (by omega) (by omega)
  have r_51 : fd_R s_2 s_22 := ⟨by omega, by omega, by omega, by omega, by omega, by omega, by omega, by omega, e_41, e_42, e_43, e_44, e_45, e_46, e_47, e_48⟩
  exact hK _ _ _ i_3 i_23 r_51 (by omega)
set_option maxHeartbeats 4000000 in
theorem u_c14 (N L : Nat) (hN : 1000 ≤ N) (hL : L ≤ 3072) (xs : Nat → Int32) (K : Int32 → fd_St → fd_St → Option Int32) (i : Int32) (σ μ : fd_St) (iC : fd_InvC σ) (iM : fd_InvM μ) (r : fd_R σ μ) (h0 : 0 ≤ i.toInt) (h1 : i.toInt + 6 ≤ (L : Int)) (hK : ∀ (j : Int32) (σ1 μ1 : fd_St), fd_InvC σ1 → fd_InvM μ1 → fd_R σ1 μ1 → j.toInt = i.toInt + 6 → K j σ1 μ1 = some 1) : f_law_c14 N L xs K i σ μ = some 1 := by
  have lit0 : (0 : Int32).toInt = 0 := by decide
  have lit6 : (6 : Int32).toInt = 6 := by decide
  obtain ⟨r0, r1, r2, r3, r4, r5, r6, r7, rr0, rr1, rr2, rr3, rr4, rr5, ex, exq⟩ := r
  have rg : (0 : Int) ≤ (σ.1 1).toInt ∧ (σ.1 1).toInt ≤ 200 := iC.1 1
  have rh : (0 : Int) ≤ (μ.1 4).toInt ∧ (μ.1 4).toInt ≤ 64 := iM.1 4
  have rp : (0 : Int) ≤ (σ.1 5).toInt ∧ (σ.1 5).toInt ≤ 40 := iC.1 5
  have ro : (0 : Int) ≤ (σ.1 4).toInt ∧ (σ.1 4).toInt ≤ 32 := iC.1 4
  unfold f_law_c14
  generalize xs (i + (1 : Int32)).toNatClampNeg = b1
  refine fd_e_gd (fd_gk h0 h1 hL (by decide)) ?_
  refine fd_e_bd (s_L_chain_0 N hN _ _ iC) ?_
  rintro v_1 s_2 ⟨i_3, f_4, x_5⟩
  have t_6 : (s_2.1 1).toInt = (σ.1 1).toInt := congrArg Int32.toInt (f_4.1 1 (by decide))
  have t_7 : (s_2.1 2).toInt = (σ.1 2).toInt := congrArg Int32.toInt (f_4.1 2 (by decide))
  have t_8 : (s_2.1 3).toInt = (σ.1 3).toInt := congrArg Int32.toInt (f_4.1 3 (by decide))
  have t_9 : (s_2.1 4).toInt = (σ.1 4).toInt := congrArg Int32.toInt (f_4.1 4 (by decide))
  have t_10 : (s_2.1 18).toInt = (σ.1 18).toInt := congrArg Int32.toInt (f_4.1 18 (by decide))
  have t_11 : (s_2.1 5).toInt = (σ.1 5).toInt := congrArg Int32.toInt (f_4.1 5 (by decide))
  have w_12 : s_2.2.1 12 = σ.2.1 12 := f_4.2.1 12 (by decide)
  have w_13 : s_2.2.1 13 = σ.2.1 13 := f_4.2.1 13 (by decide)
  have w_14 : s_2.2.1 14 = σ.2.1 14 := f_4.2.1 14 (by decide)
  have w_15 : s_2.2.1 18 = σ.2.1 18 := f_4.2.1 18 (by decide)
  have w_16 : s_2.2.1 20 = σ.2.1 20 := f_4.2.1 20 (by decide)
  have w_17 : s_2.2.1 21 = σ.2.1 21 := f_4.2.1 21 (by decide)
  have w_18 : s_2.2.2 15 = σ.2.2 15 := f_4.2.2 15 (by decide)
  refine fd_e_gd (fd_gk h0 h1 hL (by decide)) ?_
  refine fd_e_bd (s_X11_chain_0 N hN _ _ iM) ?_
  rintro v_19 s_20 ⟨i_21, f_22, x_23⟩
  have t_24 : (s_20.1 1).toInt = (μ.1 1).toInt := congrArg Int32.toInt (f_22.1 1 (by decide))
  have t_25 : (s_20.1 2).toInt = (μ.1 2).toInt := congrArg Int32.toInt (f_22.1 2 (by decide))
  have t_26 : (s_20.1 4).toInt = (μ.1 4).toInt := congrArg Int32.toInt (f_22.1 4 (by decide))
  have t_27 : (s_20.1 3).toInt = (μ.1 3).toInt := congrArg Int32.toInt (f_22.1 3 (by decide))
  have t_28 : (s_20.1 14).toInt = (μ.1 14).toInt := congrArg Int32.toInt (f_22.1 14 (by decide))
  have t_29 : (s_20.1 5).toInt = (μ.1 5).toInt := congrArg Int32.toInt (f_22.1 5 (by decide))
  have w_30 : s_20.2.1 1 = μ.2.1 1 := f_22.2.1 1 (by decide)
  have w_31 : s_20.2.1 2 = μ.2.1 2 := f_22.2.1 2 (by decide)
  have w_32 : s_20.2.1 3 = μ.2.1 3 := f_22.2.1 3 (by decide)
  have w_33 : s_20.2.1 5 = μ.2.1 5 := f_22.2.1 5 (by decide)
  have w_34 : s_20.2.1 7 = μ.2.1 7 := f_22.2.1 7 (by decide)
  have w_35 : s_20.2.1 8 = μ.2.1 8 := f_22.2.1 8 (by decide)
  have w_36 : s_20.2.2 4 = μ.2.2 4 := f_22.2.2 4 (by decide)
  have e_37 : s_2.2.1 12 = s_20.2.1 1 := (w_12.trans rr0).trans w_30.symm
  have e_38 : s_2.2.1 13 = s_20.2.1 2 := (w_13.trans rr1).trans w_31.symm
  have e_39 : s_2.2.1 14 = s_20.2.1 3 := (w_14.trans rr2).trans w_32.symm
  have e_40 : s_2.2.1 18 = s_20.2.1 5 := (w_15.trans rr3).trans w_33.symm
  have e_41 : s_2.2.1 20 = s_20.2.1 7 := (w_16.trans rr4).trans w_34.symm
  have e_42 : s_2.2.1 21 = s_20.2.1 8 := (w_17.trans rr5).trans w_35.symm
  have e_43 : fd_E (s_2.2.1 12) (s_2.2.1 13) (s_2.2.1 14) (s_2.2.2 15) (s_20.2.2 4) (s_2.1 1).toNatClampNeg := by
    have n1 : s_2.1 1 = σ.1 1 := Int32.toInt_inj.mp (by omega); rw [w_12, w_13, w_14, w_18, w_36, n1]; exact ex
  have e_44 : fd_Q (s_2.1 1) (s_2.1 5) (s_2.1 4) (s_2.2.1 20) (s_2.2.1 21) (s_2.2.1 18) := by
    have n1 : s_2.1 1 = σ.1 1 := Int32.toInt_inj.mp (by omega); have p5 : s_2.1 5 = σ.1 5 := Int32.toInt_inj.mp (by omega); have o4 : s_2.1 4 = σ.1 4 := Int32.toInt_inj.mp (by omega); rw [n1, p5, o4, w_16, w_17, w_15]; exact exq
  refine fd_e_lt (fun y_45 ey_45 => ?_)
  have t_46 := fd_la ey_45 (by omega) (by omega)
  have r_47 : fd_R s_2 s_20 := ⟨by omega, by omega, by omega, by omega, by omega, by omega, by omega, by omega, e_37, e_38, e_39, e_40, e_41, e_42, e_43, e_44⟩
  exact hK _ _ _ i_3 i_21 r_47 (by omega)
