set_option maxHeartbeats 4000000 in
theorem u_c8 (N L : Nat) (hN : 1000 ≤ N) (hL : L ≤ 3072) (xs : Nat → Int32) (K : Int32 → fd_St → fd_St → Option Int32) (i : Int32) (σ μ : fd_St) (iC : fd_InvC σ) (iM : fd_InvM μ) (r : fd_R σ μ) (h0 : 0 ≤ i.toInt) (h1 : i.toInt + 6 ≤ (L : Int)) (hK : ∀ (j : Int32) (σ1 μ1 : fd_St), fd_InvC σ1 → fd_InvM μ1 → fd_R σ1 μ1 → j.toInt = i.toInt + 6 → K j σ1 μ1 = some 1) : f_law_c8 N L xs K i σ μ = some 1 := by
  have lit0 : (0 : Int32).toInt = 0 := by decide
  have lit6 : (6 : Int32).toInt = 6 := by decide
  obtain ⟨r0, r1, r2, r3, r4, r5, r6, r7, rr0, rr1, rr2, rr3, rr4, rr5, rr6, ex, exq⟩ := r
  have rg : (0 : Int) ≤ (σ.1 1).toInt ∧ (σ.1 1).toInt ≤ 200 := iC.1 1
  have rh : (0 : Int) ≤ (μ.1 4).toInt ∧ (μ.1 4).toInt ≤ 64 := iM.1 4
  have rp : (0 : Int) ≤ (σ.1 5).toInt ∧ (σ.1 5).toInt ≤ 40 := iC.1 5
  have ro : (0 : Int) ≤ (σ.1 4).toInt ∧ (σ.1 4).toInt ≤ 32 := iC.1 4
  unfold f_law_c8
  generalize xs (i + (1 : Int32)).toNatClampNeg = b1
  generalize xs (i + (2 : Int32)).toNatClampNeg = b2
  generalize xs (i + (3 : Int32)).toNatClampNeg = b3
  refine fd_e_gd (fd_gk h0 h1 hL (by decide)) ?_
  refine fd_e_gd (fd_gk h0 h1 hL (by decide)) ?_
  refine fd_e_gd (fd_gk h0 h1 hL (by decide)) ?_
  refine fd_e_bd (s_L_shows_0_39 N hN _ _ _ _ iC) ?_
  rintro v_1 s_2 ⟨i_3, f_4, x_5, y_6⟩
  have t_7 : (s_2.1 1).toInt = (σ.1 1).toInt := congrArg Int32.toInt (f_4.1 1 (by decide))
  have t_8 : (s_2.1 2).toInt = (σ.1 2).toInt := congrArg Int32.toInt (f_4.1 2 (by decide))
  have t_9 : (s_2.1 3).toInt = (σ.1 3).toInt := congrArg Int32.toInt (f_4.1 3 (by decide))
  have t_10 : (s_2.1 4).toInt = (σ.1 4).toInt := congrArg Int32.toInt (f_4.1 4 (by decide))
  have t_11 : (s_2.1 16).toInt = (σ.1 16).toInt := congrArg Int32.toInt (f_4.1 16 (by decide))
  have t_12 : (s_2.1 17).toInt = (σ.1 17).toInt := congrArg Int32.toInt (f_4.1 17 (by decide))
  have t_13 : (s_2.1 18).toInt = (σ.1 18).toInt := congrArg Int32.toInt (f_4.1 18 (by decide))
  have t_14 : (s_2.1 5).toInt = (σ.1 5).toInt := congrArg Int32.toInt (f_4.1 5 (by decide))
  have w_15 : s_2.2.1 12 = σ.2.1 12 := f_4.2.1 12 (by decide)
  have w_16 : s_2.2.1 13 = σ.2.1 13 := f_4.2.1 13 (by decide)
  have w_17 : s_2.2.1 14 = σ.2.1 14 := f_4.2.1 14 (by decide)
  have w_18 : s_2.2.1 18 = σ.2.1 18 := f_4.2.1 18 (by decide)
  have w_19 : s_2.2.1 20 = σ.2.1 20 := f_4.2.1 20 (by decide)
  have w_20 : s_2.2.1 21 = σ.2.1 21 := f_4.2.1 21 (by decide)
  have w_21 : s_2.2.2 15 = σ.2.2 15 := f_4.2.2 15 (by decide)
  have w_22 : s_2.2.2 19 = σ.2.2 19 := f_4.2.2 19 (by decide)
  refine fd_e_gd (fd_gk h0 h1 hL (by decide)) ?_
  refine fd_e_gd (fd_gk h0 h1 hL (by decide)) ?_
  refine fd_e_gd (fd_gk h0 h1 hL (by decide)) ?_
  refine fd_e_bd (s_X11_shows_0 N hN _ _ _ _ iM) ?_
  rintro v_23 s_24 ⟨i_25, f_26, x_27, y_28⟩
  have t_29 : (s_24.1 1).toInt = (μ.1 1).toInt := congrArg Int32.toInt (f_26.1 1 (by decide))
  have t_30 : (s_24.1 2).toInt = (μ.1 2).toInt := congrArg Int32.toInt (f_26.1 2 (by decide))
  have t_31 : (s_24.1 4).toInt = (μ.1 4).toInt := congrArg Int32.toInt (f_26.1 4 (by decide))
  have t_32 : (s_24.1 3).toInt = (μ.1 3).toInt := congrArg Int32.toInt (f_26.1 3 (by decide))
  have t_33 : (s_24.1 12).toInt = (μ.1 12).toInt := congrArg Int32.toInt (f_26.1 12 (by decide))
  have t_34 : (s_24.1 13).toInt = (μ.1 13).toInt := congrArg Int32.toInt (f_26.1 13 (by decide))
  have t_35 : (s_24.1 14).toInt = (μ.1 14).toInt := congrArg Int32.toInt (f_26.1 14 (by decide))
  have t_36 : (s_24.1 5).toInt = (μ.1 5).toInt := congrArg Int32.toInt (f_26.1 5 (by decide))
  have w_37 : s_24.2.1 1 = μ.2.1 1 := f_26.2.1 1 (by decide)
  have w_38 : s_24.2.1 2 = μ.2.1 2 := f_26.2.1 2 (by decide)
  have w_39 : s_24.2.1 3 = μ.2.1 3 := f_26.2.1 3 (by decide)
  have w_40 : s_24.2.1 5 = μ.2.1 5 := f_26.2.1 5 (by decide)
  have w_41 : s_24.2.1 7 = μ.2.1 7 := f_26.2.1 7 (by decide)
  have w_42 : s_24.2.1 8 = μ.2.1 8 := f_26.2.1 8 (by decide)
  have w_43 : s_24.2.2 4 = μ.2.2 4 := f_26.2.2 4 (by decide)
  have w_44 : s_24.2.2 6 = μ.2.2 6 := f_26.2.2 6 (by decide)
  have e_45 : s_2.2.1 12 = s_24.2.1 1 := (w_15.trans rr0).trans w_37.symm
  have e_46 : s_2.2.1 13 = s_24.2.1 2 := (w_16.trans rr1).trans w_38.symm
  have e_47 : s_2.2.1 14 = s_24.2.1 3 := (w_17.trans rr2).trans w_39.symm
  have e_48 : s_2.2.1 18 = s_24.2.1 5 := (w_18.trans rr3).trans w_40.symm
  have e_49 : s_2.2.1 20 = s_24.2.1 7 := (w_19.trans rr4).trans w_41.symm
  have e_50 : s_2.2.1 21 = s_24.2.1 8 := (w_20.trans rr5).trans w_42.symm
  have e_51 : s_2.2.2 19 = s_24.2.2 6 := (w_22.trans rr6).trans w_44.symm
  have e_52 : fd_E (s_2.2.1 12) (s_2.2.1 13) (s_2.2.1 14) (s_2.2.2 15) (s_24.2.2 4) (s_2.1 1).toNatClampNeg := by
    have n1 : s_2.1 1 = σ.1 1 := Int32.toInt_inj.mp (by omega); rw [w_15, w_16, w_17, w_21, w_43, n1]; exact ex
  have e_53 : fd_Q (s_2.1 1) (s_2.1 5) (s_2.1 4) (s_2.2.1 20) (s_2.2.1 21) (s_2.2.1 18) := by
    have n1 : s_2.1 1 = σ.1 1 := Int32.toInt_inj.mp (by omega); have p5 : s_2.1 5 = σ.1 5 := Int32.toInt_inj.mp (by omega); have o4 : s_2.1 4 = σ.1 4 := Int32.toInt_inj.mp (by omega); rw [n1, p5, o4, w_19, w_20, w_18]; exact exq
  refine fd_e_lt (fun y_54 ey_54 => ?_)
  have t_55 := fd_la ey_54 (by omega) (by omega)
  have r_56 : fd_R s_2 s_24 := ⟨by omega, by omega, by omega, by omega, by omega, by omega, by omega, by omega, e_45, e_46, e_47, e_48, e_49, e_50, e_51, e_52, e_53⟩
  exact hK _ _ _ i_3 i_25 r_56 (by omega)
set_option maxHeartbeats 4000000 in
theorem u_c9 (N L : Nat) (hN : 1000 ≤ N) (hL : L ≤ 3072) (xs : Nat → Int32) (K : Int32 → fd_St → fd_St → Option Int32) (i : Int32) (σ μ : fd_St) (iC : fd_InvC σ) (iM : fd_InvM μ) (r : fd_R σ μ) (h0 : 0 ≤ i.toInt) (h1 : i.toInt + 6 ≤ (L : Int)) (hK : ∀ (j : Int32) (σ1 μ1 : fd_St), fd_InvC σ1 → fd_InvM μ1 → fd_R σ1 μ1 → j.toInt = i.toInt + 6 → K j σ1 μ1 = some 1) : f_law_c9 N L xs K i σ μ = some 1 := by
  have lit0 : (0 : Int32).toInt = 0 := by decide
  have lit6 : (6 : Int32).toInt = 6 := by decide
  obtain ⟨r0, r1, r2, r3, r4, r5, r6, r7, rr0, rr1, rr2, rr3, rr4, rr5, rr6, ex, exq⟩ := r
  have rg : (0 : Int) ≤ (σ.1 1).toInt ∧ (σ.1 1).toInt ≤ 200 := iC.1 1
  have rh : (0 : Int) ≤ (μ.1 4).toInt ∧ (μ.1 4).toInt ≤ 64 := iM.1 4
  have rp : (0 : Int) ≤ (σ.1 5).toInt ∧ (σ.1 5).toInt ≤ 40 := iC.1 5
  have ro : (0 : Int) ≤ (σ.1 4).toInt ∧ (σ.1 4).toInt ≤ 32 := iC.1 4
  unfold f_law_c9
  refine fd_e_bd (s1_X10_run_0 N hN _ iC) ?_
  rintro v_1 s_2 ⟨i_3, f_4, x_5⟩
  have t_6 : (s_2.1 1).toInt = (σ.1 1).toInt := congrArg Int32.toInt (f_4.1 1 (by decide))
  have t_7 : (s_2.1 2).toInt = (σ.1 2).toInt := congrArg Int32.toInt (f_4.1 2 (by decide))
  have t_8 : (s_2.1 3).toInt = (σ.1 3).toInt := congrArg Int32.toInt (f_4.1 3 (by decide))
  have t_9 : (s_2.1 4).toInt = (σ.1 4).toInt := congrArg Int32.toInt (f_4.1 4 (by decide))
  have t_10 : (s_2.1 16).toInt = (σ.1 16).toInt := congrArg Int32.toInt (f_4.1 16 (by decide))
  have t_11 : (s_2.1 17).toInt = (σ.1 17).toInt := congrArg Int32.toInt (f_4.1 17 (by decide))
  have t_12 : (s_2.1 18).toInt = (σ.1 18).toInt := congrArg Int32.toInt (f_4.1 18 (by decide))
  have t_13 : (s_2.1 5).toInt = (σ.1 5).toInt := congrArg Int32.toInt (f_4.1 5 (by decide))
  have w_14 : s_2.2.1 12 = σ.2.1 12 := f_4.2.1 12 (by decide)
  have w_15 : s_2.2.1 13 = σ.2.1 13 := f_4.2.1 13 (by decide)
  have w_16 : s_2.2.1 14 = σ.2.1 14 := f_4.2.1 14 (by decide)
  have w_17 : s_2.2.1 18 = σ.2.1 18 := f_4.2.1 18 (by decide)
  have w_18 : s_2.2.1 20 = σ.2.1 20 := f_4.2.1 20 (by decide)
  have w_19 : s_2.2.1 21 = σ.2.1 21 := f_4.2.1 21 (by decide)
  have w_20 : s_2.2.2 15 = σ.2.2 15 := f_4.2.2 15 (by decide)
  have w_21 : s_2.2.2 19 = σ.2.2 19 := f_4.2.2 19 (by decide)
  refine fd_e_lt (fun y_22 ey_22 => ?_)
  have i_23 : fd_InvC y_22 := by subst ey_22; exact i_3
  have t_24 : (y_22.1 1).toInt = (s_2.1 1).toInt := by subst ey_22; rfl
  have t_25 : (y_22.1 2).toInt = (s_2.1 2).toInt := by subst ey_22; rfl
  have t_26 : (y_22.1 3).toInt = (s_2.1 3).toInt := by subst ey_22; rfl
  have t_27 : (y_22.1 4).toInt = (s_2.1 4).toInt := by subst ey_22; rfl
  have t_28 : (y_22.1 16).toInt = (s_2.1 16).toInt := by subst ey_22; rfl
  have t_29 : (y_22.1 17).toInt = (s_2.1 17).toInt := by subst ey_22; rfl
  have t_30 : (y_22.1 18).toInt = (s_2.1 18).toInt := by subst ey_22; rfl
  have t_31 : (y_22.1 5).toInt = (s_2.1 5).toInt := by subst ey_22; rfl
  have w_32 := fd_ymixA (d := 12) ey_22 w_14
  have w_33 := fd_ymixA (d := 13) ey_22 w_15
  have w_34 := fd_ymixA (d := 14) ey_22 w_16
  have w_35 := fd_ymixA (d := 18) ey_22 w_17
  have w_36 := fd_ymixA (d := 20) ey_22 w_18
  have w_37 := fd_ymixA (d := 21) ey_22 w_19
  have w_38 := fd_ymix (d := 15) ey_22 (by decide) w_20
  have w_39 := fd_ymix (d := 19) ey_22 (by decide) w_21
  refine fd_e_bd (s1_X11_run_0 N hN _ iM) ?_
  rintro v_40 s_41 ⟨i_42, f_43, x_44⟩
  have t_45 : (s_41.1 1).toInt = (μ.1 1).toInt := congrArg Int32.toInt (f_43.1 1 (by decide))
  have t_46 : (s_41.1 2).toInt = (μ.1 2).toInt := congrArg Int32.toInt (f_43.1 2 (by decide))
  have t_47 : (s_41.1 4).toInt = (μ.1 4).toInt := congrArg Int32.toInt (f_43.1 4 (by decide))
  have t_48 : (s_41.1 3).toInt = (μ.1 3).toInt := congrArg Int32.toInt (f_43.1 3 (by decide))
  have t_49 : (s_41.1 12).toInt = (μ.1 12).toInt := congrArg Int32.toInt (f_43.1 12 (by decide))
  have t_50 : (s_41.1 13).toInt = (μ.1 13).toInt := congrArg Int32.toInt (f_43.1 13 (by decide))
  have t_51 : (s_41.1 14).toInt = (μ.1 14).toInt := congrArg Int32.toInt (f_43.1 14 (by decide))
  have t_52 : (s_41.1 5).toInt = (μ.1 5).toInt := congrArg Int32.toInt (f_43.1 5 (by decide))
  have w_53 : s_41.2.1 1 = μ.2.1 1 := f_43.2.1 1 (by decide)
  have w_54 : s_41.2.1 2 = μ.2.1 2 := f_43.2.1 2 (by decide)
  have w_55 : s_41.2.1 3 = μ.2.1 3 := f_43.2.1 3 (by decide)
  have w_56 : s_41.2.1 5 = μ.2.1 5 := f_43.2.1 5 (by decide)
  have w_57 : s_41.2.1 7 = μ.2.1 7 := f_43.2.1 7 (by decide)
  have w_58 : s_41.2.1 8 = μ.2.1 8 := f_43.2.1 8 (by decide)
  have w_59 : s_41.2.2 4 = μ.2.2 4 := f_43.2.2 4 (by decide)
  have w_60 : s_41.2.2 6 = μ.2.2 6 := f_43.2.2 6 (by decide)
  have e_61 : y_22.2.1 12 = s_41.2.1 1 := (w_32.trans rr0).trans w_53.symm
  have e_62 : y_22.2.1 13 = s_41.2.1 2 := (w_33.trans rr1).trans w_54.symm
  have e_63 : y_22.2.1 14 = s_41.2.1 3 := (w_34.trans rr2).trans w_55.symm
  have e_64 : y_22.2.1 18 = s_41.2.1 5 := (w_35.trans rr3).trans w_56.symm
  have e_65 : y_22.2.1 20 = s_41.2.1 7 := (w_36.trans rr4).trans w_57.symm
  have e_66 : y_22.2.1 21 = s_41.2.1 8 := (w_37.trans rr5).trans w_58.symm
  have e_67 : y_22.2.2 19 = s_41.2.2 6 := (w_39.trans rr6).trans w_60.symm
  have e_68 : fd_E (y_22.2.1 12) (y_22.2.1 13) (y_22.2.1 14) (y_22.2.2 15) (s_41.2.2 4) (y_22.1 1).toNatClampNeg := by
    have n1 : y_22.1 1 = σ.1 1 := Int32.toInt_inj.mp (by omega); rw [w_32, w_33, w_34, w_38, w_59, n1]; exact ex
  have e_69 : fd_Q (y_22.1 1) (y_22.1 5) (y_22.1 4) (y_22.2.1 20) (y_22.2.1 21) (y_22.2.1 18) := by
    have n1 : y_22.1 1 = σ.1 1 := Int32.toInt_inj.mp (by omega); have p5 : y_22.1 5 = σ.1 5 := Int32.toInt_inj.mp (by omega); have o4 : y_22.1 4 = σ.1 4 := Int32.toInt_inj.mp (by omega); rw [n1, p5, o4, w_36, w_37, w_35]; exact exq
  have en : σ.1 1 = μ.1 1 := Int32.toInt_inj.mp (by omega)
  have ep : σ.1 5 = μ.1 5 := Int32.toInt_inj.mp (by omega)
  have eo : σ.1 4 = μ.1 3 := Int32.toInt_inj.mp (by omega)
  have eM := fd_ctmk (a := σ.1 3) (b := μ.1 4) (by omega) (by omega) (by omega)
  have o1 := x_5 (μ.2.2 4) ex exq
  have o2 := x_44 (σ.2.2 15) (by rw [← rr0, ← rr1, ← rr2, ← en]; exact ex) (by rw [← rr3, ← rr4, ← rr5, ← en, ← ep, ← eo]; exact exq)
  rw [← rr0, ← rr1, ← rr2, ← rr3, ← rr4, ← rr5, ← rr6, ← en, ← ep, ← eo, ← eM] at o2
  refine fd_e_itp (Int32.toInt_inj.mp (o1.trans o2.symm)) ?_
  refine fd_e_lt (fun y_70 ey_70 => ?_)
  have t_71 := fd_la ey_70 (by omega) (by omega)
  have r_72 : fd_R y_22 s_41 := ⟨by omega, by omega, by omega, by omega, by omega, by omega, by omega, by omega, e_61, e_62, e_63, e_64, e_65, e_66, e_67, e_68, e_69⟩
  exact hK _ _ _ i_23 i_42 r_72 (by omega)
set_option maxHeartbeats 4000000 in
theorem u_c10 (N L : Nat) (hN : 1000 ≤ N) (hL : L ≤ 3072) (xs : Nat → Int32) (K : Int32 → fd_St → fd_St → Option Int32) (i : Int32) (σ μ : fd_St) (iC : fd_InvC σ) (iM : fd_InvM μ) (r : fd_R σ μ) (h0 : 0 ≤ i.toInt) (h1 : i.toInt + 6 ≤ (L : Int)) (hK : ∀ (j : Int32) (σ1 μ1 : fd_St), fd_InvC σ1 → fd_InvM μ1 → fd_R σ1 μ1 → j.toInt = i.toInt + 6 → K j σ1 μ1 = some 1) : f_law_c10 N L xs K i σ μ = some 1 := by
  have lit0 : (0 : Int32).toInt = 0 := by decide
  have lit6 : (6 : Int32).toInt = 6 := by decide
  obtain ⟨r0, r1, r2, r3, r4, r5, r6, r7, rr0, rr1, rr2, rr3, rr4, rr5, rr6, ex, exq⟩ := r
  have rg : (0 : Int) ≤ (σ.1 1).toInt ∧ (σ.1 1).toInt ≤ 200 := iC.1 1
  have rh : (0 : Int) ≤ (μ.1 4).toInt ∧ (μ.1 4).toInt ≤ 64 := iM.1 4
  have rp : (0 : Int) ≤ (σ.1 5).toInt ∧ (σ.1 5).toInt ≤ 40 := iC.1 5
  have ro : (0 : Int) ≤ (σ.1 4).toInt ∧ (σ.1 4).toInt ≤ 32 := iC.1 4
  unfold f_law_c10
  generalize xs (i + (1 : Int32)).toNatClampNeg = b1
  generalize xs (i + (2 : Int32)).toNatClampNeg = b2
  refine fd_e_gd (fd_gk h0 h1 hL (by decide)) ?_
  refine fd_e_gd (fd_gk h0 h1 hL (by decide)) ?_
  refine fd_e_bd (s_L_suspect_0_39 N hN _ _ _ iC) ?_
  rintro v_1 s_2 ⟨i_3, f_4, x_5⟩
  have t_6 : (s_2.1 1).toInt = (σ.1 1).toInt := congrArg Int32.toInt (f_4.1 1 (by decide))
  have t_7 : (s_2.1 2).toInt = (σ.1 2).toInt := congrArg Int32.toInt (f_4.1 2 (by decide))
  have t_8 : (s_2.1 3).toInt = (σ.1 3).toInt := congrArg Int32.toInt (f_4.1 3 (by decide))
  have t_9 : (s_2.1 4).toInt = (σ.1 4).toInt := congrArg Int32.toInt (f_4.1 4 (by decide))
  have t_10 : (s_2.1 16).toInt = (σ.1 16).toInt := congrArg Int32.toInt (f_4.1 16 (by decide))
  have t_11 : (s_2.1 17).toInt = (σ.1 17).toInt := congrArg Int32.toInt (f_4.1 17 (by decide))
  have t_12 : (s_2.1 18).toInt = (σ.1 18).toInt := congrArg Int32.toInt (f_4.1 18 (by decide))
  have t_13 : (s_2.1 5).toInt = (σ.1 5).toInt := congrArg Int32.toInt (f_4.1 5 (by decide))
  have w_14 : s_2.2.1 12 = σ.2.1 12 := f_4.2.1 12 (by decide)
  have w_15 : s_2.2.1 13 = σ.2.1 13 := f_4.2.1 13 (by decide)
  have w_16 : s_2.2.1 14 = σ.2.1 14 := f_4.2.1 14 (by decide)
  have w_17 : s_2.2.1 18 = σ.2.1 18 := f_4.2.1 18 (by decide)
  have w_18 : s_2.2.1 20 = σ.2.1 20 := f_4.2.1 20 (by decide)
  have w_19 : s_2.2.1 21 = σ.2.1 21 := f_4.2.1 21 (by decide)
  have w_20 : s_2.2.2 15 = σ.2.2 15 := f_4.2.2 15 (by decide)
  have w_21 : s_2.2.2 19 = σ.2.2 19 := f_4.2.2 19 (by decide)
  refine fd_e_gd (fd_gk h0 h1 hL (by decide)) ?_
  refine fd_e_gd (fd_gk h0 h1 hL (by decide)) ?_
  refine fd_e_bd (s_X11_suspect_0 N hN _ _ _ iM) ?_
  rintro v_22 s_23 ⟨i_24, f_25, x_26⟩
  have t_27 : (s_23.1 1).toInt = (μ.1 1).toInt := congrArg Int32.toInt (f_25.1 1 (by decide))
  have t_28 : (s_23.1 2).toInt = (μ.1 2).toInt := congrArg Int32.toInt (f_25.1 2 (by decide))
  have t_29 : (s_23.1 4).toInt = (μ.1 4).toInt := congrArg Int32.toInt (f_25.1 4 (by decide))
  have t_30 : (s_23.1 3).toInt = (μ.1 3).toInt := congrArg Int32.toInt (f_25.1 3 (by decide))
  have t_31 : (s_23.1 12).toInt = (μ.1 12).toInt := congrArg Int32.toInt (f_25.1 12 (by decide))
  have t_32 : (s_23.1 13).toInt = (μ.1 13).toInt := congrArg Int32.toInt (f_25.1 13 (by decide))
  have t_33 : (s_23.1 14).toInt = (μ.1 14).toInt := congrArg Int32.toInt (f_25.1 14 (by decide))
  have t_34 : (s_23.1 5).toInt = (μ.1 5).toInt := congrArg Int32.toInt (f_25.1 5 (by decide))
  have w_35 : s_23.2.1 1 = μ.2.1 1 := f_25.2.1 1 (by decide)
  have w_36 : s_23.2.1 2 = μ.2.1 2 := f_25.2.1 2 (by decide)
  have w_37 : s_23.2.1 3 = μ.2.1 3 := f_25.2.1 3 (by decide)
  have w_38 : s_23.2.1 5 = μ.2.1 5 := f_25.2.1 5 (by decide)
  have w_39 : s_23.2.1 7 = μ.2.1 7 := f_25.2.1 7 (by decide)
  have w_40 : s_23.2.1 8 = μ.2.1 8 := f_25.2.1 8 (by decide)
  have w_41 : s_23.2.2 4 = μ.2.2 4 := f_25.2.2 4 (by decide)
  have w_42 : s_23.2.2 6 = μ.2.2 6 := f_25.2.2 6 (by decide)
  have e_43 : s_2.2.1 12 = s_23.2.1 1 := (w_14.trans rr0).trans w_35.symm
  have e_44 : s_2.2.1 13 = s_23.2.1 2 := (w_15.trans rr1).trans w_36.symm
  have e_45 : s_2.2.1 14 = s_23.2.1 3 := (w_16.trans rr2).trans w_37.symm
  have e_46 : s_2.2.1 18 = s_23.2.1 5 := (w_17.trans rr3).trans w_38.symm
  have e_47 : s_2.2.1 20 = s_23.2.1 7 := (w_18.trans rr4).trans w_39.symm
  have e_48 : s_2.2.1 21 = s_23.2.1 8 := (w_19.trans rr5).trans w_40.symm
  have e_49 : s_2.2.2 19 = s_23.2.2 6 := (w_21.trans rr6).trans w_42.symm
  have e_50 : fd_E (s_2.2.1 12) (s_2.2.1 13) (s_2.2.1 14) (s_2.2.2 15) (s_23.2.2 4) (s_2.1 1).toNatClampNeg := by
    have n1 : s_2.1 1 = σ.1 1 := Int32.toInt_inj.mp (by omega); rw [w_14, w_15, w_16, w_20, w_41, n1]; exact ex
  have e_51 : fd_Q (s_2.1 1) (s_2.1 5) (s_2.1 4) (s_2.2.1 20) (s_2.2.1 21) (s_2.2.1 18) := by
    have n1 : s_2.1 1 = σ.1 1 := Int32.toInt_inj.mp (by omega); have p5 : s_2.1 5 = σ.1 5 := Int32.toInt_inj.mp (by omega); have o4 : s_2.1 4 = σ.1 4 := Int32.toInt_inj.mp (by omega); rw [n1, p5, o4, w_18, w_19, w_17]; exact exq
  refine fd_e_lt (fun y_52 ey_52 => ?_)
  have t_53 := fd_la ey_52 (by omega) (by omega)
  have r_54 : fd_R s_2 s_23 := ⟨by omega, by omega, by omega, by omega, by omega, by omega, by omega, by omega, e_43, e_44, e_45, e_46, e_47, e_48, e_49, e_50, e_51⟩
  exact hK _ _ _ i_3 i_24 r_54 (by omega)
set_option maxHeartbeats 4000000 in
theorem u_c11 (N L : Nat) (hN : 1000 ≤ N) (hL : L ≤ 3072) (xs : Nat → Int32) (K : Int32 → fd_St → fd_St → Option Int32) (i : Int32) (σ μ : fd_St) (iC : fd_InvC σ) (iM : fd_InvM μ) (r : fd_R σ μ) (h0 : 0 ≤ i.toInt) (h1 : i.toInt + 6 ≤ (L : Int)) (hK : ∀ (j : Int32) (σ1 μ1 : fd_St), fd_InvC σ1 → fd_InvM μ1 → fd_R σ1 μ1 → j.toInt = i.toInt + 6 → K j σ1 μ1 = some 1) : f_law_c11 N L xs K i σ μ = some 1 := by
  have lit0 : (0 : Int32).toInt = 0 := by decide
  have lit6 : (6 : Int32).toInt = 6 := by decide
  obtain ⟨r0, r1, r2, r3, r4, r5, r6, r7, rr0, rr1, rr2, rr3, rr4, rr5, rr6, ex, exq⟩ := r
  have rg : (0 : Int) ≤ (σ.1 1).toInt ∧ (σ.1 1).toInt ≤ 200 := iC.1 1
  have rh : (0 : Int) ≤ (μ.1 4).toInt ∧ (μ.1 4).toInt ≤ 64 := iM.1 4
  have rp : (0 : Int) ≤ (σ.1 5).toInt ∧ (σ.1 5).toInt ≤ 40 := iC.1 5
  have ro : (0 : Int) ≤ (σ.1 4).toInt ∧ (σ.1 4).toInt ≤ 32 := iC.1 4
  unfold f_law_c11
  generalize xs (i + (1 : Int32)).toNatClampNeg = b1
  refine fd_e_gd (fd_gk h0 h1 hL (by decide)) ?_
  refine fd_e_bd (s_L_pair_0_39 N hN _ _ iC) ?_
  rintro v_1 s_2 ⟨i_3, f_4, x_5⟩
  have t_6 : (s_2.1 1).toInt = (σ.1 1).toInt := congrArg Int32.toInt (f_4.1 1 (by decide))
  have t_7 : (s_2.1 2).toInt = (σ.1 2).toInt := congrArg Int32.toInt (f_4.1 2 (by decide))
  have t_8 : (s_2.1 3).toInt = (σ.1 3).toInt := congrArg Int32.toInt (f_4.1 3 (by decide))
  have t_9 : (s_2.1 4).toInt = (σ.1 4).toInt := congrArg Int32.toInt (f_4.1 4 (by decide))
  have t_10 : (s_2.1 16).toInt = (σ.1 16).toInt := congrArg Int32.toInt (f_4.1 16 (by decide))
  have t_11 : (s_2.1 17).toInt = (σ.1 17).toInt := congrArg Int32.toInt (f_4.1 17 (by decide))
  have t_12 : (s_2.1 18).toInt = (σ.1 18).toInt := congrArg Int32.toInt (f_4.1 18 (by decide))
  have t_13 : (s_2.1 5).toInt = (σ.1 5).toInt := congrArg Int32.toInt (f_4.1 5 (by decide))
  have w_14 : s_2.2.1 12 = σ.2.1 12 := f_4.2.1 12 (by decide)
  have w_15 : s_2.2.1 13 = σ.2.1 13 := f_4.2.1 13 (by decide)
  have w_16 : s_2.2.1 14 = σ.2.1 14 := f_4.2.1 14 (by decide)
  have w_17 : s_2.2.1 18 = σ.2.1 18 := f_4.2.1 18 (by decide)
  have w_18 : s_2.2.1 20 = σ.2.1 20 := f_4.2.1 20 (by decide)
  have w_19 : s_2.2.1 21 = σ.2.1 21 := f_4.2.1 21 (by decide)
  have w_20 : s_2.2.2 15 = σ.2.2 15 := f_4.2.2 15 (by decide)
  have w_21 : s_2.2.2 19 = σ.2.2 19 := f_4.2.2 19 (by decide)
  refine fd_e_gd (fd_gk h0 h1 hL (by decide)) ?_
  refine fd_e_bd (s_X11_pair_0 N hN _ _ iM) ?_
  rintro v_22 s_23 ⟨i_24, f_25, x_26⟩
  have t_27 : (s_23.1 1).toInt = (μ.1 1).toInt := congrArg Int32.toInt (f_25.1 1 (by decide))
  have t_28 : (s_23.1 2).toInt = (μ.1 2).toInt := congrArg Int32.toInt (f_25.1 2 (by decide))
  have t_29 : (s_23.1 4).toInt = (μ.1 4).toInt := congrArg Int32.toInt (f_25.1 4 (by decide))
  have t_30 : (s_23.1 3).toInt = (μ.1 3).toInt := congrArg Int32.toInt (f_25.1 3 (by decide))
  have t_31 : (s_23.1 12).toInt = (μ.1 12).toInt := congrArg Int32.toInt (f_25.1 12 (by decide))
  have t_32 : (s_23.1 13).toInt = (μ.1 13).toInt := congrArg Int32.toInt (f_25.1 13 (by decide))
  have t_33 : (s_23.1 14).toInt = (μ.1 14).toInt := congrArg Int32.toInt (f_25.1 14 (by decide))
  have t_34 : (s_23.1 5).toInt = (μ.1 5).toInt := congrArg Int32.toInt (f_25.1 5 (by decide))
  have w_35 : s_23.2.1 1 = μ.2.1 1 := f_25.2.1 1 (by decide)
  have w_36 : s_23.2.1 2 = μ.2.1 2 := f_25.2.1 2 (by decide)
  have w_37 : s_23.2.1 3 = μ.2.1 3 := f_25.2.1 3 (by decide)
  have w_38 : s_23.2.1 5 = μ.2.1 5 := f_25.2.1 5 (by decide)
  have w_39 : s_23.2.1 7 = μ.2.1 7 := f_25.2.1 7 (by decide)
  have w_40 : s_23.2.1 8 = μ.2.1 8 := f_25.2.1 8 (by decide)
  have w_41 : s_23.2.2 4 = μ.2.2 4 := f_25.2.2 4 (by decide)
  have w_42 : s_23.2.2 6 = μ.2.2 6 := f_25.2.2 6 (by decide)
  have e_43 : s_2.2.1 12 = s_23.2.1 1 := (w_14.trans rr0).trans w_35.symm
  have e_44 : s_2.2.1 13 = s_23.2.1 2 := (w_15.trans rr1).trans w_36.symm
  have e_45 : s_2.2.1 14 = s_23.2.1 3 := (w_16.trans rr2).trans w_37.symm
  have e_46 : s_2.2.1 18 = s_23.2.1 5 := (w_17.trans rr3).trans w_38.symm
  have e_47 : s_2.2.1 20 = s_23.2.1 7 := (w_18.trans rr4).trans w_39.symm
  have e_48 : s_2.2.1 21 = s_23.2.1 8 := (w_19.trans rr5).trans w_40.symm
  have e_49 : s_2.2.2 19 = s_23.2.2 6 := (w_21.trans rr6).trans w_42.symm
  have e_50 : fd_E (s_2.2.1 12) (s_2.2.1 13) (s_2.2.1 14) (s_2.2.2 15) (s_23.2.2 4) (s_2.1 1).toNatClampNeg := by
    have n1 : s_2.1 1 = σ.1 1 := Int32.toInt_inj.mp (by omega); rw [w_14, w_15, w_16, w_20, w_41, n1]; exact ex
  have e_51 : fd_Q (s_2.1 1) (s_2.1 5) (s_2.1 4) (s_2.2.1 20) (s_2.2.1 21) (s_2.2.1 18) := by
    have n1 : s_2.1 1 = σ.1 1 := Int32.toInt_inj.mp (by omega); have p5 : s_2.1 5 = σ.1 5 := Int32.toInt_inj.mp (by omega); have o4 : s_2.1 4 = σ.1 4 := Int32.toInt_inj.mp (by omega); rw [n1, p5, o4, w_18, w_19, w_17]; exact exq
  refine fd_e_lt (fun y_52 ey_52 => ?_)
  have t_53 := fd_la ey_52 (by omega) (by omega)
  have r_54 : fd_R s_2 s_23 := ⟨by omega, by omega, by omega, by omega, by omega, by omega, by omega, by omega, e_43, e_44, e_45, e_46, e_47, e_48, e_49, e_50, e_51⟩
  exact hK _ _ _ i_3 i_24 r_54 (by omega)
set_option maxHeartbeats 4000000 in
theorem u_c12 (N L : Nat) (hN : 1000 ≤ N) (hL : L ≤ 3072) (xs : Nat → Int32) (K : Int32 → fd_St → fd_St → Option Int32) (i : Int32) (σ μ : fd_St) (iC : fd_InvC σ) (iM : fd_InvM μ) (r : fd_R σ μ) (h0 : 0 ≤ i.toInt) (h1 : i.toInt + 6 ≤ (L : Int)) (hK : ∀ (j : Int32) (σ1 μ1 : fd_St), fd_InvC σ1 → fd_InvM μ1 → fd_R σ1 μ1 → j.toInt = i.toInt + 6 → K j σ1 μ1 = some 1) : f_law_c12 N L xs K i σ μ = some 1 := by
  have lit0 : (0 : Int32).toInt = 0 := by decide
  have lit6 : (6 : Int32).toInt = 6 := by decide
  obtain ⟨r0, r1, r2, r3, r4, r5, r6, r7, rr0, rr1, rr2, rr3, rr4, rr5, rr6, ex, exq⟩ := r
  have rg : (0 : Int) ≤ (σ.1 1).toInt ∧ (σ.1 1).toInt ≤ 200 := iC.1 1
  have rh : (0 : Int) ≤ (μ.1 4).toInt ∧ (μ.1 4).toInt ≤ 64 := iM.1 4
  have rp : (0 : Int) ≤ (σ.1 5).toInt ∧ (σ.1 5).toInt ≤ 40 := iC.1 5
  have ro : (0 : Int) ≤ (σ.1 4).toInt ∧ (σ.1 4).toInt ≤ 32 := iC.1 4
  unfold f_law_c12
  refine fd_e_bd (s_L_join_0_39 N hN _ iC) ?_
  rintro v_1 s_2 ⟨i_3, f_4, x_5⟩
  have t_6 : (s_2.1 1).toInt = (σ.1 1).toInt := congrArg Int32.toInt (f_4.1 1 (by decide))
  have t_7 : (s_2.1 2).toInt = (σ.1 2).toInt := congrArg Int32.toInt (f_4.1 2 (by decide))
  have t_8 : (s_2.1 3).toInt = (σ.1 3).toInt := congrArg Int32.toInt (f_4.1 3 (by decide))
  have t_9 : (s_2.1 4).toInt = (σ.1 4).toInt := congrArg Int32.toInt (f_4.1 4 (by decide))
  have t_10 : (s_2.1 16).toInt = (σ.1 16).toInt := congrArg Int32.toInt (f_4.1 16 (by decide))
  have t_11 : (s_2.1 17).toInt = (σ.1 17).toInt := congrArg Int32.toInt (f_4.1 17 (by decide))
  have t_12 : (s_2.1 18).toInt = (σ.1 18).toInt := congrArg Int32.toInt (f_4.1 18 (by decide))
  have t_13 : (s_2.1 5).toInt = (σ.1 5).toInt := congrArg Int32.toInt (f_4.1 5 (by decide))
  have w_14 : s_2.2.1 12 = σ.2.1 12 := f_4.2.1 12 (by decide)
  have w_15 : s_2.2.1 13 = σ.2.1 13 := f_4.2.1 13 (by decide)
  have w_16 : s_2.2.1 14 = σ.2.1 14 := f_4.2.1 14 (by decide)
  have w_17 : s_2.2.1 18 = σ.2.1 18 := f_4.2.1 18 (by decide)
  have w_18 : s_2.2.1 20 = σ.2.1 20 := f_4.2.1 20 (by decide)
  have w_19 : s_2.2.1 21 = σ.2.1 21 := f_4.2.1 21 (by decide)
  have w_20 : s_2.2.2 15 = σ.2.2 15 := f_4.2.2 15 (by decide)
  have w_21 : s_2.2.2 19 = σ.2.2 19 := f_4.2.2 19 (by decide)
  refine fd_e_bd (s_X11_join_0 N hN _ iM) ?_
  rintro v_22 s_23 ⟨i_24, f_25, x_26⟩
  have t_27 : (s_23.1 1).toInt = (μ.1 1).toInt := congrArg Int32.toInt (f_25.1 1 (by decide))
  have t_28 : (s_23.1 2).toInt = (μ.1 2).toInt := congrArg Int32.toInt (f_25.1 2 (by decide))
  have t_29 : (s_23.1 4).toInt = (μ.1 4).toInt := congrArg Int32.toInt (f_25.1 4 (by decide))
  have t_30 : (s_23.1 3).toInt = (μ.1 3).toInt := congrArg Int32.toInt (f_25.1 3 (by decide))
  have t_31 : (s_23.1 12).toInt = (μ.1 12).toInt := congrArg Int32.toInt (f_25.1 12 (by decide))
  have t_32 : (s_23.1 13).toInt = (μ.1 13).toInt := congrArg Int32.toInt (f_25.1 13 (by decide))
  have t_33 : (s_23.1 14).toInt = (μ.1 14).toInt := congrArg Int32.toInt (f_25.1 14 (by decide))
  have t_34 : (s_23.1 5).toInt = (μ.1 5).toInt := congrArg Int32.toInt (f_25.1 5 (by decide))
  have w_35 : s_23.2.1 1 = μ.2.1 1 := f_25.2.1 1 (by decide)
  have w_36 : s_23.2.1 2 = μ.2.1 2 := f_25.2.1 2 (by decide)
  have w_37 : s_23.2.1 3 = μ.2.1 3 := f_25.2.1 3 (by decide)
  have w_38 : s_23.2.1 5 = μ.2.1 5 := f_25.2.1 5 (by decide)
  have w_39 : s_23.2.1 7 = μ.2.1 7 := f_25.2.1 7 (by decide)
  have w_40 : s_23.2.1 8 = μ.2.1 8 := f_25.2.1 8 (by decide)
  have w_41 : s_23.2.2 4 = μ.2.2 4 := f_25.2.2 4 (by decide)
  have w_42 : s_23.2.2 6 = μ.2.2 6 := f_25.2.2 6 (by decide)
  have e_43 : s_2.2.1 12 = s_23.2.1 1 := (w_14.trans rr0).trans w_35.symm
  have e_44 : s_2.2.1 13 = s_23.2.1 2 := (w_15.trans rr1).trans w_36.symm
  have e_45 : s_2.2.1 14 = s_23.2.1 3 := (w_16.trans rr2).trans w_37.symm
  have e_46 : s_2.2.1 18 = s_23.2.1 5 := (w_17.trans rr3).trans w_38.symm
  have e_47 : s_2.2.1 20 = s_23.2.1 7 := (w_18.trans rr4).trans w_39.symm
  have e_48 : s_2.2.1 21 = s_23.2.1 8 := (w_19.trans rr5).trans w_40.symm
  have e_49 : s_2.2.2 19 = s_23.2.2 6 := (w_21.trans rr6).trans w_42.symm
  have e_50 : fd_E (s_2.2.1 12) (s_2.2.1 13) (s_2.2.1 14) (s_2.2.2 15) (s_23.2.2 4) (s_2.1 1).toNatClampNeg := by
    have n1 : s_2.1 1 = σ.1 1 := Int32.toInt_inj.mp (by omega); rw [w_14, w_15, w_16, w_20, w_41, n1]; exact ex
  have e_51 : fd_Q (s_2.1 1) (s_2.1 5) (s_2.1 4) (s_2.2.1 20) (s_2.2.1 21) (s_2.2.1 18) := by
    have n1 : s_2.1 1 = σ.1 1 := Int32.toInt_inj.mp (by omega); have p5 : s_2.1 5 = σ.1 5 := Int32.toInt_inj.mp (by omega); have o4 : s_2.1 4 = σ.1 4 := Int32.toInt_inj.mp (by omega); rw [n1, p5, o4, w_18, w_19, w_17]; exact exq
  refine fd_e_lt (fun y_52 ey_52 => ?_)
  have t_53 := fd_la ey_52 (by omega) (by omega)
  have r_54 : fd_R s_2 s_23 := ⟨by omega, by omega, by omega, by omega, by omega, by omega, by omega, by omega, e_43, e_44, e_45, e_46, e_47, e_48, e_49, e_50, e_51⟩
  exact hK _ _ _ i_3 i_24 r_54 (by omega)
set_option maxHeartbeats 4000000 in
theorem u_c13 (N L : Nat) (hN : 1000 ≤ N) (hL : L ≤ 3072) (xs : Nat → Int32) (K : Int32 → fd_St → fd_St → Option Int32) (i : Int32) (σ μ : fd_St) (iC : fd_InvC σ) (iM : fd_InvM μ) (r : fd_R σ μ) (h0 : 0 ≤ i.toInt) (h1 : i.toInt + 6 ≤ (L : Int)) (hK : ∀ (j : Int32) (σ1 μ1 : fd_St), fd_InvC σ1 → fd_InvM μ1 → fd_R σ1 μ1 → j.toInt = i.toInt + 6 → K j σ1 μ1 = some 1) : f_law_c13 N L xs K i σ μ = some 1 := by
  have lit0 : (0 : Int32).toInt = 0 := by decide
  have lit6 : (6 : Int32).toInt = 6 := by decide
  obtain ⟨r0, r1, r2, r3, r4, r5, r6, r7, rr0, rr1, rr2, rr3, rr4, rr5, rr6, ex, exq⟩ := r
  have rg : (0 : Int) ≤ (σ.1 1).toInt ∧ (σ.1 1).toInt ≤ 200 := iC.1 1
  have rh : (0 : Int) ≤ (μ.1 4).toInt ∧ (μ.1 4).toInt ≤ 64 := iM.1 4
  have rp : (0 : Int) ≤ (σ.1 5).toInt ∧ (σ.1 5).toInt ≤ 40 := iC.1 5
  have ro : (0 : Int) ≤ (σ.1 4).toInt ∧ (σ.1 4).toInt ≤ 32 := iC.1 4
  unfold f_law_c13
  generalize xs (i + (1 : Int32)).toNatClampNeg = b1
  refine fd_e_gd (fd_gk h0 h1 hL (by decide)) ?_
  refine fd_e_bd (s_L_share_0_39 N hN _ _ iC) ?_
  rintro v_1 s_2 ⟨i_3, f_4, x_5⟩
  have t_6 : (s_2.1 1).toInt = (σ.1 1).toInt := congrArg Int32.toInt (f_4.1 1 (by decide))
  have t_7 : (s_2.1 2).toInt = (σ.1 2).toInt := congrArg Int32.toInt (f_4.1 2 (by decide))
  have t_8 : (s_2.1 3).toInt = (σ.1 3).toInt := congrArg Int32.toInt (f_4.1 3 (by decide))
  have t_9 : (s_2.1 4).toInt = (σ.1 4).toInt := congrArg Int32.toInt (f_4.1 4 (by decide))
  have t_10 : (s_2.1 16).toInt = (σ.1 16).toInt := congrArg Int32.toInt (f_4.1 16 (by decide))
  have t_11 : (s_2.1 17).toInt = (σ.1 17).toInt := congrArg Int32.toInt (f_4.1 17 (by decide))
  have t_12 : (s_2.1 18).toInt = (σ.1 18).toInt := congrArg Int32.toInt (f_4.1 18 (by decide))
  have t_13 : (s_2.1 5).toInt = (σ.1 5).toInt := congrArg Int32.toInt (f_4.1 5 (by decide))
  have w_14 : s_2.2.1 12 = σ.2.1 12 := f_4.2.1 12 (by decide)
  have w_15 : s_2.2.1 13 = σ.2.1 13 := f_4.2.1 13 (by decide)
  have w_16 : s_2.2.1 14 = σ.2.1 14 := f_4.2.1 14 (by decide)
  have w_17 : s_2.2.1 18 = σ.2.1 18 := f_4.2.1 18 (by decide)
  have w_18 : s_2.2.1 20 = σ.2.1 20 := f_4.2.1 20 (by decide)
  have w_19 : s_2.2.1 21 = σ.2.1 21 := f_4.2.1 21 (by decide)
  have w_20 : s_2.2.2 15 = σ.2.2 15 := f_4.2.2 15 (by decide)
  have w_21 : s_2.2.2 19 = σ.2.2 19 := f_4.2.2 19 (by decide)
  refine fd_e_gd (fd_gk h0 h1 hL (by decide)) ?_
  refine fd_e_bd (s_X11_share_0 N hN _ _ iM) ?_
  rintro v_22 s_23 ⟨i_24, f_25, x_26⟩
  have t_27 : (s_23.1 1).toInt = (μ.1 1).toInt := congrArg Int32.toInt (f_25.1 1 (by decide))
  have t_28 : (s_23.1 2).toInt = (μ.1 2).toInt := congrArg Int32.toInt (f_25.1 2 (by decide))
  have t_29 : (s_23.1 4).toInt = (μ.1 4).toInt := congrArg Int32.toInt (f_25.1 4 (by decide))
  have t_30 : (s_23.1 3).toInt = (μ.1 3).toInt := congrArg Int32.toInt (f_25.1 3 (by decide))
  have t_31 : (s_23.1 12).toInt = (μ.1 12).toInt := congrArg Int32.toInt (f_25.1 12 (by decide))
  have t_32 : (s_23.1 13).toInt = (μ.1 13).toInt := congrArg Int32.toInt (f_25.1 13 (by decide))
  have t_33 : (s_23.1 14).toInt = (μ.1 14).toInt := congrArg Int32.toInt (f_25.1 14 (by decide))
  have t_34 : (s_23.1 5).toInt = (μ.1 5).toInt := congrArg Int32.toInt (f_25.1 5 (by decide))
  have w_35 : s_23.2.1 1 = μ.2.1 1 := f_25.2.1 1 (by decide)
  have w_36 : s_23.2.1 2 = μ.2.1 2 := f_25.2.1 2 (by decide)
  have w_37 : s_23.2.1 3 = μ.2.1 3 := f_25.2.1 3 (by decide)
  have w_38 : s_23.2.1 5 = μ.2.1 5 := f_25.2.1 5 (by decide)
  have w_39 : s_23.2.1 7 = μ.2.1 7 := f_25.2.1 7 (by decide)
  have w_40 : s_23.2.1 8 = μ.2.1 8 := f_25.2.1 8 (by decide)
  have w_41 : s_23.2.2 4 = μ.2.2 4 := f_25.2.2 4 (by decide)
  have w_42 : s_23.2.2 6 = μ.2.2 6 := f_25.2.2 6 (by decide)
  have e_43 : s_2.2.1 12 = s_23.2.1 1 := (w_14.trans rr0).trans w_35.symm
  have e_44 : s_2.2.1 13 = s_23.2.1 2 := (w_15.trans rr1).trans w_36.symm
  have e_45 : s_2.2.1 14 = s_23.2.1 3 := (w_16.trans rr2).trans w_37.symm
  have e_46 : s_2.2.1 18 = s_23.2.1 5 := (w_17.trans rr3).trans w_38.symm
  have e_47 : s_2.2.1 20 = s_23.2.1 7 := (w_18.trans rr4).trans w_39.symm
  have e_48 : s_2.2.1 21 = s_23.2.1 8 := (w_19.trans rr5).trans w_40.symm
  have e_49 : s_2.2.2 19 = s_23.2.2 6 := (w_21.trans rr6).trans w_42.symm
  have e_50 : fd_E (s_2.2.1 12) (s_2.2.1 13) (s_2.2.1 14) (s_2.2.2 15) (s_23.2.2 4) (s_2.1 1).toNatClampNeg := by
    have n1 : s_2.1 1 = σ.1 1 := Int32.toInt_inj.mp (by omega); rw [w_14, w_15, w_16, w_20, w_41, n1]; exact ex
  have e_51 : fd_Q (s_2.1 1) (s_2.1 5) (s_2.1 4) (s_2.2.1 20) (s_2.2.1 21) (s_2.2.1 18) := by
    have n1 : s_2.1 1 = σ.1 1 := Int32.toInt_inj.mp (by omega); have p5 : s_2.1 5 = σ.1 5 := Int32.toInt_inj.mp (by omega); have o4 : s_2.1 4 = σ.1 4 := Int32.toInt_inj.mp (by omega); rw [n1, p5, o4, w_18, w_19, w_17]; exact exq
  refine fd_e_lt (fun y_52 ey_52 => ?_)
  have t_53 := fd_la ey_52 (by omega) (by omega)
  have r_54 : fd_R s_2 s_23 := ⟨by omega, by omega, by omega, by omega, by omega, by omega, by omega, by omega, e_43, e_44, e_45, e_46, e_47, e_48, e_49, e_50, e_51⟩
  exact hK _ _ _ i_3 i_24 r_54 (by omega)
set_option maxHeartbeats 4000000 in
theorem u_c14 (N L : Nat) (hN : 1000 ≤ N) (hL : L ≤ 3072) (xs : Nat → Int32) (K : Int32 → fd_St → fd_St → Option Int32) (i : Int32) (σ μ : fd_St) (iC : fd_InvC σ) (iM : fd_InvM μ) (r : fd_R σ μ) (h0 : 0 ≤ i.toInt) (h1 : i.toInt + 6 ≤ (L : Int)) (hK : ∀ (j : Int32) (σ1 μ1 : fd_St), fd_InvC σ1 → fd_InvM μ1 → fd_R σ1 μ1 → j.toInt = i.toInt + 6 → K j σ1 μ1 = some 1) : f_law_c14 N L xs K i σ μ = some 1 := by
  have lit0 : (0 : Int32).toInt = 0 := by decide
  have lit6 : (6 : Int32).toInt = 6 := by decide
  obtain ⟨r0, r1, r2, r3, r4, r5, r6, r7, rr0, rr1, rr2, rr3, rr4, rr5, rr6, ex, exq⟩ := r
  have rg : (0 : Int) ≤ (σ.1 1).toInt ∧ (σ.1 1).toInt ≤ 200 := iC.1 1
  have rh : (0 : Int) ≤ (μ.1 4).toInt ∧ (μ.1 4).toInt ≤ 64 := iM.1 4
  have rp : (0 : Int) ≤ (σ.1 5).toInt ∧ (σ.1 5).toInt ≤ 40 := iC.1 5
  have ro : (0 : Int) ≤ (σ.1 4).toInt ∧ (σ.1 4).toInt ≤ 32 := iC.1 4
  unfold f_law_c14
  generalize xs (i + (1 : Int32)).toNatClampNeg = b1
  refine fd_e_gd (fd_gk h0 h1 hL (by decide)) ?_
  refine fd_e_bd (s_L_chain_0 N hN _ _ iC) ?_
  rintro v_1 s_2 ⟨i_3, f_4, x_5⟩
  have t_6 : (s_2.1 1).toInt = (σ.1 1).toInt := congrArg Int32.toInt (f_4.1 1 (by decide))
  have t_7 : (s_2.1 2).toInt = (σ.1 2).toInt := congrArg Int32.toInt (f_4.1 2 (by decide))
  have t_8 : (s_2.1 3).toInt = (σ.1 3).toInt := congrArg Int32.toInt (f_4.1 3 (by decide))
  have t_9 : (s_2.1 4).toInt = (σ.1 4).toInt := congrArg Int32.toInt (f_4.1 4 (by decide))
  have t_10 : (s_2.1 18).toInt = (σ.1 18).toInt := congrArg Int32.toInt (f_4.1 18 (by decide))
  have t_11 : (s_2.1 5).toInt = (σ.1 5).toInt := congrArg Int32.toInt (f_4.1 5 (by decide))
  have w_12 : s_2.2.1 12 = σ.2.1 12 := f_4.2.1 12 (by decide)
  have w_13 : s_2.2.1 13 = σ.2.1 13 := f_4.2.1 13 (by decide)
  have w_14 : s_2.2.1 14 = σ.2.1 14 := f_4.2.1 14 (by decide)
  have w_15 : s_2.2.1 18 = σ.2.1 18 := f_4.2.1 18 (by decide)
  have w_16 : s_2.2.1 20 = σ.2.1 20 := f_4.2.1 20 (by decide)
  have w_17 : s_2.2.1 21 = σ.2.1 21 := f_4.2.1 21 (by decide)
  have w_18 : s_2.2.2 15 = σ.2.2 15 := f_4.2.2 15 (by decide)
  have w_19 : s_2.2.2 19 = σ.2.2 19 := f_4.2.2 19 (by decide)
  refine fd_e_gd (fd_gk h0 h1 hL (by decide)) ?_
  refine fd_e_bd (s_X11_chain_0 N hN _ _ iM) ?_
  rintro v_20 s_21 ⟨i_22, f_23, x_24⟩
  have t_25 : (s_21.1 1).toInt = (μ.1 1).toInt := congrArg Int32.toInt (f_23.1 1 (by decide))
  have t_26 : (s_21.1 2).toInt = (μ.1 2).toInt := congrArg Int32.toInt (f_23.1 2 (by decide))
  have t_27 : (s_21.1 4).toInt = (μ.1 4).toInt := congrArg Int32.toInt (f_23.1 4 (by decide))
  have t_28 : (s_21.1 3).toInt = (μ.1 3).toInt := congrArg Int32.toInt (f_23.1 3 (by decide))
  have t_29 : (s_21.1 14).toInt = (μ.1 14).toInt := congrArg Int32.toInt (f_23.1 14 (by decide))
  have t_30 : (s_21.1 5).toInt = (μ.1 5).toInt := congrArg Int32.toInt (f_23.1 5 (by decide))
  have w_31 : s_21.2.1 1 = μ.2.1 1 := f_23.2.1 1 (by decide)
  have w_32 : s_21.2.1 2 = μ.2.1 2 := f_23.2.1 2 (by decide)
  have w_33 : s_21.2.1 3 = μ.2.1 3 := f_23.2.1 3 (by decide)
  have w_34 : s_21.2.1 5 = μ.2.1 5 := f_23.2.1 5 (by decide)
  have w_35 : s_21.2.1 7 = μ.2.1 7 := f_23.2.1 7 (by decide)
  have w_36 : s_21.2.1 8 = μ.2.1 8 := f_23.2.1 8 (by decide)
  have w_37 : s_21.2.2 4 = μ.2.2 4 := f_23.2.2 4 (by decide)
  have w_38 : s_21.2.2 6 = μ.2.2 6 := f_23.2.2 6 (by decide)
  have e_39 : s_2.2.1 12 = s_21.2.1 1 := (w_12.trans rr0).trans w_31.symm
  have e_40 : s_2.2.1 13 = s_21.2.1 2 := (w_13.trans rr1).trans w_32.symm
  have e_41 : s_2.2.1 14 = s_21.2.1 3 := (w_14.trans rr2).trans w_33.symm
  have e_42 : s_2.2.1 18 = s_21.2.1 5 := (w_15.trans rr3).trans w_34.symm
  have e_43 : s_2.2.1 20 = s_21.2.1 7 := (w_16.trans rr4).trans w_35.symm
  have e_44 : s_2.2.1 21 = s_21.2.1 8 := (w_17.trans rr5).trans w_36.symm
  have e_45 : s_2.2.2 19 = s_21.2.2 6 := (w_19.trans rr6).trans w_38.symm
  have e_46 : fd_E (s_2.2.1 12) (s_2.2.1 13) (s_2.2.1 14) (s_2.2.2 15) (s_21.2.2 4) (s_2.1 1).toNatClampNeg := by
    have n1 : s_2.1 1 = σ.1 1 := Int32.toInt_inj.mp (by omega); rw [w_12, w_13, w_14, w_18, w_37, n1]; exact ex
  have e_47 : fd_Q (s_2.1 1) (s_2.1 5) (s_2.1 4) (s_2.2.1 20) (s_2.2.1 21) (s_2.2.1 18) := by
    have n1 : s_2.1 1 = σ.1 1 := Int32.toInt_inj.mp (by omega); have p5 : s_2.1 5 = σ.1 5 := Int32.toInt_inj.mp (by omega); have o4 : s_2.1 4 = σ.1 4 := Int32.toInt_inj.mp (by omega); rw [n1, p5, o4, w_16, w_17, w_15]; exact exq
  refine fd_e_lt (fun y_48 ey_48 => ?_)
  have t_49 := fd_la ey_48 (by omega) (by omega)
  have r_50 : fd_R s_2 s_21 := ⟨by omega, by omega, by omega, by omega, by omega, by omega, by omega, by omega, e_39, e_40, e_41, e_42, e_43, e_44, e_45, e_46, e_47⟩
  exact hK _ _ _ i_3 i_22 r_50 (by omega)
