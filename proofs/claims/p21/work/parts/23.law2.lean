set_option maxHeartbeats 4000000 in
theorem u_c15 (N L : Nat) (hN : 1000 ≤ N) (hL : L ≤ 3072) (xs : Nat → Int32) (K : Int32 → fd_St → fd_St → Option Int32) (i : Int32) (σ μ : fd_St) (iC : fd_InvC σ) (iM : fd_InvM μ) (r : fd_R σ μ) (h0 : 0 ≤ i.toInt) (h1 : i.toInt + 6 ≤ (L : Int)) (hK : ∀ (j : Int32) (σ1 μ1 : fd_St), fd_InvC σ1 → fd_InvM μ1 → fd_R σ1 μ1 → j.toInt = i.toInt + 6 → K j σ1 μ1 = some 1) : f_law_c15 N L xs K i σ μ = some 1 := by
  have lit0 : (0 : Int32).toInt = 0 := by decide
  have lit6 : (6 : Int32).toInt = 6 := by decide
  obtain ⟨r0, r1, r2, r3, r4, r5, r6, rr0, rr1, rr2, rr3, rr4, exs⟩ := r
  have rs : (0 : Int) ≤ (σ.1 18).toInt ∧ (σ.1 18).toInt ≤ 60 := iC.1 18
  unfold f_law_c15
  generalize xs (i + (1 : Int32)).toNatClampNeg = b1
  generalize xs (i + (2 : Int32)).toNatClampNeg = b2
  generalize xs (i + (3 : Int32)).toNatClampNeg = b3
  generalize xs (i + (4 : Int32)).toNatClampNeg = b4
  refine fd_e_gd (fd_gk h0 h1 hL (by decide)) ?_
  refine fd_e_gd (fd_gk h0 h1 hL (by decide)) ?_
  refine fd_e_gd (fd_gk h0 h1 hL (by decide)) ?_
  refine fd_e_gd (fd_gk h0 h1 hL (by decide)) ?_
  refine fd_e_bd (s_L_caught_0_39 N hN _ _ _ iC) ?_
  rintro v_1 s_2 ⟨i_3, f_4, x_5, y_6, y_7⟩
  have t_8 : (s_2.1 1).toInt = (σ.1 1).toInt := congrArg Int32.toInt (f_4.1 1 (by decide))
  have t_9 : (s_2.1 2).toInt = (σ.1 2).toInt := congrArg Int32.toInt (f_4.1 2 (by decide))
  have t_10 : (s_2.1 3).toInt = (σ.1 3).toInt := congrArg Int32.toInt (f_4.1 3 (by decide))
  have t_11 : (s_2.1 4).toInt = (σ.1 4).toInt := congrArg Int32.toInt (f_4.1 4 (by decide))
  have t_12 : (s_2.1 16).toInt = (σ.1 16).toInt := congrArg Int32.toInt (f_4.1 16 (by decide))
  have t_13 : (s_2.1 18).toInt = (σ.1 18).toInt := congrArg Int32.toInt (f_4.1 18 (by decide))
  have w_14 : s_2.2.1 32 = σ.2.1 32 := f_4.2.1 32 (by decide)
  have w_15 : s_2.2.1 33 = σ.2.1 33 := f_4.2.1 33 (by decide)
  have w_16 : s_2.2.1 34 = σ.2.1 34 := f_4.2.1 34 (by decide)
  have w_17 : s_2.2.1 35 = σ.2.1 35 := f_4.2.1 35 (by decide)
  have w_18 : s_2.2.1 36 = σ.2.1 36 := f_4.2.1 36 (by decide)
  refine fd_e_gd (fd_gk h0 h1 hL (by decide)) ?_
  refine fd_e_gd (fd_gk h0 h1 hL (by decide)) ?_
  refine fd_e_gd (fd_gk h0 h1 hL (by decide)) ?_
  refine fd_e_gd (fd_gk h0 h1 hL (by decide)) ?_
  refine fd_e_bd (s_X11_caught_0 N hN _ _ _ iM) ?_
  rintro v_19 s_20 ⟨i_21, f_22, x_23, y_24, y_25⟩
  have t_26 : (s_20.1 1).toInt = (μ.1 1).toInt := congrArg Int32.toInt (f_22.1 1 (by decide))
  have t_27 : (s_20.1 2).toInt = (μ.1 2).toInt := congrArg Int32.toInt (f_22.1 2 (by decide))
  have t_28 : (s_20.1 4).toInt = (μ.1 4).toInt := congrArg Int32.toInt (f_22.1 4 (by decide))
  have t_29 : (s_20.1 3).toInt = (μ.1 3).toInt := congrArg Int32.toInt (f_22.1 3 (by decide))
  have t_30 : (s_20.1 12).toInt = (μ.1 12).toInt := congrArg Int32.toInt (f_22.1 12 (by decide))
  have t_31 : (s_20.1 14).toInt = (μ.1 14).toInt := congrArg Int32.toInt (f_22.1 14 (by decide))
  have w_32 : s_20.2.1 22 = μ.2.1 22 := f_22.2.1 22 (by decide)
  have w_33 : s_20.2.1 23 = μ.2.1 23 := f_22.2.1 23 (by decide)
  have w_34 : s_20.2.1 24 = μ.2.1 24 := f_22.2.1 24 (by decide)
  have w_35 : s_20.2.1 25 = μ.2.1 25 := f_22.2.1 25 (by decide)
  have w_36 : s_20.2.1 26 = μ.2.1 26 := f_22.2.1 26 (by decide)
  have e_37 : s_2.2.1 32 = s_20.2.1 22 := (w_14.trans rr0).trans w_32.symm
  have e_38 : s_2.2.1 33 = s_20.2.1 23 := (w_15.trans rr1).trans w_33.symm
  have e_39 : s_2.2.1 34 = s_20.2.1 24 := (w_16.trans rr2).trans w_34.symm
  have e_40 : s_2.2.1 35 = s_20.2.1 25 := (w_17.trans rr3).trans w_35.symm
  have e_41 : s_2.2.1 36 = s_20.2.1 26 := (w_18.trans rr4).trans w_36.symm
  have e_42 : fd_Sh (s_2.2.1 33) (s_2.2.1 34) (s_2.2.1 35) (s_2.2.1 36) (s_2.1 18).toNatClampNeg := by
    have n8 : s_2.1 18 = σ.1 18 := Int32.toInt_inj.mp (by omega); rw [w_15, w_16, w_17, w_18, n8]; exact exs
  refine fd_e_lt (fun y_43 ey_43 => ?_)
  have t_44 := fd_la ey_43 (by omega) (by omega)
  have r_45 : fd_R s_2 s_20 := ⟨by omega, by omega, by omega, by omega, by omega, by omega, by omega, e_37, e_38, e_39, e_40, e_41, e_42⟩
  exact hK _ _ _ i_3 i_21 r_45 (by omega)
set_option maxHeartbeats 4000000 in
theorem u_c16 (N L : Nat) (hN : 1000 ≤ N) (hL : L ≤ 3072) (xs : Nat → Int32) (K : Int32 → fd_St → fd_St → Option Int32) (i : Int32) (σ μ : fd_St) (iC : fd_InvC σ) (iM : fd_InvM μ) (r : fd_R σ μ) (h0 : 0 ≤ i.toInt) (h1 : i.toInt + 6 ≤ (L : Int)) (hK : ∀ (j : Int32) (σ1 μ1 : fd_St), fd_InvC σ1 → fd_InvM μ1 → fd_R σ1 μ1 → j.toInt = i.toInt + 6 → K j σ1 μ1 = some 1) : f_law_c16 N L xs K i σ μ = some 1 := by
  have lit0 : (0 : Int32).toInt = 0 := by decide
  have lit6 : (6 : Int32).toInt = 6 := by decide
  obtain ⟨r0, r1, r2, r3, r4, r5, r6, rr0, rr1, rr2, rr3, rr4, exs⟩ := r
  have rs : (0 : Int) ≤ (σ.1 18).toInt ∧ (σ.1 18).toInt ≤ 60 := iC.1 18
  unfold f_law_c16
  generalize xs (i + (1 : Int32)).toNatClampNeg = b1
  generalize xs (i + (2 : Int32)).toNatClampNeg = b2
  refine fd_e_gd (fd_gk h0 h1 hL (by decide)) ?_
  refine fd_e_gd (fd_gk h0 h1 hL (by decide)) ?_
  refine fd_e_bd (s_L_span_0_39 N hN _ _ _ iC) ?_
  rintro v_1 s_2 ⟨i_3, f_4, x_5, y_6⟩
  have t_7 : (s_2.1 1).toInt = (σ.1 1).toInt := congrArg Int32.toInt (f_4.1 1 (by decide))
  have t_8 : (s_2.1 2).toInt = (σ.1 2).toInt := congrArg Int32.toInt (f_4.1 2 (by decide))
  have t_9 : (s_2.1 3).toInt = (σ.1 3).toInt := congrArg Int32.toInt (f_4.1 3 (by decide))
  have t_10 : (s_2.1 4).toInt = (σ.1 4).toInt := congrArg Int32.toInt (f_4.1 4 (by decide))
  have t_11 : (s_2.1 16).toInt = (σ.1 16).toInt := congrArg Int32.toInt (f_4.1 16 (by decide))
  have t_12 : (s_2.1 17).toInt = (σ.1 17).toInt := congrArg Int32.toInt (f_4.1 17 (by decide))
  have t_13 : (s_2.1 18).toInt = (σ.1 18).toInt := congrArg Int32.toInt (f_4.1 18 (by decide))
  have w_14 : s_2.2.1 32 = σ.2.1 32 := f_4.2.1 32 (by decide)
  have w_15 : s_2.2.1 33 = σ.2.1 33 := f_4.2.1 33 (by decide)
  have w_16 : s_2.2.1 34 = σ.2.1 34 := f_4.2.1 34 (by decide)
  have w_17 : s_2.2.1 35 = σ.2.1 35 := f_4.2.1 35 (by decide)
  have w_18 : s_2.2.1 36 = σ.2.1 36 := f_4.2.1 36 (by decide)
  refine fd_e_gd (fd_gk h0 h1 hL (by decide)) ?_
  refine fd_e_gd (fd_gk h0 h1 hL (by decide)) ?_
  refine fd_e_bd (s_X11_span_0 N hN _ _ _ iM) ?_
  rintro v_19 s_20 ⟨i_21, f_22, x_23, y_24⟩
  have t_25 : (s_20.1 1).toInt = (μ.1 1).toInt := congrArg Int32.toInt (f_22.1 1 (by decide))
  have t_26 : (s_20.1 2).toInt = (μ.1 2).toInt := congrArg Int32.toInt (f_22.1 2 (by decide))
  have t_27 : (s_20.1 4).toInt = (μ.1 4).toInt := congrArg Int32.toInt (f_22.1 4 (by decide))
  have t_28 : (s_20.1 3).toInt = (μ.1 3).toInt := congrArg Int32.toInt (f_22.1 3 (by decide))
  have t_29 : (s_20.1 12).toInt = (μ.1 12).toInt := congrArg Int32.toInt (f_22.1 12 (by decide))
  have t_30 : (s_20.1 13).toInt = (μ.1 13).toInt := congrArg Int32.toInt (f_22.1 13 (by decide))
  have t_31 : (s_20.1 14).toInt = (μ.1 14).toInt := congrArg Int32.toInt (f_22.1 14 (by decide))
  have w_32 : s_20.2.1 22 = μ.2.1 22 := f_22.2.1 22 (by decide)
  have w_33 : s_20.2.1 23 = μ.2.1 23 := f_22.2.1 23 (by decide)
  have w_34 : s_20.2.1 24 = μ.2.1 24 := f_22.2.1 24 (by decide)
  have w_35 : s_20.2.1 25 = μ.2.1 25 := f_22.2.1 25 (by decide)
  have w_36 : s_20.2.1 26 = μ.2.1 26 := f_22.2.1 26 (by decide)
  have e_37 : s_2.2.1 32 = s_20.2.1 22 := (w_14.trans rr0).trans w_32.symm
  have e_38 : s_2.2.1 33 = s_20.2.1 23 := (w_15.trans rr1).trans w_33.symm
  have e_39 : s_2.2.1 34 = s_20.2.1 24 := (w_16.trans rr2).trans w_34.symm
  have e_40 : s_2.2.1 35 = s_20.2.1 25 := (w_17.trans rr3).trans w_35.symm
  have e_41 : s_2.2.1 36 = s_20.2.1 26 := (w_18.trans rr4).trans w_36.symm
  have e_42 : fd_Sh (s_2.2.1 33) (s_2.2.1 34) (s_2.2.1 35) (s_2.2.1 36) (s_2.1 18).toNatClampNeg := by
    have n8 : s_2.1 18 = σ.1 18 := Int32.toInt_inj.mp (by omega); rw [w_15, w_16, w_17, w_18, n8]; exact exs
  refine fd_e_lt (fun y_43 ey_43 => ?_)
  have t_44 := fd_la ey_43 (by omega) (by omega)
  have r_45 : fd_R s_2 s_20 := ⟨by omega, by omega, by omega, by omega, by omega, by omega, by omega, e_37, e_38, e_39, e_40, e_41, e_42⟩
  exact hK _ _ _ i_3 i_21 r_45 (by omega)
set_option maxHeartbeats 4000000 in
theorem u_c17 (N L : Nat) (hN : 1000 ≤ N) (hL : L ≤ 3072) (xs : Nat → Int32) (K : Int32 → fd_St → fd_St → Option Int32) (i : Int32) (σ μ : fd_St) (iC : fd_InvC σ) (iM : fd_InvM μ) (r : fd_R σ μ) (h0 : 0 ≤ i.toInt) (h1 : i.toInt + 6 ≤ (L : Int)) (hK : ∀ (j : Int32) (σ1 μ1 : fd_St), fd_InvC σ1 → fd_InvM μ1 → fd_R σ1 μ1 → j.toInt = i.toInt + 6 → K j σ1 μ1 = some 1) : f_law_c17 N L xs K i σ μ = some 1 := by
  have lit0 : (0 : Int32).toInt = 0 := by decide
  have lit6 : (6 : Int32).toInt = 6 := by decide
  obtain ⟨r0, r1, r2, r3, r4, r5, r6, rr0, rr1, rr2, rr3, rr4, exs⟩ := r
  have rs : (0 : Int) ≤ (σ.1 18).toInt ∧ (σ.1 18).toInt ≤ 60 := iC.1 18
  unfold f_law_c17
  generalize xs (i + (1 : Int32)).toNatClampNeg = b1
  generalize xs (i + (2 : Int32)).toNatClampNeg = b2
  generalize xs (i + (3 : Int32)).toNatClampNeg = b3
  generalize xs (i + (4 : Int32)).toNatClampNeg = b4
  generalize xs (i + (5 : Int32)).toNatClampNeg = b5
  refine fd_e_gd (fd_gk h0 h1 hL (by decide)) ?_
  refine fd_e_gd (fd_gk h0 h1 hL (by decide)) ?_
  refine fd_e_gd (fd_gk h0 h1 hL (by decide)) ?_
  refine fd_e_gd (fd_gk h0 h1 hL (by decide)) ?_
  refine fd_e_gd (fd_gk h0 h1 hL (by decide)) ?_
  refine fd_e_bd (s_L_shape_0_39 N hN _ _ _ _ _ _ iC) ?_
  rintro v_1 s_2 ⟨i_3, f_4, x_5, y_6, y_7, y_8, y_9, y_10, y_11⟩
  have t_12 : (s_2.1 1).toInt = (σ.1 1).toInt := congrArg Int32.toInt (f_4.1 1 (by decide))
  have t_13 : (s_2.1 2).toInt = (σ.1 2).toInt := congrArg Int32.toInt (f_4.1 2 (by decide))
  have t_14 : (s_2.1 3).toInt = (σ.1 3).toInt := congrArg Int32.toInt (f_4.1 3 (by decide))
  have t_15 : (s_2.1 4).toInt = (σ.1 4).toInt := congrArg Int32.toInt (f_4.1 4 (by decide))
  have t_16 : (s_2.1 16).toInt = (σ.1 16).toInt := congrArg Int32.toInt (f_4.1 16 (by decide))
  have t_17 : (s_2.1 17).toInt = (σ.1 17).toInt := congrArg Int32.toInt (f_4.1 17 (by decide))
  refine fd_e_gd (fd_gk h0 h1 hL (by decide)) ?_
  refine fd_e_gd (fd_gk h0 h1 hL (by decide)) ?_
  refine fd_e_gd (fd_gk h0 h1 hL (by decide)) ?_
  refine fd_e_gd (fd_gk h0 h1 hL (by decide)) ?_
  refine fd_e_gd (fd_gk h0 h1 hL (by decide)) ?_
  refine fd_e_bd (s_X11_shape_0 N hN _ _ _ _ _ _ iM) ?_
  rintro v_18 s_19 ⟨i_20, f_21, x_22, y_23, y_24, y_25, y_26, y_27, y_28⟩
  have t_29 : (s_19.1 1).toInt = (μ.1 1).toInt := congrArg Int32.toInt (f_21.1 1 (by decide))
  have t_30 : (s_19.1 2).toInt = (μ.1 2).toInt := congrArg Int32.toInt (f_21.1 2 (by decide))
  have t_31 : (s_19.1 4).toInt = (μ.1 4).toInt := congrArg Int32.toInt (f_21.1 4 (by decide))
  have t_32 : (s_19.1 3).toInt = (μ.1 3).toInt := congrArg Int32.toInt (f_21.1 3 (by decide))
  have t_33 : (s_19.1 12).toInt = (μ.1 12).toInt := congrArg Int32.toInt (f_21.1 12 (by decide))
  have t_34 : (s_19.1 13).toInt = (μ.1 13).toInt := congrArg Int32.toInt (f_21.1 13 (by decide))
  have e_35 : s_2.2.1 32 = s_19.2.1 22 := by
    by_cases z : v_1.toInt = 0
    · obtain ⟨j, w, q, e⟩ := (fd_un y_6).2 z; obtain ⟨j1, w1, q1, e1⟩ := (fd_un y_23).2 (by omega); have ej : j = j1 := Int32.toInt_inj.mp (by omega); have ew : w = w1 := Int32.toInt_inj.mp (by omega); rw [e, e1, ej, ew, rr0]
    · rw [(fd_un y_6).1 z, (fd_un y_23).1 (by omega), rr0]
  have e_36 : s_2.2.1 33 = s_19.2.1 23 := by
    by_cases z : v_1.toInt = 0
    · obtain ⟨j, w, q, e⟩ := (fd_un y_7).2 z; obtain ⟨j1, w1, q1, e1⟩ := (fd_un y_24).2 (by omega); have ej : j = j1 := Int32.toInt_inj.mp (by omega); have ew : w = w1 := Int32.toInt_inj.mp (by omega); rw [e, e1, ej, ew, rr1]
    · rw [(fd_un y_7).1 z, (fd_un y_24).1 (by omega), rr1]
  have e_37 : s_2.2.1 34 = s_19.2.1 24 := by
    by_cases z : v_1.toInt = 0
    · obtain ⟨j, w, q, e⟩ := (fd_un y_8).2 z; obtain ⟨j1, w1, q1, e1⟩ := (fd_un y_25).2 (by omega); have ej : j = j1 := Int32.toInt_inj.mp (by omega); have ew : w = w1 := Int32.toInt_inj.mp (by omega); rw [e, e1, ej, ew, rr2]
    · rw [(fd_un y_8).1 z, (fd_un y_25).1 (by omega), rr2]
  have e_38 : s_2.2.1 35 = s_19.2.1 25 := by
    by_cases z : v_1.toInt = 0
    · obtain ⟨j, w, q, e⟩ := (fd_un y_9).2 z; obtain ⟨j1, w1, q1, e1⟩ := (fd_un y_26).2 (by omega); have ej : j = j1 := Int32.toInt_inj.mp (by omega); have ew : w = w1 := Int32.toInt_inj.mp (by omega); rw [e, e1, ej, ew, rr3]
    · rw [(fd_un y_9).1 z, (fd_un y_26).1 (by omega), rr3]
  have e_39 : s_2.2.1 36 = s_19.2.1 26 := by
    by_cases z : v_1.toInt = 0
    · obtain ⟨j, w, q, e⟩ := (fd_un y_10).2 z; obtain ⟨j1, w1, q1, e1⟩ := (fd_un y_27).2 (by omega); have ej : j = j1 := Int32.toInt_inj.mp (by omega); have ew : w = w1 := Int32.toInt_inj.mp (by omega); rw [e, e1, ej, ew, rr4]
    · rw [(fd_un y_10).1 z, (fd_un y_27).1 (by omega), rr4]
  have e_40 : fd_Sh (s_2.2.1 33) (s_2.2.1 34) (s_2.2.1 35) (s_2.2.1 36) (s_2.1 18).toNatClampNeg := by
    by_cases z : v_1.toInt = 0
    · obtain ⟨j1, w1, q1, e1⟩ := (fd_un y_7).2 z; obtain ⟨j2, w2, q2, e2⟩ := (fd_un y_8).2 z; obtain ⟨j3, w3, q3, e3⟩ := (fd_un y_9).2 z; obtain ⟨j4, w4, q4, e4⟩ := (fd_un y_10).2 z
      exact fd_Sh_s exs (by omega) (by omega) q1.1 e1 q2.1 e2 q3.1 e3 q4.1 e4 (by omega)
    · have n8 : s_2.1 18 = σ.1 18 := Int32.toInt_inj.mp (by omega); rw [(fd_un y_7).1 z, (fd_un y_8).1 z, (fd_un y_9).1 z, (fd_un y_10).1 z, n8]; exact exs
  refine fd_e_lt (fun y_41 ey_41 => ?_)
  have t_42 := fd_la ey_41 (by omega) (by omega)
  have r_43 : fd_R s_2 s_19 := ⟨by omega, by omega, by omega, by omega, by omega, by omega, by omega, e_35, e_36, e_37, e_38, e_39, e_40⟩
  exact hK _ _ _ i_3 i_20 r_43 (by omega)
set_option maxHeartbeats 4000000 in
theorem u_c18 (N L : Nat) (hN : 1000 ≤ N) (hL : L ≤ 3072) (xs : Nat → Int32) (K : Int32 → fd_St → fd_St → Option Int32) (i : Int32) (σ μ : fd_St) (iC : fd_InvC σ) (iM : fd_InvM μ) (r : fd_R σ μ) (h0 : 0 ≤ i.toInt) (h1 : i.toInt + 6 ≤ (L : Int)) (hK : ∀ (j : Int32) (σ1 μ1 : fd_St), fd_InvC σ1 → fd_InvM μ1 → fd_R σ1 μ1 → j.toInt = i.toInt + 6 → K j σ1 μ1 = some 1) : f_law_c18 N L xs K i σ μ = some 1 := by
  have lit0 : (0 : Int32).toInt = 0 := by decide
  have lit6 : (6 : Int32).toInt = 6 := by decide
  obtain ⟨r0, r1, r2, r3, r4, r5, r6, rr0, rr1, rr2, rr3, rr4, exs⟩ := r
  have rs : (0 : Int) ≤ (σ.1 18).toInt ∧ (σ.1 18).toInt ≤ 60 := iC.1 18
  unfold f_law_c18
  generalize xs (i + (1 : Int32)).toNatClampNeg = b1
  generalize xs (i + (2 : Int32)).toNatClampNeg = b2
  refine fd_e_gd (fd_gk h0 h1 hL (by decide)) ?_
  refine fd_e_gd (fd_gk h0 h1 hL (by decide)) ?_
  refine fd_e_bd (s_L_area_0_39 N hN _ _ _ iC) ?_
  rintro v_1 s_2 ⟨i_3, f_4, x_5, y_6⟩
  have t_7 : (s_2.1 1).toInt = (σ.1 1).toInt := congrArg Int32.toInt (f_4.1 1 (by decide))
  have t_8 : (s_2.1 2).toInt = (σ.1 2).toInt := congrArg Int32.toInt (f_4.1 2 (by decide))
  have t_9 : (s_2.1 3).toInt = (σ.1 3).toInt := congrArg Int32.toInt (f_4.1 3 (by decide))
  have t_10 : (s_2.1 4).toInt = (σ.1 4).toInt := congrArg Int32.toInt (f_4.1 4 (by decide))
  have t_11 : (s_2.1 16).toInt = (σ.1 16).toInt := congrArg Int32.toInt (f_4.1 16 (by decide))
  have t_12 : (s_2.1 17).toInt = (σ.1 17).toInt := congrArg Int32.toInt (f_4.1 17 (by decide))
  have t_13 : (s_2.1 18).toInt = (σ.1 18).toInt := congrArg Int32.toInt (f_4.1 18 (by decide))
  have w_14 : s_2.2.1 32 = σ.2.1 32 := f_4.2.1 32 (by decide)
  have w_15 : s_2.2.1 33 = σ.2.1 33 := f_4.2.1 33 (by decide)
  have w_16 : s_2.2.1 34 = σ.2.1 34 := f_4.2.1 34 (by decide)
  have w_17 : s_2.2.1 35 = σ.2.1 35 := f_4.2.1 35 (by decide)
  have w_18 : s_2.2.1 36 = σ.2.1 36 := f_4.2.1 36 (by decide)
  refine fd_e_gd (fd_gk h0 h1 hL (by decide)) ?_
  refine fd_e_gd (fd_gk h0 h1 hL (by decide)) ?_
  refine fd_e_bd (s_X11_area_0 N hN _ _ _ iM) ?_
  rintro v_19 s_20 ⟨i_21, f_22, x_23, y_24⟩
  have t_25 : (s_20.1 1).toInt = (μ.1 1).toInt := congrArg Int32.toInt (f_22.1 1 (by decide))
  have t_26 : (s_20.1 2).toInt = (μ.1 2).toInt := congrArg Int32.toInt (f_22.1 2 (by decide))
  have t_27 : (s_20.1 4).toInt = (μ.1 4).toInt := congrArg Int32.toInt (f_22.1 4 (by decide))
  have t_28 : (s_20.1 3).toInt = (μ.1 3).toInt := congrArg Int32.toInt (f_22.1 3 (by decide))
  have t_29 : (s_20.1 12).toInt = (μ.1 12).toInt := congrArg Int32.toInt (f_22.1 12 (by decide))
  have t_30 : (s_20.1 13).toInt = (μ.1 13).toInt := congrArg Int32.toInt (f_22.1 13 (by decide))
  have t_31 : (s_20.1 14).toInt = (μ.1 14).toInt := congrArg Int32.toInt (f_22.1 14 (by decide))
  have w_32 : s_20.2.1 22 = μ.2.1 22 := f_22.2.1 22 (by decide)
  have w_33 : s_20.2.1 23 = μ.2.1 23 := f_22.2.1 23 (by decide)
  have w_34 : s_20.2.1 24 = μ.2.1 24 := f_22.2.1 24 (by decide)
  have w_35 : s_20.2.1 25 = μ.2.1 25 := f_22.2.1 25 (by decide)
  have w_36 : s_20.2.1 26 = μ.2.1 26 := f_22.2.1 26 (by decide)
  have e_37 : s_2.2.1 32 = s_20.2.1 22 := (w_14.trans rr0).trans w_32.symm
  have e_38 : s_2.2.1 33 = s_20.2.1 23 := (w_15.trans rr1).trans w_33.symm
  have e_39 : s_2.2.1 34 = s_20.2.1 24 := (w_16.trans rr2).trans w_34.symm
  have e_40 : s_2.2.1 35 = s_20.2.1 25 := (w_17.trans rr3).trans w_35.symm
  have e_41 : s_2.2.1 36 = s_20.2.1 26 := (w_18.trans rr4).trans w_36.symm
  have e_42 : fd_Sh (s_2.2.1 33) (s_2.2.1 34) (s_2.2.1 35) (s_2.2.1 36) (s_2.1 18).toNatClampNeg := by
    have n8 : s_2.1 18 = σ.1 18 := Int32.toInt_inj.mp (by omega); rw [w_15, w_16, w_17, w_18, n8]; exact exs
  refine fd_e_lt (fun y_43 ey_43 => ?_)
  have t_44 := fd_la ey_43 (by omega) (by omega)
  have r_45 : fd_R s_2 s_20 := ⟨by omega, by omega, by omega, by omega, by omega, by omega, by omega, e_37, e_38, e_39, e_40, e_41, e_42⟩
  exact hK _ _ _ i_3 i_21 r_45 (by omega)
set_option maxHeartbeats 4000000 in
theorem u_c19 (N L : Nat) (hN : 1000 ≤ N) (hL : L ≤ 3072) (xs : Nat → Int32) (K : Int32 → fd_St → fd_St → Option Int32) (i : Int32) (σ μ : fd_St) (iC : fd_InvC σ) (iM : fd_InvM μ) (r : fd_R σ μ) (h0 : 0 ≤ i.toInt) (h1 : i.toInt + 6 ≤ (L : Int)) (hK : ∀ (j : Int32) (σ1 μ1 : fd_St), fd_InvC σ1 → fd_InvM μ1 → fd_R σ1 μ1 → j.toInt = i.toInt + 6 → K j σ1 μ1 = some 1) : f_law_c19 N L xs K i σ μ = some 1 := by
  have lit0 : (0 : Int32).toInt = 0 := by decide
  have lit6 : (6 : Int32).toInt = 6 := by decide
  obtain ⟨r0, r1, r2, r3, r4, r5, r6, rr0, rr1, rr2, rr3, rr4, exs⟩ := r
  have rs : (0 : Int) ≤ (σ.1 18).toInt ∧ (σ.1 18).toInt ≤ 60 := iC.1 18
  unfold f_law_c19
  generalize xs (i + (1 : Int32)).toNatClampNeg = b1
  generalize xs (i + (2 : Int32)).toNatClampNeg = b2
  generalize xs (i + (3 : Int32)).toNatClampNeg = b3
  refine fd_e_gd (fd_gk h0 h1 hL (by decide)) ?_
  refine fd_e_gd (fd_gk h0 h1 hL (by decide)) ?_
  refine fd_e_gd (fd_gk h0 h1 hL (by decide)) ?_
  refine fd_e_bd (s_L_common_0_39 N hN _ _ _ _ iC) ?_
  rintro v_1 s_2 ⟨i_3, f_4, x_5, y_6⟩
  have t_7 : (s_2.1 1).toInt = (σ.1 1).toInt := congrArg Int32.toInt (f_4.1 1 (by decide))
  have t_8 : (s_2.1 2).toInt = (σ.1 2).toInt := congrArg Int32.toInt (f_4.1 2 (by decide))
  have t_9 : (s_2.1 3).toInt = (σ.1 3).toInt := congrArg Int32.toInt (f_4.1 3 (by decide))
  have t_10 : (s_2.1 4).toInt = (σ.1 4).toInt := congrArg Int32.toInt (f_4.1 4 (by decide))
  have t_11 : (s_2.1 16).toInt = (σ.1 16).toInt := congrArg Int32.toInt (f_4.1 16 (by decide))
  have t_12 : (s_2.1 17).toInt = (σ.1 17).toInt := congrArg Int32.toInt (f_4.1 17 (by decide))
  have t_13 : (s_2.1 18).toInt = (σ.1 18).toInt := congrArg Int32.toInt (f_4.1 18 (by decide))
  have w_14 : s_2.2.1 32 = σ.2.1 32 := f_4.2.1 32 (by decide)
  have w_15 : s_2.2.1 33 = σ.2.1 33 := f_4.2.1 33 (by decide)
  have w_16 : s_2.2.1 34 = σ.2.1 34 := f_4.2.1 34 (by decide)
  have w_17 : s_2.2.1 35 = σ.2.1 35 := f_4.2.1 35 (by decide)
  have w_18 : s_2.2.1 36 = σ.2.1 36 := f_4.2.1 36 (by decide)
  refine fd_e_gd (fd_gk h0 h1 hL (by decide)) ?_
  refine fd_e_gd (fd_gk h0 h1 hL (by decide)) ?_
  refine fd_e_gd (fd_gk h0 h1 hL (by decide)) ?_
  refine fd_e_bd (s_X11_common_0 N hN _ _ _ _ iM) ?_
  rintro v_19 s_20 ⟨i_21, f_22, x_23, y_24⟩
  have t_25 : (s_20.1 1).toInt = (μ.1 1).toInt := congrArg Int32.toInt (f_22.1 1 (by decide))
  have t_26 : (s_20.1 2).toInt = (μ.1 2).toInt := congrArg Int32.toInt (f_22.1 2 (by decide))
  have t_27 : (s_20.1 4).toInt = (μ.1 4).toInt := congrArg Int32.toInt (f_22.1 4 (by decide))
  have t_28 : (s_20.1 3).toInt = (μ.1 3).toInt := congrArg Int32.toInt (f_22.1 3 (by decide))
  have t_29 : (s_20.1 12).toInt = (μ.1 12).toInt := congrArg Int32.toInt (f_22.1 12 (by decide))
  have t_30 : (s_20.1 13).toInt = (μ.1 13).toInt := congrArg Int32.toInt (f_22.1 13 (by decide))
  have t_31 : (s_20.1 14).toInt = (μ.1 14).toInt := congrArg Int32.toInt (f_22.1 14 (by decide))
  have w_32 : s_20.2.1 22 = μ.2.1 22 := f_22.2.1 22 (by decide)
  have w_33 : s_20.2.1 23 = μ.2.1 23 := f_22.2.1 23 (by decide)
  have w_34 : s_20.2.1 24 = μ.2.1 24 := f_22.2.1 24 (by decide)
  have w_35 : s_20.2.1 25 = μ.2.1 25 := f_22.2.1 25 (by decide)
  have w_36 : s_20.2.1 26 = μ.2.1 26 := f_22.2.1 26 (by decide)
  have e_37 : s_2.2.1 32 = s_20.2.1 22 := (w_14.trans rr0).trans w_32.symm
  have e_38 : s_2.2.1 33 = s_20.2.1 23 := (w_15.trans rr1).trans w_33.symm
  have e_39 : s_2.2.1 34 = s_20.2.1 24 := (w_16.trans rr2).trans w_34.symm
  have e_40 : s_2.2.1 35 = s_20.2.1 25 := (w_17.trans rr3).trans w_35.symm
  have e_41 : s_2.2.1 36 = s_20.2.1 26 := (w_18.trans rr4).trans w_36.symm
  have e_42 : fd_Sh (s_2.2.1 33) (s_2.2.1 34) (s_2.2.1 35) (s_2.2.1 36) (s_2.1 18).toNatClampNeg := by
    have n8 : s_2.1 18 = σ.1 18 := Int32.toInt_inj.mp (by omega); rw [w_15, w_16, w_17, w_18, n8]; exact exs
  refine fd_e_th ?_
  refine fd_e_itp (Int32.toInt_inj.mp (by omega)) ?_
  refine fd_e_ite (fun c_43 => ?_) (fun c_43 => ?_)
  ·
    have d_44 := congrArg Int32.toInt c_43
    refine fd_e_gd (by unfold vp_in; decide) ?_
    have o1 := (fd_un y_6) (by omega) exs
    have en : σ.1 18 = μ.1 14 := Int32.toInt_inj.mp (by omega)
    have o2 := (fd_un y_24) (by omega) (by rw [← rr1, ← rr2, ← rr3, ← rr4, ← en]; exact exs)
    rw [← rr0, ← rr1, ← rr2, ← rr3, ← rr4, ← en] at o2
    refine fd_e_itp (fd_lg (o1.trans o2.symm)) ?_
    refine fd_e_lt (fun y_45 ey_45 => ?_)
    have t_46 := fd_la ey_45 (by omega) (by omega)
    have r_47 : fd_R s_2 s_20 := ⟨by omega, by omega, by omega, by omega, by omega, by omega, by omega, e_37, e_38, e_39, e_40, e_41, e_42⟩
    exact hK _ _ _ i_3 i_21 r_47 (by omega)
  ·
    refine fd_e_lt (fun y_48 ey_48 => ?_)
    have t_49 := fd_la ey_48 (by omega) (by omega)
    have r_50 : fd_R s_2 s_20 := ⟨by omega, by omega, by omega, by omega, by omega, by omega, by omega, e_37, e_38, e_39, e_40, e_41, e_42⟩
    exact hK _ _ _ i_3 i_21 r_50 (by omega)
set_option maxHeartbeats 4000000 in
theorem u_c20 (N L : Nat) (hN : 1000 ≤ N) (hL : L ≤ 3072) (xs : Nat → Int32) (K : Int32 → fd_St → fd_St → Option Int32) (i : Int32) (σ μ : fd_St) (iC : fd_InvC σ) (iM : fd_InvM μ) (r : fd_R σ μ) (h0 : 0 ≤ i.toInt) (h1 : i.toInt + 6 ≤ (L : Int)) (hK : ∀ (j : Int32) (σ1 μ1 : fd_St), fd_InvC σ1 → fd_InvM μ1 → fd_R σ1 μ1 → j.toInt = i.toInt + 6 → K j σ1 μ1 = some 1) : f_law_c20 N L xs K i σ μ = some 1 := by
  have lit0 : (0 : Int32).toInt = 0 := by decide
  have lit6 : (6 : Int32).toInt = 6 := by decide
  obtain ⟨r0, r1, r2, r3, r4, r5, r6, rr0, rr1, rr2, rr3, rr4, exs⟩ := r
  have rs : (0 : Int) ≤ (σ.1 18).toInt ∧ (σ.1 18).toInt ≤ 60 := iC.1 18
  unfold f_law_c20
  generalize xs (i + (1 : Int32)).toNatClampNeg = b1
  refine fd_e_gd (fd_gk h0 h1 hL (by decide)) ?_
  refine fd_e_bd (s_L_count_0_39 N hN _ _ iC) ?_
  rintro v_1 s_2 ⟨i_3, f_4, x_5⟩
  have t_6 : (s_2.1 1).toInt = (σ.1 1).toInt := congrArg Int32.toInt (f_4.1 1 (by decide))
  have t_7 : (s_2.1 2).toInt = (σ.1 2).toInt := congrArg Int32.toInt (f_4.1 2 (by decide))
  have t_8 : (s_2.1 3).toInt = (σ.1 3).toInt := congrArg Int32.toInt (f_4.1 3 (by decide))
  have t_9 : (s_2.1 4).toInt = (σ.1 4).toInt := congrArg Int32.toInt (f_4.1 4 (by decide))
  have t_10 : (s_2.1 16).toInt = (σ.1 16).toInt := congrArg Int32.toInt (f_4.1 16 (by decide))
  have t_11 : (s_2.1 17).toInt = (σ.1 17).toInt := congrArg Int32.toInt (f_4.1 17 (by decide))
  have t_12 : (s_2.1 18).toInt = (σ.1 18).toInt := congrArg Int32.toInt (f_4.1 18 (by decide))
  have w_13 : s_2.2.1 32 = σ.2.1 32 := f_4.2.1 32 (by decide)
  have w_14 : s_2.2.1 33 = σ.2.1 33 := f_4.2.1 33 (by decide)
  have w_15 : s_2.2.1 34 = σ.2.1 34 := f_4.2.1 34 (by decide)
  have w_16 : s_2.2.1 35 = σ.2.1 35 := f_4.2.1 35 (by decide)
  have w_17 : s_2.2.1 36 = σ.2.1 36 := f_4.2.1 36 (by decide)
  refine fd_e_gd (fd_gk h0 h1 hL (by decide)) ?_
  refine fd_e_bd (s_X11_count_0 N hN _ _ iM) ?_
  rintro v_18 s_19 ⟨i_20, f_21, x_22⟩
  have t_23 : (s_19.1 1).toInt = (μ.1 1).toInt := congrArg Int32.toInt (f_21.1 1 (by decide))
  have t_24 : (s_19.1 2).toInt = (μ.1 2).toInt := congrArg Int32.toInt (f_21.1 2 (by decide))
  have t_25 : (s_19.1 4).toInt = (μ.1 4).toInt := congrArg Int32.toInt (f_21.1 4 (by decide))
  have t_26 : (s_19.1 3).toInt = (μ.1 3).toInt := congrArg Int32.toInt (f_21.1 3 (by decide))
  have t_27 : (s_19.1 12).toInt = (μ.1 12).toInt := congrArg Int32.toInt (f_21.1 12 (by decide))
  have t_28 : (s_19.1 13).toInt = (μ.1 13).toInt := congrArg Int32.toInt (f_21.1 13 (by decide))
  have t_29 : (s_19.1 14).toInt = (μ.1 14).toInt := congrArg Int32.toInt (f_21.1 14 (by decide))
  have w_30 : s_19.2.1 22 = μ.2.1 22 := f_21.2.1 22 (by decide)
  have w_31 : s_19.2.1 23 = μ.2.1 23 := f_21.2.1 23 (by decide)
  have w_32 : s_19.2.1 24 = μ.2.1 24 := f_21.2.1 24 (by decide)
  have w_33 : s_19.2.1 25 = μ.2.1 25 := f_21.2.1 25 (by decide)
  have w_34 : s_19.2.1 26 = μ.2.1 26 := f_21.2.1 26 (by decide)
  have e_35 : s_2.2.1 32 = s_19.2.1 22 := (w_13.trans rr0).trans w_30.symm
  have e_36 : s_2.2.1 33 = s_19.2.1 23 := (w_14.trans rr1).trans w_31.symm
  have e_37 : s_2.2.1 34 = s_19.2.1 24 := (w_15.trans rr2).trans w_32.symm
  have e_38 : s_2.2.1 35 = s_19.2.1 25 := (w_16.trans rr3).trans w_33.symm
  have e_39 : s_2.2.1 36 = s_19.2.1 26 := (w_17.trans rr4).trans w_34.symm
  have e_40 : fd_Sh (s_2.2.1 33) (s_2.2.1 34) (s_2.2.1 35) (s_2.2.1 36) (s_2.1 18).toNatClampNeg := by
    have n8 : s_2.1 18 = σ.1 18 := Int32.toInt_inj.mp (by omega); rw [w_14, w_15, w_16, w_17, n8]; exact exs
  refine fd_e_lt (fun y_41 ey_41 => ?_)
  have t_42 := fd_la ey_41 (by omega) (by omega)
  have r_43 : fd_R s_2 s_19 := ⟨by omega, by omega, by omega, by omega, by omega, by omega, by omega, e_35, e_36, e_37, e_38, e_39, e_40⟩
  exact hK _ _ _ i_3 i_20 r_43 (by omega)
set_option maxHeartbeats 4000000 in
theorem u_c21 (N L : Nat) (hN : 1000 ≤ N) (hL : L ≤ 3072) (xs : Nat → Int32) (K : Int32 → fd_St → fd_St → Option Int32) (i : Int32) (σ μ : fd_St) (iC : fd_InvC σ) (iM : fd_InvM μ) (r : fd_R σ μ) (h0 : 0 ≤ i.toInt) (h1 : i.toInt + 6 ≤ (L : Int)) (hK : ∀ (j : Int32) (σ1 μ1 : fd_St), fd_InvC σ1 → fd_InvM μ1 → fd_R σ1 μ1 → j.toInt = i.toInt + 6 → K j σ1 μ1 = some 1) : f_law_c21 N L xs K i σ μ = some 1 := by
  have lit0 : (0 : Int32).toInt = 0 := by decide
  have lit6 : (6 : Int32).toInt = 6 := by decide
  obtain ⟨r0, r1, r2, r3, r4, r5, r6, rr0, rr1, rr2, rr3, rr4, exs⟩ := r
  have rs : (0 : Int) ≤ (σ.1 18).toInt ∧ (σ.1 18).toInt ≤ 60 := iC.1 18
  unfold f_law_c21
  refine fd_e_bd (s_X10_clear_0 N hN _ iC) ?_
  rintro v_1 s_2 ⟨i_3, f_4, x_5⟩
  have w_6 : s_2.2.1 32 = σ.2.1 32 := f_4.2.1 32 (by decide)
  have w_7 : s_2.2.1 33 = σ.2.1 33 := f_4.2.1 33 (by decide)
  have w_8 : s_2.2.1 34 = σ.2.1 34 := f_4.2.1 34 (by decide)
  have w_9 : s_2.2.1 35 = σ.2.1 35 := f_4.2.1 35 (by decide)
  have w_10 : s_2.2.1 36 = σ.2.1 36 := f_4.2.1 36 (by decide)
  refine fd_e_lt (fun y_11 ey_11 => ?_)
  have i_12 : fd_InvC y_11 := by subst ey_11; exact i_3
  have t_13 : (y_11.1 1).toInt = (s_2.1 1).toInt := by subst ey_11; rfl
  have t_14 : (y_11.1 2).toInt = (s_2.1 2).toInt := by subst ey_11; rfl
  have t_15 : (y_11.1 3).toInt = (s_2.1 3).toInt := by subst ey_11; rfl
  have t_16 : (y_11.1 4).toInt = (s_2.1 4).toInt := by subst ey_11; rfl
  have t_17 : (y_11.1 16).toInt = (s_2.1 16).toInt := by subst ey_11; rfl
  have t_18 : (y_11.1 17).toInt = (s_2.1 17).toInt := by subst ey_11; rfl
  have t_19 : (y_11.1 18).toInt = (s_2.1 18).toInt := by subst ey_11; rfl
  have w_20 := fd_ymixA (d := 32) ey_11 w_6
  have w_21 := fd_ymixA (d := 33) ey_11 w_7
  have w_22 := fd_ymixA (d := 34) ey_11 w_8
  have w_23 := fd_ymixA (d := 35) ey_11 w_9
  have w_24 := fd_ymixA (d := 36) ey_11 w_10
  refine fd_e_bd (s_X11_clear_0 N hN _ iM) ?_
  rintro v_25 s_26 ⟨i_27, f_28, x_29⟩
  have w_30 : s_26.2.1 22 = μ.2.1 22 := f_28.2.1 22 (by decide)
  have w_31 : s_26.2.1 23 = μ.2.1 23 := f_28.2.1 23 (by decide)
  have w_32 : s_26.2.1 24 = μ.2.1 24 := f_28.2.1 24 (by decide)
  have w_33 : s_26.2.1 25 = μ.2.1 25 := f_28.2.1 25 (by decide)
  have w_34 : s_26.2.1 26 = μ.2.1 26 := f_28.2.1 26 (by decide)
  have e_35 : y_11.2.1 32 = s_26.2.1 22 := (w_20.trans rr0).trans w_30.symm
  have e_36 : y_11.2.1 33 = s_26.2.1 23 := (w_21.trans rr1).trans w_31.symm
  have e_37 : y_11.2.1 34 = s_26.2.1 24 := (w_22.trans rr2).trans w_32.symm
  have e_38 : y_11.2.1 35 = s_26.2.1 25 := (w_23.trans rr3).trans w_33.symm
  have e_39 : y_11.2.1 36 = s_26.2.1 26 := (w_24.trans rr4).trans w_34.symm
  have e_40 : fd_Sh (y_11.2.1 33) (y_11.2.1 34) (y_11.2.1 35) (y_11.2.1 36) (y_11.1 18).toNatClampNeg := by
    have n0 : (y_11.1 18).toNatClampNeg = 0 := by show (y_11.1 18).toInt.toNat = 0; omega
    rw [n0]; exact fun i hi => absurd hi (Nat.not_lt_zero i)
  refine fd_e_lt (fun y_41 ey_41 => ?_)
  have t_42 := fd_la ey_41 (by omega) (by omega)
  have r_43 : fd_R y_11 s_26 := ⟨by omega, by omega, by omega, by omega, by omega, by omega, by omega, e_35, e_36, e_37, e_38, e_39, e_40⟩
  exact hK _ _ _ i_12 i_27 r_43 (by omega)
