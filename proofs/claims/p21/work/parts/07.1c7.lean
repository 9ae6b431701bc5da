set_option maxHeartbeats 4000000 in
theorem s_L_caught_0_39 (N : Nat) (hN : 1000 ≤ N) (p1 : Int64) (p3 : Int64) (σ : fd_St) (i0 : fd_InvC σ) : fd_ok (f_L_caught_0_39 N p1 p3 σ) (fun v s => fd_InvC s ∧ fd_fr [17, 230, 231, 239] σ s ∧ ((((σ.1 16).toInt = 0 ∨ (σ.1 17).toInt = 30) ∧ v.toInt = 1 ∧ (s.1 17).toInt = (σ.1 17).toInt) ∨ (¬ ((σ.1 16).toInt = 0 ∨ (σ.1 17).toInt = 30) ∧ v.toInt = 0 ∧ (s.1 17).toInt = (σ.1 17).toInt + 1 ∧ (s.2.2 39 (0 : Int32).toNatClampNeg).toInt = (σ.1 17).toInt + 1)) ∧ fd_H (((¬ v.toInt = 0 → s.2.2 30 = σ.2.2 30) ∧ (v.toInt = 0 → ∃ j : Int32, j.toInt = (σ.1 17).toInt ∧ s.2.2 30 = vp_updL (σ.2.2 30) j.toNatClampNeg p1))) ∧ fd_H (((¬ v.toInt = 0 → s.2.2 31 = σ.2.2 31) ∧ (v.toInt = 0 → ∃ j : Int32, j.toInt = (σ.1 17).toInt ∧ s.2.2 31 = vp_updL (σ.2.2 31) j.toNatClampNeg p3)))) := by
  have lit0 : (0 : Int32).toInt = 0 := by decide
  have lit1 : (1 : Int32).toInt = 1 := by decide
  have lit30 : (30 : Int32).toInt = 30 := by decide
  have f0 : fd_fr [17, 230, 231, 239] σ σ := fd_fr_rf
  unfold f_L_caught_0_39
  refine fd_ok_bx ?_
  try unfold f_X10_caught_0
  refine fd_ok_bx ?_
  try unfold f_X10_needChain_0
  refine fd_ok_bd ?_
  try unfold f_X1_begun_10
  have r_1 : (0 : Int) ≤ (σ.1 16).toInt ∧ (σ.1 16).toInt ≤ 64 := i0.1 16
  refine fd_ok_ite (fun c_2 => ?_) (fun c_2 => ?_)
  ·
    have d_3 := Int32.le_iff_toInt_le.mp c_2
    refine fd_ok_pb ?_
    refine fd_ok_itp (by decide) ?_
    refine fd_ok_pr ?_
    refine fd_ok_pr ?_
    refine fd_ok_itp (by decide) ?_
    refine fd_ok_lt (fun σ11_4 eσ11_4 => ?_)
    have i_5 : fd_InvC σ11_4 := by subst eσ11_4; exact i0
    have f_6 : fd_fr [17, 230, 231, 239] σ σ11_4 := fd_fr_mix eσ11_4 f0
    have t_7 : (σ11_4.1 16).toInt = (σ.1 16).toInt := by subst eσ11_4; rfl
    have t_8 : (σ11_4.1 17).toInt = (σ.1 17).toInt := by subst eσ11_4; rfl
    have y_9 := fd_ymix (d := 30) eσ11_4 (by decide) (rfl : σ.2.2 30 = _)
    have y_10 := fd_ymix (d := 31) eσ11_4 (by decide) (rfl : σ.2.2 31 = _)
    have x_11 : (((σ.1 16).toInt = 0 ∨ (σ.1 17).toInt = 30) ∧ (1 : Int32).toInt = 1 ∧ (σ11_4.1 17).toInt = (σ.1 17).toInt) ∨ (¬ ((σ.1 16).toInt = 0 ∨ (σ.1 17).toInt = 30) ∧ (1 : Int32).toInt = 0 ∧ (σ11_4.1 17).toInt = (σ.1 17).toInt + 1 ∧ (σ11_4.2.2 39 (0 : Int32).toNatClampNeg).toInt = (σ.1 17).toInt + 1) := by omega
    have w_12 : fd_H (((¬ (1 : Int32).toInt = 0 → σ11_4.2.2 30 = σ.2.2 30) ∧ ((1 : Int32).toInt = 0 → ∃ j : Int32, j.toInt = (σ.1 17).toInt ∧ σ11_4.2.2 30 = vp_updL (σ.2.2 30) j.toNatClampNeg p1))) := fd_hd (⟨fun _ => y_9, fun h => absurd h (by omega)⟩)
    have w_13 : fd_H (((¬ (1 : Int32).toInt = 0 → σ11_4.2.2 31 = σ.2.2 31) ∧ ((1 : Int32).toInt = 0 → ∃ j : Int32, j.toInt = (σ.1 17).toInt ∧ σ11_4.2.2 31 = vp_updL (σ.2.2 31) j.toNatClampNeg p3))) := fd_hd (⟨fun _ => y_10, fun h => absurd h (by omega)⟩)
    exact fd_ok_some ⟨i_5, f_6, x_11, w_12, w_13⟩
  ·
    have d_14 := Int32.lt_iff_toInt_lt.mp (Int32.not_le.mp c_2)
    refine fd_ok_pb ?_
    refine fd_ok_itn (by decide) ?_
    refine fd_ok_pl ?_
    refine fd_ok_bd ?_
    try unfold f_X1_rows_10
    refine fd_ok_pb ?_
    have r_15 : (0 : Int) ≤ (σ.1 17).toInt ∧ (σ.1 17).toInt ≤ 30 := i0.1 17
    refine fd_ok_ite (fun c_16 => ?_) (fun c_16 => ?_)
    ·
      have d_17 := congrArg Int32.toInt c_16
      refine fd_ok_pr ?_
      refine fd_ok_itp (by decide) ?_
      refine fd_ok_lt (fun σ11_18 eσ11_18 => ?_)
      have i_19 : fd_InvC σ11_18 := by subst eσ11_18; exact i0
      have f_20 : fd_fr [17, 230, 231, 239] σ σ11_18 := fd_fr_mix eσ11_18 f0
      have t_21 : (σ11_18.1 16).toInt = (σ.1 16).toInt := by subst eσ11_18; rfl
      have t_22 : (σ11_18.1 17).toInt = (σ.1 17).toInt := by subst eσ11_18; rfl
      have y_23 := fd_ymix (d := 30) eσ11_18 (by decide) (rfl : σ.2.2 30 = _)
      have y_24 := fd_ymix (d := 31) eσ11_18 (by decide) (rfl : σ.2.2 31 = _)
      have x_25 : (((σ.1 16).toInt = 0 ∨ (σ.1 17).toInt = 30) ∧ (1 : Int32).toInt = 1 ∧ (σ11_18.1 17).toInt = (σ.1 17).toInt) ∨ (¬ ((σ.1 16).toInt = 0 ∨ (σ.1 17).toInt = 30) ∧ (1 : Int32).toInt = 0 ∧ (σ11_18.1 17).toInt = (σ.1 17).toInt + 1 ∧ (σ11_18.2.2 39 (0 : Int32).toNatClampNeg).toInt = (σ.1 17).toInt + 1) := by omega
      have w_26 : fd_H (((¬ (1 : Int32).toInt = 0 → σ11_18.2.2 30 = σ.2.2 30) ∧ ((1 : Int32).toInt = 0 → ∃ j : Int32, j.toInt = (σ.1 17).toInt ∧ σ11_18.2.2 30 = vp_updL (σ.2.2 30) j.toNatClampNeg p1))) := fd_hd (⟨fun _ => y_23, fun h => absurd h (by omega)⟩)
      have w_27 : fd_H (((¬ (1 : Int32).toInt = 0 → σ11_18.2.2 31 = σ.2.2 31) ∧ ((1 : Int32).toInt = 0 → ∃ j : Int32, j.toInt = (σ.1 17).toInt ∧ σ11_18.2.2 31 = vp_updL (σ.2.2 31) j.toNatClampNeg p3))) := fd_hd (⟨fun _ => y_24, fun h => absurd h (by omega)⟩)
      exact fd_ok_some ⟨i_19, f_20, x_25, w_26, w_27⟩
    ·
      have d_28 : ¬ (σ.1 17).toInt = (30 : Int32).toInt := fun q => c_16 (Int32.toInt_inj.mp q)
      refine fd_ok_bd ?_
      try unfold f_X1_addRow_10
      refine fd_ok_gd (vp_in_iff.mpr ⟨by omega, by omega⟩) ?_
      refine fd_ok_lt (fun σ2_29 eσ2_29 => ?_)
      have i_30 : fd_InvC σ2_29 := fd_inv_sL eσ2_29 i0
      have f_31 : fd_fr [17, 230, 231, 239] σ σ2_29 := fd_fr_tr f0 (fd_fr_sL eσ2_29 (by decide))
      have t_32 : (σ2_29.1 16).toInt = (σ.1 16).toInt := by subst eσ2_29; rfl
      have t_33 : (σ2_29.1 17).toInt = (σ.1 17).toInt := by subst eσ2_29; rfl
      have y_34 := fd_yL eσ2_29 (rfl : σ.2.2 30 = _)
      have y_35 := fd_yLn (d := 31) eσ2_29 (by decide) (rfl : σ.2.2 31 = _)
      have r_36 : (0 : Int) ≤ (σ2_29.1 17).toInt ∧ (σ2_29.1 17).toInt ≤ 30 := i_30.1 17
      refine fd_ok_gd (vp_in_iff.mpr ⟨by omega, by omega⟩) ?_
      refine fd_ok_lt (fun σ4_37 eσ4_37 => ?_)
      have i_38 : fd_InvC σ4_37 := fd_inv_sL eσ4_37 i_30
      have f_39 : fd_fr [17, 230, 231, 239] σ σ4_37 := fd_fr_tr f_31 (fd_fr_sL eσ4_37 (by decide))
      have t_40 : (σ4_37.1 16).toInt = (σ2_29.1 16).toInt := by subst eσ4_37; rfl
      have t_41 : (σ4_37.1 17).toInt = (σ2_29.1 17).toInt := by subst eσ4_37; rfl
      have y_42 := fd_yLn (d := 30) eσ4_37 (by decide) y_34
      have y_43 := fd_yL eσ4_37 y_35
      refine fd_ok_lt (fun σ5_44 eσ5_44 => ?_)
      have r_47 : (0 : Int) ≤ (σ4_37.1 17).toInt ∧ (σ4_37.1 17).toInt ≤ 30 := i_38.1 17
      have u_48 := Jvm.Kit.i32_add (x := (σ4_37.1 17)) (y := (1 : Int32)) (by omega) (by omega)
      have i_45 : fd_InvC σ5_44 := fd_inv_sI eσ5_44 i_38 ⟨(by omega : (0 : Int) ≤ ((σ4_37.1 17) + (1 : Int32)).toInt), (by omega : ((σ4_37.1 17) + (1 : Int32)).toInt ≤ 30)⟩
      have f_46 : fd_fr [17, 230, 231, 239] σ σ5_44 := fd_fr_tr f_39 (fd_fr_sI eσ5_44 (by decide))
      have t_49 : (σ5_44.1 16).toInt = (σ4_37.1 16).toInt := congrArg Int32.toInt (fd_tN eσ5_44 (by decide))
      have t_50 : (σ5_44.1 17).toInt = ((σ4_37.1 17) + (1 : Int32)).toInt := congrArg Int32.toInt (fd_tI eσ5_44)
      have y_51 := fd_yIL (d := 30) eσ5_44 y_42
      have y_52 := fd_yIL (d := 31) eσ5_44 y_43
      refine fd_ok_pb ?_
      refine fd_ok_pl ?_
      refine fd_ok_lt (fun σ6_53 eσ6_53 => ?_)
      have i_54 : fd_InvC σ6_53 := by subst eσ6_53; exact i_45
      have f_55 : fd_fr [17, 230, 231, 239] σ σ6_53 := fd_fr_mix eσ6_53 f_46
      have t_56 : (σ6_53.1 16).toInt = (σ5_44.1 16).toInt := by subst eσ6_53; rfl
      have t_57 : (σ6_53.1 17).toInt = (σ5_44.1 17).toInt := by subst eσ6_53; rfl
      have y_58 := fd_ymix (d := 30) eσ6_53 (by decide) y_51
      have y_59 := fd_ymix (d := 31) eσ6_53 (by decide) y_52
      refine fd_ok_gd (vp_in_iff.mpr ⟨by omega, by omega⟩) ?_
      refine fd_ok_lt (fun σ9_60 eσ9_60 => ?_)
      have i_61 : fd_InvC σ9_60 := fd_inv_sL eσ9_60 i_54
      have f_62 : fd_fr [17, 230, 231, 239] σ σ9_60 := fd_fr_tr f_55 (fd_fr_sL eσ9_60 (by decide))
      have t_63 : (σ9_60.1 16).toInt = (σ6_53.1 16).toInt := by subst eσ9_60; rfl
      have t_64 : (σ9_60.1 17).toInt = (σ6_53.1 17).toInt := by subst eσ9_60; rfl
      have r_65 : (0 : Int) ≤ (σ5_44.1 17).toInt ∧ (σ5_44.1 17).toInt ≤ 30 := i_45.1 17
      have o_66 : (σ9_60.2.2 39 (0 : Int32).toNatClampNeg).toInt = (σ5_44.1 17).toInt := fd_o39 eσ9_60
      have y_67 := fd_yLn (d := 30) eσ9_60 (by decide) y_58
      have y_68 := fd_yLn (d := 31) eσ9_60 (by decide) y_59
      have x_69 : (((σ.1 16).toInt = 0 ∨ (σ.1 17).toInt = 30) ∧ (0 : Int32).toInt = 1 ∧ (σ9_60.1 17).toInt = (σ.1 17).toInt) ∨ (¬ ((σ.1 16).toInt = 0 ∨ (σ.1 17).toInt = 30) ∧ (0 : Int32).toInt = 0 ∧ (σ9_60.1 17).toInt = (σ.1 17).toInt + 1 ∧ (σ9_60.2.2 39 (0 : Int32).toNatClampNeg).toInt = (σ.1 17).toInt + 1) := by omega
      have w_70 : fd_H (((¬ (0 : Int32).toInt = 0 → σ9_60.2.2 30 = σ.2.2 30) ∧ ((0 : Int32).toInt = 0 → ∃ j : Int32, j.toInt = (σ.1 17).toInt ∧ σ9_60.2.2 30 = vp_updL (σ.2.2 30) j.toNatClampNeg p1))) := fd_hd (⟨fun h => absurd (by omega) h, fun _ => ⟨_, by omega, y_67⟩⟩)
      have w_71 : fd_H (((¬ (0 : Int32).toInt = 0 → σ9_60.2.2 31 = σ.2.2 31) ∧ ((0 : Int32).toInt = 0 → ∃ j : Int32, j.toInt = (σ.1 17).toInt ∧ σ9_60.2.2 31 = vp_updL (σ.2.2 31) j.toNatClampNeg p3))) := fd_hd (⟨fun h => absurd (by omega) h, fun _ => ⟨_, by omega, y_68⟩⟩)
      exact fd_ok_some ⟨i_61, f_62, x_69, w_70, w_71⟩
set_option maxHeartbeats 4000000 in
theorem s_L_span_0_39 (N : Nat) (hN : 1000 ≤ N) (p1 : Int32) (p2 : Int32) (σ : fd_St) (i0 : fd_InvC σ) : fd_ok (f_L_span_0_39 N p1 p2 σ) (fun v s => fd_InvC s ∧ fd_fr [239] σ s ∧ (((p1.toInt < 0 ∨ 1 < p1.toInt ∨ p2.toInt < 0 ∨ 1 < p2.toInt) ∧ v.toInt = 1) ∨ (¬ (p1.toInt < 0 ∨ 1 < p1.toInt ∨ p2.toInt < 0 ∨ 1 < p2.toInt) ∧ ((σ.1 16).toInt = 0) ∧ v.toInt = 2) ∨ (¬ (p1.toInt < 0 ∨ 1 < p1.toInt ∨ p2.toInt < 0 ∨ 1 < p2.toInt) ∧ ¬ ((σ.1 16).toInt = 0) ∧ v.toInt = 0)) ∧ fd_H ((v.toInt = 0 → fd_sp (fd_mC σ (decide (p1 ≠ 0))) (σ.1 16).toNatClampNeg (decide (p2 = 1)) (s.2.2 39 (0 : Int32).toNatClampNeg).toInt))) := by
  have lit0 : (0 : Int32).toInt = 0 := by decide
  have lit1 : (1 : Int32).toInt = 1 := by decide
  have lit2 : (2 : Int32).toInt = 2 := by decide
  have f0 : fd_fr [239] σ σ := fd_fr_rf
  unfold f_L_span_0_39
  refine fd_ok_bx ?_
  try unfold f_X10_span_0
  refine fd_ok_ite (fun c_1 => ?_) (fun c_1 => ?_)
  ·
    have d_2 := Int32.lt_iff_toInt_lt.mp c_1
    try unfold f_X10_span_0_J18
    refine fd_ok_pr ?_
    refine fd_ok_itp (by decide) ?_
    refine fd_ok_lt (fun σ11_3 eσ11_3 => ?_)
    have i_4 : fd_InvC σ11_3 := by subst eσ11_3; exact i0
    have f_5 : fd_fr [239] σ σ11_3 := fd_fr_mix eσ11_3 f0
    have t_6 : (σ11_3.1 16).toInt = (σ.1 16).toInt := by subst eσ11_3; rfl
    have y_7 := fd_ymix (d := 30) eσ11_3 (by decide) (rfl : σ.2.2 30 = _)
    have x_8 : ((p1.toInt < 0 ∨ 1 < p1.toInt ∨ p2.toInt < 0 ∨ 1 < p2.toInt) ∧ (1 : Int32).toInt = 1) ∨ (¬ (p1.toInt < 0 ∨ 1 < p1.toInt ∨ p2.toInt < 0 ∨ 1 < p2.toInt) ∧ ((σ.1 16).toInt = 0) ∧ (1 : Int32).toInt = 2) ∨ (¬ (p1.toInt < 0 ∨ 1 < p1.toInt ∨ p2.toInt < 0 ∨ 1 < p2.toInt) ∧ ¬ ((σ.1 16).toInt = 0) ∧ (1 : Int32).toInt = 0) := by omega
    have w_9 : fd_H (((1 : Int32).toInt = 0 → fd_sp (fd_mC σ (decide (p1 ≠ 0))) (σ.1 16).toNatClampNeg (decide (p2 = 1)) (σ11_3.2.2 39 (0 : Int32).toNatClampNeg).toInt)) := fd_hd (fun h => absurd h (by omega))
    exact fd_ok_some ⟨i_4, f_5, x_8, w_9⟩
  ·
    have d_10 := Int32.le_iff_toInt_le.mp (Int32.not_lt.mp c_1)
    refine fd_ok_ite (fun c_11 => ?_) (fun c_11 => ?_)
    ·
      have d_12 := Int32.lt_iff_toInt_lt.mp c_11
      try unfold f_X10_span_0_J18
      refine fd_ok_pr ?_
      refine fd_ok_itp (by decide) ?_
      refine fd_ok_lt (fun σ11_13 eσ11_13 => ?_)
      have i_14 : fd_InvC σ11_13 := by subst eσ11_13; exact i0
      have f_15 : fd_fr [239] σ σ11_13 := fd_fr_mix eσ11_13 f0
      have t_16 : (σ11_13.1 16).toInt = (σ.1 16).toInt := by subst eσ11_13; rfl
      have y_17 := fd_ymix (d := 30) eσ11_13 (by decide) (rfl : σ.2.2 30 = _)
      have x_18 : ((p1.toInt < 0 ∨ 1 < p1.toInt ∨ p2.toInt < 0 ∨ 1 < p2.toInt) ∧ (1 : Int32).toInt = 1) ∨ (¬ (p1.toInt < 0 ∨ 1 < p1.toInt ∨ p2.toInt < 0 ∨ 1 < p2.toInt) ∧ ((σ.1 16).toInt = 0) ∧ (1 : Int32).toInt = 2) ∨ (¬ (p1.toInt < 0 ∨ 1 < p1.toInt ∨ p2.toInt < 0 ∨ 1 < p2.toInt) ∧ ¬ ((σ.1 16).toInt = 0) ∧ (1 : Int32).toInt = 0) := by omega
      have w_19 : fd_H (((1 : Int32).toInt = 0 → fd_sp (fd_mC σ (decide (p1 ≠ 0))) (σ.1 16).toNatClampNeg (decide (p2 = 1)) (σ11_13.2.2 39 (0 : Int32).toNatClampNeg).toInt)) := fd_hd (fun h => absurd h (by omega))
      exact fd_ok_some ⟨i_14, f_15, x_18, w_19⟩
    ·
      have d_20 := Int32.le_iff_toInt_le.mp (Int32.not_lt.mp c_11)
      refine fd_ok_ite (fun c_21 => ?_) (fun c_21 => ?_)
      ·
        have d_22 := Int32.lt_iff_toInt_lt.mp c_21
        try unfold f_X10_span_0_J18
        refine fd_ok_pr ?_
        refine fd_ok_itp (by decide) ?_
        refine fd_ok_lt (fun σ11_23 eσ11_23 => ?_)
        have i_24 : fd_InvC σ11_23 := by subst eσ11_23; exact i0
        have f_25 : fd_fr [239] σ σ11_23 := fd_fr_mix eσ11_23 f0
        have t_26 : (σ11_23.1 16).toInt = (σ.1 16).toInt := by subst eσ11_23; rfl
        have y_27 := fd_ymix (d := 30) eσ11_23 (by decide) (rfl : σ.2.2 30 = _)
        have x_28 : ((p1.toInt < 0 ∨ 1 < p1.toInt ∨ p2.toInt < 0 ∨ 1 < p2.toInt) ∧ (1 : Int32).toInt = 1) ∨ (¬ (p1.toInt < 0 ∨ 1 < p1.toInt ∨ p2.toInt < 0 ∨ 1 < p2.toInt) ∧ ((σ.1 16).toInt = 0) ∧ (1 : Int32).toInt = 2) ∨ (¬ (p1.toInt < 0 ∨ 1 < p1.toInt ∨ p2.toInt < 0 ∨ 1 < p2.toInt) ∧ ¬ ((σ.1 16).toInt = 0) ∧ (1 : Int32).toInt = 0) := by omega
        have w_29 : fd_H (((1 : Int32).toInt = 0 → fd_sp (fd_mC σ (decide (p1 ≠ 0))) (σ.1 16).toNatClampNeg (decide (p2 = 1)) (σ11_23.2.2 39 (0 : Int32).toNatClampNeg).toInt)) := fd_hd (fun h => absurd h (by omega))
        exact fd_ok_some ⟨i_24, f_25, x_28, w_29⟩
      ·
        have d_30 := Int32.le_iff_toInt_le.mp (Int32.not_lt.mp c_21)
        refine fd_ok_ite (fun c_31 => ?_) (fun c_31 => ?_)
        ·
          have d_32 := Int32.le_iff_toInt_le.mp c_31
          refine fd_ok_bx ?_
          try unfold f_X10_needChain_0
          refine fd_ok_bd ?_
          try unfold f_X1_begun_10
          have r_33 : (0 : Int) ≤ (σ.1 16).toInt ∧ (σ.1 16).toInt ≤ 64 := i0.1 16
          refine fd_ok_ite (fun c_34 => ?_) (fun c_34 => ?_)
          ·
            have d_35 := Int32.le_iff_toInt_le.mp c_34
            refine fd_ok_pb ?_
            refine fd_ok_itp (by decide) ?_
            refine fd_ok_pr ?_
            refine fd_ok_pr ?_
            refine fd_ok_itn (by decide) ?_
            refine fd_ok_itp (by decide) ?_
            refine fd_ok_lt (fun σ13_36 eσ13_36 => ?_)
            have i_37 : fd_InvC σ13_36 := by subst eσ13_36; exact i0
            have f_38 : fd_fr [239] σ σ13_36 := fd_fr_mix eσ13_36 f0
            have t_39 : (σ13_36.1 16).toInt = (σ.1 16).toInt := by subst eσ13_36; rfl
            have y_40 := fd_ymix (d := 30) eσ13_36 (by decide) (rfl : σ.2.2 30 = _)
            have x_41 : ((p1.toInt < 0 ∨ 1 < p1.toInt ∨ p2.toInt < 0 ∨ 1 < p2.toInt) ∧ (2 : Int32).toInt = 1) ∨ (¬ (p1.toInt < 0 ∨ 1 < p1.toInt ∨ p2.toInt < 0 ∨ 1 < p2.toInt) ∧ ((σ.1 16).toInt = 0) ∧ (2 : Int32).toInt = 2) ∨ (¬ (p1.toInt < 0 ∨ 1 < p1.toInt ∨ p2.toInt < 0 ∨ 1 < p2.toInt) ∧ ¬ ((σ.1 16).toInt = 0) ∧ (2 : Int32).toInt = 0) := by omega
            have w_42 : fd_H (((2 : Int32).toInt = 0 → fd_sp (fd_mC σ (decide (p1 ≠ 0))) (σ.1 16).toNatClampNeg (decide (p2 = 1)) (σ13_36.2.2 39 (0 : Int32).toNatClampNeg).toInt)) := fd_hd (fun h => absurd h (by omega))
            exact fd_ok_some ⟨i_37, f_38, x_41, w_42⟩
          ·
            have d_43 := Int32.lt_iff_toInt_lt.mp (Int32.not_le.mp c_34)
            refine fd_ok_pb ?_
            refine fd_ok_itn (by decide) ?_
            refine fd_ok_pl ?_
            refine fd_ok_ite (fun c_44 => ?_) (fun c_44 => ?_)
            ·
              have d_45 := congrArg Int32.toInt c_44
              refine fd_ok_bd ?_
              try unfold f_X1_leastStuckAt_10
              refine fd_ok_cl (s_X1_leastStuckAt_10_L2 N hN N _ _ _ i0 (by omega) (by omega) (by omega)) ?_
              rintro v_46 σ_47 ⟨i_48, g_49, x_50⟩
              have f_51 : fd_fr [239] σ σ_47 := fd_fr_tr f0 (fd_fr_mono g_49 (by decide))
              have y_52 := (g_49.2.2 30 (by decide)).trans (rfl : σ.2.2 30 = _)
              have t_53 : (σ_47.1 16).toInt = (σ.1 16).toInt := congrArg Int32.toInt (g_49.1 16 (by decide))
              refine fd_ok_pl ?_
              refine fd_ok_lt (fun σ6_54 eσ6_54 => ?_)
              have i_55 : fd_InvC σ6_54 := by subst eσ6_54; exact i_48
              have f_56 : fd_fr [239] σ σ6_54 := fd_fr_mix eσ6_54 f_51
              have t_57 : (σ6_54.1 16).toInt = (σ_47.1 16).toInt := by subst eσ6_54; rfl
              have y_58 := fd_ymix (d := 30) eσ6_54 (by decide) y_52
              refine fd_ok_gd (vp_in_iff.mpr ⟨by omega, by omega⟩) ?_
              refine fd_ok_lt (fun σ9_59 eσ9_59 => ?_)
              have i_60 : fd_InvC σ9_59 := fd_inv_sL eσ9_59 i_55
              have f_61 : fd_fr [239] σ σ9_59 := fd_fr_tr f_56 (fd_fr_sL eσ9_59 (by decide))
              have t_62 : (σ9_59.1 16).toInt = (σ6_54.1 16).toInt := by subst eσ9_59; rfl
              have o_63 : (σ9_59.2.2 39 (0 : Int32).toNatClampNeg).toInt = v_46.toInt := fd_o39 eσ9_59
              have y_64 := fd_yLn (d := 30) eσ9_59 (by decide) y_58
              have x_65 : ((p1.toInt < 0 ∨ 1 < p1.toInt ∨ p2.toInt < 0 ∨ 1 < p2.toInt) ∧ (0 : Int32).toInt = 1) ∨ (¬ (p1.toInt < 0 ∨ 1 < p1.toInt ∨ p2.toInt < 0 ∨ 1 < p2.toInt) ∧ ((σ.1 16).toInt = 0) ∧ (0 : Int32).toInt = 2) ∨ (¬ (p1.toInt < 0 ∨ 1 < p1.toInt ∨ p2.toInt < 0 ∨ 1 < p2.toInt) ∧ ¬ ((σ.1 16).toInt = 0) ∧ (0 : Int32).toInt = 0) := by omega
              have E0 : (0 : Int32).toNatClampNeg = 0 := by decide
              have R16 : (0 : Int) ≤ (σ.1 16).toInt ∧ (σ.1 16).toInt ≤ 64 := i0.1 16
              have w_66 : fd_H (((0 : Int32).toInt = 0 → fd_sp (fd_mC σ (decide (p1 ≠ 0))) (σ.1 16).toNatClampNeg (decide (p2 = 1)) (σ9_59.2.2 39 (0 : Int32).toNatClampNeg).toInt)) := fd_hd (fun _ => by rw [fd_o39 eσ9_59, decide_eq_false (fun q : p2 = 1 => by have := congrArg Int32.toInt q; omega)]; exact x_50 (by decide) (by omega) (fun c hc => by rw [E0] at hc; exact absurd hc (Nat.not_lt_zero _)))
              exact fd_ok_some ⟨i_60, f_61, x_65, w_66⟩
            ·
              have d_67 : ¬ p2.toInt = (0 : Int32).toInt := fun q => c_44 (Int32.toInt_inj.mp q)
              refine fd_ok_bd ?_
              try unfold f_X1_greatestStuckAt_10
              refine fd_ok_lt (fun x1_68 ex1_68 => ?_)
              have t_69 := fd_ls ex1_68 (by omega) (by omega)
              refine fd_ok_cl (s_X1_greatestStuckAt_10_L7 N hN N _ _ _ i0 (by omega) (by omega) (by omega)) ?_
              rintro v_70 σ_71 ⟨i_72, g_73, x_74⟩
              have f_75 : fd_fr [239] σ σ_71 := fd_fr_tr f0 (fd_fr_mono g_73 (by decide))
              have y_76 := (g_73.2.2 30 (by decide)).trans (rfl : σ.2.2 30 = _)
              have t_77 : (σ_71.1 16).toInt = (σ.1 16).toInt := congrArg Int32.toInt (g_73.1 16 (by decide))
              refine fd_ok_pl ?_
              refine fd_ok_lt (fun σ6_78 eσ6_78 => ?_)
              have i_79 : fd_InvC σ6_78 := by subst eσ6_78; exact i_72
              have f_80 : fd_fr [239] σ σ6_78 := fd_fr_mix eσ6_78 f_75
              have t_81 : (σ6_78.1 16).toInt = (σ_71.1 16).toInt := by subst eσ6_78; rfl
              have y_82 := fd_ymix (d := 30) eσ6_78 (by decide) y_76
              refine fd_ok_gd (vp_in_iff.mpr ⟨by omega, by omega⟩) ?_
              refine fd_ok_lt (fun σ9_83 eσ9_83 => ?_)
              have i_84 : fd_InvC σ9_83 := fd_inv_sL eσ9_83 i_79
              have f_85 : fd_fr [239] σ σ9_83 := fd_fr_tr f_80 (fd_fr_sL eσ9_83 (by decide))
              have t_86 : (σ9_83.1 16).toInt = (σ6_78.1 16).toInt := by subst eσ9_83; rfl
              have o_87 : (σ9_83.2.2 39 (0 : Int32).toNatClampNeg).toInt = v_70.toInt := fd_o39 eσ9_83
              have y_88 := fd_yLn (d := 30) eσ9_83 (by decide) y_82
              have x_89 : ((p1.toInt < 0 ∨ 1 < p1.toInt ∨ p2.toInt < 0 ∨ 1 < p2.toInt) ∧ (0 : Int32).toInt = 1) ∨ (¬ (p1.toInt < 0 ∨ 1 < p1.toInt ∨ p2.toInt < 0 ∨ 1 < p2.toInt) ∧ ((σ.1 16).toInt = 0) ∧ (0 : Int32).toInt = 2) ∨ (¬ (p1.toInt < 0 ∨ 1 < p1.toInt ∨ p2.toInt < 0 ∨ 1 < p2.toInt) ∧ ¬ ((σ.1 16).toInt = 0) ∧ (0 : Int32).toInt = 0) := by omega
              have E0 : (0 : Int32).toNatClampNeg = 0 := by decide
              have R16 : (0 : Int) ≤ (σ.1 16).toInt ∧ (σ.1 16).toInt ≤ 64 := i0.1 16
              have w_90 : fd_H (((0 : Int32).toInt = 0 → fd_sp (fd_mC σ (decide (p1 ≠ 0))) (σ.1 16).toNatClampNeg (decide (p2 = 1)) (σ9_83.2.2 39 (0 : Int32).toNatClampNeg).toInt)) := fd_hd (fun _ => by rw [fd_o39 eσ9_83, decide_eq_true (Int32.toInt_inj.mp (by omega) : p2 = 1)]; exact x_74 (by omega) (by omega) (fun c hc hq => absurd hc (by show ¬ c < (σ.1 16).toInt.toNat; omega)))
              exact fd_ok_some ⟨i_84, f_85, x_89, w_90⟩
        ·
          have d_91 := Int32.lt_iff_toInt_lt.mp (Int32.not_le.mp c_31)
          try unfold f_X10_span_0_J18
          refine fd_ok_pr ?_
          refine fd_ok_itp (by decide) ?_
          refine fd_ok_lt (fun σ11_92 eσ11_92 => ?_)
          have i_93 : fd_InvC σ11_92 := by subst eσ11_92; exact i0
          have f_94 : fd_fr [239] σ σ11_92 := fd_fr_mix eσ11_92 f0
          have t_95 : (σ11_92.1 16).toInt = (σ.1 16).toInt := by subst eσ11_92; rfl
          have y_96 := fd_ymix (d := 30) eσ11_92 (by decide) (rfl : σ.2.2 30 = _)
          have x_97 : ((p1.toInt < 0 ∨ 1 < p1.toInt ∨ p2.toInt < 0 ∨ 1 < p2.toInt) ∧ (1 : Int32).toInt = 1) ∨ (¬ (p1.toInt < 0 ∨ 1 < p1.toInt ∨ p2.toInt < 0 ∨ 1 < p2.toInt) ∧ ((σ.1 16).toInt = 0) ∧ (1 : Int32).toInt = 2) ∨ (¬ (p1.toInt < 0 ∨ 1 < p1.toInt ∨ p2.toInt < 0 ∨ 1 < p2.toInt) ∧ ¬ ((σ.1 16).toInt = 0) ∧ (1 : Int32).toInt = 0) := by omega
          have w_98 : fd_H (((1 : Int32).toInt = 0 → fd_sp (fd_mC σ (decide (p1 ≠ 0))) (σ.1 16).toNatClampNeg (decide (p2 = 1)) (σ11_92.2.2 39 (0 : Int32).toNatClampNeg).toInt)) := fd_hd (fun h => absurd h (by omega))
          exact fd_ok_some ⟨i_93, f_94, x_97, w_98⟩
set_option maxHeartbeats 4000000 in
theorem s_L_shape_0_39 (N : Nat) (hN : 1000 ≤ N) (p1 : Int32) (p2 : Int32) (p3 : Int32) (p4 : Int32) (p5 : Int32) (σ : fd_St) (i0 : fd_InvC σ) : fd_ok (f_L_shape_0_39 N p1 p2 p3 p4 p5 σ) (fun v s => fd_InvC s ∧ fd_fr [18, 132, 133, 134, 135, 136, 239] σ s ∧ (((¬ (0 ≤ p1.toInt ∧ p1.toInt < (σ.1 1).toInt)) ∧ v.toInt = 1 ∧ (s.1 18).toInt = (σ.1 18).toInt) ∨ (¬ (¬ (0 ≤ p1.toInt ∧ p1.toInt < (σ.1 1).toInt)) ∧ ((σ.1 18).toInt = 60) ∧ v.toInt = 2 ∧ (s.1 18).toInt = (σ.1 18).toInt) ∨ (¬ (¬ (0 ≤ p1.toInt ∧ p1.toInt < (σ.1 1).toInt)) ∧ ¬ ((σ.1 18).toInt = 60) ∧ (¬ (0 ≤ p2.toInt ∧ p2.toInt < p4.toInt ∧ p4.toInt ≤ 1000 ∧ 0 ≤ p3.toInt ∧ p3.toInt < p5.toInt ∧ p5.toInt ≤ 1000)) ∧ v.toInt = 3 ∧ (s.1 18).toInt = (σ.1 18).toInt) ∨ (¬ (¬ (0 ≤ p1.toInt ∧ p1.toInt < (σ.1 1).toInt)) ∧ ¬ ((σ.1 18).toInt = 60) ∧ ¬ (¬ (0 ≤ p2.toInt ∧ p2.toInt < p4.toInt ∧ p4.toInt ≤ 1000 ∧ 0 ≤ p3.toInt ∧ p3.toInt < p5.toInt ∧ p5.toInt ≤ 1000)) ∧ v.toInt = 0 ∧ (s.1 18).toInt = (σ.1 18).toInt + 1)) ∧ fd_H (((¬ v.toInt = 0 → s.2.1 32 = σ.2.1 32) ∧ (v.toInt = 0 → ∃ j w : Int32, (j.toInt = (σ.1 18).toInt ∧ w.toInt = p1.toInt) ∧ s.2.1 32 = upd (σ.2.1 32) j.toNatClampNeg w))) ∧ fd_H (((¬ v.toInt = 0 → s.2.1 33 = σ.2.1 33) ∧ (v.toInt = 0 → ∃ j w : Int32, (j.toInt = (σ.1 18).toInt ∧ w.toInt = p2.toInt) ∧ s.2.1 33 = upd (σ.2.1 33) j.toNatClampNeg w))) ∧ fd_H (((¬ v.toInt = 0 → s.2.1 34 = σ.2.1 34) ∧ (v.toInt = 0 → ∃ j w : Int32, (j.toInt = (σ.1 18).toInt ∧ w.toInt = p3.toInt) ∧ s.2.1 34 = upd (σ.2.1 34) j.toNatClampNeg w))) ∧ fd_H (((¬ v.toInt = 0 → s.2.1 35 = σ.2.1 35) ∧ (v.toInt = 0 → ∃ j w : Int32, (j.toInt = (σ.1 18).toInt ∧ w.toInt = p4.toInt) ∧ s.2.1 35 = upd (σ.2.1 35) j.toNatClampNeg w))) ∧ fd_H (((¬ v.toInt = 0 → s.2.1 36 = σ.2.1 36) ∧ (v.toInt = 0 → ∃ j w : Int32, (j.toInt = (σ.1 18).toInt ∧ w.toInt = p5.toInt) ∧ s.2.1 36 = upd (σ.2.1 36) j.toNatClampNeg w))) ∧ fd_H ((v.toInt = 0 → (s.2.2 39 (0 : Int32).toNatClampNeg).toInt = (fd_cl (s.1 18) (s.2.1 32) p1 N 0 0).toInt))) := by
  have lit0 : (0 : Int32).toInt = 0 := by decide
  have lit1 : (1 : Int32).toInt = 1 := by decide
  have lit2 : (2 : Int32).toInt = 2 := by decide
  have lit3 : (3 : Int32).toInt = 3 := by decide
  have lit60 : (60 : Int32).toInt = 60 := by decide
  have lit1000 : (1000 : Int32).toInt = 1000 := by decide
  have f0 : fd_fr [18, 132, 133, 134, 135, 136, 239] σ σ := fd_fr_rf
  unfold f_L_shape_0_39
  refine fd_ok_bx ?_
  try unfold f_X10_shape_0
  refine fd_ok_bx ?_
  try unfold f_X10_needNet_0
  refine fd_ok_bd ?_
  try unfold f_X2_has_1
  refine fd_ok_ite (fun c_1 => ?_) (fun c_1 => ?_)
  ·
    have d_2 := Int32.lt_iff_toInt_lt.mp c_1
    refine fd_ok_pb ?_
    refine fd_ok_itp (by decide) ?_
    refine fd_ok_pr ?_
    refine fd_ok_pr ?_
    refine fd_ok_itp (by decide) ?_
    refine fd_ok_lt (fun σ11_3 eσ11_3 => ?_)
    have i_4 : fd_InvC σ11_3 := by subst eσ11_3; exact i0
    have f_5 : fd_fr [18, 132, 133, 134, 135, 136, 239] σ σ11_3 := fd_fr_mix eσ11_3 f0
    have t_6 : (σ11_3.1 1).toInt = (σ.1 1).toInt := by subst eσ11_3; rfl
    have t_7 : (σ11_3.1 18).toInt = (σ.1 18).toInt := by subst eσ11_3; rfl
    have y_8 := fd_ymixA (d := 32) eσ11_3 (rfl : σ.2.1 32 = _)
    have y_9 := fd_ymixA (d := 33) eσ11_3 (rfl : σ.2.1 33 = _)
    have y_10 := fd_ymixA (d := 34) eσ11_3 (rfl : σ.2.1 34 = _)
    have y_11 := fd_ymixA (d := 35) eσ11_3 (rfl : σ.2.1 35 = _)
    have y_12 := fd_ymixA (d := 36) eσ11_3 (rfl : σ.2.1 36 = _)
    have x_13 : ((¬ (0 ≤ p1.toInt ∧ p1.toInt < (σ.1 1).toInt)) ∧ (1 : Int32).toInt = 1 ∧ (σ11_3.1 18).toInt = (σ.1 18).toInt) ∨ (¬ (¬ (0 ≤ p1.toInt ∧ p1.toInt < (σ.1 1).toInt)) ∧ ((σ.1 18).toInt = 60) ∧ (1 : Int32).toInt = 2 ∧ (σ11_3.1 18).toInt = (σ.1 18).toInt) ∨ (¬ (¬ (0 ≤ p1.toInt ∧ p1.toInt < (σ.1 1).toInt)) ∧ ¬ ((σ.1 18).toInt = 60) ∧ (¬ (0 ≤ p2.toInt ∧ p2.toInt < p4.toInt ∧ p4.toInt ≤ 1000 ∧ 0 ≤ p3.toInt ∧ p3.toInt < p5.toInt ∧ p5.toInt ≤ 1000)) ∧ (1 : Int32).toInt = 3 ∧ (σ11_3.1 18).toInt = (σ.1 18).toInt) ∨ (¬ (¬ (0 ≤ p1.toInt ∧ p1.toInt < (σ.1 1).toInt)) ∧ ¬ ((σ.1 18).toInt = 60) ∧ ¬ (¬ (0 ≤ p2.toInt ∧ p2.toInt < p4.toInt ∧ p4.toInt ≤ 1000 ∧ 0 ≤ p3.toInt ∧ p3.toInt < p5.toInt ∧ p5.toInt ≤ 1000)) ∧ (1 : Int32).toInt = 0 ∧ (σ11_3.1 18).toInt = (σ.1 18).toInt + 1) := by omega
    have w_14 : fd_H (((¬ (1 : Int32).toInt = 0 → σ11_3.2.1 32 = σ.2.1 32) ∧ ((1 : Int32).toInt = 0 → ∃ j w : Int32, (j.toInt = (σ.1 18).toInt ∧ w.toInt = p1.toInt) ∧ σ11_3.2.1 32 = upd (σ.2.1 32) j.toNatClampNeg w))) := fd_hd (⟨fun _ => y_8, fun h => absurd h (by omega)⟩)
    have w_15 : fd_H (((¬ (1 : Int32).toInt = 0 → σ11_3.2.1 33 = σ.2.1 33) ∧ ((1 : Int32).toInt = 0 → ∃ j w : Int32, (j.toInt = (σ.1 18).toInt ∧ w.toInt = p2.toInt) ∧ σ11_3.2.1 33 = upd (σ.2.1 33) j.toNatClampNeg w))) := fd_hd (⟨fun _ => y_9, fun h => absurd h (by omega)⟩)
    have w_16 : fd_H (((¬ (1 : Int32).toInt = 0 → σ11_3.2.1 34 = σ.2.1 34) ∧ ((1 : Int32).toInt = 0 → ∃ j w : Int32, (j.toInt = (σ.1 18).toInt ∧ w.toInt = p3.toInt) ∧ σ11_3.2.1 34 = upd (σ.2.1 34) j.toNatClampNeg w))) := fd_hd (⟨fun _ => y_10, fun h => absurd h (by omega)⟩)
    have w_17 : fd_H (((¬ (1 : Int32).toInt = 0 → σ11_3.2.1 35 = σ.2.1 35) ∧ ((1 : Int32).toInt = 0 → ∃ j w : Int32, (j.toInt = (σ.1 18).toInt ∧ w.toInt = p4.toInt) ∧ σ11_3.2.1 35 = upd (σ.2.1 35) j.toNatClampNeg w))) := fd_hd (⟨fun _ => y_11, fun h => absurd h (by omega)⟩)
    have w_18 : fd_H (((¬ (1 : Int32).toInt = 0 → σ11_3.2.1 36 = σ.2.1 36) ∧ ((1 : Int32).toInt = 0 → ∃ j w : Int32, (j.toInt = (σ.1 18).toInt ∧ w.toInt = p5.toInt) ∧ σ11_3.2.1 36 = upd (σ.2.1 36) j.toNatClampNeg w))) := fd_hd (⟨fun _ => y_12, fun h => absurd h (by omega)⟩)
    have w_19 : fd_H (((1 : Int32).toInt = 0 → (σ11_3.2.2 39 (0 : Int32).toNatClampNeg).toInt = (fd_cl (σ11_3.1 18) (σ11_3.2.1 32) p1 N 0 0).toInt)) := fd_hd (fun h => absurd h (by omega))
    exact fd_ok_some ⟨i_4, f_5, x_13, w_14, w_15, w_16, w_17, w_18, w_19⟩
  ·
    have d_20 := Int32.le_iff_toInt_le.mp (Int32.not_lt.mp c_1)
    have r_21 : (0 : Int) ≤ (σ.1 1).toInt ∧ (σ.1 1).toInt ≤ 200 := i0.1 1
    refine fd_ok_ite (fun c_22 => ?_) (fun c_22 => ?_)
    ·
      have d_23 := Int32.le_iff_toInt_le.mp c_22
      refine fd_ok_pb ?_
      refine fd_ok_itp (by decide) ?_
      refine fd_ok_pr ?_
      refine fd_ok_pr ?_
      refine fd_ok_itp (by decide) ?_
      refine fd_ok_lt (fun σ11_24 eσ11_24 => ?_)
      have i_25 : fd_InvC σ11_24 := by subst eσ11_24; exact i0
      have f_26 : fd_fr [18, 132, 133, 134, 135, 136, 239] σ σ11_24 := fd_fr_mix eσ11_24 f0
      have t_27 : (σ11_24.1 1).toInt = (σ.1 1).toInt := by subst eσ11_24; rfl
      have t_28 : (σ11_24.1 18).toInt = (σ.1 18).toInt := by subst eσ11_24; rfl
      have y_29 := fd_ymixA (d := 32) eσ11_24 (rfl : σ.2.1 32 = _)
      have y_30 := fd_ymixA (d := 33) eσ11_24 (rfl : σ.2.1 33 = _)
      have y_31 := fd_ymixA (d := 34) eσ11_24 (rfl : σ.2.1 34 = _)
      have y_32 := fd_ymixA (d := 35) eσ11_24 (rfl : σ.2.1 35 = _)
      have y_33 := fd_ymixA (d := 36) eσ11_24 (rfl : σ.2.1 36 = _)
      have x_34 : ((¬ (0 ≤ p1.toInt ∧ p1.toInt < (σ.1 1).toInt)) ∧ (1 : Int32).toInt = 1 ∧ (σ11_24.1 18).toInt = (σ.1 18).toInt) ∨ (¬ (¬ (0 ≤ p1.toInt ∧ p1.toInt < (σ.1 1).toInt)) ∧ ((σ.1 18).toInt = 60) ∧ (1 : Int32).toInt = 2 ∧ (σ11_24.1 18).toInt = (σ.1 18).toInt) ∨ (¬ (¬ (0 ≤ p1.toInt ∧ p1.toInt < (σ.1 1).toInt)) ∧ ¬ ((σ.1 18).toInt = 60) ∧ (¬ (0 ≤ p2.toInt ∧ p2.toInt < p4.toInt ∧ p4.toInt ≤ 1000 ∧ 0 ≤ p3.toInt ∧ p3.toInt < p5.toInt ∧ p5.toInt ≤ 1000)) ∧ (1 : Int32).toInt = 3 ∧ (σ11_24.1 18).toInt = (σ.1 18).toInt) ∨ (¬ (¬ (0 ≤ p1.toInt ∧ p1.toInt < (σ.1 1).toInt)) ∧ ¬ ((σ.1 18).toInt = 60) ∧ ¬ (¬ (0 ≤ p2.toInt ∧ p2.toInt < p4.toInt ∧ p4.toInt ≤ 1000 ∧ 0 ≤ p3.toInt ∧ p3.toInt < p5.toInt ∧ p5.toInt ≤ 1000)) ∧ (1 : Int32).toInt = 0 ∧ (σ11_24.1 18).toInt = (σ.1 18).toInt + 1) := by omega
      have w_35 : fd_H (((¬ (1 : Int32).toInt = 0 → σ11_24.2.1 32 = σ.2.1 32) ∧ ((1 : Int32).toInt = 0 → ∃ j w : Int32, (j.toInt = (σ.1 18).toInt ∧ w.toInt = p1.toInt) ∧ σ11_24.2.1 32 = upd (σ.2.1 32) j.toNatClampNeg w))) := fd_hd (⟨fun _ => y_29, fun h => absurd h (by omega)⟩)
      have w_36 : fd_H (((¬ (1 : Int32).toInt = 0 → σ11_24.2.1 33 = σ.2.1 33) ∧ ((1 : Int32).toInt = 0 → ∃ j w : Int32, (j.toInt = (σ.1 18).toInt ∧ w.toInt = p2.toInt) ∧ σ11_24.2.1 33 = upd (σ.2.1 33) j.toNatClampNeg w))) := fd_hd (⟨fun _ => y_30, fun h => absurd h (by omega)⟩)
      have w_37 : fd_H (((¬ (1 : Int32).toInt = 0 → σ11_24.2.1 34 = σ.2.1 34) ∧ ((1 : Int32).toInt = 0 → ∃ j w : Int32, (j.toInt = (σ.1 18).toInt ∧ w.toInt = p3.toInt) ∧ σ11_24.2.1 34 = upd (σ.2.1 34) j.toNatClampNeg w))) := fd_hd (⟨fun _ => y_31, fun h => absurd h (by omega)⟩)
      have w_38 : fd_H (((¬ (1 : Int32).toInt = 0 → σ11_24.2.1 35 = σ.2.1 35) ∧ ((1 : Int32).toInt = 0 → ∃ j w : Int32, (j.toInt = (σ.1 18).toInt ∧ w.toInt = p4.toInt) ∧ σ11_24.2.1 35 = upd (σ.2.1 35) j.toNatClampNeg w))) := fd_hd (⟨fun _ => y_32, fun h => absurd h (by omega)⟩)
      have w_39 : fd_H (((¬ (1 : Int32).toInt = 0 → σ11_24.2.1 36 = σ.2.1 36) ∧ ((1 : Int32).toInt = 0 → ∃ j w : Int32, (j.toInt = (σ.1 18).toInt ∧ w.toInt = p5.toInt) ∧ σ11_24.2.1 36 = upd (σ.2.1 36) j.toNatClampNeg w))) := fd_hd (⟨fun _ => y_33, fun h => absurd h (by omega)⟩)
      have w_40 : fd_H (((1 : Int32).toInt = 0 → (σ11_24.2.2 39 (0 : Int32).toNatClampNeg).toInt = (fd_cl (σ11_24.1 18) (σ11_24.2.1 32) p1 N 0 0).toInt)) := fd_hd (fun h => absurd h (by omega))
      exact fd_ok_some ⟨i_25, f_26, x_34, w_35, w_36, w_37, w_38, w_39, w_40⟩
    ·
      have d_41 := Int32.lt_iff_toInt_lt.mp (Int32.not_le.mp c_22)
      refine fd_ok_pb ?_
      refine fd_ok_itn (by decide) ?_
      refine fd_ok_pl ?_
      refine fd_ok_bd ?_
      try unfold f_X6_size_11
      refine fd_ok_pb ?_
      have r_42 : (0 : Int) ≤ (σ.1 18).toInt ∧ (σ.1 18).toInt ≤ 60 := i0.1 18
      refine fd_ok_ite (fun c_43 => ?_) (fun c_43 => ?_)
      ·
        have d_44 := congrArg Int32.toInt c_43
        refine fd_ok_pr ?_
        refine fd_ok_itn (by decide) ?_
        refine fd_ok_itp (by decide) ?_
        refine fd_ok_lt (fun σ13_45 eσ13_45 => ?_)
        have i_46 : fd_InvC σ13_45 := by subst eσ13_45; exact i0
        have f_47 : fd_fr [18, 132, 133, 134, 135, 136, 239] σ σ13_45 := fd_fr_mix eσ13_45 f0
        have t_48 : (σ13_45.1 1).toInt = (σ.1 1).toInt := by subst eσ13_45; rfl
        have t_49 : (σ13_45.1 18).toInt = (σ.1 18).toInt := by subst eσ13_45; rfl
        have y_50 := fd_ymixA (d := 32) eσ13_45 (rfl : σ.2.1 32 = _)
        have y_51 := fd_ymixA (d := 33) eσ13_45 (rfl : σ.2.1 33 = _)
        have y_52 := fd_ymixA (d := 34) eσ13_45 (rfl : σ.2.1 34 = _)
        have y_53 := fd_ymixA (d := 35) eσ13_45 (rfl : σ.2.1 35 = _)
        have y_54 := fd_ymixA (d := 36) eσ13_45 (rfl : σ.2.1 36 = _)
        have x_55 : ((¬ (0 ≤ p1.toInt ∧ p1.toInt < (σ.1 1).toInt)) ∧ (2 : Int32).toInt = 1 ∧ (σ13_45.1 18).toInt = (σ.1 18).toInt) ∨ (¬ (¬ (0 ≤ p1.toInt ∧ p1.toInt < (σ.1 1).toInt)) ∧ ((σ.1 18).toInt = 60) ∧ (2 : Int32).toInt = 2 ∧ (σ13_45.1 18).toInt = (σ.1 18).toInt) ∨ (¬ (¬ (0 ≤ p1.toInt ∧ p1.toInt < (σ.1 1).toInt)) ∧ ¬ ((σ.1 18).toInt = 60) ∧ (¬ (0 ≤ p2.toInt ∧ p2.toInt < p4.toInt ∧ p4.toInt ≤ 1000 ∧ 0 ≤ p3.toInt ∧ p3.toInt < p5.toInt ∧ p5.toInt ≤ 1000)) ∧ (2 : Int32).toInt = 3 ∧ (σ13_45.1 18).toInt = (σ.1 18).toInt) ∨ (¬ (¬ (0 ≤ p1.toInt ∧ p1.toInt < (σ.1 1).toInt)) ∧ ¬ ((σ.1 18).toInt = 60) ∧ ¬ (¬ (0 ≤ p2.toInt ∧ p2.toInt < p4.toInt ∧ p4.toInt ≤ 1000 ∧ 0 ≤ p3.toInt ∧ p3.toInt < p5.toInt ∧ p5.toInt ≤ 1000)) ∧ (2 : Int32).toInt = 0 ∧ (σ13_45.1 18).toInt = (σ.1 18).toInt + 1) := by omega
        have w_56 : fd_H (((¬ (2 : Int32).toInt = 0 → σ13_45.2.1 32 = σ.2.1 32) ∧ ((2 : Int32).toInt = 0 → ∃ j w : Int32, (j.toInt = (σ.1 18).toInt ∧ w.toInt = p1.toInt) ∧ σ13_45.2.1 32 = upd (σ.2.1 32) j.toNatClampNeg w))) := fd_hd (⟨fun _ => y_50, fun h => absurd h (by omega)⟩)
        have w_57 : fd_H (((¬ (2 : Int32).toInt = 0 → σ13_45.2.1 33 = σ.2.1 33) ∧ ((2 : Int32).toInt = 0 → ∃ j w : Int32, (j.toInt = (σ.1 18).toInt ∧ w.toInt = p2.toInt) ∧ σ13_45.2.1 33 = upd (σ.2.1 33) j.toNatClampNeg w))) := fd_hd (⟨fun _ => y_51, fun h => absurd h (by omega)⟩)
        have w_58 : fd_H (((¬ (2 : Int32).toInt = 0 → σ13_45.2.1 34 = σ.2.1 34) ∧ ((2 : Int32).toInt = 0 → ∃ j w : Int32, (j.toInt = (σ.1 18).toInt ∧ w.toInt = p3.toInt) ∧ σ13_45.2.1 34 = upd (σ.2.1 34) j.toNatClampNeg w))) := fd_hd (⟨fun _ => y_52, fun h => absurd h (by omega)⟩)
        have w_59 : fd_H (((¬ (2 : Int32).toInt = 0 → σ13_45.2.1 35 = σ.2.1 35) ∧ ((2 : Int32).toInt = 0 → ∃ j w : Int32, (j.toInt = (σ.1 18).toInt ∧ w.toInt = p4.toInt) ∧ σ13_45.2.1 35 = upd (σ.2.1 35) j.toNatClampNeg w))) := fd_hd (⟨fun _ => y_53, fun h => absurd h (by omega)⟩)
        have w_60 : fd_H (((¬ (2 : Int32).toInt = 0 → σ13_45.2.1 36 = σ.2.1 36) ∧ ((2 : Int32).toInt = 0 → ∃ j w : Int32, (j.toInt = (σ.1 18).toInt ∧ w.toInt = p5.toInt) ∧ σ13_45.2.1 36 = upd (σ.2.1 36) j.toNatClampNeg w))) := fd_hd (⟨fun _ => y_54, fun h => absurd h (by omega)⟩)
        have w_61 : fd_H (((2 : Int32).toInt = 0 → (σ13_45.2.2 39 (0 : Int32).toNatClampNeg).toInt = (fd_cl (σ13_45.1 18) (σ13_45.2.1 32) p1 N 0 0).toInt)) := fd_hd (fun h => absurd h (by omega))
        exact fd_ok_some ⟨i_46, f_47, x_55, w_56, w_57, w_58, w_59, w_60, w_61⟩
      ·
        have d_62 : ¬ (σ.1 18).toInt = (60 : Int32).toInt := fun q => c_43 (Int32.toInt_inj.mp q)
        refine fd_ok_bd ?_
        try unfold f_X10_isStretch
        refine fd_ok_ite (fun c_63 => ?_) (fun c_63 => ?_)
        ·
          have d_64 := Int32.lt_iff_toInt_lt.mp c_63
          refine fd_ok_pb ?_
          refine fd_ok_itp (by decide) ?_
          try unfold f_X10_shape_0_J45
          refine fd_ok_pr ?_
          refine fd_ok_itn (by decide) ?_
          refine fd_ok_itn (by decide) ?_
          refine fd_ok_itp (by decide) ?_
          refine fd_ok_lt (fun σ15_65 eσ15_65 => ?_)
          have i_66 : fd_InvC σ15_65 := by subst eσ15_65; exact i0
          have f_67 : fd_fr [18, 132, 133, 134, 135, 136, 239] σ σ15_65 := fd_fr_mix eσ15_65 f0
          have t_68 : (σ15_65.1 1).toInt = (σ.1 1).toInt := by subst eσ15_65; rfl
          have t_69 : (σ15_65.1 18).toInt = (σ.1 18).toInt := by subst eσ15_65; rfl
          have y_70 := fd_ymixA (d := 32) eσ15_65 (rfl : σ.2.1 32 = _)
          have y_71 := fd_ymixA (d := 33) eσ15_65 (rfl : σ.2.1 33 = _)
          have y_72 := fd_ymixA (d := 34) eσ15_65 (rfl : σ.2.1 34 = _)
          have y_73 := fd_ymixA (d := 35) eσ15_65 (rfl : σ.2.1 35 = _)
          have y_74 := fd_ymixA (d := 36) eσ15_65 (rfl : σ.2.1 36 = _)
          have x_75 : ((¬ (0 ≤ p1.toInt ∧ p1.toInt < (σ.1 1).toInt)) ∧ (3 : Int32).toInt = 1 ∧ (σ15_65.1 18).toInt = (σ.1 18).toInt) ∨ (¬ (¬ (0 ≤ p1.toInt ∧ p1.toInt < (σ.1 1).toInt)) ∧ ((σ.1 18).toInt = 60) ∧ (3 : Int32).toInt = 2 ∧ (σ15_65.1 18).toInt = (σ.1 18).toInt) ∨ (¬ (¬ (0 ≤ p1.toInt ∧ p1.toInt < (σ.1 1).toInt)) ∧ ¬ ((σ.1 18).toInt = 60) ∧ (¬ (0 ≤ p2.toInt ∧ p2.toInt < p4.toInt ∧ p4.toInt ≤ 1000 ∧ 0 ≤ p3.toInt ∧ p3.toInt < p5.toInt ∧ p5.toInt ≤ 1000)) ∧ (3 : Int32).toInt = 3 ∧ (σ15_65.1 18).toInt = (σ.1 18).toInt) ∨ (¬ (¬ (0 ≤ p1.toInt ∧ p1.toInt < (σ.1 1).toInt)) ∧ ¬ ((σ.1 18).toInt = 60) ∧ ¬ (¬ (0 ≤ p2.toInt ∧ p2.toInt < p4.toInt ∧ p4.toInt ≤ 1000 ∧ 0 ≤ p3.toInt ∧ p3.toInt < p5.toInt ∧ p5.toInt ≤ 1000)) ∧ (3 : Int32).toInt = 0 ∧ (σ15_65.1 18).toInt = (σ.1 18).toInt + 1) := by omega
          have w_76 : fd_H (((¬ (3 : Int32).toInt = 0 → σ15_65.2.1 32 = σ.2.1 32) ∧ ((3 : Int32).toInt = 0 → ∃ j w : Int32, (j.toInt = (σ.1 18).toInt ∧ w.toInt = p1.toInt) ∧ σ15_65.2.1 32 = upd (σ.2.1 32) j.toNatClampNeg w))) := fd_hd (⟨fun _ => y_70, fun h => absurd h (by omega)⟩)
          have w_77 : fd_H (((¬ (3 : Int32).toInt = 0 → σ15_65.2.1 33 = σ.2.1 33) ∧ ((3 : Int32).toInt = 0 → ∃ j w : Int32, (j.toInt = (σ.1 18).toInt ∧ w.toInt = p2.toInt) ∧ σ15_65.2.1 33 = upd (σ.2.1 33) j.toNatClampNeg w))) := fd_hd (⟨fun _ => y_71, fun h => absurd h (by omega)⟩)
          have w_78 : fd_H (((¬ (3 : Int32).toInt = 0 → σ15_65.2.1 34 = σ.2.1 34) ∧ ((3 : Int32).toInt = 0 → ∃ j w : Int32, (j.toInt = (σ.1 18).toInt ∧ w.toInt = p3.toInt) ∧ σ15_65.2.1 34 = upd (σ.2.1 34) j.toNatClampNeg w))) := fd_hd (⟨fun _ => y_72, fun h => absurd h (by omega)⟩)
          have w_79 : fd_H (((¬ (3 : Int32).toInt = 0 → σ15_65.2.1 35 = σ.2.1 35) ∧ ((3 : Int32).toInt = 0 → ∃ j w : Int32, (j.toInt = (σ.1 18).toInt ∧ w.toInt = p4.toInt) ∧ σ15_65.2.1 35 = upd (σ.2.1 35) j.toNatClampNeg w))) := fd_hd (⟨fun _ => y_73, fun h => absurd h (by omega)⟩)
          have w_80 : fd_H (((¬ (3 : Int32).toInt = 0 → σ15_65.2.1 36 = σ.2.1 36) ∧ ((3 : Int32).toInt = 0 → ∃ j w : Int32, (j.toInt = (σ.1 18).toInt ∧ w.toInt = p5.toInt) ∧ σ15_65.2.1 36 = upd (σ.2.1 36) j.toNatClampNeg w))) := fd_hd (⟨fun _ => y_74, fun h => absurd h (by omega)⟩)
          have w_81 : fd_H (((3 : Int32).toInt = 0 → (σ15_65.2.2 39 (0 : Int32).toNatClampNeg).toInt = (fd_cl (σ15_65.1 18) (σ15_65.2.1 32) p1 N 0 0).toInt)) := fd_hd (fun h => absurd h (by omega))
          exact fd_ok_some ⟨i_66, f_67, x_75, w_76, w_77, w_78, w_79, w_80, w_81⟩
        ·
          have d_82 := Int32.le_iff_toInt_le.mp (Int32.not_lt.mp c_63)
          refine fd_ok_ite (fun c_83 => ?_) (fun c_83 => ?_)
          ·
            have d_84 := Int32.le_iff_toInt_le.mp c_83
            refine fd_ok_pb ?_
            refine fd_ok_itp (by decide) ?_
            try unfold f_X10_shape_0_J45
            refine fd_ok_pr ?_
            refine fd_ok_itn (by decide) ?_
            refine fd_ok_itn (by decide) ?_
            refine fd_ok_itp (by decide) ?_
            refine fd_ok_lt (fun σ15_85 eσ15_85 => ?_)
            have i_86 : fd_InvC σ15_85 := by subst eσ15_85; exact i0
            have f_87 : fd_fr [18, 132, 133, 134, 135, 136, 239] σ σ15_85 := fd_fr_mix eσ15_85 f0
            have t_88 : (σ15_85.1 1).toInt = (σ.1 1).toInt := by subst eσ15_85; rfl
            have t_89 : (σ15_85.1 18).toInt = (σ.1 18).toInt := by subst eσ15_85; rfl
            have y_90 := fd_ymixA (d := 32) eσ15_85 (rfl : σ.2.1 32 = _)
            have y_91 := fd_ymixA (d := 33) eσ15_85 (rfl : σ.2.1 33 = _)
            have y_92 := fd_ymixA (d := 34) eσ15_85 (rfl : σ.2.1 34 = _)
            have y_93 := fd_ymixA (d := 35) eσ15_85 (rfl : σ.2.1 35 = _)
            have y_94 := fd_ymixA (d := 36) eσ15_85 (rfl : σ.2.1 36 = _)
            have x_95 : ((¬ (0 ≤ p1.toInt ∧ p1.toInt < (σ.1 1).toInt)) ∧ (3 : Int32).toInt = 1 ∧ (σ15_85.1 18).toInt = (σ.1 18).toInt) ∨ (¬ (¬ (0 ≤ p1.toInt ∧ p1.toInt < (σ.1 1).toInt)) ∧ ((σ.1 18).toInt = 60) ∧ (3 : Int32).toInt = 2 ∧ (σ15_85.1 18).toInt = (σ.1 18).toInt) ∨ (¬ (¬ (0 ≤ p1.toInt ∧ p1.toInt < (σ.1 1).toInt)) ∧ ¬ ((σ.1 18).toInt = 60) ∧ (¬ (0 ≤ p2.toInt ∧ p2.toInt < p4.toInt ∧ p4.toInt ≤ 1000 ∧ 0 ≤ p3.toInt ∧ p3.toInt < p5.toInt ∧ p5.toInt ≤ 1000)) ∧ (3 : Int32).toInt = 3 ∧ (σ15_85.1 18).toInt = (σ.1 18).toInt) ∨ (¬ (¬ (0 ≤ p1.toInt ∧ p1.toInt < (σ.1 1).toInt)) ∧ ¬ ((σ.1 18).toInt = 60) ∧ ¬ (¬ (0 ≤ p2.toInt ∧ p2.toInt < p4.toInt ∧ p4.toInt ≤ 1000 ∧ 0 ≤ p3.toInt ∧ p3.toInt < p5.toInt ∧ p5.toInt ≤ 1000)) ∧ (3 : Int32).toInt = 0 ∧ (σ15_85.1 18).toInt = (σ.1 18).toInt + 1) := by omega
            have w_96 : fd_H (((¬ (3 : Int32).toInt = 0 → σ15_85.2.1 32 = σ.2.1 32) ∧ ((3 : Int32).toInt = 0 → ∃ j w : Int32, (j.toInt = (σ.1 18).toInt ∧ w.toInt = p1.toInt) ∧ σ15_85.2.1 32 = upd (σ.2.1 32) j.toNatClampNeg w))) := fd_hd (⟨fun _ => y_90, fun h => absurd h (by omega)⟩)
            have w_97 : fd_H (((¬ (3 : Int32).toInt = 0 → σ15_85.2.1 33 = σ.2.1 33) ∧ ((3 : Int32).toInt = 0 → ∃ j w : Int32, (j.toInt = (σ.1 18).toInt ∧ w.toInt = p2.toInt) ∧ σ15_85.2.1 33 = upd (σ.2.1 33) j.toNatClampNeg w))) := fd_hd (⟨fun _ => y_91, fun h => absurd h (by omega)⟩)
            have w_98 : fd_H (((¬ (3 : Int32).toInt = 0 → σ15_85.2.1 34 = σ.2.1 34) ∧ ((3 : Int32).toInt = 0 → ∃ j w : Int32, (j.toInt = (σ.1 18).toInt ∧ w.toInt = p3.toInt) ∧ σ15_85.2.1 34 = upd (σ.2.1 34) j.toNatClampNeg w))) := fd_hd (⟨fun _ => y_92, fun h => absurd h (by omega)⟩)
            have w_99 : fd_H (((¬ (3 : Int32).toInt = 0 → σ15_85.2.1 35 = σ.2.1 35) ∧ ((3 : Int32).toInt = 0 → ∃ j w : Int32, (j.toInt = (σ.1 18).toInt ∧ w.toInt = p4.toInt) ∧ σ15_85.2.1 35 = upd (σ.2.1 35) j.toNatClampNeg w))) := fd_hd (⟨fun _ => y_93, fun h => absurd h (by omega)⟩)
            have w_100 : fd_H (((¬ (3 : Int32).toInt = 0 → σ15_85.2.1 36 = σ.2.1 36) ∧ ((3 : Int32).toInt = 0 → ∃ j w : Int32, (j.toInt = (σ.1 18).toInt ∧ w.toInt = p5.toInt) ∧ σ15_85.2.1 36 = upd (σ.2.1 36) j.toNatClampNeg w))) := fd_hd (⟨fun _ => y_94, fun h => absurd h (by omega)⟩)
            have w_101 : fd_H (((3 : Int32).toInt = 0 → (σ15_85.2.2 39 (0 : Int32).toNatClampNeg).toInt = (fd_cl (σ15_85.1 18) (σ15_85.2.1 32) p1 N 0 0).toInt)) := fd_hd (fun h => absurd h (by omega))
            exact fd_ok_some ⟨i_86, f_87, x_95, w_96, w_97, w_98, w_99, w_100, w_101⟩
          ·
            have d_102 := Int32.lt_iff_toInt_lt.mp (Int32.not_le.mp c_83)
            refine fd_ok_ite (fun c_103 => ?_) (fun c_103 => ?_)
            ·
              have d_104 := Int32.lt_iff_toInt_lt.mp c_103
              refine fd_ok_pb ?_
              refine fd_ok_itp (by decide) ?_
              try unfold f_X10_shape_0_J45
              refine fd_ok_pr ?_
              refine fd_ok_itn (by decide) ?_
              refine fd_ok_itn (by decide) ?_
              refine fd_ok_itp (by decide) ?_
              refine fd_ok_lt (fun σ15_105 eσ15_105 => ?_)
              have i_106 : fd_InvC σ15_105 := by subst eσ15_105; exact i0
              have f_107 : fd_fr [18, 132, 133, 134, 135, 136, 239] σ σ15_105 := fd_fr_mix eσ15_105 f0
              have t_108 : (σ15_105.1 1).toInt = (σ.1 1).toInt := by subst eσ15_105; rfl
              have t_109 : (σ15_105.1 18).toInt = (σ.1 18).toInt := by subst eσ15_105; rfl
              have y_110 := fd_ymixA (d := 32) eσ15_105 (rfl : σ.2.1 32 = _)
              have y_111 := fd_ymixA (d := 33) eσ15_105 (rfl : σ.2.1 33 = _)
              have y_112 := fd_ymixA (d := 34) eσ15_105 (rfl : σ.2.1 34 = _)
              have y_113 := fd_ymixA (d := 35) eσ15_105 (rfl : σ.2.1 35 = _)
              have y_114 := fd_ymixA (d := 36) eσ15_105 (rfl : σ.2.1 36 = _)
              have x_115 : ((¬ (0 ≤ p1.toInt ∧ p1.toInt < (σ.1 1).toInt)) ∧ (3 : Int32).toInt = 1 ∧ (σ15_105.1 18).toInt = (σ.1 18).toInt) ∨ (¬ (¬ (0 ≤ p1.toInt ∧ p1.toInt < (σ.1 1).toInt)) ∧ ((σ.1 18).toInt = 60) ∧ (3 : Int32).toInt = 2 ∧ (σ15_105.1 18).toInt = (σ.1 18).toInt) ∨ (¬ (¬ (0 ≤ p1.toInt ∧ p1.toInt < (σ.1 1).toInt)) ∧ ¬ ((σ.1 18).toInt = 60) ∧ (¬ (0 ≤ p2.toInt ∧ p2.toInt < p4.toInt ∧ p4.toInt ≤ 1000 ∧ 0 ≤ p3.toInt ∧ p3.toInt < p5.toInt ∧ p5.toInt ≤ 1000)) ∧ (3 : Int32).toInt = 3 ∧ (σ15_105.1 18).toInt = (σ.1 18).toInt) ∨ (¬ (¬ (0 ≤ p1.toInt ∧ p1.toInt < (σ.1 1).toInt)) ∧ ¬ ((σ.1 18).toInt = 60) ∧ ¬ (¬ (0 ≤ p2.toInt ∧ p2.toInt < p4.toInt ∧ p4.toInt ≤ 1000 ∧ 0 ≤ p3.toInt ∧ p3.toInt < p5.toInt ∧ p5.toInt ≤ 1000)) ∧ (3 : Int32).toInt = 0 ∧ (σ15_105.1 18).toInt = (σ.1 18).toInt + 1) := by omega
              have w_116 : fd_H (((¬ (3 : Int32).toInt = 0 → σ15_105.2.1 32 = σ.2.1 32) ∧ ((3 : Int32).toInt = 0 → ∃ j w : Int32, (j.toInt = (σ.1 18).toInt ∧ w.toInt = p1.toInt) ∧ σ15_105.2.1 32 = upd (σ.2.1 32) j.toNatClampNeg w))) := fd_hd (⟨fun _ => y_110, fun h => absurd h (by omega)⟩)
              have w_117 : fd_H (((¬ (3 : Int32).toInt = 0 → σ15_105.2.1 33 = σ.2.1 33) ∧ ((3 : Int32).toInt = 0 → ∃ j w : Int32, (j.toInt = (σ.1 18).toInt ∧ w.toInt = p2.toInt) ∧ σ15_105.2.1 33 = upd (σ.2.1 33) j.toNatClampNeg w))) := fd_hd (⟨fun _ => y_111, fun h => absurd h (by omega)⟩)
              have w_118 : fd_H (((¬ (3 : Int32).toInt = 0 → σ15_105.2.1 34 = σ.2.1 34) ∧ ((3 : Int32).toInt = 0 → ∃ j w : Int32, (j.toInt = (σ.1 18).toInt ∧ w.toInt = p3.toInt) ∧ σ15_105.2.1 34 = upd (σ.2.1 34) j.toNatClampNeg w))) := fd_hd (⟨fun _ => y_112, fun h => absurd h (by omega)⟩)
              have w_119 : fd_H (((¬ (3 : Int32).toInt = 0 → σ15_105.2.1 35 = σ.2.1 35) ∧ ((3 : Int32).toInt = 0 → ∃ j w : Int32, (j.toInt = (σ.1 18).toInt ∧ w.toInt = p4.toInt) ∧ σ15_105.2.1 35 = upd (σ.2.1 35) j.toNatClampNeg w))) := fd_hd (⟨fun _ => y_113, fun h => absurd h (by omega)⟩)
              have w_120 : fd_H (((¬ (3 : Int32).toInt = 0 → σ15_105.2.1 36 = σ.2.1 36) ∧ ((3 : Int32).toInt = 0 → ∃ j w : Int32, (j.toInt = (σ.1 18).toInt ∧ w.toInt = p5.toInt) ∧ σ15_105.2.1 36 = upd (σ.2.1 36) j.toNatClampNeg w))) := fd_hd (⟨fun _ => y_114, fun h => absurd h (by omega)⟩)
              have w_121 : fd_H (((3 : Int32).toInt = 0 → (σ15_105.2.2 39 (0 : Int32).toNatClampNeg).toInt = (fd_cl (σ15_105.1 18) (σ15_105.2.1 32) p1 N 0 0).toInt)) := fd_hd (fun h => absurd h (by omega))
              exact fd_ok_some ⟨i_106, f_107, x_115, w_116, w_117, w_118, w_119, w_120, w_121⟩
            ·
              have d_122 := Int32.le_iff_toInt_le.mp (Int32.not_lt.mp c_103)
              refine fd_ok_pb ?_
              refine fd_ok_itn (by decide) ?_
              refine fd_ok_bd ?_
              try unfold f_X10_isStretch
              refine fd_ok_ite (fun c_123 => ?_) (fun c_123 => ?_)
              ·
                have d_124 := Int32.lt_iff_toInt_lt.mp c_123
                refine fd_ok_pb ?_
                refine fd_ok_itp (by decide) ?_
                try unfold f_X10_shape_0_J45
                refine fd_ok_pr ?_
                refine fd_ok_itn (by decide) ?_
                refine fd_ok_itn (by decide) ?_
                refine fd_ok_itp (by decide) ?_
                refine fd_ok_lt (fun σ15_125 eσ15_125 => ?_)
                have i_126 : fd_InvC σ15_125 := by subst eσ15_125; exact i0
                have f_127 : fd_fr [18, 132, 133, 134, 135, 136, 239] σ σ15_125 := fd_fr_mix eσ15_125 f0
                have t_128 : (σ15_125.1 1).toInt = (σ.1 1).toInt := by subst eσ15_125; rfl
                have t_129 : (σ15_125.1 18).toInt = (σ.1 18).toInt := by subst eσ15_125; rfl
                have y_130 := fd_ymixA (d := 32) eσ15_125 (rfl : σ.2.1 32 = _)
                have y_131 := fd_ymixA (d := 33) eσ15_125 (rfl : σ.2.1 33 = _)
                have y_132 := fd_ymixA (d := 34) eσ15_125 (rfl : σ.2.1 34 = _)
                have y_133 := fd_ymixA (d := 35) eσ15_125 (rfl : σ.2.1 35 = _)
                have y_134 := fd_ymixA (d := 36) eσ15_125 (rfl : σ.2.1 36 = _)
                have x_135 : ((¬ (0 ≤ p1.toInt ∧ p1.toInt < (σ.1 1).toInt)) ∧ (3 : Int32).toInt = 1 ∧ (σ15_125.1 18).toInt = (σ.1 18).toInt) ∨ (¬ (¬ (0 ≤ p1.toInt ∧ p1.toInt < (σ.1 1).toInt)) ∧ ((σ.1 18).toInt = 60) ∧ (3 : Int32).toInt = 2 ∧ (σ15_125.1 18).toInt = (σ.1 18).toInt) ∨ (¬ (¬ (0 ≤ p1.toInt ∧ p1.toInt < (σ.1 1).toInt)) ∧ ¬ ((σ.1 18).toInt = 60) ∧ (¬ (0 ≤ p2.toInt ∧ p2.toInt < p4.toInt ∧ p4.toInt ≤ 1000 ∧ 0 ≤ p3.toInt ∧ p3.toInt < p5.toInt ∧ p5.toInt ≤ 1000)) ∧ (3 : Int32).toInt = 3 ∧ (σ15_125.1 18).toInt = (σ.1 18).toInt) ∨ (¬ (¬ (0 ≤ p1.toInt ∧ p1.toInt < (σ.1 1).toInt)) ∧ ¬ ((σ.1 18).toInt = 60) ∧ ¬ (¬ (0 ≤ p2.toInt ∧ p2.toInt < p4.toInt ∧ p4.toInt ≤ 1000 ∧ 0 ≤ p3.toInt ∧ p3.toInt < p5.toInt ∧ p5.toInt ≤ 1000)) ∧ (3 : Int32).toInt = 0 ∧ (σ15_125.1 18).toInt = (σ.1 18).toInt + 1) := by omega
                have w_136 : fd_H (((¬ (3 : Int32).toInt = 0 → σ15_125.2.1 32 = σ.2.1 32) ∧ ((3 : Int32).toInt = 0 → ∃ j w : Int32, (j.toInt = (σ.1 18).toInt ∧ w.toInt = p1.toInt) ∧ σ15_125.2.1 32 = upd (σ.2.1 32) j.toNatClampNeg w))) := fd_hd (⟨fun _ => y_130, fun h => absurd h (by omega)⟩)
                have w_137 : fd_H (((¬ (3 : Int32).toInt = 0 → σ15_125.2.1 33 = σ.2.1 33) ∧ ((3 : Int32).toInt = 0 → ∃ j w : Int32, (j.toInt = (σ.1 18).toInt ∧ w.toInt = p2.toInt) ∧ σ15_125.2.1 33 = upd (σ.2.1 33) j.toNatClampNeg w))) := fd_hd (⟨fun _ => y_131, fun h => absurd h (by omega)⟩)
                have w_138 : fd_H (((¬ (3 : Int32).toInt = 0 → σ15_125.2.1 34 = σ.2.1 34) ∧ ((3 : Int32).toInt = 0 → ∃ j w : Int32, (j.toInt = (σ.1 18).toInt ∧ w.toInt = p3.toInt) ∧ σ15_125.2.1 34 = upd (σ.2.1 34) j.toNatClampNeg w))) := fd_hd (⟨fun _ => y_132, fun h => absurd h (by omega)⟩)
                have w_139 : fd_H (((¬ (3 : Int32).toInt = 0 → σ15_125.2.1 35 = σ.2.1 35) ∧ ((3 : Int32).toInt = 0 → ∃ j w : Int32, (j.toInt = (σ.1 18).toInt ∧ w.toInt = p4.toInt) ∧ σ15_125.2.1 35 = upd (σ.2.1 35) j.toNatClampNeg w))) := fd_hd (⟨fun _ => y_133, fun h => absurd h (by omega)⟩)
                have w_140 : fd_H (((¬ (3 : Int32).toInt = 0 → σ15_125.2.1 36 = σ.2.1 36) ∧ ((3 : Int32).toInt = 0 → ∃ j w : Int32, (j.toInt = (σ.1 18).toInt ∧ w.toInt = p5.toInt) ∧ σ15_125.2.1 36 = upd (σ.2.1 36) j.toNatClampNeg w))) := fd_hd (⟨fun _ => y_134, fun h => absurd h (by omega)⟩)
                have w_141 : fd_H (((3 : Int32).toInt = 0 → (σ15_125.2.2 39 (0 : Int32).toNatClampNeg).toInt = (fd_cl (σ15_125.1 18) (σ15_125.2.1 32) p1 N 0 0).toInt)) := fd_hd (fun h => absurd h (by omega))
                exact fd_ok_some ⟨i_126, f_127, x_135, w_136, w_137, w_138, w_139, w_140, w_141⟩
              ·
                have d_142 := Int32.le_iff_toInt_le.mp (Int32.not_lt.mp c_123)
                refine fd_ok_ite (fun c_143 => ?_) (fun c_143 => ?_)
                ·
                  have d_144 := Int32.le_iff_toInt_le.mp c_143
                  refine fd_ok_pb ?_
                  refine fd_ok_itp (by decide) ?_
                  try unfold f_X10_shape_0_J45
                  refine fd_ok_pr ?_
                  refine fd_ok_itn (by decide) ?_
                  refine fd_ok_itn (by decide) ?_
                  refine fd_ok_itp (by decide) ?_
                  refine fd_ok_lt (fun σ15_145 eσ15_145 => ?_)
                  have i_146 : fd_InvC σ15_145 := by subst eσ15_145; exact i0
                  have f_147 : fd_fr [18, 132, 133, 134, 135, 136, 239] σ σ15_145 := fd_fr_mix eσ15_145 f0
                  have t_148 : (σ15_145.1 1).toInt = (σ.1 1).toInt := by subst eσ15_145; rfl
                  have t_149 : (σ15_145.1 18).toInt = (σ.1 18).toInt := by subst eσ15_145; rfl
                  have y_150 := fd_ymixA (d := 32) eσ15_145 (rfl : σ.2.1 32 = _)
                  have y_151 := fd_ymixA (d := 33) eσ15_145 (rfl : σ.2.1 33 = _)
                  have y_152 := fd_ymixA (d := 34) eσ15_145 (rfl : σ.2.1 34 = _)
                  have y_153 := fd_ymixA (d := 35) eσ15_145 (rfl : σ.2.1 35 = _)
                  have y_154 := fd_ymixA (d := 36) eσ15_145 (rfl : σ.2.1 36 = _)
                  have x_155 : ((¬ (0 ≤ p1.toInt ∧ p1.toInt < (σ.1 1).toInt)) ∧ (3 : Int32).toInt = 1 ∧ (σ15_145.1 18).toInt = (σ.1 18).toInt) ∨ (¬ (¬ (0 ≤ p1.toInt ∧ p1.toInt < (σ.1 1).toInt)) ∧ ((σ.1 18).toInt = 60) ∧ (3 : Int32).toInt = 2 ∧ (σ15_145.1 18).toInt = (σ.1 18).toInt) ∨ (¬ (¬ (0 ≤ p1.toInt ∧ p1.toInt < (σ.1 1).toInt)) ∧ ¬ ((σ.1 18).toInt = 60) ∧ (¬ (0 ≤ p2.toInt ∧ p2.toInt < p4.toInt ∧ p4.toInt ≤ 1000 ∧ 0 ≤ p3.toInt ∧ p3.toInt < p5.toInt ∧ p5.toInt ≤ 1000)) ∧ (3 : Int32).toInt = 3 ∧ (σ15_145.1 18).toInt = (σ.1 18).toInt) ∨ (¬ (¬ (0 ≤ p1.toInt ∧ p1.toInt < (σ.1 1).toInt)) ∧ ¬ ((σ.1 18).toInt = 60) ∧ ¬ (¬ (0 ≤ p2.toInt ∧ p2.toInt < p4.toInt ∧ p4.toInt ≤ 1000 ∧ 0 ≤ p3.toInt ∧ p3.toInt < p5.toInt ∧ p5.toInt ≤ 1000)) ∧ (3 : Int32).toInt = 0 ∧ (σ15_145.1 18).toInt = (σ.1 18).toInt + 1) := by omega
                  have w_156 : fd_H (((¬ (3 : Int32).toInt = 0 → σ15_145.2.1 32 = σ.2.1 32) ∧ ((3 : Int32).toInt = 0 → ∃ j w : Int32, (j.toInt = (σ.1 18).toInt ∧ w.toInt = p1.toInt) ∧ σ15_145.2.1 32 = upd (σ.2.1 32) j.toNatClampNeg w))) := fd_hd (⟨fun _ => y_150, fun h => absurd h (by omega)⟩)
                  have w_157 : fd_H (((¬ (3 : Int32).toInt = 0 → σ15_145.2.1 33 = σ.2.1 33) ∧ ((3 : Int32).toInt = 0 → ∃ j w : Int32, (j.toInt = (σ.1 18).toInt ∧ w.toInt = p2.toInt) ∧ σ15_145.2.1 33 = upd (σ.2.1 33) j.toNatClampNeg w))) := fd_hd (⟨fun _ => y_151, fun h => absurd h (by omega)⟩)
                  have w_158 : fd_H (((¬ (3 : Int32).toInt = 0 → σ15_145.2.1 34 = σ.2.1 34) ∧ ((3 : Int32).toInt = 0 → ∃ j w : Int32, (j.toInt = (σ.1 18).toInt ∧ w.toInt = p3.toInt) ∧ σ15_145.2.1 34 = upd (σ.2.1 34) j.toNatClampNeg w))) := fd_hd (⟨fun _ => y_152, fun h => absurd h (by omega)⟩)
                  have w_159 : fd_H (((¬ (3 : Int32).toInt = 0 → σ15_145.2.1 35 = σ.2.1 35) ∧ ((3 : Int32).toInt = 0 → ∃ j w : Int32, (j.toInt = (σ.1 18).toInt ∧ w.toInt = p4.toInt) ∧ σ15_145.2.1 35 = upd (σ.2.1 35) j.toNatClampNeg w))) := fd_hd (⟨fun _ => y_153, fun h => absurd h (by omega)⟩)
                  have w_160 : fd_H (((¬ (3 : Int32).toInt = 0 → σ15_145.2.1 36 = σ.2.1 36) ∧ ((3 : Int32).toInt = 0 → ∃ j w : Int32, (j.toInt = (σ.1 18).toInt ∧ w.toInt = p5.toInt) ∧ σ15_145.2.1 36 = upd (σ.2.1 36) j.toNatClampNeg w))) := fd_hd (⟨fun _ => y_154, fun h => absurd h (by omega)⟩)
                  have w_161 : fd_H (((3 : Int32).toInt = 0 → (σ15_145.2.2 39 (0 : Int32).toNatClampNeg).toInt = (fd_cl (σ15_145.1 18) (σ15_145.2.1 32) p1 N 0 0).toInt)) := fd_hd (fun h => absurd h (by omega))
                  exact fd_ok_some ⟨i_146, f_147, x_155, w_156, w_157, w_158, w_159, w_160, w_161⟩
                ·
                  have d_162 := Int32.lt_iff_toInt_lt.mp (Int32.not_le.mp c_143)
                  refine fd_ok_ite (fun c_163 => ?_) (fun c_163 => ?_)
                  ·
                    have d_164 := Int32.lt_iff_toInt_lt.mp c_163
                    refine fd_ok_pb ?_
                    refine fd_ok_itp (by decide) ?_
                    try unfold f_X10_shape_0_J45
                    refine fd_ok_pr ?_
                    refine fd_ok_itn (by decide) ?_
                    refine fd_ok_itn (by decide) ?_
                    refine fd_ok_itp (by decide) ?_
                    refine fd_ok_lt (fun σ15_165 eσ15_165 => ?_)
                    have i_166 : fd_InvC σ15_165 := by subst eσ15_165; exact i0
                    have f_167 : fd_fr [18, 132, 133, 134, 135, 136, 239] σ σ15_165 := fd_fr_mix eσ15_165 f0
                    have t_168 : (σ15_165.1 1).toInt = (σ.1 1).toInt := by subst eσ15_165; rfl
                    have t_169 : (σ15_165.1 18).toInt = (σ.1 18).toInt := by subst eσ15_165; rfl
                    have y_170 := fd_ymixA (d := 32) eσ15_165 (rfl : σ.2.1 32 = _)
                    have y_171 := fd_ymixA (d := 33) eσ15_165 (rfl : σ.2.1 33 = _)
                    have y_172 := fd_ymixA (d := 34) eσ15_165 (rfl : σ.2.1 34 = _)
                    have y_173 := fd_ymixA (d := 35) eσ15_165 (rfl : σ.2.1 35 = _)
                    have y_174 := fd_ymixA (d := 36) eσ15_165 (rfl : σ.2.1 36 = _)
                    have x_175 : ((¬ (0 ≤ p1.toInt ∧ p1.toInt < (σ.1 1).toInt)) ∧ (3 : Int32).toInt = 1 ∧ (σ15_165.1 18).toInt = (σ.1 18).toInt) ∨ (¬ (¬ (0 ≤ p1.toInt ∧ p1.toInt < (σ.1 1).toInt)) ∧ ((σ.1 18).toInt = 60) ∧ (3 : Int32).toInt = 2 ∧ (σ15_165.1 18).toInt = (σ.1 18).toInt) ∨ (¬ (¬ (0 ≤ p1.toInt ∧ p1.toInt < (σ.1 1).toInt)) ∧ ¬ ((σ.1 18).toInt = 60) ∧ (¬ (0 ≤ p2.toInt ∧ p2.toInt < p4.toInt ∧ p4.toInt ≤ 1000 ∧ 0 ≤ p3.toInt ∧ p3.toInt < p5.toInt ∧ p5.toInt ≤ 1000)) ∧ (3 : Int32).toInt = 3 ∧ (σ15_165.1 18).toInt = (σ.1 18).toInt) ∨ (¬ (¬ (0 ≤ p1.toInt ∧ p1.toInt < (σ.1 1).toInt)) ∧ ¬ ((σ.1 18).toInt = 60) ∧ ¬ (¬ (0 ≤ p2.toInt ∧ p2.toInt < p4.toInt ∧ p4.toInt ≤ 1000 ∧ 0 ≤ p3.toInt ∧ p3.toInt < p5.toInt ∧ p5.toInt ≤ 1000)) ∧ (3 : Int32).toInt = 0 ∧ (σ15_165.1 18).toInt = (σ.1 18).toInt + 1) := by omega
                    have w_176 : fd_H (((¬ (3 : Int32).toInt = 0 → σ15_165.2.1 32 = σ.2.1 32) ∧ ((3 : Int32).toInt = 0 → ∃ j w : Int32, (j.toInt = (σ.1 18).toInt ∧ w.toInt = p1.toInt) ∧ σ15_165.2.1 32 = upd (σ.2.1 32) j.toNatClampNeg w))) := fd_hd (⟨fun _ => y_170, fun h => absurd h (by omega)⟩)
                    have w_177 : fd_H (((¬ (3 : Int32).toInt = 0 → σ15_165.2.1 33 = σ.2.1 33) ∧ ((3 : Int32).toInt = 0 → ∃ j w : Int32, (j.toInt = (σ.1 18).toInt ∧ w.toInt = p2.toInt) ∧ σ15_165.2.1 33 = upd (σ.2.1 33) j.toNatClampNeg w))) := fd_hd (⟨fun _ => y_171, fun h => absurd h (by omega)⟩)
                    have w_178 : fd_H (((¬ (3 : Int32).toInt = 0 → σ15_165.2.1 34 = σ.2.1 34) ∧ ((3 : Int32).toInt = 0 → ∃ j w : Int32, (j.toInt = (σ.1 18).toInt ∧ w.toInt = p3.toInt) ∧ σ15_165.2.1 34 = upd (σ.2.1 34) j.toNatClampNeg w))) := fd_hd (⟨fun _ => y_172, fun h => absurd h (by omega)⟩)
                    have w_179 : fd_H (((¬ (3 : Int32).toInt = 0 → σ15_165.2.1 35 = σ.2.1 35) ∧ ((3 : Int32).toInt = 0 → ∃ j w : Int32, (j.toInt = (σ.1 18).toInt ∧ w.toInt = p4.toInt) ∧ σ15_165.2.1 35 = upd (σ.2.1 35) j.toNatClampNeg w))) := fd_hd (⟨fun _ => y_173, fun h => absurd h (by omega)⟩)
                    have w_180 : fd_H (((¬ (3 : Int32).toInt = 0 → σ15_165.2.1 36 = σ.2.1 36) ∧ ((3 : Int32).toInt = 0 → ∃ j w : Int32, (j.toInt = (σ.1 18).toInt ∧ w.toInt = p5.toInt) ∧ σ15_165.2.1 36 = upd (σ.2.1 36) j.toNatClampNeg w))) := fd_hd (⟨fun _ => y_174, fun h => absurd h (by omega)⟩)
                    have w_181 : fd_H (((3 : Int32).toInt = 0 → (σ15_165.2.2 39 (0 : Int32).toNatClampNeg).toInt = (fd_cl (σ15_165.1 18) (σ15_165.2.1 32) p1 N 0 0).toInt)) := fd_hd (fun h => absurd h (by omega))
                    exact fd_ok_some ⟨i_166, f_167, x_175, w_176, w_177, w_178, w_179, w_180, w_181⟩
                  ·
                    have d_182 := Int32.le_iff_toInt_le.mp (Int32.not_lt.mp c_163)
                    refine fd_ok_pb ?_
                    refine fd_ok_itn (by decide) ?_
                    refine fd_ok_bd ?_
                    try unfold f_X6_add_11
                    refine fd_ok_gd (vp_in_iff.mpr ⟨by omega, by omega⟩) ?_
                    refine fd_ok_lt (fun σ2_183 eσ2_183 => ?_)
                    have i_184 : fd_InvC σ2_183 := fd_inv_sA eσ2_183 i0 (by decide) (by decide) (fd_rng _)
                    have f_185 : fd_fr [18, 132, 133, 134, 135, 136, 239] σ σ2_183 := fd_fr_tr f0 (fd_fr_sA eσ2_183 (by decide))
                    have t_186 : (σ2_183.1 1).toInt = (σ.1 1).toInt := by subst eσ2_183; rfl
                    have t_187 : (σ2_183.1 18).toInt = (σ.1 18).toInt := by subst eσ2_183; rfl
                    have y_188 := fd_yA eσ2_183 (rfl : σ.2.1 32 = _)
                    have y_189 := fd_yAn (d := 33) eσ2_183 (by decide) (rfl : σ.2.1 33 = _)
                    have y_190 := fd_yAn (d := 34) eσ2_183 (by decide) (rfl : σ.2.1 34 = _)
                    have y_191 := fd_yAn (d := 35) eσ2_183 (by decide) (rfl : σ.2.1 35 = _)
                    have y_192 := fd_yAn (d := 36) eσ2_183 (by decide) (rfl : σ.2.1 36 = _)
                    have r_193 : (0 : Int) ≤ (σ2_183.1 18).toInt ∧ (σ2_183.1 18).toInt ≤ 60 := i_184.1 18
                    refine fd_ok_gd (vp_in_iff.mpr ⟨by omega, by omega⟩) ?_
                    refine fd_ok_lt (fun σ4_194 eσ4_194 => ?_)
                    have i_195 : fd_InvC σ4_194 := fd_inv_sA eσ4_194 i_184 (by decide) (by decide) (fd_rng _)
                    have f_196 : fd_fr [18, 132, 133, 134, 135, 136, 239] σ σ4_194 := fd_fr_tr f_185 (fd_fr_sA eσ4_194 (by decide))
                    have t_197 : (σ4_194.1 1).toInt = (σ2_183.1 1).toInt := by subst eσ4_194; rfl
                    have t_198 : (σ4_194.1 18).toInt = (σ2_183.1 18).toInt := by subst eσ4_194; rfl
                    have y_199 := fd_yAn (d := 32) eσ4_194 (by decide) y_188
                    have y_200 := fd_yA eσ4_194 y_189
                    have y_201 := fd_yAn (d := 34) eσ4_194 (by decide) y_190
                    have y_202 := fd_yAn (d := 35) eσ4_194 (by decide) y_191
                    have y_203 := fd_yAn (d := 36) eσ4_194 (by decide) y_192
                    have r_204 : (0 : Int) ≤ (σ4_194.1 18).toInt ∧ (σ4_194.1 18).toInt ≤ 60 := i_195.1 18
                    refine fd_ok_gd (vp_in_iff.mpr ⟨by omega, by omega⟩) ?_
                    refine fd_ok_lt (fun σ6_205 eσ6_205 => ?_)
                    have i_206 : fd_InvC σ6_205 := fd_inv_sA eσ6_205 i_195 (by decide) (by decide) (fd_rng _)
                    have f_207 : fd_fr [18, 132, 133, 134, 135, 136, 239] σ σ6_205 := fd_fr_tr f_196 (fd_fr_sA eσ6_205 (by decide))
                    have t_208 : (σ6_205.1 1).toInt = (σ4_194.1 1).toInt := by subst eσ6_205; rfl
                    have t_209 : (σ6_205.1 18).toInt = (σ4_194.1 18).toInt := by subst eσ6_205; rfl
                    have y_210 := fd_yAn (d := 32) eσ6_205 (by decide) y_199
                    have y_211 := fd_yAn (d := 33) eσ6_205 (by decide) y_200
                    have y_212 := fd_yA eσ6_205 y_201
                    have y_213 := fd_yAn (d := 35) eσ6_205 (by decide) y_202
                    have y_214 := fd_yAn (d := 36) eσ6_205 (by decide) y_203
                    have r_215 : (0 : Int) ≤ (σ6_205.1 18).toInt ∧ (σ6_205.1 18).toInt ≤ 60 := i_206.1 18
                    refine fd_ok_gd (vp_in_iff.mpr ⟨by omega, by omega⟩) ?_
                    refine fd_ok_lt (fun σ8_216 eσ8_216 => ?_)
                    have i_217 : fd_InvC σ8_216 := fd_inv_sA eσ8_216 i_206 (by decide) (by decide) (fd_rng _)
                    have f_218 : fd_fr [18, 132, 133, 134, 135, 136, 239] σ σ8_216 := fd_fr_tr f_207 (fd_fr_sA eσ8_216 (by decide))
                    have t_219 : (σ8_216.1 1).toInt = (σ6_205.1 1).toInt := by subst eσ8_216; rfl
                    have t_220 : (σ8_216.1 18).toInt = (σ6_205.1 18).toInt := by subst eσ8_216; rfl
                    have y_221 := fd_yAn (d := 32) eσ8_216 (by decide) y_210
                    have y_222 := fd_yAn (d := 33) eσ8_216 (by decide) y_211
                    have y_223 := fd_yAn (d := 34) eσ8_216 (by decide) y_212
                    have y_224 := fd_yA eσ8_216 y_213
                    have y_225 := fd_yAn (d := 36) eσ8_216 (by decide) y_214
                    have r_226 : (0 : Int) ≤ (σ8_216.1 18).toInt ∧ (σ8_216.1 18).toInt ≤ 60 := i_217.1 18
                    refine fd_ok_gd (vp_in_iff.mpr ⟨by omega, by omega⟩) ?_
                    refine fd_ok_lt (fun σ10_227 eσ10_227 => ?_)
                    have i_228 : fd_InvC σ10_227 := fd_inv_sA eσ10_227 i_217 (by decide) (by decide) (fd_rng _)
                    have f_229 : fd_fr [18, 132, 133, 134, 135, 136, 239] σ σ10_227 := fd_fr_tr f_218 (fd_fr_sA eσ10_227 (by decide))
                    have t_230 : (σ10_227.1 1).toInt = (σ8_216.1 1).toInt := by subst eσ10_227; rfl
                    have t_231 : (σ10_227.1 18).toInt = (σ8_216.1 18).toInt := by subst eσ10_227; rfl
                    have y_232 := fd_yAn (d := 32) eσ10_227 (by decide) y_221
                    have y_233 := fd_yAn (d := 33) eσ10_227 (by decide) y_222
                    have y_234 := fd_yAn (d := 34) eσ10_227 (by decide) y_223
                    have y_235 := fd_yAn (d := 35) eσ10_227 (by decide) y_224
                    have y_236 := fd_yA eσ10_227 y_225
                    refine fd_ok_lt (fun σ11_237 eσ11_237 => ?_)
                    have r_240 : (0 : Int) ≤ (σ10_227.1 18).toInt ∧ (σ10_227.1 18).toInt ≤ 60 := i_228.1 18
                    have u_241 := Jvm.Kit.i32_add (x := (σ10_227.1 18)) (y := (1 : Int32)) (by omega) (by omega)
                    have i_238 : fd_InvC σ11_237 := fd_inv_sI eσ11_237 i_228 ⟨(by omega : (0 : Int) ≤ ((σ10_227.1 18) + (1 : Int32)).toInt), (by omega : ((σ10_227.1 18) + (1 : Int32)).toInt ≤ 60)⟩
                    have f_239 : fd_fr [18, 132, 133, 134, 135, 136, 239] σ σ11_237 := fd_fr_tr f_229 (fd_fr_sI eσ11_237 (by decide))
                    have t_242 : (σ11_237.1 1).toInt = (σ10_227.1 1).toInt := congrArg Int32.toInt (fd_tN eσ11_237 (by decide))
                    have t_243 : (σ11_237.1 18).toInt = ((σ10_227.1 18) + (1 : Int32)).toInt := congrArg Int32.toInt (fd_tI eσ11_237)
                    have y_244 := fd_yIA (d := 32) eσ11_237 y_232
                    have y_245 := fd_yIA (d := 33) eσ11_237 y_233
                    have y_246 := fd_yIA (d := 34) eσ11_237 y_234
                    have y_247 := fd_yIA (d := 35) eσ11_237 y_235
                    have y_248 := fd_yIA (d := 36) eσ11_237 y_236
                    refine fd_ok_bd ?_
                    try unfold f_X6_shapesOf_11
                    refine fd_ok_cl (s_X6_shapesOf_11_L4 N hN N _ _ _ _ i_238 (by omega) (by omega) (by omega)) ?_
                    rintro v_249 σ_250 ⟨i_251, g_252, x_253⟩
                    have f_254 : fd_fr [18, 132, 133, 134, 135, 136, 239] σ σ_250 := fd_fr_tr f_239 (fd_fr_mono g_252 (by decide))
                    have y_255 := (g_252.2.1 32 (by decide)).trans y_244
                    have y_256 := (g_252.2.1 33 (by decide)).trans y_245
                    have y_257 := (g_252.2.1 34 (by decide)).trans y_246
                    have y_258 := (g_252.2.1 35 (by decide)).trans y_247
                    have y_259 := (g_252.2.1 36 (by decide)).trans y_248
                    have t_260 : (σ_250.1 1).toInt = (σ11_237.1 1).toInt := congrArg Int32.toInt (g_252.1 1 (by decide))
                    have t_261 : (σ_250.1 18).toInt = (σ11_237.1 18).toInt := congrArg Int32.toInt (g_252.1 18 (by decide))
                    refine fd_ok_pb ?_
                    refine fd_ok_pl ?_
                    refine fd_ok_lt (fun σ6_262 eσ6_262 => ?_)
                    have i_263 : fd_InvC σ6_262 := by subst eσ6_262; exact i_251
                    have f_264 : fd_fr [18, 132, 133, 134, 135, 136, 239] σ σ6_262 := fd_fr_mix eσ6_262 f_254
                    have t_265 : (σ6_262.1 1).toInt = (σ_250.1 1).toInt := by subst eσ6_262; rfl
                    have t_266 : (σ6_262.1 18).toInt = (σ_250.1 18).toInt := by subst eσ6_262; rfl
                    have y_267 := fd_ymixA (d := 32) eσ6_262 y_255
                    have y_268 := fd_ymixA (d := 33) eσ6_262 y_256
                    have y_269 := fd_ymixA (d := 34) eσ6_262 y_257
                    have y_270 := fd_ymixA (d := 35) eσ6_262 y_258
                    have y_271 := fd_ymixA (d := 36) eσ6_262 y_259
                    refine fd_ok_gd (vp_in_iff.mpr ⟨by omega, by omega⟩) ?_
                    refine fd_ok_lt (fun σ9_272 eσ9_272 => ?_)
                    have i_273 : fd_InvC σ9_272 := fd_inv_sL eσ9_272 i_263
                    have f_274 : fd_fr [18, 132, 133, 134, 135, 136, 239] σ σ9_272 := fd_fr_tr f_264 (fd_fr_sL eσ9_272 (by decide))
                    have t_275 : (σ9_272.1 1).toInt = (σ6_262.1 1).toInt := by subst eσ9_272; rfl
                    have t_276 : (σ9_272.1 18).toInt = (σ6_262.1 18).toInt := by subst eσ9_272; rfl
                    have o_277 : (σ9_272.2.2 39 (0 : Int32).toNatClampNeg).toInt = v_249.toInt := fd_o39 eσ9_272
                    have y_278 := fd_yLA (d := 32) eσ9_272 y_267
                    have y_279 := fd_yLA (d := 33) eσ9_272 y_268
                    have y_280 := fd_yLA (d := 34) eσ9_272 y_269
                    have y_281 := fd_yLA (d := 35) eσ9_272 y_270
                    have y_282 := fd_yLA (d := 36) eσ9_272 y_271
                    have x_283 : ((¬ (0 ≤ p1.toInt ∧ p1.toInt < (σ.1 1).toInt)) ∧ (0 : Int32).toInt = 1 ∧ (σ9_272.1 18).toInt = (σ.1 18).toInt) ∨ (¬ (¬ (0 ≤ p1.toInt ∧ p1.toInt < (σ.1 1).toInt)) ∧ ((σ.1 18).toInt = 60) ∧ (0 : Int32).toInt = 2 ∧ (σ9_272.1 18).toInt = (σ.1 18).toInt) ∨ (¬ (¬ (0 ≤ p1.toInt ∧ p1.toInt < (σ.1 1).toInt)) ∧ ¬ ((σ.1 18).toInt = 60) ∧ (¬ (0 ≤ p2.toInt ∧ p2.toInt < p4.toInt ∧ p4.toInt ≤ 1000 ∧ 0 ≤ p3.toInt ∧ p3.toInt < p5.toInt ∧ p5.toInt ≤ 1000)) ∧ (0 : Int32).toInt = 3 ∧ (σ9_272.1 18).toInt = (σ.1 18).toInt) ∨ (¬ (¬ (0 ≤ p1.toInt ∧ p1.toInt < (σ.1 1).toInt)) ∧ ¬ ((σ.1 18).toInt = 60) ∧ ¬ (¬ (0 ≤ p2.toInt ∧ p2.toInt < p4.toInt ∧ p4.toInt ≤ 1000 ∧ 0 ≤ p3.toInt ∧ p3.toInt < p5.toInt ∧ p5.toInt ≤ 1000)) ∧ (0 : Int32).toInt = 0 ∧ (σ9_272.1 18).toInt = (σ.1 18).toInt + 1) := by omega
                    have E1 : σ9_272.1 18 = σ11_237.1 18 := Int32.toInt_inj.mp (by omega)
                    have E2 : σ9_272.2.1 32 = σ11_237.2.1 32 := y_278.trans y_244.symm
                    have w_284 : fd_H (((¬ (0 : Int32).toInt = 0 → σ9_272.2.1 32 = σ.2.1 32) ∧ ((0 : Int32).toInt = 0 → ∃ j w : Int32, (j.toInt = (σ.1 18).toInt ∧ w.toInt = p1.toInt) ∧ σ9_272.2.1 32 = upd (σ.2.1 32) j.toNatClampNeg w))) := fd_hd (⟨fun h => absurd (by omega) h, fun _ => ⟨_, _, by omega, y_278⟩⟩)
                    have w_285 : fd_H (((¬ (0 : Int32).toInt = 0 → σ9_272.2.1 33 = σ.2.1 33) ∧ ((0 : Int32).toInt = 0 → ∃ j w : Int32, (j.toInt = (σ.1 18).toInt ∧ w.toInt = p2.toInt) ∧ σ9_272.2.1 33 = upd (σ.2.1 33) j.toNatClampNeg w))) := fd_hd (⟨fun h => absurd (by omega) h, fun _ => ⟨_, _, by omega, y_279⟩⟩)
                    have w_286 : fd_H (((¬ (0 : Int32).toInt = 0 → σ9_272.2.1 34 = σ.2.1 34) ∧ ((0 : Int32).toInt = 0 → ∃ j w : Int32, (j.toInt = (σ.1 18).toInt ∧ w.toInt = p3.toInt) ∧ σ9_272.2.1 34 = upd (σ.2.1 34) j.toNatClampNeg w))) := fd_hd (⟨fun h => absurd (by omega) h, fun _ => ⟨_, _, by omega, y_280⟩⟩)
                    have w_287 : fd_H (((¬ (0 : Int32).toInt = 0 → σ9_272.2.1 35 = σ.2.1 35) ∧ ((0 : Int32).toInt = 0 → ∃ j w : Int32, (j.toInt = (σ.1 18).toInt ∧ w.toInt = p4.toInt) ∧ σ9_272.2.1 35 = upd (σ.2.1 35) j.toNatClampNeg w))) := fd_hd (⟨fun h => absurd (by omega) h, fun _ => ⟨_, _, by omega, y_281⟩⟩)
                    have w_288 : fd_H (((¬ (0 : Int32).toInt = 0 → σ9_272.2.1 36 = σ.2.1 36) ∧ ((0 : Int32).toInt = 0 → ∃ j w : Int32, (j.toInt = (σ.1 18).toInt ∧ w.toInt = p5.toInt) ∧ σ9_272.2.1 36 = upd (σ.2.1 36) j.toNatClampNeg w))) := fd_hd (⟨fun h => absurd (by omega) h, fun _ => ⟨_, _, by omega, y_282⟩⟩)
                    have w_289 : fd_H (((0 : Int32).toInt = 0 → (σ9_272.2.2 39 (0 : Int32).toNatClampNeg).toInt = (fd_cl (σ9_272.1 18) (σ9_272.2.1 32) p1 N 0 0).toInt)) := fd_hd (fun _ => by rw [E1, E2, ← x_253]; exact fd_o39 eσ9_272)
                    exact fd_ok_some ⟨i_273, f_274, x_283, w_284, w_285, w_286, w_287, w_288, w_289⟩
set_option maxHeartbeats 4000000 in
theorem s_L_area_0_39 (N : Nat) (hN : 1000 ≤ N) (p1 : Int32) (p2 : Int32) (σ : fd_St) (i0 : fd_InvC σ) : fd_ok (f_L_area_0_39 N p1 p2 σ) (fun v s => fd_InvC s ∧ fd_fr [19, 137, 138, 239] σ s ∧ ((¬ (0 ≤ p1.toInt ∧ p1.toInt < (σ.1 1).toInt) ∧ v.toInt = 1) ∨ (¬ ¬ (0 ≤ p1.toInt ∧ p1.toInt < (σ.1 1).toInt) ∧ (p2.toInt < 0 ∨ 100 < p2.toInt) ∧ v.toInt = 2) ∨ (¬ ¬ (0 ≤ p1.toInt ∧ p1.toInt < (σ.1 1).toInt) ∧ ¬ (p2.toInt < 0 ∨ 100 < p2.toInt) ∧ v.toInt = 0)) ∧ fd_H ((v.toInt = 0 → fd_Sh (σ.2.1 33) (σ.2.1 34) (σ.2.1 35) (σ.2.1 36) (σ.1 18).toNatClampNeg → (s.2.2 39 (0 : Int32).toNatClampNeg).toInt = fd_ar (fun i => σ.2.1 32 i = p1 ∨ σ.2.1 32 i = p1) (σ.2.1 33) (σ.2.1 34) (σ.2.1 35) (σ.2.1 36) p2.toInt (σ.1 18).toNatClampNeg))) := by
  have lit0 : (0 : Int32).toInt = 0 := by decide
  have lit1 : (1 : Int32).toInt = 1 := by decide
  have lit2 : (2 : Int32).toInt = 2 := by decide
  have lit100 : (100 : Int32).toInt = 100 := by decide
  have f0 : fd_fr [19, 137, 138, 239] σ σ := fd_fr_rf
  unfold f_L_area_0_39
  refine fd_ok_bx ?_
  try unfold f_X10_area_0
  refine fd_ok_bx ?_
  try unfold f_X10_needNet_0
  refine fd_ok_bd ?_
  try unfold f_X2_has_1
  refine fd_ok_ite (fun c_1 => ?_) (fun c_1 => ?_)
  ·
    have d_2 := Int32.lt_iff_toInt_lt.mp c_1
    refine fd_ok_pb ?_
    refine fd_ok_itp (by decide) ?_
    refine fd_ok_pr ?_
    refine fd_ok_pr ?_
    refine fd_ok_itp (by decide) ?_
    refine fd_ok_lt (fun σ11_3 eσ11_3 => ?_)
    have i_4 : fd_InvC σ11_3 := by subst eσ11_3; exact i0
    have f_5 : fd_fr [19, 137, 138, 239] σ σ11_3 := fd_fr_mix eσ11_3 f0
    have t_6 : (σ11_3.1 1).toInt = (σ.1 1).toInt := by subst eσ11_3; rfl
    have y_7 := fd_ymixA (d := 32) eσ11_3 (rfl : σ.2.1 32 = _)
    have x_8 : (¬ (0 ≤ p1.toInt ∧ p1.toInt < (σ.1 1).toInt) ∧ (1 : Int32).toInt = 1) ∨ (¬ ¬ (0 ≤ p1.toInt ∧ p1.toInt < (σ.1 1).toInt) ∧ (p2.toInt < 0 ∨ 100 < p2.toInt) ∧ (1 : Int32).toInt = 2) ∨ (¬ ¬ (0 ≤ p1.toInt ∧ p1.toInt < (σ.1 1).toInt) ∧ ¬ (p2.toInt < 0 ∨ 100 < p2.toInt) ∧ (1 : Int32).toInt = 0) := by omega
    have w_9 : fd_H (((1 : Int32).toInt = 0 → fd_Sh (σ.2.1 33) (σ.2.1 34) (σ.2.1 35) (σ.2.1 36) (σ.1 18).toNatClampNeg → (σ11_3.2.2 39 (0 : Int32).toNatClampNeg).toInt = fd_ar (fun i => σ.2.1 32 i = p1 ∨ σ.2.1 32 i = p1) (σ.2.1 33) (σ.2.1 34) (σ.2.1 35) (σ.2.1 36) p2.toInt (σ.1 18).toNatClampNeg)) := fd_hd (fun h => absurd h (by omega))
    exact fd_ok_some ⟨i_4, f_5, x_8, w_9⟩
  ·
    have d_10 := Int32.le_iff_toInt_le.mp (Int32.not_lt.mp c_1)
    have r_11 : (0 : Int) ≤ (σ.1 1).toInt ∧ (σ.1 1).toInt ≤ 200 := i0.1 1
    refine fd_ok_ite (fun c_12 => ?_) (fun c_12 => ?_)
    ·
      have d_13 := Int32.le_iff_toInt_le.mp c_12
      refine fd_ok_pb ?_
      refine fd_ok_itp (by decide) ?_
      refine fd_ok_pr ?_
      refine fd_ok_pr ?_
      refine fd_ok_itp (by decide) ?_
      refine fd_ok_lt (fun σ11_14 eσ11_14 => ?_)
      have i_15 : fd_InvC σ11_14 := by subst eσ11_14; exact i0
      have f_16 : fd_fr [19, 137, 138, 239] σ σ11_14 := fd_fr_mix eσ11_14 f0
      have t_17 : (σ11_14.1 1).toInt = (σ.1 1).toInt := by subst eσ11_14; rfl
      have y_18 := fd_ymixA (d := 32) eσ11_14 (rfl : σ.2.1 32 = _)
      have x_19 : (¬ (0 ≤ p1.toInt ∧ p1.toInt < (σ.1 1).toInt) ∧ (1 : Int32).toInt = 1) ∨ (¬ ¬ (0 ≤ p1.toInt ∧ p1.toInt < (σ.1 1).toInt) ∧ (p2.toInt < 0 ∨ 100 < p2.toInt) ∧ (1 : Int32).toInt = 2) ∨ (¬ ¬ (0 ≤ p1.toInt ∧ p1.toInt < (σ.1 1).toInt) ∧ ¬ (p2.toInt < 0 ∨ 100 < p2.toInt) ∧ (1 : Int32).toInt = 0) := by omega
      have w_20 : fd_H (((1 : Int32).toInt = 0 → fd_Sh (σ.2.1 33) (σ.2.1 34) (σ.2.1 35) (σ.2.1 36) (σ.1 18).toNatClampNeg → (σ11_14.2.2 39 (0 : Int32).toNatClampNeg).toInt = fd_ar (fun i => σ.2.1 32 i = p1 ∨ σ.2.1 32 i = p1) (σ.2.1 33) (σ.2.1 34) (σ.2.1 35) (σ.2.1 36) p2.toInt (σ.1 18).toNatClampNeg)) := fd_hd (fun h => absurd h (by omega))
      exact fd_ok_some ⟨i_15, f_16, x_19, w_20⟩
    ·
      have d_21 := Int32.lt_iff_toInt_lt.mp (Int32.not_le.mp c_12)
      refine fd_ok_pb ?_
      refine fd_ok_itn (by decide) ?_
      refine fd_ok_pl ?_
      refine fd_ok_bx ?_
      try unfold f_X10_needGrowth
      refine fd_ok_ite (fun c_22 => ?_) (fun c_22 => ?_)
      ·
        have d_23 := Int32.lt_iff_toInt_lt.mp c_22
        try unfold f_X10_needGrowth_J10
        refine fd_ok_pr ?_
        refine fd_ok_pr ?_
        refine fd_ok_itn (by decide) ?_
        refine fd_ok_itp (by decide) ?_
        refine fd_ok_lt (fun σ13_24 eσ13_24 => ?_)
        have i_25 : fd_InvC σ13_24 := by subst eσ13_24; exact i0
        have f_26 : fd_fr [19, 137, 138, 239] σ σ13_24 := fd_fr_mix eσ13_24 f0
        have t_27 : (σ13_24.1 1).toInt = (σ.1 1).toInt := by subst eσ13_24; rfl
        have y_28 := fd_ymixA (d := 32) eσ13_24 (rfl : σ.2.1 32 = _)
        have x_29 : (¬ (0 ≤ p1.toInt ∧ p1.toInt < (σ.1 1).toInt) ∧ (2 : Int32).toInt = 1) ∨ (¬ ¬ (0 ≤ p1.toInt ∧ p1.toInt < (σ.1 1).toInt) ∧ (p2.toInt < 0 ∨ 100 < p2.toInt) ∧ (2 : Int32).toInt = 2) ∨ (¬ ¬ (0 ≤ p1.toInt ∧ p1.toInt < (σ.1 1).toInt) ∧ ¬ (p2.toInt < 0 ∨ 100 < p2.toInt) ∧ (2 : Int32).toInt = 0) := by omega
        have w_30 : fd_H (((2 : Int32).toInt = 0 → fd_Sh (σ.2.1 33) (σ.2.1 34) (σ.2.1 35) (σ.2.1 36) (σ.1 18).toNatClampNeg → (σ13_24.2.2 39 (0 : Int32).toNatClampNeg).toInt = fd_ar (fun i => σ.2.1 32 i = p1 ∨ σ.2.1 32 i = p1) (σ.2.1 33) (σ.2.1 34) (σ.2.1 35) (σ.2.1 36) p2.toInt (σ.1 18).toNatClampNeg)) := fd_hd (fun h => absurd h (by omega))
        exact fd_ok_some ⟨i_25, f_26, x_29, w_30⟩
      ·
        have d_31 := Int32.le_iff_toInt_le.mp (Int32.not_lt.mp c_22)
        refine fd_ok_ite (fun c_32 => ?_) (fun c_32 => ?_)
        ·
          have d_33 := Int32.le_iff_toInt_le.mp c_32
          refine fd_ok_pl ?_
          refine fd_ok_bd ?_
          refine fd_ok_cl (s_X6_coveredByEither_11 N hN _ _ _ _ i0) ?_
          rintro v_34 σ_35 ⟨i_36, g_37, x_38⟩
          have f_39 : fd_fr [19, 137, 138, 239] σ σ_35 := fd_fr_tr f0 (fd_fr_mono g_37 (by decide))
          have y_40 := (g_37.2.1 32 (by decide)).trans (rfl : σ.2.1 32 = _)
          have t_41 : (σ_35.1 1).toInt = (σ.1 1).toInt := congrArg Int32.toInt (g_37.1 1 (by decide))
          refine fd_ok_pl ?_
          refine fd_ok_lt (fun σ6_42 eσ6_42 => ?_)
          have i_43 : fd_InvC σ6_42 := by subst eσ6_42; exact i_36
          have f_44 : fd_fr [19, 137, 138, 239] σ σ6_42 := fd_fr_mix eσ6_42 f_39
          have t_45 : (σ6_42.1 1).toInt = (σ_35.1 1).toInt := by subst eσ6_42; rfl
          have y_46 := fd_ymixA (d := 32) eσ6_42 y_40
          refine fd_ok_gd (vp_in_iff.mpr ⟨by omega, by omega⟩) ?_
          refine fd_ok_lt (fun σ9_47 eσ9_47 => ?_)
          have i_48 : fd_InvC σ9_47 := fd_inv_sL eσ9_47 i_43
          have f_49 : fd_fr [19, 137, 138, 239] σ σ9_47 := fd_fr_tr f_44 (fd_fr_sL eσ9_47 (by decide))
          have t_50 : (σ9_47.1 1).toInt = (σ6_42.1 1).toInt := by subst eσ9_47; rfl
          have o_51 : (σ9_47.2.2 39 (0 : Int32).toNatClampNeg).toInt = v_34.toInt := fd_o39 eσ9_47
          have y_52 := fd_yLA (d := 32) eσ9_47 y_46
          have x_53 : (¬ (0 ≤ p1.toInt ∧ p1.toInt < (σ.1 1).toInt) ∧ (0 : Int32).toInt = 1) ∨ (¬ ¬ (0 ≤ p1.toInt ∧ p1.toInt < (σ.1 1).toInt) ∧ (p2.toInt < 0 ∨ 100 < p2.toInt) ∧ (0 : Int32).toInt = 2) ∨ (¬ ¬ (0 ≤ p1.toInt ∧ p1.toInt < (σ.1 1).toInt) ∧ ¬ (p2.toInt < 0 ∨ 100 < p2.toInt) ∧ (0 : Int32).toInt = 0) := by omega
          have w_54 : fd_H (((0 : Int32).toInt = 0 → fd_Sh (σ.2.1 33) (σ.2.1 34) (σ.2.1 35) (σ.2.1 36) (σ.1 18).toNatClampNeg → (σ9_47.2.2 39 (0 : Int32).toNatClampNeg).toInt = fd_ar (fun i => σ.2.1 32 i = p1 ∨ σ.2.1 32 i = p1) (σ.2.1 33) (σ.2.1 34) (σ.2.1 35) (σ.2.1 36) p2.toInt (σ.1 18).toNatClampNeg)) := fd_hd (fun _ => fun hS => by rw [fd_o39 eσ9_47]; exact (x_38 (i0.1 18).1 (i0.1 18).2 (by omega) (by omega) hS).2)
          exact fd_ok_some ⟨i_48, f_49, x_53, w_54⟩
        ·
          have d_55 := Int32.lt_iff_toInt_lt.mp (Int32.not_le.mp c_32)
          try unfold f_X10_needGrowth_J10
          refine fd_ok_pr ?_
          refine fd_ok_pr ?_
          refine fd_ok_itn (by decide) ?_
          refine fd_ok_itp (by decide) ?_
          refine fd_ok_lt (fun σ13_56 eσ13_56 => ?_)
          have i_57 : fd_InvC σ13_56 := by subst eσ13_56; exact i0
          have f_58 : fd_fr [19, 137, 138, 239] σ σ13_56 := fd_fr_mix eσ13_56 f0
          have t_59 : (σ13_56.1 1).toInt = (σ.1 1).toInt := by subst eσ13_56; rfl
          have y_60 := fd_ymixA (d := 32) eσ13_56 (rfl : σ.2.1 32 = _)
          have x_61 : (¬ (0 ≤ p1.toInt ∧ p1.toInt < (σ.1 1).toInt) ∧ (2 : Int32).toInt = 1) ∨ (¬ ¬ (0 ≤ p1.toInt ∧ p1.toInt < (σ.1 1).toInt) ∧ (p2.toInt < 0 ∨ 100 < p2.toInt) ∧ (2 : Int32).toInt = 2) ∨ (¬ ¬ (0 ≤ p1.toInt ∧ p1.toInt < (σ.1 1).toInt) ∧ ¬ (p2.toInt < 0 ∨ 100 < p2.toInt) ∧ (2 : Int32).toInt = 0) := by omega
          have w_62 : fd_H (((2 : Int32).toInt = 0 → fd_Sh (σ.2.1 33) (σ.2.1 34) (σ.2.1 35) (σ.2.1 36) (σ.1 18).toNatClampNeg → (σ13_56.2.2 39 (0 : Int32).toNatClampNeg).toInt = fd_ar (fun i => σ.2.1 32 i = p1 ∨ σ.2.1 32 i = p1) (σ.2.1 33) (σ.2.1 34) (σ.2.1 35) (σ.2.1 36) p2.toInt (σ.1 18).toNatClampNeg)) := fd_hd (fun h => absurd h (by omega))
          exact fd_ok_some ⟨i_57, f_58, x_61, w_62⟩
set_option maxHeartbeats 4000000 in
theorem s_L_common_0_39 (N : Nat) (hN : 1000 ≤ N) (p1 : Int32) (p2 : Int32) (p3 : Int32) (σ : fd_St) (i0 : fd_InvC σ) : fd_ok (f_L_common_0_39 N p1 p2 p3 σ) (fun v s => fd_InvC s ∧ fd_fr [19, 137, 138, 239] σ s ∧ ((¬ ((0 ≤ p1.toInt ∧ p1.toInt < (σ.1 1).toInt) ∧ (0 ≤ p2.toInt ∧ p2.toInt < (σ.1 1).toInt)) ∧ v.toInt = 1) ∨ (¬ ¬ ((0 ≤ p1.toInt ∧ p1.toInt < (σ.1 1).toInt) ∧ (0 ≤ p2.toInt ∧ p2.toInt < (σ.1 1).toInt)) ∧ (p3.toInt < 0 ∨ 100 < p3.toInt) ∧ v.toInt = 2) ∨ (¬ ¬ ((0 ≤ p1.toInt ∧ p1.toInt < (σ.1 1).toInt) ∧ (0 ≤ p2.toInt ∧ p2.toInt < (σ.1 1).toInt)) ∧ ¬ (p3.toInt < 0 ∨ 100 < p3.toInt) ∧ v.toInt = 0)) ∧ fd_H ((v.toInt = 0 → fd_Sh (σ.2.1 33) (σ.2.1 34) (σ.2.1 35) (σ.2.1 36) (σ.1 18).toNatClampNeg → (s.2.2 39 (0 : Int32).toNatClampNeg).toInt = fd_rs (fun x => fd_rs (fun y => fd_in (fd_B (σ.2.1 32) (σ.2.1 33) (σ.2.1 34) (σ.2.1 35) (σ.2.1 36) p1 p2 p3.toInt (σ.1 18).toNatClampNeg x y)) (-100) 1100) (-100) 1100))) := by
  have lit0 : (0 : Int32).toInt = 0 := by decide
  have lit1 : (1 : Int32).toInt = 1 := by decide
  have lit2 : (2 : Int32).toInt = 2 := by decide
  have lit100 : (100 : Int32).toInt = 100 := by decide
  have f0 : fd_fr [19, 137, 138, 239] σ σ := fd_fr_rf
  unfold f_L_common_0_39
  refine fd_ok_bx ?_
  try unfold f_X10_common_0
  refine fd_ok_bx ?_
  try unfold f_X10_needNet_0
  refine fd_ok_bd ?_
  try unfold f_X2_has_1
  refine fd_ok_ite (fun c_1 => ?_) (fun c_1 => ?_)
  ·
    have d_2 := Int32.lt_iff_toInt_lt.mp c_1
    refine fd_ok_pb ?_
    refine fd_ok_itp (by decide) ?_
    refine fd_ok_pr ?_
    refine fd_ok_pr ?_
    refine fd_ok_itp (by decide) ?_
    refine fd_ok_lt (fun σ11_3 eσ11_3 => ?_)
    have i_4 : fd_InvC σ11_3 := by subst eσ11_3; exact i0
    have f_5 : fd_fr [19, 137, 138, 239] σ σ11_3 := fd_fr_mix eσ11_3 f0
    have t_6 : (σ11_3.1 1).toInt = (σ.1 1).toInt := by subst eσ11_3; rfl
    have y_7 := fd_ymixA (d := 32) eσ11_3 (rfl : σ.2.1 32 = _)
    have x_8 : (¬ ((0 ≤ p1.toInt ∧ p1.toInt < (σ.1 1).toInt) ∧ (0 ≤ p2.toInt ∧ p2.toInt < (σ.1 1).toInt)) ∧ (1 : Int32).toInt = 1) ∨ (¬ ¬ ((0 ≤ p1.toInt ∧ p1.toInt < (σ.1 1).toInt) ∧ (0 ≤ p2.toInt ∧ p2.toInt < (σ.1 1).toInt)) ∧ (p3.toInt < 0 ∨ 100 < p3.toInt) ∧ (1 : Int32).toInt = 2) ∨ (¬ ¬ ((0 ≤ p1.toInt ∧ p1.toInt < (σ.1 1).toInt) ∧ (0 ≤ p2.toInt ∧ p2.toInt < (σ.1 1).toInt)) ∧ ¬ (p3.toInt < 0 ∨ 100 < p3.toInt) ∧ (1 : Int32).toInt = 0) := by omega
    have w_9 : fd_H (((1 : Int32).toInt = 0 → fd_Sh (σ.2.1 33) (σ.2.1 34) (σ.2.1 35) (σ.2.1 36) (σ.1 18).toNatClampNeg → (σ11_3.2.2 39 (0 : Int32).toNatClampNeg).toInt = fd_rs (fun x => fd_rs (fun y => fd_in (fd_B (σ.2.1 32) (σ.2.1 33) (σ.2.1 34) (σ.2.1 35) (σ.2.1 36) p1 p2 p3.toInt (σ.1 18).toNatClampNeg x y)) (-100) 1100) (-100) 1100)) := fd_hd (fun h => absurd h (by omega))
    exact fd_ok_some ⟨i_4, f_5, x_8, w_9⟩
  ·
    have d_10 := Int32.le_iff_toInt_le.mp (Int32.not_lt.mp c_1)
    have r_11 : (0 : Int) ≤ (σ.1 1).toInt ∧ (σ.1 1).toInt ≤ 200 := i0.1 1
    refine fd_ok_ite (fun c_12 => ?_) (fun c_12 => ?_)
    ·
      have d_13 := Int32.le_iff_toInt_le.mp c_12
      refine fd_ok_pb ?_
      refine fd_ok_itp (by decide) ?_
      refine fd_ok_pr ?_
      refine fd_ok_pr ?_
      refine fd_ok_itp (by decide) ?_
      refine fd_ok_lt (fun σ11_14 eσ11_14 => ?_)
      have i_15 : fd_InvC σ11_14 := by subst eσ11_14; exact i0
      have f_16 : fd_fr [19, 137, 138, 239] σ σ11_14 := fd_fr_mix eσ11_14 f0
      have t_17 : (σ11_14.1 1).toInt = (σ.1 1).toInt := by subst eσ11_14; rfl
      have y_18 := fd_ymixA (d := 32) eσ11_14 (rfl : σ.2.1 32 = _)
      have x_19 : (¬ ((0 ≤ p1.toInt ∧ p1.toInt < (σ.1 1).toInt) ∧ (0 ≤ p2.toInt ∧ p2.toInt < (σ.1 1).toInt)) ∧ (1 : Int32).toInt = 1) ∨ (¬ ¬ ((0 ≤ p1.toInt ∧ p1.toInt < (σ.1 1).toInt) ∧ (0 ≤ p2.toInt ∧ p2.toInt < (σ.1 1).toInt)) ∧ (p3.toInt < 0 ∨ 100 < p3.toInt) ∧ (1 : Int32).toInt = 2) ∨ (¬ ¬ ((0 ≤ p1.toInt ∧ p1.toInt < (σ.1 1).toInt) ∧ (0 ≤ p2.toInt ∧ p2.toInt < (σ.1 1).toInt)) ∧ ¬ (p3.toInt < 0 ∨ 100 < p3.toInt) ∧ (1 : Int32).toInt = 0) := by omega
      have w_20 : fd_H (((1 : Int32).toInt = 0 → fd_Sh (σ.2.1 33) (σ.2.1 34) (σ.2.1 35) (σ.2.1 36) (σ.1 18).toNatClampNeg → (σ11_14.2.2 39 (0 : Int32).toNatClampNeg).toInt = fd_rs (fun x => fd_rs (fun y => fd_in (fd_B (σ.2.1 32) (σ.2.1 33) (σ.2.1 34) (σ.2.1 35) (σ.2.1 36) p1 p2 p3.toInt (σ.1 18).toNatClampNeg x y)) (-100) 1100) (-100) 1100)) := fd_hd (fun h => absurd h (by omega))
      exact fd_ok_some ⟨i_15, f_16, x_19, w_20⟩
    ·
      have d_21 := Int32.lt_iff_toInt_lt.mp (Int32.not_le.mp c_12)
      refine fd_ok_pb ?_
      refine fd_ok_itn (by decide) ?_
      refine fd_ok_pl ?_
      refine fd_ok_bx ?_
      try unfold f_X10_needNet_0
      refine fd_ok_bd ?_
      try unfold f_X2_has_1
      refine fd_ok_ite (fun c_22 => ?_) (fun c_22 => ?_)
      ·
        have d_23 := Int32.lt_iff_toInt_lt.mp c_22
        refine fd_ok_pb ?_
        refine fd_ok_itp (by decide) ?_
        refine fd_ok_pr ?_
        refine fd_ok_pr ?_
        refine fd_ok_itp (by decide) ?_
        refine fd_ok_lt (fun σ11_24 eσ11_24 => ?_)
        have i_25 : fd_InvC σ11_24 := by subst eσ11_24; exact i0
        have f_26 : fd_fr [19, 137, 138, 239] σ σ11_24 := fd_fr_mix eσ11_24 f0
        have t_27 : (σ11_24.1 1).toInt = (σ.1 1).toInt := by subst eσ11_24; rfl
        have y_28 := fd_ymixA (d := 32) eσ11_24 (rfl : σ.2.1 32 = _)
        have x_29 : (¬ ((0 ≤ p1.toInt ∧ p1.toInt < (σ.1 1).toInt) ∧ (0 ≤ p2.toInt ∧ p2.toInt < (σ.1 1).toInt)) ∧ (1 : Int32).toInt = 1) ∨ (¬ ¬ ((0 ≤ p1.toInt ∧ p1.toInt < (σ.1 1).toInt) ∧ (0 ≤ p2.toInt ∧ p2.toInt < (σ.1 1).toInt)) ∧ (p3.toInt < 0 ∨ 100 < p3.toInt) ∧ (1 : Int32).toInt = 2) ∨ (¬ ¬ ((0 ≤ p1.toInt ∧ p1.toInt < (σ.1 1).toInt) ∧ (0 ≤ p2.toInt ∧ p2.toInt < (σ.1 1).toInt)) ∧ ¬ (p3.toInt < 0 ∨ 100 < p3.toInt) ∧ (1 : Int32).toInt = 0) := by omega
        have w_30 : fd_H (((1 : Int32).toInt = 0 → fd_Sh (σ.2.1 33) (σ.2.1 34) (σ.2.1 35) (σ.2.1 36) (σ.1 18).toNatClampNeg → (σ11_24.2.2 39 (0 : Int32).toNatClampNeg).toInt = fd_rs (fun x => fd_rs (fun y => fd_in (fd_B (σ.2.1 32) (σ.2.1 33) (σ.2.1 34) (σ.2.1 35) (σ.2.1 36) p1 p2 p3.toInt (σ.1 18).toNatClampNeg x y)) (-100) 1100) (-100) 1100)) := fd_hd (fun h => absurd h (by omega))
        exact fd_ok_some ⟨i_25, f_26, x_29, w_30⟩
      ·
        have d_31 := Int32.le_iff_toInt_le.mp (Int32.not_lt.mp c_22)
        refine fd_ok_ite (fun c_32 => ?_) (fun c_32 => ?_)
        ·
          have d_33 := Int32.le_iff_toInt_le.mp c_32
          refine fd_ok_pb ?_
          refine fd_ok_itp (by decide) ?_
          refine fd_ok_pr ?_
          refine fd_ok_pr ?_
          refine fd_ok_itp (by decide) ?_
          refine fd_ok_lt (fun σ11_34 eσ11_34 => ?_)
          have i_35 : fd_InvC σ11_34 := by subst eσ11_34; exact i0
          have f_36 : fd_fr [19, 137, 138, 239] σ σ11_34 := fd_fr_mix eσ11_34 f0
          have t_37 : (σ11_34.1 1).toInt = (σ.1 1).toInt := by subst eσ11_34; rfl
          have y_38 := fd_ymixA (d := 32) eσ11_34 (rfl : σ.2.1 32 = _)
          have x_39 : (¬ ((0 ≤ p1.toInt ∧ p1.toInt < (σ.1 1).toInt) ∧ (0 ≤ p2.toInt ∧ p2.toInt < (σ.1 1).toInt)) ∧ (1 : Int32).toInt = 1) ∨ (¬ ¬ ((0 ≤ p1.toInt ∧ p1.toInt < (σ.1 1).toInt) ∧ (0 ≤ p2.toInt ∧ p2.toInt < (σ.1 1).toInt)) ∧ (p3.toInt < 0 ∨ 100 < p3.toInt) ∧ (1 : Int32).toInt = 2) ∨ (¬ ¬ ((0 ≤ p1.toInt ∧ p1.toInt < (σ.1 1).toInt) ∧ (0 ≤ p2.toInt ∧ p2.toInt < (σ.1 1).toInt)) ∧ ¬ (p3.toInt < 0 ∨ 100 < p3.toInt) ∧ (1 : Int32).toInt = 0) := by omega
          have w_40 : fd_H (((1 : Int32).toInt = 0 → fd_Sh (σ.2.1 33) (σ.2.1 34) (σ.2.1 35) (σ.2.1 36) (σ.1 18).toNatClampNeg → (σ11_34.2.2 39 (0 : Int32).toNatClampNeg).toInt = fd_rs (fun x => fd_rs (fun y => fd_in (fd_B (σ.2.1 32) (σ.2.1 33) (σ.2.1 34) (σ.2.1 35) (σ.2.1 36) p1 p2 p3.toInt (σ.1 18).toNatClampNeg x y)) (-100) 1100) (-100) 1100)) := fd_hd (fun h => absurd h (by omega))
          exact fd_ok_some ⟨i_35, f_36, x_39, w_40⟩
        ·
          have d_41 := Int32.lt_iff_toInt_lt.mp (Int32.not_le.mp c_32)
          refine fd_ok_pb ?_
          refine fd_ok_itn (by decide) ?_
          refine fd_ok_pl ?_
          refine fd_ok_bx ?_
          try unfold f_X10_needGrowth
          refine fd_ok_ite (fun c_42 => ?_) (fun c_42 => ?_)
          ·
            have d_43 := Int32.lt_iff_toInt_lt.mp c_42
            try unfold f_X10_needGrowth_J10
            refine fd_ok_pr ?_
            refine fd_ok_pr ?_
            refine fd_ok_itn (by decide) ?_
            refine fd_ok_itp (by decide) ?_
            refine fd_ok_lt (fun σ13_44 eσ13_44 => ?_)
            have i_45 : fd_InvC σ13_44 := by subst eσ13_44; exact i0
            have f_46 : fd_fr [19, 137, 138, 239] σ σ13_44 := fd_fr_mix eσ13_44 f0
            have t_47 : (σ13_44.1 1).toInt = (σ.1 1).toInt := by subst eσ13_44; rfl
            have y_48 := fd_ymixA (d := 32) eσ13_44 (rfl : σ.2.1 32 = _)
            have x_49 : (¬ ((0 ≤ p1.toInt ∧ p1.toInt < (σ.1 1).toInt) ∧ (0 ≤ p2.toInt ∧ p2.toInt < (σ.1 1).toInt)) ∧ (2 : Int32).toInt = 1) ∨ (¬ ¬ ((0 ≤ p1.toInt ∧ p1.toInt < (σ.1 1).toInt) ∧ (0 ≤ p2.toInt ∧ p2.toInt < (σ.1 1).toInt)) ∧ (p3.toInt < 0 ∨ 100 < p3.toInt) ∧ (2 : Int32).toInt = 2) ∨ (¬ ¬ ((0 ≤ p1.toInt ∧ p1.toInt < (σ.1 1).toInt) ∧ (0 ≤ p2.toInt ∧ p2.toInt < (σ.1 1).toInt)) ∧ ¬ (p3.toInt < 0 ∨ 100 < p3.toInt) ∧ (2 : Int32).toInt = 0) := by omega
            have w_50 : fd_H (((2 : Int32).toInt = 0 → fd_Sh (σ.2.1 33) (σ.2.1 34) (σ.2.1 35) (σ.2.1 36) (σ.1 18).toNatClampNeg → (σ13_44.2.2 39 (0 : Int32).toNatClampNeg).toInt = fd_rs (fun x => fd_rs (fun y => fd_in (fd_B (σ.2.1 32) (σ.2.1 33) (σ.2.1 34) (σ.2.1 35) (σ.2.1 36) p1 p2 p3.toInt (σ.1 18).toNatClampNeg x y)) (-100) 1100) (-100) 1100)) := fd_hd (fun h => absurd h (by omega))
            exact fd_ok_some ⟨i_45, f_46, x_49, w_50⟩
          ·
            have d_51 := Int32.le_iff_toInt_le.mp (Int32.not_lt.mp c_42)
            refine fd_ok_ite (fun c_52 => ?_) (fun c_52 => ?_)
            ·
              have d_53 := Int32.le_iff_toInt_le.mp c_52
              refine fd_ok_pl ?_
              refine fd_ok_bd ?_
              try unfold f_X6_coveredByBoth_11
              refine fd_ok_bd ?_
              refine fd_ok_cl (s_X6_coveredByEither_11 N hN _ _ _ _ i0) ?_
              rintro v_54 σ_55 ⟨i_56, g_57, x_58⟩
              have f_59 : fd_fr [19, 137, 138, 239] σ σ_55 := fd_fr_tr f0 (fd_fr_mono g_57 (by decide))
              have y_60 := (g_57.2.1 32 (by decide)).trans (rfl : σ.2.1 32 = _)
              have t_61 : (σ_55.1 1).toInt = (σ.1 1).toInt := congrArg Int32.toInt (g_57.1 1 (by decide))
              refine fd_ok_bd ?_
              refine fd_ok_cl (s_X6_coveredByEither_11 N hN _ _ _ _ i_56) ?_
              rintro v_62 σ_63 ⟨i_64, g_65, x_66⟩
              have f_67 : fd_fr [19, 137, 138, 239] σ σ_63 := fd_fr_tr f_59 (fd_fr_mono g_65 (by decide))
              have y_68 := (g_65.2.1 32 (by decide)).trans y_60
              have t_69 : (σ_63.1 1).toInt = (σ_55.1 1).toInt := congrArg Int32.toInt (g_65.1 1 (by decide))
              refine fd_ok_bd ?_
              refine fd_ok_cl (s_X6_coveredByEither_11 N hN _ _ _ _ i_64) ?_
              rintro v_70 σ_71 ⟨i_72, g_73, x_74⟩
              have f_75 : fd_fr [19, 137, 138, 239] σ σ_71 := fd_fr_tr f_67 (fd_fr_mono g_73 (by decide))
              have y_76 := (g_73.2.1 32 (by decide)).trans y_68
              have t_77 : (σ_71.1 1).toInt = (σ_63.1 1).toInt := congrArg Int32.toInt (g_73.1 1 (by decide))
              refine fd_ok_pb ?_
              refine fd_ok_pl ?_
              refine fd_ok_lt (fun σ6_78 eσ6_78 => ?_)
              have i_79 : fd_InvC σ6_78 := by subst eσ6_78; exact i_72
              have f_80 : fd_fr [19, 137, 138, 239] σ σ6_78 := fd_fr_mix eσ6_78 f_75
              have t_81 : (σ6_78.1 1).toInt = (σ_71.1 1).toInt := by subst eσ6_78; rfl
              have y_82 := fd_ymixA (d := 32) eσ6_78 y_76
              refine fd_ok_gd (vp_in_iff.mpr ⟨by omega, by omega⟩) ?_
              refine fd_ok_lt (fun σ9_83 eσ9_83 => ?_)
              have i_84 : fd_InvC σ9_83 := fd_inv_sL eσ9_83 i_79
              have f_85 : fd_fr [19, 137, 138, 239] σ σ9_83 := fd_fr_tr f_80 (fd_fr_sL eσ9_83 (by decide))
              have t_86 : (σ9_83.1 1).toInt = (σ6_78.1 1).toInt := by subst eσ9_83; rfl
              have o_87 : (σ9_83.2.2 39 (0 : Int32).toNatClampNeg).toInt = ((v_54 + v_62) - v_70).toInt := fd_o39 eσ9_83
              have y_88 := fd_yLA (d := 32) eσ9_83 y_82
              have x_89 : (¬ ((0 ≤ p1.toInt ∧ p1.toInt < (σ.1 1).toInt) ∧ (0 ≤ p2.toInt ∧ p2.toInt < (σ.1 1).toInt)) ∧ (0 : Int32).toInt = 1) ∨ (¬ ¬ ((0 ≤ p1.toInt ∧ p1.toInt < (σ.1 1).toInt) ∧ (0 ≤ p2.toInt ∧ p2.toInt < (σ.1 1).toInt)) ∧ (p3.toInt < 0 ∨ 100 < p3.toInt) ∧ (0 : Int32).toInt = 2) ∨ (¬ ¬ ((0 ≤ p1.toInt ∧ p1.toInt < (σ.1 1).toInt) ∧ (0 ≤ p2.toInt ∧ p2.toInt < (σ.1 1).toInt)) ∧ ¬ (p3.toInt < 0 ∨ 100 < p3.toInt) ∧ (0 : Int32).toInt = 0) := by omega
              have w_90 : fd_H (((0 : Int32).toInt = 0 → fd_Sh (σ.2.1 33) (σ.2.1 34) (σ.2.1 35) (σ.2.1 36) (σ.1 18).toNatClampNeg → (σ9_83.2.2 39 (0 : Int32).toNatClampNeg).toInt = fd_rs (fun x => fd_rs (fun y => fd_in (fd_B (σ.2.1 32) (σ.2.1 33) (σ.2.1 34) (σ.2.1 35) (σ.2.1 36) p1 p2 p3.toInt (σ.1 18).toNatClampNeg x y)) (-100) 1100) (-100) 1100)) := fd_hd (fun _ => fun hS => by
                                                              have A1 := (x_58 (i0.1 18).1 (i0.1 18).2 (by omega) (by omega) hS).2
                                                              rw [g_57.1 18 (by decide), g_57.2.1 32 (by decide), g_57.2.1 33 (by decide), g_57.2.1 34 (by decide), g_57.2.1 35 (by decide), g_57.2.1 36 (by decide)] at x_66
                                                              have A2 := (x_66 (i0.1 18).1 (i0.1 18).2 (by omega) (by omega) hS).2
                                                              rw [g_65.1 18 (by decide), g_65.2.1 32 (by decide), g_65.2.1 33 (by decide), g_65.2.1 34 (by decide), g_65.2.1 35 (by decide), g_65.2.1 36 (by decide), g_57.1 18 (by decide), g_57.2.1 32 (by decide), g_57.2.1 33 (by decide), g_57.2.1 34 (by decide), g_57.2.1 35 (by decide), g_57.2.1 36 (by decide)] at x_74
                                                              have A3 := (x_74 (i0.1 18).1 (i0.1 18).2 (by omega) (by omega) hS).2
                                                              have B1 := fd_ar_b (fun i => σ.2.1 32 i = p1 ∨ σ.2.1 32 i = p1) (σ.2.1 33) (σ.2.1 34) (σ.2.1 35) (σ.2.1 36) p3.toInt (σ.1 18).toNatClampNeg
                                                              have B2 := fd_ar_b (fun i => σ.2.1 32 i = p2 ∨ σ.2.1 32 i = p2) (σ.2.1 33) (σ.2.1 34) (σ.2.1 35) (σ.2.1 36) p3.toInt (σ.1 18).toNatClampNeg
                                                              have B3 := fd_ar_b (fun i => σ.2.1 32 i = p1 ∨ σ.2.1 32 i = p2) (σ.2.1 33) (σ.2.1 34) (σ.2.1 35) (σ.2.1 36) p3.toInt (σ.1 18).toNatClampNeg
                                                              have C1 := Jvm.Kit.i32_add (x := v_54) (y := v_62) (by omega) (by omega)
                                                              have C2 := Jvm.Kit.i32_sub (x := v_54 + v_62) (y := v_70) (by omega) (by omega)
                                                              rw [fd_o39 eσ9_83, ← fd_both]; omega)
              exact fd_ok_some ⟨i_84, f_85, x_89, w_90⟩
            ·
              have d_91 := Int32.lt_iff_toInt_lt.mp (Int32.not_le.mp c_52)
              try unfold f_X10_needGrowth_J10
              refine fd_ok_pr ?_
              refine fd_ok_pr ?_
              refine fd_ok_itn (by decide) ?_
              refine fd_ok_itp (by decide) ?_
              refine fd_ok_lt (fun σ13_92 eσ13_92 => ?_)
              have i_93 : fd_InvC σ13_92 := by subst eσ13_92; exact i0
              have f_94 : fd_fr [19, 137, 138, 239] σ σ13_92 := fd_fr_mix eσ13_92 f0
              have t_95 : (σ13_92.1 1).toInt = (σ.1 1).toInt := by subst eσ13_92; rfl
              have y_96 := fd_ymixA (d := 32) eσ13_92 (rfl : σ.2.1 32 = _)
              have x_97 : (¬ ((0 ≤ p1.toInt ∧ p1.toInt < (σ.1 1).toInt) ∧ (0 ≤ p2.toInt ∧ p2.toInt < (σ.1 1).toInt)) ∧ (2 : Int32).toInt = 1) ∨ (¬ ¬ ((0 ≤ p1.toInt ∧ p1.toInt < (σ.1 1).toInt) ∧ (0 ≤ p2.toInt ∧ p2.toInt < (σ.1 1).toInt)) ∧ (p3.toInt < 0 ∨ 100 < p3.toInt) ∧ (2 : Int32).toInt = 2) ∨ (¬ ¬ ((0 ≤ p1.toInt ∧ p1.toInt < (σ.1 1).toInt) ∧ (0 ≤ p2.toInt ∧ p2.toInt < (σ.1 1).toInt)) ∧ ¬ (p3.toInt < 0 ∨ 100 < p3.toInt) ∧ (2 : Int32).toInt = 0) := by omega
              have w_98 : fd_H (((2 : Int32).toInt = 0 → fd_Sh (σ.2.1 33) (σ.2.1 34) (σ.2.1 35) (σ.2.1 36) (σ.1 18).toNatClampNeg → (σ13_92.2.2 39 (0 : Int32).toNatClampNeg).toInt = fd_rs (fun x => fd_rs (fun y => fd_in (fd_B (σ.2.1 32) (σ.2.1 33) (σ.2.1 34) (σ.2.1 35) (σ.2.1 36) p1 p2 p3.toInt (σ.1 18).toNatClampNeg x y)) (-100) 1100) (-100) 1100)) := fd_hd (fun h => absurd h (by omega))
              exact fd_ok_some ⟨i_93, f_94, x_97, w_98⟩
set_option maxHeartbeats 4000000 in
theorem s_L_count_0_39 (N : Nat) (hN : 1000 ≤ N) (p1 : Int32) (σ : fd_St) (i0 : fd_InvC σ) : fd_ok (f_L_count_0_39 N p1 σ) (fun v s => fd_InvC s ∧ fd_fr [239] σ s ∧ (True)) := by
  have lit0 : (0 : Int32).toInt = 0 := by decide
  have lit1 : (1 : Int32).toInt = 1 := by decide
  have lit2 : (2 : Int32).toInt = 2 := by decide
  have lit3 : (3 : Int32).toInt = 3 := by decide
  have lit4 : (4 : Int32).toInt = 4 := by decide
  have lit5 : (5 : Int32).toInt = 5 := by decide
  have lit6 : (6 : Int32).toInt = 6 := by decide
  have lit7 : (7 : Int32).toInt = 7 := by decide
  have lit8 : (8 : Int32).toInt = 8 := by decide
  have f0 : fd_fr [239] σ σ := fd_fr_rf
  unfold f_L_count_0_39
  refine fd_ok_bx ?_
  try unfold f_X10_count_0
  refine fd_ok_ite (fun c_1 => ?_) (fun c_1 => ?_)
  ·
    have d_2 := congrArg Int32.toInt c_1
    refine fd_ok_bd ?_
    try unfold f_X2_nets_1
    refine fd_ok_pb ?_
    refine fd_ok_pl ?_
    refine fd_ok_lt (fun σ6_3 eσ6_3 => ?_)
    have i_4 : fd_InvC σ6_3 := by subst eσ6_3; exact i0
    have f_5 : fd_fr [239] σ σ6_3 := fd_fr_mix eσ6_3 f0
    have t_6 : (σ6_3.1 0).toInt = (σ.1 0).toInt := by subst eσ6_3; rfl
    have t_7 : (σ6_3.1 1).toInt = (σ.1 1).toInt := by subst eσ6_3; rfl
    have t_8 : (σ6_3.1 2).toInt = (σ.1 2).toInt := by subst eσ6_3; rfl
    have t_9 : (σ6_3.1 3).toInt = (σ.1 3).toInt := by subst eσ6_3; rfl
    have t_10 : (σ6_3.1 4).toInt = (σ.1 4).toInt := by subst eσ6_3; rfl
    have t_11 : (σ6_3.1 5).toInt = (σ.1 5).toInt := by subst eσ6_3; rfl
    have t_12 : (σ6_3.1 6).toInt = (σ.1 6).toInt := by subst eσ6_3; rfl
    have t_13 : (σ6_3.1 17).toInt = (σ.1 17).toInt := by subst eσ6_3; rfl
    have t_14 : (σ6_3.1 18).toInt = (σ.1 18).toInt := by subst eσ6_3; rfl
    refine fd_ok_gd (vp_in_iff.mpr ⟨by omega, by omega⟩) ?_
    refine fd_ok_lt (fun σ9_15 eσ9_15 => ?_)
    have i_16 : fd_InvC σ9_15 := fd_inv_sL eσ9_15 i_4
    have f_17 : fd_fr [239] σ σ9_15 := fd_fr_tr f_5 (fd_fr_sL eσ9_15 (by decide))
    have t_18 : (σ9_15.1 0).toInt = (σ6_3.1 0).toInt := by subst eσ9_15; rfl
    have t_19 : (σ9_15.1 1).toInt = (σ6_3.1 1).toInt := by subst eσ9_15; rfl
    have t_20 : (σ9_15.1 2).toInt = (σ6_3.1 2).toInt := by subst eσ9_15; rfl
    have t_21 : (σ9_15.1 3).toInt = (σ6_3.1 3).toInt := by subst eσ9_15; rfl
    have t_22 : (σ9_15.1 4).toInt = (σ6_3.1 4).toInt := by subst eσ9_15; rfl
    have t_23 : (σ9_15.1 5).toInt = (σ6_3.1 5).toInt := by subst eσ9_15; rfl
    have t_24 : (σ9_15.1 6).toInt = (σ6_3.1 6).toInt := by subst eσ9_15; rfl
    have t_25 : (σ9_15.1 17).toInt = (σ6_3.1 17).toInt := by subst eσ9_15; rfl
    have t_26 : (σ9_15.1 18).toInt = (σ6_3.1 18).toInt := by subst eσ9_15; rfl
    exact fd_ok_some ⟨i_16, f_17, trivial⟩
  ·
    have d_27 : ¬ p1.toInt = (0 : Int32).toInt := fun q => c_1 (Int32.toInt_inj.mp q)
    refine fd_ok_ite (fun c_28 => ?_) (fun c_28 => ?_)
    ·
      have d_29 := congrArg Int32.toInt c_28
      refine fd_ok_bd ?_
      try unfold f_X2_inputs_1
      refine fd_ok_pb ?_
      refine fd_ok_pl ?_
      refine fd_ok_lt (fun σ6_30 eσ6_30 => ?_)
      have i_31 : fd_InvC σ6_30 := by subst eσ6_30; exact i0
      have f_32 : fd_fr [239] σ σ6_30 := fd_fr_mix eσ6_30 f0
      have t_33 : (σ6_30.1 0).toInt = (σ.1 0).toInt := by subst eσ6_30; rfl
      have t_34 : (σ6_30.1 1).toInt = (σ.1 1).toInt := by subst eσ6_30; rfl
      have t_35 : (σ6_30.1 2).toInt = (σ.1 2).toInt := by subst eσ6_30; rfl
      have t_36 : (σ6_30.1 3).toInt = (σ.1 3).toInt := by subst eσ6_30; rfl
      have t_37 : (σ6_30.1 4).toInt = (σ.1 4).toInt := by subst eσ6_30; rfl
      have t_38 : (σ6_30.1 5).toInt = (σ.1 5).toInt := by subst eσ6_30; rfl
      have t_39 : (σ6_30.1 6).toInt = (σ.1 6).toInt := by subst eσ6_30; rfl
      have t_40 : (σ6_30.1 17).toInt = (σ.1 17).toInt := by subst eσ6_30; rfl
      have t_41 : (σ6_30.1 18).toInt = (σ.1 18).toInt := by subst eσ6_30; rfl
      refine fd_ok_gd (vp_in_iff.mpr ⟨by omega, by omega⟩) ?_
      refine fd_ok_lt (fun σ9_42 eσ9_42 => ?_)
      have i_43 : fd_InvC σ9_42 := fd_inv_sL eσ9_42 i_31
      have f_44 : fd_fr [239] σ σ9_42 := fd_fr_tr f_32 (fd_fr_sL eσ9_42 (by decide))
      have t_45 : (σ9_42.1 0).toInt = (σ6_30.1 0).toInt := by subst eσ9_42; rfl
      have t_46 : (σ9_42.1 1).toInt = (σ6_30.1 1).toInt := by subst eσ9_42; rfl
      have t_47 : (σ9_42.1 2).toInt = (σ6_30.1 2).toInt := by subst eσ9_42; rfl
      have t_48 : (σ9_42.1 3).toInt = (σ6_30.1 3).toInt := by subst eσ9_42; rfl
      have t_49 : (σ9_42.1 4).toInt = (σ6_30.1 4).toInt := by subst eσ9_42; rfl
      have t_50 : (σ9_42.1 5).toInt = (σ6_30.1 5).toInt := by subst eσ9_42; rfl
      have t_51 : (σ9_42.1 6).toInt = (σ6_30.1 6).toInt := by subst eσ9_42; rfl
      have t_52 : (σ9_42.1 17).toInt = (σ6_30.1 17).toInt := by subst eσ9_42; rfl
      have t_53 : (σ9_42.1 18).toInt = (σ6_30.1 18).toInt := by subst eσ9_42; rfl
      exact fd_ok_some ⟨i_43, f_44, trivial⟩
    ·
      refine fd_ok_ite (fun c_55 => ?_) (fun c_55 => ?_)
      ·
        have d_56 := congrArg Int32.toInt c_55
        refine fd_ok_bd ?_
        try unfold f_X5_size_2
        refine fd_ok_pb ?_
        refine fd_ok_pl ?_
        refine fd_ok_lt (fun σ6_57 eσ6_57 => ?_)
        have i_58 : fd_InvC σ6_57 := by subst eσ6_57; exact i0
        have f_59 : fd_fr [239] σ σ6_57 := fd_fr_mix eσ6_57 f0
        have t_60 : (σ6_57.1 0).toInt = (σ.1 0).toInt := by subst eσ6_57; rfl
        have t_61 : (σ6_57.1 1).toInt = (σ.1 1).toInt := by subst eσ6_57; rfl
        have t_62 : (σ6_57.1 2).toInt = (σ.1 2).toInt := by subst eσ6_57; rfl
        have t_63 : (σ6_57.1 3).toInt = (σ.1 3).toInt := by subst eσ6_57; rfl
        have t_64 : (σ6_57.1 4).toInt = (σ.1 4).toInt := by subst eσ6_57; rfl
        have t_65 : (σ6_57.1 5).toInt = (σ.1 5).toInt := by subst eσ6_57; rfl
        have t_66 : (σ6_57.1 6).toInt = (σ.1 6).toInt := by subst eσ6_57; rfl
        have t_67 : (σ6_57.1 17).toInt = (σ.1 17).toInt := by subst eσ6_57; rfl
        have t_68 : (σ6_57.1 18).toInt = (σ.1 18).toInt := by subst eσ6_57; rfl
        refine fd_ok_gd (vp_in_iff.mpr ⟨by omega, by omega⟩) ?_
        refine fd_ok_lt (fun σ9_69 eσ9_69 => ?_)
        have i_70 : fd_InvC σ9_69 := fd_inv_sL eσ9_69 i_58
        have f_71 : fd_fr [239] σ σ9_69 := fd_fr_tr f_59 (fd_fr_sL eσ9_69 (by decide))
        have t_72 : (σ9_69.1 0).toInt = (σ6_57.1 0).toInt := by subst eσ9_69; rfl
        have t_73 : (σ9_69.1 1).toInt = (σ6_57.1 1).toInt := by subst eσ9_69; rfl
        have t_74 : (σ9_69.1 2).toInt = (σ6_57.1 2).toInt := by subst eσ9_69; rfl
        have t_75 : (σ9_69.1 3).toInt = (σ6_57.1 3).toInt := by subst eσ9_69; rfl
        have t_76 : (σ9_69.1 4).toInt = (σ6_57.1 4).toInt := by subst eσ9_69; rfl
        have t_77 : (σ9_69.1 5).toInt = (σ6_57.1 5).toInt := by subst eσ9_69; rfl
        have t_78 : (σ9_69.1 6).toInt = (σ6_57.1 6).toInt := by subst eσ9_69; rfl
        have t_79 : (σ9_69.1 17).toInt = (σ6_57.1 17).toInt := by subst eσ9_69; rfl
        have t_80 : (σ9_69.1 18).toInt = (σ6_57.1 18).toInt := by subst eσ9_69; rfl
        exact fd_ok_some ⟨i_70, f_71, trivial⟩
      ·
        refine fd_ok_ite (fun c_82 => ?_) (fun c_82 => ?_)
        ·
          have d_83 := congrArg Int32.toInt c_82
          refine fd_ok_bd ?_
          try unfold f_X4_size_3
          refine fd_ok_pb ?_
          refine fd_ok_pl ?_
          refine fd_ok_lt (fun σ6_84 eσ6_84 => ?_)
          have i_85 : fd_InvC σ6_84 := by subst eσ6_84; exact i0
          have f_86 : fd_fr [239] σ σ6_84 := fd_fr_mix eσ6_84 f0
          have t_87 : (σ6_84.1 0).toInt = (σ.1 0).toInt := by subst eσ6_84; rfl
          have t_88 : (σ6_84.1 1).toInt = (σ.1 1).toInt := by subst eσ6_84; rfl
          have t_89 : (σ6_84.1 2).toInt = (σ.1 2).toInt := by subst eσ6_84; rfl
          have t_90 : (σ6_84.1 3).toInt = (σ.1 3).toInt := by subst eσ6_84; rfl
          have t_91 : (σ6_84.1 4).toInt = (σ.1 4).toInt := by subst eσ6_84; rfl
          have t_92 : (σ6_84.1 5).toInt = (σ.1 5).toInt := by subst eσ6_84; rfl
          have t_93 : (σ6_84.1 6).toInt = (σ.1 6).toInt := by subst eσ6_84; rfl
          have t_94 : (σ6_84.1 17).toInt = (σ.1 17).toInt := by subst eσ6_84; rfl
          have t_95 : (σ6_84.1 18).toInt = (σ.1 18).toInt := by subst eσ6_84; rfl
          refine fd_ok_gd (vp_in_iff.mpr ⟨by omega, by omega⟩) ?_
          refine fd_ok_lt (fun σ9_96 eσ9_96 => ?_)
          have i_97 : fd_InvC σ9_96 := fd_inv_sL eσ9_96 i_85
          have f_98 : fd_fr [239] σ σ9_96 := fd_fr_tr f_86 (fd_fr_sL eσ9_96 (by decide))
          have t_99 : (σ9_96.1 0).toInt = (σ6_84.1 0).toInt := by subst eσ9_96; rfl
          have t_100 : (σ9_96.1 1).toInt = (σ6_84.1 1).toInt := by subst eσ9_96; rfl
          have t_101 : (σ9_96.1 2).toInt = (σ6_84.1 2).toInt := by subst eσ9_96; rfl
          have t_102 : (σ9_96.1 3).toInt = (σ6_84.1 3).toInt := by subst eσ9_96; rfl
          have t_103 : (σ9_96.1 4).toInt = (σ6_84.1 4).toInt := by subst eσ9_96; rfl
          have t_104 : (σ9_96.1 5).toInt = (σ6_84.1 5).toInt := by subst eσ9_96; rfl
          have t_105 : (σ9_96.1 6).toInt = (σ6_84.1 6).toInt := by subst eσ9_96; rfl
          have t_106 : (σ9_96.1 17).toInt = (σ6_84.1 17).toInt := by subst eσ9_96; rfl
          have t_107 : (σ9_96.1 18).toInt = (σ6_84.1 18).toInt := by subst eσ9_96; rfl
          exact fd_ok_some ⟨i_97, f_98, trivial⟩
        ·
          refine fd_ok_ite (fun c_109 => ?_) (fun c_109 => ?_)
          ·
            have d_110 := congrArg Int32.toInt c_109
            have r_111 : (0 : Int) ≤ (σ.1 0).toInt ∧ (σ.1 0).toInt ≤ 1 := i0.1 0
            refine fd_ok_ite (fun c_112 => ?_) (fun c_112 => ?_)
            ·
              have d_113 := congrArg Int32.toInt c_112
              refine fd_ok_pl ?_
              refine fd_ok_lt (fun σ6_114 eσ6_114 => ?_)
              have i_115 : fd_InvC σ6_114 := by subst eσ6_114; exact i0
              have f_116 : fd_fr [239] σ σ6_114 := fd_fr_mix eσ6_114 f0
              have t_117 : (σ6_114.1 0).toInt = (σ.1 0).toInt := by subst eσ6_114; rfl
              have t_118 : (σ6_114.1 1).toInt = (σ.1 1).toInt := by subst eσ6_114; rfl
              have t_119 : (σ6_114.1 2).toInt = (σ.1 2).toInt := by subst eσ6_114; rfl
              have t_120 : (σ6_114.1 3).toInt = (σ.1 3).toInt := by subst eσ6_114; rfl
              have t_121 : (σ6_114.1 4).toInt = (σ.1 4).toInt := by subst eσ6_114; rfl
              have t_122 : (σ6_114.1 5).toInt = (σ.1 5).toInt := by subst eσ6_114; rfl
              have t_123 : (σ6_114.1 6).toInt = (σ.1 6).toInt := by subst eσ6_114; rfl
              have t_124 : (σ6_114.1 17).toInt = (σ.1 17).toInt := by subst eσ6_114; rfl
              have t_125 : (σ6_114.1 18).toInt = (σ.1 18).toInt := by subst eσ6_114; rfl
              refine fd_ok_gd (vp_in_iff.mpr ⟨by omega, by omega⟩) ?_
              refine fd_ok_lt (fun σ9_126 eσ9_126 => ?_)
              have i_127 : fd_InvC σ9_126 := fd_inv_sL eσ9_126 i_115
              have f_128 : fd_fr [239] σ σ9_126 := fd_fr_tr f_116 (fd_fr_sL eσ9_126 (by decide))
              have t_129 : (σ9_126.1 0).toInt = (σ6_114.1 0).toInt := by subst eσ9_126; rfl
              have t_130 : (σ9_126.1 1).toInt = (σ6_114.1 1).toInt := by subst eσ9_126; rfl
              have t_131 : (σ9_126.1 2).toInt = (σ6_114.1 2).toInt := by subst eσ9_126; rfl
              have t_132 : (σ9_126.1 3).toInt = (σ6_114.1 3).toInt := by subst eσ9_126; rfl
              have t_133 : (σ9_126.1 4).toInt = (σ6_114.1 4).toInt := by subst eσ9_126; rfl
              have t_134 : (σ9_126.1 5).toInt = (σ6_114.1 5).toInt := by subst eσ9_126; rfl
              have t_135 : (σ9_126.1 6).toInt = (σ6_114.1 6).toInt := by subst eσ9_126; rfl
              have t_136 : (σ9_126.1 17).toInt = (σ6_114.1 17).toInt := by subst eσ9_126; rfl
              have t_137 : (σ9_126.1 18).toInt = (σ6_114.1 18).toInt := by subst eσ9_126; rfl
              exact fd_ok_some ⟨i_127, f_128, trivial⟩
            ·
              have d_138 : ¬ (σ.1 0).toInt = (0 : Int32).toInt := fun q => c_112 (Int32.toInt_inj.mp q)
              refine fd_ok_bd ?_
              try unfold f_X3_suspects_4
              refine fd_ok_pb ?_
              refine fd_ok_bd ?_
              try unfold f_X8_size_5
              refine fd_ok_pb ?_
              refine fd_ok_pl ?_
              refine fd_ok_lt (fun σ6_139 eσ6_139 => ?_)
              have i_140 : fd_InvC σ6_139 := by subst eσ6_139; exact i0
              have f_141 : fd_fr [239] σ σ6_139 := fd_fr_mix eσ6_139 f0
              have t_142 : (σ6_139.1 0).toInt = (σ.1 0).toInt := by subst eσ6_139; rfl
              have t_143 : (σ6_139.1 1).toInt = (σ.1 1).toInt := by subst eσ6_139; rfl
              have t_144 : (σ6_139.1 2).toInt = (σ.1 2).toInt := by subst eσ6_139; rfl
              have t_145 : (σ6_139.1 3).toInt = (σ.1 3).toInt := by subst eσ6_139; rfl
              have t_146 : (σ6_139.1 4).toInt = (σ.1 4).toInt := by subst eσ6_139; rfl
              have t_147 : (σ6_139.1 5).toInt = (σ.1 5).toInt := by subst eσ6_139; rfl
              have t_148 : (σ6_139.1 6).toInt = (σ.1 6).toInt := by subst eσ6_139; rfl
              have t_149 : (σ6_139.1 17).toInt = (σ.1 17).toInt := by subst eσ6_139; rfl
              have t_150 : (σ6_139.1 18).toInt = (σ.1 18).toInt := by subst eσ6_139; rfl
              refine fd_ok_gd (vp_in_iff.mpr ⟨by omega, by omega⟩) ?_
              refine fd_ok_lt (fun σ9_151 eσ9_151 => ?_)
              have i_152 : fd_InvC σ9_151 := fd_inv_sL eσ9_151 i_140
              have f_153 : fd_fr [239] σ σ9_151 := fd_fr_tr f_141 (fd_fr_sL eσ9_151 (by decide))
              have t_154 : (σ9_151.1 0).toInt = (σ6_139.1 0).toInt := by subst eσ9_151; rfl
              have t_155 : (σ9_151.1 1).toInt = (σ6_139.1 1).toInt := by subst eσ9_151; rfl
              have t_156 : (σ9_151.1 2).toInt = (σ6_139.1 2).toInt := by subst eσ9_151; rfl
              have t_157 : (σ9_151.1 3).toInt = (σ6_139.1 3).toInt := by subst eσ9_151; rfl
              have t_158 : (σ9_151.1 4).toInt = (σ6_139.1 4).toInt := by subst eσ9_151; rfl
              have t_159 : (σ9_151.1 5).toInt = (σ6_139.1 5).toInt := by subst eσ9_151; rfl
              have t_160 : (σ9_151.1 6).toInt = (σ6_139.1 6).toInt := by subst eσ9_151; rfl
              have t_161 : (σ9_151.1 17).toInt = (σ6_139.1 17).toInt := by subst eσ9_151; rfl
              have t_162 : (σ9_151.1 18).toInt = (σ6_139.1 18).toInt := by subst eσ9_151; rfl
              exact fd_ok_some ⟨i_152, f_153, trivial⟩
          ·
            refine fd_ok_ite (fun c_164 => ?_) (fun c_164 => ?_)
            ·
              have d_165 := congrArg Int32.toInt c_164
              refine fd_ok_bd ?_
              try unfold f_X6_size_11
              refine fd_ok_pb ?_
              refine fd_ok_pl ?_
              refine fd_ok_lt (fun σ6_166 eσ6_166 => ?_)
              have i_167 : fd_InvC σ6_166 := by subst eσ6_166; exact i0
              have f_168 : fd_fr [239] σ σ6_166 := fd_fr_mix eσ6_166 f0
              have t_169 : (σ6_166.1 0).toInt = (σ.1 0).toInt := by subst eσ6_166; rfl
              have t_170 : (σ6_166.1 1).toInt = (σ.1 1).toInt := by subst eσ6_166; rfl
              have t_171 : (σ6_166.1 2).toInt = (σ.1 2).toInt := by subst eσ6_166; rfl
              have t_172 : (σ6_166.1 3).toInt = (σ.1 3).toInt := by subst eσ6_166; rfl
              have t_173 : (σ6_166.1 4).toInt = (σ.1 4).toInt := by subst eσ6_166; rfl
              have t_174 : (σ6_166.1 5).toInt = (σ.1 5).toInt := by subst eσ6_166; rfl
              have t_175 : (σ6_166.1 6).toInt = (σ.1 6).toInt := by subst eσ6_166; rfl
              have t_176 : (σ6_166.1 17).toInt = (σ.1 17).toInt := by subst eσ6_166; rfl
              have t_177 : (σ6_166.1 18).toInt = (σ.1 18).toInt := by subst eσ6_166; rfl
              refine fd_ok_gd (vp_in_iff.mpr ⟨by omega, by omega⟩) ?_
              refine fd_ok_lt (fun σ9_178 eσ9_178 => ?_)
              have i_179 : fd_InvC σ9_178 := fd_inv_sL eσ9_178 i_167
              have f_180 : fd_fr [239] σ σ9_178 := fd_fr_tr f_168 (fd_fr_sL eσ9_178 (by decide))
              have t_181 : (σ9_178.1 0).toInt = (σ6_166.1 0).toInt := by subst eσ9_178; rfl
              have t_182 : (σ9_178.1 1).toInt = (σ6_166.1 1).toInt := by subst eσ9_178; rfl
              have t_183 : (σ9_178.1 2).toInt = (σ6_166.1 2).toInt := by subst eσ9_178; rfl
              have t_184 : (σ9_178.1 3).toInt = (σ6_166.1 3).toInt := by subst eσ9_178; rfl
              have t_185 : (σ9_178.1 4).toInt = (σ6_166.1 4).toInt := by subst eσ9_178; rfl
              have t_186 : (σ9_178.1 5).toInt = (σ6_166.1 5).toInt := by subst eσ9_178; rfl
              have t_187 : (σ9_178.1 6).toInt = (σ6_166.1 6).toInt := by subst eσ9_178; rfl
              have t_188 : (σ9_178.1 17).toInt = (σ6_166.1 17).toInt := by subst eσ9_178; rfl
              have t_189 : (σ9_178.1 18).toInt = (σ6_166.1 18).toInt := by subst eσ9_178; rfl
              exact fd_ok_some ⟨i_179, f_180, trivial⟩
            ·
              refine fd_ok_ite (fun c_191 => ?_) (fun c_191 => ?_)
              ·
                have d_192 := congrArg Int32.toInt c_191
                refine fd_ok_bd ?_
                try unfold f_X2_patternCount_1
                refine fd_ok_pb ?_
                refine fd_ok_pl ?_
                refine fd_ok_lt (fun σ6_193 eσ6_193 => ?_)
                have i_194 : fd_InvC σ6_193 := by subst eσ6_193; exact i0
                have f_195 : fd_fr [239] σ σ6_193 := fd_fr_mix eσ6_193 f0
                have t_196 : (σ6_193.1 0).toInt = (σ.1 0).toInt := by subst eσ6_193; rfl
                have t_197 : (σ6_193.1 1).toInt = (σ.1 1).toInt := by subst eσ6_193; rfl
                have t_198 : (σ6_193.1 2).toInt = (σ.1 2).toInt := by subst eσ6_193; rfl
                have t_199 : (σ6_193.1 3).toInt = (σ.1 3).toInt := by subst eσ6_193; rfl
                have t_200 : (σ6_193.1 4).toInt = (σ.1 4).toInt := by subst eσ6_193; rfl
                have t_201 : (σ6_193.1 5).toInt = (σ.1 5).toInt := by subst eσ6_193; rfl
                have t_202 : (σ6_193.1 6).toInt = (σ.1 6).toInt := by subst eσ6_193; rfl
                have t_203 : (σ6_193.1 17).toInt = (σ.1 17).toInt := by subst eσ6_193; rfl
                have t_204 : (σ6_193.1 18).toInt = (σ.1 18).toInt := by subst eσ6_193; rfl
                refine fd_ok_gd (vp_in_iff.mpr ⟨by omega, by omega⟩) ?_
                refine fd_ok_lt (fun σ9_205 eσ9_205 => ?_)
                have i_206 : fd_InvC σ9_205 := fd_inv_sL eσ9_205 i_194
                have f_207 : fd_fr [239] σ σ9_205 := fd_fr_tr f_195 (fd_fr_sL eσ9_205 (by decide))
                have t_208 : (σ9_205.1 0).toInt = (σ6_193.1 0).toInt := by subst eσ9_205; rfl
                have t_209 : (σ9_205.1 1).toInt = (σ6_193.1 1).toInt := by subst eσ9_205; rfl
                have t_210 : (σ9_205.1 2).toInt = (σ6_193.1 2).toInt := by subst eσ9_205; rfl
                have t_211 : (σ9_205.1 3).toInt = (σ6_193.1 3).toInt := by subst eσ9_205; rfl
                have t_212 : (σ9_205.1 4).toInt = (σ6_193.1 4).toInt := by subst eσ9_205; rfl
                have t_213 : (σ9_205.1 5).toInt = (σ6_193.1 5).toInt := by subst eσ9_205; rfl
                have t_214 : (σ9_205.1 6).toInt = (σ6_193.1 6).toInt := by subst eσ9_205; rfl
                have t_215 : (σ9_205.1 17).toInt = (σ6_193.1 17).toInt := by subst eσ9_205; rfl
                have t_216 : (σ9_205.1 18).toInt = (σ6_193.1 18).toInt := by subst eσ9_205; rfl
                exact fd_ok_some ⟨i_206, f_207, trivial⟩
              ·
                refine fd_ok_ite (fun c_218 => ?_) (fun c_218 => ?_)
                ·
                  have d_219 := congrArg Int32.toInt c_218
                  refine fd_ok_bd ?_
                  try unfold f_X1_rows_10
                  refine fd_ok_pb ?_
                  refine fd_ok_pl ?_
                  refine fd_ok_lt (fun σ6_220 eσ6_220 => ?_)
                  have i_221 : fd_InvC σ6_220 := by subst eσ6_220; exact i0
                  have f_222 : fd_fr [239] σ σ6_220 := fd_fr_mix eσ6_220 f0
                  have t_223 : (σ6_220.1 0).toInt = (σ.1 0).toInt := by subst eσ6_220; rfl
                  have t_224 : (σ6_220.1 1).toInt = (σ.1 1).toInt := by subst eσ6_220; rfl
                  have t_225 : (σ6_220.1 2).toInt = (σ.1 2).toInt := by subst eσ6_220; rfl
                  have t_226 : (σ6_220.1 3).toInt = (σ.1 3).toInt := by subst eσ6_220; rfl
                  have t_227 : (σ6_220.1 4).toInt = (σ.1 4).toInt := by subst eσ6_220; rfl
                  have t_228 : (σ6_220.1 5).toInt = (σ.1 5).toInt := by subst eσ6_220; rfl
                  have t_229 : (σ6_220.1 6).toInt = (σ.1 6).toInt := by subst eσ6_220; rfl
                  have t_230 : (σ6_220.1 17).toInt = (σ.1 17).toInt := by subst eσ6_220; rfl
                  have t_231 : (σ6_220.1 18).toInt = (σ.1 18).toInt := by subst eσ6_220; rfl
                  refine fd_ok_gd (vp_in_iff.mpr ⟨by omega, by omega⟩) ?_
                  refine fd_ok_lt (fun σ9_232 eσ9_232 => ?_)
                  have i_233 : fd_InvC σ9_232 := fd_inv_sL eσ9_232 i_221
                  have f_234 : fd_fr [239] σ σ9_232 := fd_fr_tr f_222 (fd_fr_sL eσ9_232 (by decide))
                  have t_235 : (σ9_232.1 0).toInt = (σ6_220.1 0).toInt := by subst eσ9_232; rfl
                  have t_236 : (σ9_232.1 1).toInt = (σ6_220.1 1).toInt := by subst eσ9_232; rfl
                  have t_237 : (σ9_232.1 2).toInt = (σ6_220.1 2).toInt := by subst eσ9_232; rfl
                  have t_238 : (σ9_232.1 3).toInt = (σ6_220.1 3).toInt := by subst eσ9_232; rfl
                  have t_239 : (σ9_232.1 4).toInt = (σ6_220.1 4).toInt := by subst eσ9_232; rfl
                  have t_240 : (σ9_232.1 5).toInt = (σ6_220.1 5).toInt := by subst eσ9_232; rfl
                  have t_241 : (σ9_232.1 6).toInt = (σ6_220.1 6).toInt := by subst eσ9_232; rfl
                  have t_242 : (σ9_232.1 17).toInt = (σ6_220.1 17).toInt := by subst eσ9_232; rfl
                  have t_243 : (σ9_232.1 18).toInt = (σ6_220.1 18).toInt := by subst eσ9_232; rfl
                  exact fd_ok_some ⟨i_233, f_234, trivial⟩
                ·
                  refine fd_ok_ite (fun c_245 => ?_) (fun c_245 => ?_)
                  ·
                    have d_246 := congrArg Int32.toInt c_245
                    refine fd_ok_bd ?_
                    try unfold f_X7_chips_9
                    refine fd_ok_pb ?_
                    refine fd_ok_pl ?_
                    refine fd_ok_lt (fun σ6_247 eσ6_247 => ?_)
                    have i_248 : fd_InvC σ6_247 := by subst eσ6_247; exact i0
                    have f_249 : fd_fr [239] σ σ6_247 := fd_fr_mix eσ6_247 f0
                    have t_250 : (σ6_247.1 0).toInt = (σ.1 0).toInt := by subst eσ6_247; rfl
                    have t_251 : (σ6_247.1 1).toInt = (σ.1 1).toInt := by subst eσ6_247; rfl
                    have t_252 : (σ6_247.1 2).toInt = (σ.1 2).toInt := by subst eσ6_247; rfl
                    have t_253 : (σ6_247.1 3).toInt = (σ.1 3).toInt := by subst eσ6_247; rfl
                    have t_254 : (σ6_247.1 4).toInt = (σ.1 4).toInt := by subst eσ6_247; rfl
                    have t_255 : (σ6_247.1 5).toInt = (σ.1 5).toInt := by subst eσ6_247; rfl
                    have t_256 : (σ6_247.1 6).toInt = (σ.1 6).toInt := by subst eσ6_247; rfl
                    have t_257 : (σ6_247.1 17).toInt = (σ.1 17).toInt := by subst eσ6_247; rfl
                    have t_258 : (σ6_247.1 18).toInt = (σ.1 18).toInt := by subst eσ6_247; rfl
                    refine fd_ok_gd (vp_in_iff.mpr ⟨by omega, by omega⟩) ?_
                    refine fd_ok_lt (fun σ9_259 eσ9_259 => ?_)
                    have i_260 : fd_InvC σ9_259 := fd_inv_sL eσ9_259 i_248
                    have f_261 : fd_fr [239] σ σ9_259 := fd_fr_tr f_249 (fd_fr_sL eσ9_259 (by decide))
                    have t_262 : (σ9_259.1 0).toInt = (σ6_247.1 0).toInt := by subst eσ9_259; rfl
                    have t_263 : (σ9_259.1 1).toInt = (σ6_247.1 1).toInt := by subst eσ9_259; rfl
                    have t_264 : (σ9_259.1 2).toInt = (σ6_247.1 2).toInt := by subst eσ9_259; rfl
                    have t_265 : (σ9_259.1 3).toInt = (σ6_247.1 3).toInt := by subst eσ9_259; rfl
                    have t_266 : (σ9_259.1 4).toInt = (σ6_247.1 4).toInt := by subst eσ9_259; rfl
                    have t_267 : (σ9_259.1 5).toInt = (σ6_247.1 5).toInt := by subst eσ9_259; rfl
                    have t_268 : (σ9_259.1 6).toInt = (σ6_247.1 6).toInt := by subst eσ9_259; rfl
                    have t_269 : (σ9_259.1 17).toInt = (σ6_247.1 17).toInt := by subst eσ9_259; rfl
                    have t_270 : (σ9_259.1 18).toInt = (σ6_247.1 18).toInt := by subst eσ9_259; rfl
                    exact fd_ok_some ⟨i_260, f_261, trivial⟩
                  ·
                    refine fd_ok_pr ?_
                    refine fd_ok_itp (by decide) ?_
                    refine fd_ok_lt (fun σ11_272 eσ11_272 => ?_)
                    have i_273 : fd_InvC σ11_272 := by subst eσ11_272; exact i0
                    have f_274 : fd_fr [239] σ σ11_272 := fd_fr_mix eσ11_272 f0
                    have t_275 : (σ11_272.1 0).toInt = (σ.1 0).toInt := by subst eσ11_272; rfl
                    have t_276 : (σ11_272.1 1).toInt = (σ.1 1).toInt := by subst eσ11_272; rfl
                    have t_277 : (σ11_272.1 2).toInt = (σ.1 2).toInt := by subst eσ11_272; rfl
                    have t_278 : (σ11_272.1 3).toInt = (σ.1 3).toInt := by subst eσ11_272; rfl
                    have t_279 : (σ11_272.1 4).toInt = (σ.1 4).toInt := by subst eσ11_272; rfl
                    have t_280 : (σ11_272.1 5).toInt = (σ.1 5).toInt := by subst eσ11_272; rfl
                    have t_281 : (σ11_272.1 6).toInt = (σ.1 6).toInt := by subst eσ11_272; rfl
                    have t_282 : (σ11_272.1 17).toInt = (σ.1 17).toInt := by subst eσ11_272; rfl
                    have t_283 : (σ11_272.1 18).toInt = (σ.1 18).toInt := by subst eσ11_272; rfl
                    exact fd_ok_some ⟨i_273, f_274, trivial⟩
set_option maxHeartbeats 4000000 in
theorem s_X10_run_0 (N : Nat) (hN : 1000 ≤ N) (σ : fd_St) (i0 : fd_InvC σ) : fd_ok (f_X10_run_0 N σ) (fun v s => fd_InvC s ∧ fd_fr [0, 6, 7, 8, 9, 10, 11, 12, 13, 14, 122, 123, 124, 125, 126, 127, 128, 216] σ s ∧ (True)) := by
  have litm1 : (-1 : Int32).toInt = -1 := by decide
  have lit0 : (0 : Int32).toInt = 0 := by decide
  have lit1 : (1 : Int32).toInt = 1 := by decide
  have f0 : fd_fr [0, 6, 7, 8, 9, 10, 11, 12, 13, 14, 122, 123, 124, 125, 126, 127, 128, 216] σ σ := fd_fr_rf
  unfold f_X10_run_0
  refine fd_ok_bd ?_
  try unfold f_X3_find_4
  refine fd_ok_bd ?_
  try unfold f_X3_findSuspects_4
  refine fd_ok_bd ?_
  try unfold f_X8_reset_5
  refine fd_ok_lt (fun σ1_1 eσ1_1 => ?_)
  have i_2 : fd_InvC σ1_1 := fd_inv_sI eσ1_1 i0 ⟨(by omega : (0 : Int) ≤ (0 : Int32).toInt), (by omega : (0 : Int32).toInt ≤ 480)⟩
  have f_3 : fd_fr [0, 6, 7, 8, 9, 10, 11, 12, 13, 14, 122, 123, 124, 125, 126, 127, 128, 216] σ σ1_1 := fd_fr_tr f0 (fd_fr_sI eσ1_1 (by decide))
  have t_4 : (σ1_1.1 6).toInt = (0 : Int32).toInt := congrArg Int32.toInt (fd_tI eσ1_1)
  refine fd_ok_pb ?_
  refine fd_ok_cl (s_X3_findSuspects_4_L9 N hN N _ _ i_2 (by omega) (by omega) (by omega) (by omega)) ?_
  rintro v_5 σ_6 ⟨i_7, g_8, x_9⟩
  have f_10 : fd_fr [0, 6, 7, 8, 9, 10, 11, 12, 13, 14, 122, 123, 124, 125, 126, 127, 128, 216] σ σ_6 := fd_fr_tr f_3 (fd_fr_mono g_8 (by decide))
  refine fd_ok_bd ?_
  try unfold f_X3_findBestPair_4
  refine fd_ok_bd ?_
  try unfold f_X0_reset_6
  refine fd_ok_lt (fun σ1_11 eσ1_11 => ?_)
  have i_12 : fd_InvC σ1_11 := fd_inv_sI eσ1_11 i_7 ⟨(by omega : (-1 : Int) ≤ (-1 : Int32).toInt), (by omega : (-1 : Int32).toInt ≤ 479)⟩
  have f_13 : fd_fr [0, 6, 7, 8, 9, 10, 11, 12, 13, 14, 122, 123, 124, 125, 126, 127, 128, 216] σ σ1_11 := fd_fr_tr f_10 (fd_fr_sI eσ1_11 (by decide))
  have t_14 : (σ1_11.1 6).toInt = (σ_6.1 6).toInt := congrArg Int32.toInt (fd_tN eσ1_11 (by decide))
  refine fd_ok_lt (fun σ2_15 eσ2_15 => ?_)
  have i_16 : fd_InvC σ2_15 := fd_inv_sI eσ2_15 i_12 ⟨(by omega : (-1 : Int) ≤ (-1 : Int32).toInt), (by omega : (-1 : Int32).toInt ≤ 479)⟩
  have f_17 : fd_fr [0, 6, 7, 8, 9, 10, 11, 12, 13, 14, 122, 123, 124, 125, 126, 127, 128, 216] σ σ2_15 := fd_fr_tr f_13 (fd_fr_sI eσ2_15 (by decide))
  have t_18 : (σ2_15.1 6).toInt = (σ1_11.1 6).toInt := congrArg Int32.toInt (fd_tN eσ2_15 (by decide))
  refine fd_ok_bd ?_
  try unfold f_X9_reset_7
  refine fd_ok_lt (fun σ1_19 eσ1_19 => ?_)
  have i_20 : fd_InvC σ1_19 := fd_inv_sI eσ1_19 i_16 (fd_rng _)
  have f_21 : fd_fr [0, 6, 7, 8, 9, 10, 11, 12, 13, 14, 122, 123, 124, 125, 126, 127, 128, 216] σ σ1_19 := fd_fr_tr f_17 (fd_fr_sI eσ1_19 (by decide))
  have t_22 : (σ1_19.1 6).toInt = (σ2_15.1 6).toInt := congrArg Int32.toInt (fd_tN eσ1_19 (by decide))
  refine fd_ok_lt (fun σ2_23 eσ2_23 => ?_)
  have i_24 : fd_InvC σ2_23 := fd_inv_sI eσ2_23 i_20 (fd_rng _)
  have f_25 : fd_fr [0, 6, 7, 8, 9, 10, 11, 12, 13, 14, 122, 123, 124, 125, 126, 127, 128, 216] σ σ2_23 := fd_fr_tr f_21 (fd_fr_sI eσ2_23 (by decide))
  have t_26 : (σ2_23.1 6).toInt = (σ1_19.1 6).toInt := congrArg Int32.toInt (fd_tN eσ2_23 (by decide))
  refine fd_ok_lt (fun σ3_27 eσ3_27 => ?_)
  have i_28 : fd_InvC σ3_27 := fd_inv_sI eσ3_27 i_24 (fd_rng _)
  have f_29 : fd_fr [0, 6, 7, 8, 9, 10, 11, 12, 13, 14, 122, 123, 124, 125, 126, 127, 128, 216] σ σ3_27 := fd_fr_tr f_25 (fd_fr_sI eσ3_27 (by decide))
  have t_30 : (σ3_27.1 6).toInt = (σ2_23.1 6).toInt := congrArg Int32.toInt (fd_tN eσ3_27 (by decide))
  refine fd_ok_pb ?_
  refine fd_ok_pb ?_
  refine fd_ok_bd ?_
  try unfold f_X3_chooseForPairs_4
  refine fd_ok_cl (s_X3_chooseForPairs_4_L4 N hN N _ _ _ i_28 (by omega) (by omega) (by omega) (by omega) (by omega)) ?_
  rintro v_31 σ_32 ⟨i_33, g_34, x_35⟩
  have f_36 : fd_fr [0, 6, 7, 8, 9, 10, 11, 12, 13, 14, 122, 123, 124, 125, 126, 127, 128, 216] σ σ_32 := fd_fr_tr f_29 (fd_fr_mono g_34 (by decide))
  have t_37 : (σ_32.1 6).toInt = (σ3_27.1 6).toInt := congrArg Int32.toInt (g_34.1 6 (by decide))
  refine fd_ok_cl (s_X3_findBestPair_4_L14 N hN N _ _ _ i_33 (by omega) (by omega) (by omega) (by omega) (by omega)) ?_
  rintro v_38 σ_39 ⟨i_40, g_41, x_42⟩
  have f_43 : fd_fr [0, 6, 7, 8, 9, 10, 11, 12, 13, 14, 122, 123, 124, 125, 126, 127, 128, 216] σ σ_39 := fd_fr_tr f_36 (fd_fr_mono g_41 (by decide))
  have t_44 : (σ_39.1 6).toInt = (σ_32.1 6).toInt := congrArg Int32.toInt (g_41.1 6 (by decide))
  refine fd_ok_pb ?_
  refine fd_ok_lt (fun σ6_45 eσ6_45 => ?_)
  have i_46 : fd_InvC σ6_45 := fd_inv_sI eσ6_45 i_40 ⟨(by omega : (0 : Int) ≤ (1 : Int32).toInt), (by omega : (1 : Int32).toInt ≤ 1)⟩
  have f_47 : fd_fr [0, 6, 7, 8, 9, 10, 11, 12, 13, 14, 122, 123, 124, 125, 126, 127, 128, 216] σ σ6_45 := fd_fr_tr f_43 (fd_fr_sI eσ6_45 (by decide))
  have t_48 : (σ6_45.1 6).toInt = (σ_39.1 6).toInt := congrArg Int32.toInt (fd_tN eσ6_45 (by decide))
  refine fd_ok_bd ?_
  try unfold f_X3_suspects_4
  refine fd_ok_pb ?_
  refine fd_ok_bd ?_
  try unfold f_X8_size_5
  refine fd_ok_pb ?_
  exact fd_ok_some ⟨i_46, f_47, trivial⟩
