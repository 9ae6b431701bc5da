set_option maxHeartbeats 4000000 in
theorem s_L_input_0_39 (N : Nat) (hN : 1000 ≤ N) (σ : fd_St) (i0 : fd_InvC σ) : fd_ok (f_L_input_0_39 N σ) (fun v s => fd_InvC s ∧ fd_fr [0, 1, 2, 112, 215, 239] σ s ∧ ((((σ.1 2).toInt = 32 ∨ (σ.1 1).toInt = 200) ∧ v.toInt = 1 ∧ (s.1 1).toInt = (σ.1 1).toInt ∧ (s.1 2).toInt = (σ.1 2).toInt) ∨ (¬ ((σ.1 2).toInt = 32 ∨ (σ.1 1).toInt = 200) ∧ v.toInt = 0 ∧ (s.1 1).toInt = (σ.1 1).toInt + 1 ∧ (s.1 2).toInt = (σ.1 2).toInt + 1 ∧ (s.2.2 39 (0 : Int32).toNatClampNeg).toInt = (σ.1 1).toInt)) ∧ fd_H (((¬ v.toInt = 0 → s.2.1 12 = σ.2.1 12) ∧ (v.toInt = 0 → ∃ j w : Int32, (j.toInt = (σ.1 1).toInt ∧ w.toInt = -1) ∧ s.2.1 12 = upd (σ.2.1 12) j.toNatClampNeg w))) ∧ fd_H (((¬ v.toInt = 0 → s.2.2 15 = σ.2.2 15) ∧ (v.toInt = 0 → ∃ j : Int32, j.toInt = (σ.1 1).toInt ∧ s.2.2 15 = vp_updL (σ.2.2 15) j.toNatClampNeg (0 : Int64))))) := by
  have litm1 : (-1 : Int32).toInt = -1 := by decide
  have lit0 : (0 : Int32).toInt = 0 := by decide
  have lit1 : (1 : Int32).toInt = 1 := by decide
  have lit32 : (32 : Int32).toInt = 32 := by decide
  have lit200 : (200 : Int32).toInt = 200 := by decide
  have f0 : fd_fr [0, 1, 2, 112, 215, 239] σ σ := fd_fr_rf
  unfold f_L_input_0_39
  refine fd_ok_bx ?_
  try unfold f_X10_input_0
  refine fd_ok_bd ?_
  try unfold f_X2_inputs_1
  refine fd_ok_pb ?_
  have r_1 : (0 : Int) ≤ (σ.1 2).toInt ∧ (σ.1 2).toInt ≤ 32 := i0.1 2
  refine fd_ok_ite (fun c_2 => ?_) (fun c_2 => ?_)
  ·
    have d_3 := congrArg Int32.toInt c_2
    try unfold f_X10_input_0_J25
    refine fd_ok_pr ?_
    refine fd_ok_itp (by decide) ?_
    refine fd_ok_lt (fun σ11_4 eσ11_4 => ?_)
    have i_5 : fd_InvC σ11_4 := by subst eσ11_4; exact i0
    have f_6 : fd_fr [0, 1, 2, 112, 215, 239] σ σ11_4 := fd_fr_mix eσ11_4 f0
    have t_7 : (σ11_4.1 1).toInt = (σ.1 1).toInt := by subst eσ11_4; rfl
    have t_8 : (σ11_4.1 2).toInt = (σ.1 2).toInt := by subst eσ11_4; rfl
    have y_9 := fd_ymixA (d := 12) eσ11_4 (rfl : σ.2.1 12 = _)
    have y_10 := fd_ymix (d := 15) eσ11_4 (by decide) (rfl : σ.2.2 15 = _)
    have x_11 : (((σ.1 2).toInt = 32 ∨ (σ.1 1).toInt = 200) ∧ (1 : Int32).toInt = 1 ∧ (σ11_4.1 1).toInt = (σ.1 1).toInt ∧ (σ11_4.1 2).toInt = (σ.1 2).toInt) ∨ (¬ ((σ.1 2).toInt = 32 ∨ (σ.1 1).toInt = 200) ∧ (1 : Int32).toInt = 0 ∧ (σ11_4.1 1).toInt = (σ.1 1).toInt + 1 ∧ (σ11_4.1 2).toInt = (σ.1 2).toInt + 1 ∧ (σ11_4.2.2 39 (0 : Int32).toNatClampNeg).toInt = (σ.1 1).toInt) := by omega
    have w_12 : fd_H (((¬ (1 : Int32).toInt = 0 → σ11_4.2.1 12 = σ.2.1 12) ∧ ((1 : Int32).toInt = 0 → ∃ j w : Int32, (j.toInt = (σ.1 1).toInt ∧ w.toInt = -1) ∧ σ11_4.2.1 12 = upd (σ.2.1 12) j.toNatClampNeg w))) := fd_hd (⟨fun _ => y_9, fun h => absurd h (by omega)⟩)
    have w_13 : fd_H (((¬ (1 : Int32).toInt = 0 → σ11_4.2.2 15 = σ.2.2 15) ∧ ((1 : Int32).toInt = 0 → ∃ j : Int32, j.toInt = (σ.1 1).toInt ∧ σ11_4.2.2 15 = vp_updL (σ.2.2 15) j.toNatClampNeg (0 : Int64)))) := fd_hd (⟨fun _ => y_10, fun h => absurd h (by omega)⟩)
    exact fd_ok_some ⟨i_5, f_6, x_11, w_12, w_13⟩
  ·
    have d_14 : ¬ (σ.1 2).toInt = (32 : Int32).toInt := fun q => c_2 (Int32.toInt_inj.mp q)
    refine fd_ok_bd ?_
    try unfold f_X2_nets_1
    refine fd_ok_pb ?_
    have r_15 : (0 : Int) ≤ (σ.1 1).toInt ∧ (σ.1 1).toInt ≤ 200 := i0.1 1
    refine fd_ok_ite (fun c_16 => ?_) (fun c_16 => ?_)
    ·
      have d_17 := congrArg Int32.toInt c_16
      try unfold f_X10_input_0_J25
      refine fd_ok_pr ?_
      refine fd_ok_itp (by decide) ?_
      refine fd_ok_lt (fun σ11_18 eσ11_18 => ?_)
      have i_19 : fd_InvC σ11_18 := by subst eσ11_18; exact i0
      have f_20 : fd_fr [0, 1, 2, 112, 215, 239] σ σ11_18 := fd_fr_mix eσ11_18 f0
      have t_21 : (σ11_18.1 1).toInt = (σ.1 1).toInt := by subst eσ11_18; rfl
      have t_22 : (σ11_18.1 2).toInt = (σ.1 2).toInt := by subst eσ11_18; rfl
      have y_23 := fd_ymixA (d := 12) eσ11_18 (rfl : σ.2.1 12 = _)
      have y_24 := fd_ymix (d := 15) eσ11_18 (by decide) (rfl : σ.2.2 15 = _)
      have x_25 : (((σ.1 2).toInt = 32 ∨ (σ.1 1).toInt = 200) ∧ (1 : Int32).toInt = 1 ∧ (σ11_18.1 1).toInt = (σ.1 1).toInt ∧ (σ11_18.1 2).toInt = (σ.1 2).toInt) ∨ (¬ ((σ.1 2).toInt = 32 ∨ (σ.1 1).toInt = 200) ∧ (1 : Int32).toInt = 0 ∧ (σ11_18.1 1).toInt = (σ.1 1).toInt + 1 ∧ (σ11_18.1 2).toInt = (σ.1 2).toInt + 1 ∧ (σ11_18.2.2 39 (0 : Int32).toNatClampNeg).toInt = (σ.1 1).toInt) := by omega
      have w_26 : fd_H (((¬ (1 : Int32).toInt = 0 → σ11_18.2.1 12 = σ.2.1 12) ∧ ((1 : Int32).toInt = 0 → ∃ j w : Int32, (j.toInt = (σ.1 1).toInt ∧ w.toInt = -1) ∧ σ11_18.2.1 12 = upd (σ.2.1 12) j.toNatClampNeg w))) := fd_hd (⟨fun _ => y_23, fun h => absurd h (by omega)⟩)
      have w_27 : fd_H (((¬ (1 : Int32).toInt = 0 → σ11_18.2.2 15 = σ.2.2 15) ∧ ((1 : Int32).toInt = 0 → ∃ j : Int32, j.toInt = (σ.1 1).toInt ∧ σ11_18.2.2 15 = vp_updL (σ.2.2 15) j.toNatClampNeg (0 : Int64)))) := fd_hd (⟨fun _ => y_24, fun h => absurd h (by omega)⟩)
      exact fd_ok_some ⟨i_19, f_20, x_25, w_26, w_27⟩
    ·
      have d_28 : ¬ (σ.1 1).toInt = (200 : Int32).toInt := fun q => c_16 (Int32.toInt_inj.mp q)
      refine fd_ok_lt (fun σ14_29 eσ14_29 => ?_)
      have i_30 : fd_InvC σ14_29 := fd_inv_sI eσ14_29 i0 ⟨(by omega : (0 : Int) ≤ (0 : Int32).toInt), (by omega : (0 : Int32).toInt ≤ 1)⟩
      have f_31 : fd_fr [0, 1, 2, 112, 215, 239] σ σ14_29 := fd_fr_tr f0 (fd_fr_sI eσ14_29 (by decide))
      have t_32 : (σ14_29.1 1).toInt = (σ.1 1).toInt := congrArg Int32.toInt (fd_tN eσ14_29 (by decide))
      have t_33 : (σ14_29.1 2).toInt = (σ.1 2).toInt := congrArg Int32.toInt (fd_tN eσ14_29 (by decide))
      have y_34 := fd_yIA (d := 12) eσ14_29 (rfl : σ.2.1 12 = _)
      have y_35 := fd_yIL (d := 15) eσ14_29 (rfl : σ.2.2 15 = _)
      refine fd_ok_bd ?_
      try unfold f_X2_addInput_1
      have r_36 : (0 : Int) ≤ (σ14_29.1 1).toInt ∧ (σ14_29.1 1).toInt ≤ 200 := i_30.1 1
      refine fd_ok_gd (vp_in_iff.mpr ⟨by omega, by omega⟩) ?_
      refine fd_ok_lt (fun σ2_37 eσ2_37 => ?_)
      have i_38 : fd_InvC σ2_37 := fd_inv_sA eσ2_37 i_30 (by decide) (by decide) (fd_rng _)
      have f_39 : fd_fr [0, 1, 2, 112, 215, 239] σ σ2_37 := fd_fr_tr f_31 (fd_fr_sA eσ2_37 (by decide))
      have t_40 : (σ2_37.1 1).toInt = (σ14_29.1 1).toInt := by subst eσ2_37; rfl
      have t_41 : (σ2_37.1 2).toInt = (σ14_29.1 2).toInt := by subst eσ2_37; rfl
      have y_42 := fd_yA eσ2_37 y_34
      have y_43 := fd_yAL (d := 15) eσ2_37 y_35
      have r_44 : (0 : Int) ≤ (σ2_37.1 1).toInt ∧ (σ2_37.1 1).toInt ≤ 200 := i_38.1 1
      refine fd_ok_gd (vp_in_iff.mpr ⟨by omega, by omega⟩) ?_
      refine fd_ok_lt (fun σ4_45 eσ4_45 => ?_)
      have i_46 : fd_InvC σ4_45 := fd_inv_sL eσ4_45 i_38
      have f_47 : fd_fr [0, 1, 2, 112, 215, 239] σ σ4_45 := fd_fr_tr f_39 (fd_fr_sL eσ4_45 (by decide))
      have t_48 : (σ4_45.1 1).toInt = (σ2_37.1 1).toInt := by subst eσ4_45; rfl
      have t_49 : (σ4_45.1 2).toInt = (σ2_37.1 2).toInt := by subst eσ4_45; rfl
      have y_50 := fd_yLA (d := 12) eσ4_45 y_42
      have y_51 := fd_yL eσ4_45 y_43
      refine fd_ok_lt (fun σ5_52 eσ5_52 => ?_)
      have r_55 : (0 : Int) ≤ (σ4_45.1 2).toInt ∧ (σ4_45.1 2).toInt ≤ 32 := i_46.1 2
      have u_56 := Jvm.Kit.i32_add (x := (σ4_45.1 2)) (y := (1 : Int32)) (by omega) (by omega)
      have i_53 : fd_InvC σ5_52 := fd_inv_sI eσ5_52 i_46 ⟨(by omega : (0 : Int) ≤ ((σ4_45.1 2) + (1 : Int32)).toInt), (by omega : ((σ4_45.1 2) + (1 : Int32)).toInt ≤ 32)⟩
      have f_54 : fd_fr [0, 1, 2, 112, 215, 239] σ σ5_52 := fd_fr_tr f_47 (fd_fr_sI eσ5_52 (by decide))
      have t_57 : (σ5_52.1 1).toInt = (σ4_45.1 1).toInt := congrArg Int32.toInt (fd_tN eσ5_52 (by decide))
      have t_58 : (σ5_52.1 2).toInt = ((σ4_45.1 2) + (1 : Int32)).toInt := congrArg Int32.toInt (fd_tI eσ5_52)
      have y_59 := fd_yIA (d := 12) eσ5_52 y_50
      have y_60 := fd_yIL (d := 15) eσ5_52 y_51
      refine fd_ok_lt (fun σ6_61 eσ6_61 => ?_)
      have r_64 : (0 : Int) ≤ (σ5_52.1 1).toInt ∧ (σ5_52.1 1).toInt ≤ 200 := i_53.1 1
      have u_65 := Jvm.Kit.i32_add (x := (σ5_52.1 1)) (y := (1 : Int32)) (by omega) (by omega)
      have i_62 : fd_InvC σ6_61 := fd_inv_sI eσ6_61 i_53 ⟨(by omega : (0 : Int) ≤ ((σ5_52.1 1) + (1 : Int32)).toInt), (by omega : ((σ5_52.1 1) + (1 : Int32)).toInt ≤ 200)⟩
      have f_63 : fd_fr [0, 1, 2, 112, 215, 239] σ σ6_61 := fd_fr_tr f_54 (fd_fr_sI eσ6_61 (by decide))
      have t_66 : (σ6_61.1 1).toInt = ((σ5_52.1 1) + (1 : Int32)).toInt := congrArg Int32.toInt (fd_tI eσ6_61)
      have t_67 : (σ6_61.1 2).toInt = (σ5_52.1 2).toInt := congrArg Int32.toInt (fd_tN eσ6_61 (by decide))
      have y_68 := fd_yIA (d := 12) eσ6_61 y_59
      have y_69 := fd_yIL (d := 15) eσ6_61 y_60
      refine fd_ok_pb ?_
      refine fd_ok_pl ?_
      refine fd_ok_lt (fun σ6_70 eσ6_70 => ?_)
      have i_71 : fd_InvC σ6_70 := by subst eσ6_70; exact i_62
      have f_72 : fd_fr [0, 1, 2, 112, 215, 239] σ σ6_70 := fd_fr_mix eσ6_70 f_63
      have t_73 : (σ6_70.1 1).toInt = (σ6_61.1 1).toInt := by subst eσ6_70; rfl
      have t_74 : (σ6_70.1 2).toInt = (σ6_61.1 2).toInt := by subst eσ6_70; rfl
      have y_75 := fd_ymixA (d := 12) eσ6_70 y_68
      have y_76 := fd_ymix (d := 15) eσ6_70 (by decide) y_69
      refine fd_ok_gd (vp_in_iff.mpr ⟨by omega, by omega⟩) ?_
      refine fd_ok_lt (fun σ9_77 eσ9_77 => ?_)
      have i_78 : fd_InvC σ9_77 := fd_inv_sL eσ9_77 i_71
      have f_79 : fd_fr [0, 1, 2, 112, 215, 239] σ σ9_77 := fd_fr_tr f_72 (fd_fr_sL eσ9_77 (by decide))
      have t_80 : (σ9_77.1 1).toInt = (σ6_70.1 1).toInt := by subst eσ9_77; rfl
      have t_81 : (σ9_77.1 2).toInt = (σ6_70.1 2).toInt := by subst eσ9_77; rfl
      have r_82 : (0 : Int) ≤ (σ6_61.1 1).toInt ∧ (σ6_61.1 1).toInt ≤ 200 := i_62.1 1
      have u_83 := Jvm.Kit.i32_sub (x := (σ6_61.1 1)) (y := (1 : Int32)) (by omega) (by omega)
      have o_84 : (σ9_77.2.2 39 (0 : Int32).toNatClampNeg).toInt = ((σ6_61.1 1) - (1 : Int32)).toInt := fd_o39 eσ9_77
      have y_85 := fd_yLA (d := 12) eσ9_77 y_75
      have y_86 := fd_yLn (d := 15) eσ9_77 (by decide) y_76
      have x_87 : (((σ.1 2).toInt = 32 ∨ (σ.1 1).toInt = 200) ∧ (0 : Int32).toInt = 1 ∧ (σ9_77.1 1).toInt = (σ.1 1).toInt ∧ (σ9_77.1 2).toInt = (σ.1 2).toInt) ∨ (¬ ((σ.1 2).toInt = 32 ∨ (σ.1 1).toInt = 200) ∧ (0 : Int32).toInt = 0 ∧ (σ9_77.1 1).toInt = (σ.1 1).toInt + 1 ∧ (σ9_77.1 2).toInt = (σ.1 2).toInt + 1 ∧ (σ9_77.2.2 39 (0 : Int32).toNatClampNeg).toInt = (σ.1 1).toInt) := by omega
      have w_88 : fd_H (((¬ (0 : Int32).toInt = 0 → σ9_77.2.1 12 = σ.2.1 12) ∧ ((0 : Int32).toInt = 0 → ∃ j w : Int32, (j.toInt = (σ.1 1).toInt ∧ w.toInt = -1) ∧ σ9_77.2.1 12 = upd (σ.2.1 12) j.toNatClampNeg w))) := fd_hd (⟨fun h => absurd (by omega) h, fun _ => ⟨_, _, by omega, y_85⟩⟩)
      have w_89 : fd_H (((¬ (0 : Int32).toInt = 0 → σ9_77.2.2 15 = σ.2.2 15) ∧ ((0 : Int32).toInt = 0 → ∃ j : Int32, j.toInt = (σ.1 1).toInt ∧ σ9_77.2.2 15 = vp_updL (σ.2.2 15) j.toNatClampNeg (0 : Int64)))) := fd_hd (⟨fun h => absurd (by omega) h, fun _ => ⟨_, by omega, y_86⟩⟩)
      exact fd_ok_some ⟨i_78, f_79, x_87, w_88, w_89⟩
set_option maxHeartbeats 4000000 in
theorem s_L_gate_0_39 (N : Nat) (hN : 1000 ≤ N) (p1 : Int32) (p2 : Int32) (p3 : Int32) (σ : fd_St) (i0 : fd_InvC σ) : fd_ok (f_L_gate_0_39 N p1 p2 p3 σ) (fun v s => fd_InvC s ∧ fd_fr [0, 1, 112, 113, 114, 215, 239] σ s ∧ (((¬ (0 ≤ p2.toInt ∧ p2.toInt < (σ.1 1).toInt ∧ (p1.toInt = 5 ∨ p1.toInt = 6 ∨ (0 ≤ p3.toInt ∧ p3.toInt < (σ.1 1).toInt)))) ∧ v.toInt = 1 ∧ (s.1 1).toInt = (σ.1 1).toInt) ∨ (¬ (¬ (0 ≤ p2.toInt ∧ p2.toInt < (σ.1 1).toInt ∧ (p1.toInt = 5 ∨ p1.toInt = 6 ∨ (0 ≤ p3.toInt ∧ p3.toInt < (σ.1 1).toInt)))) ∧ ((σ.1 1).toInt = 200) ∧ v.toInt = 2 ∧ (s.1 1).toInt = (σ.1 1).toInt) ∨ (¬ (¬ (0 ≤ p2.toInt ∧ p2.toInt < (σ.1 1).toInt ∧ (p1.toInt = 5 ∨ p1.toInt = 6 ∨ (0 ≤ p3.toInt ∧ p3.toInt < (σ.1 1).toInt)))) ∧ ¬ ((σ.1 1).toInt = 200) ∧ (p1.toInt < 0 ∨ 6 < p1.toInt) ∧ v.toInt = 3 ∧ (s.1 1).toInt = (σ.1 1).toInt) ∨ (¬ (¬ (0 ≤ p2.toInt ∧ p2.toInt < (σ.1 1).toInt ∧ (p1.toInt = 5 ∨ p1.toInt = 6 ∨ (0 ≤ p3.toInt ∧ p3.toInt < (σ.1 1).toInt)))) ∧ ¬ ((σ.1 1).toInt = 200) ∧ ¬ (p1.toInt < 0 ∨ 6 < p1.toInt) ∧ v.toInt = 0 ∧ (s.1 1).toInt = (σ.1 1).toInt + 1 ∧ (s.2.2 39 (0 : Int32).toNatClampNeg).toInt = (σ.1 1).toInt)) ∧ fd_H (((¬ v.toInt = 0 → s.2.1 12 = σ.2.1 12) ∧ (v.toInt = 0 → ∃ j w : Int32, (j.toInt = (σ.1 1).toInt ∧ w.toInt = p1.toInt) ∧ s.2.1 12 = upd (σ.2.1 12) j.toNatClampNeg w))) ∧ fd_H (((¬ v.toInt = 0 → s.2.1 13 = σ.2.1 13) ∧ (v.toInt = 0 → ∃ j w : Int32, (j.toInt = (σ.1 1).toInt ∧ w.toInt = p2.toInt) ∧ s.2.1 13 = upd (σ.2.1 13) j.toNatClampNeg w))) ∧ fd_H (((¬ v.toInt = 0 → s.2.1 14 = σ.2.1 14) ∧ (v.toInt = 0 → ∃ j w : Int32, (j.toInt = (σ.1 1).toInt ∧ ((p1.toInt = 5 ∨ p1.toInt = 6) → w.toInt = p2.toInt) ∧ (¬ (p1.toInt = 5 ∨ p1.toInt = 6) → w.toInt = p3.toInt)) ∧ s.2.1 14 = upd (σ.2.1 14) j.toNatClampNeg w))) ∧ fd_H ((¬ v.toInt = 0 → s.2.2 15 = σ.2.2 15)) ∧ fd_H ((v.toInt = 0 → ∃ j : Int32, j.toInt = (σ.1 1).toInt ∧ s.2.2 15 = vp_updL (σ.2.2 15) j.toNatClampNeg (fd_tl (s.2.1 12 j.toNatClampNeg) (σ.2.2 15 (s.2.1 13 j.toNatClampNeg).toNatClampNeg) (σ.2.2 15 (s.2.1 14 j.toNatClampNeg).toNatClampNeg))))) := by
  have lit0 : (0 : Int32).toInt = 0 := by decide
  have lit1 : (1 : Int32).toInt = 1 := by decide
  have lit2 : (2 : Int32).toInt = 2 := by decide
  have lit3 : (3 : Int32).toInt = 3 := by decide
  have lit5 : (5 : Int32).toInt = 5 := by decide
  have lit6 : (6 : Int32).toInt = 6 := by decide
  have lit200 : (200 : Int32).toInt = 200 := by decide
  have f0 : fd_fr [0, 1, 112, 113, 114, 215, 239] σ σ := fd_fr_rf
  unfold f_L_gate_0_39
  refine fd_ok_bx ?_
  try unfold f_X10_gate_0
  refine fd_ok_ite (fun c_1 => ?_) (fun c_1 => ?_)
  ·
    have d_2 := congrArg Int32.toInt c_1
    try unfold f_X10_gate_0_J15
    try unfold f_X10_gate_0_J16
    refine fd_ok_bx ?_
    try unfold f_X10_needNet_0
    refine fd_ok_bd ?_
    try unfold f_X2_has_1
    refine fd_ok_ite (fun c_3 => ?_) (fun c_3 => ?_)
    ·
      have d_4 := Int32.lt_iff_toInt_lt.mp c_3
      refine fd_ok_pb ?_
      refine fd_ok_itp (by decide) ?_
      refine fd_ok_pr ?_
      refine fd_ok_pr ?_
      refine fd_ok_itp (by decide) ?_
      refine fd_ok_lt (fun σ11_5 eσ11_5 => ?_)
      have i_6 : fd_InvC σ11_5 := by subst eσ11_5; exact i0
      have f_7 : fd_fr [0, 1, 112, 113, 114, 215, 239] σ σ11_5 := fd_fr_mix eσ11_5 f0
      have t_8 : (σ11_5.1 1).toInt = (σ.1 1).toInt := by subst eσ11_5; rfl
      have y_9 := fd_ymixA (d := 12) eσ11_5 (rfl : σ.2.1 12 = _)
      have y_10 := fd_ymixA (d := 13) eσ11_5 (rfl : σ.2.1 13 = _)
      have y_11 := fd_ymixA (d := 14) eσ11_5 (rfl : σ.2.1 14 = _)
      have y_12 := fd_ymix (d := 15) eσ11_5 (by decide) (rfl : σ.2.2 15 = _)
      have x_13 : ((¬ (0 ≤ p2.toInt ∧ p2.toInt < (σ.1 1).toInt ∧ (p1.toInt = 5 ∨ p1.toInt = 6 ∨ (0 ≤ p3.toInt ∧ p3.toInt < (σ.1 1).toInt)))) ∧ (1 : Int32).toInt = 1 ∧ (σ11_5.1 1).toInt = (σ.1 1).toInt) ∨ (¬ (¬ (0 ≤ p2.toInt ∧ p2.toInt < (σ.1 1).toInt ∧ (p1.toInt = 5 ∨ p1.toInt = 6 ∨ (0 ≤ p3.toInt ∧ p3.toInt < (σ.1 1).toInt)))) ∧ ((σ.1 1).toInt = 200) ∧ (1 : Int32).toInt = 2 ∧ (σ11_5.1 1).toInt = (σ.1 1).toInt) ∨ (¬ (¬ (0 ≤ p2.toInt ∧ p2.toInt < (σ.1 1).toInt ∧ (p1.toInt = 5 ∨ p1.toInt = 6 ∨ (0 ≤ p3.toInt ∧ p3.toInt < (σ.1 1).toInt)))) ∧ ¬ ((σ.1 1).toInt = 200) ∧ (p1.toInt < 0 ∨ 6 < p1.toInt) ∧ (1 : Int32).toInt = 3 ∧ (σ11_5.1 1).toInt = (σ.1 1).toInt) ∨ (¬ (¬ (0 ≤ p2.toInt ∧ p2.toInt < (σ.1 1).toInt ∧ (p1.toInt = 5 ∨ p1.toInt = 6 ∨ (0 ≤ p3.toInt ∧ p3.toInt < (σ.1 1).toInt)))) ∧ ¬ ((σ.1 1).toInt = 200) ∧ ¬ (p1.toInt < 0 ∨ 6 < p1.toInt) ∧ (1 : Int32).toInt = 0 ∧ (σ11_5.1 1).toInt = (σ.1 1).toInt + 1 ∧ (σ11_5.2.2 39 (0 : Int32).toNatClampNeg).toInt = (σ.1 1).toInt) := by omega
      have w_14 : fd_H (((¬ (1 : Int32).toInt = 0 → σ11_5.2.1 12 = σ.2.1 12) ∧ ((1 : Int32).toInt = 0 → ∃ j w : Int32, (j.toInt = (σ.1 1).toInt ∧ w.toInt = p1.toInt) ∧ σ11_5.2.1 12 = upd (σ.2.1 12) j.toNatClampNeg w))) := fd_hd (⟨fun _ => y_9, fun h => absurd h (by omega)⟩)
      have w_15 : fd_H (((¬ (1 : Int32).toInt = 0 → σ11_5.2.1 13 = σ.2.1 13) ∧ ((1 : Int32).toInt = 0 → ∃ j w : Int32, (j.toInt = (σ.1 1).toInt ∧ w.toInt = p2.toInt) ∧ σ11_5.2.1 13 = upd (σ.2.1 13) j.toNatClampNeg w))) := fd_hd (⟨fun _ => y_10, fun h => absurd h (by omega)⟩)
      have w_16 : fd_H (((¬ (1 : Int32).toInt = 0 → σ11_5.2.1 14 = σ.2.1 14) ∧ ((1 : Int32).toInt = 0 → ∃ j w : Int32, (j.toInt = (σ.1 1).toInt ∧ ((p1.toInt = 5 ∨ p1.toInt = 6) → w.toInt = p2.toInt) ∧ (¬ (p1.toInt = 5 ∨ p1.toInt = 6) → w.toInt = p3.toInt)) ∧ σ11_5.2.1 14 = upd (σ.2.1 14) j.toNatClampNeg w))) := fd_hd (⟨fun _ => y_11, fun h => absurd h (by omega)⟩)
      have w_17 : fd_H ((¬ (1 : Int32).toInt = 0 → σ11_5.2.2 15 = σ.2.2 15)) := fd_hd (fun _ => y_12)
      have w_18 : fd_H (((1 : Int32).toInt = 0 → ∃ j : Int32, j.toInt = (σ.1 1).toInt ∧ σ11_5.2.2 15 = vp_updL (σ.2.2 15) j.toNatClampNeg (fd_tl (σ11_5.2.1 12 j.toNatClampNeg) (σ.2.2 15 (σ11_5.2.1 13 j.toNatClampNeg).toNatClampNeg) (σ.2.2 15 (σ11_5.2.1 14 j.toNatClampNeg).toNatClampNeg)))) := fd_hd (fun h => absurd h (by omega))
      exact fd_ok_some ⟨i_6, f_7, x_13, w_14, w_15, w_16, w_17, w_18⟩
    ·
      have d_19 := Int32.le_iff_toInt_le.mp (Int32.not_lt.mp c_3)
      have r_20 : (0 : Int) ≤ (σ.1 1).toInt ∧ (σ.1 1).toInt ≤ 200 := i0.1 1
      refine fd_ok_ite (fun c_21 => ?_) (fun c_21 => ?_)
      ·
        have d_22 := Int32.le_iff_toInt_le.mp c_21
        refine fd_ok_pb ?_
        refine fd_ok_itp (by decide) ?_
        refine fd_ok_pr ?_
        refine fd_ok_pr ?_
        refine fd_ok_itp (by decide) ?_
        refine fd_ok_lt (fun σ11_23 eσ11_23 => ?_)
        have i_24 : fd_InvC σ11_23 := by subst eσ11_23; exact i0
        have f_25 : fd_fr [0, 1, 112, 113, 114, 215, 239] σ σ11_23 := fd_fr_mix eσ11_23 f0
        have t_26 : (σ11_23.1 1).toInt = (σ.1 1).toInt := by subst eσ11_23; rfl
        have y_27 := fd_ymixA (d := 12) eσ11_23 (rfl : σ.2.1 12 = _)
        have y_28 := fd_ymixA (d := 13) eσ11_23 (rfl : σ.2.1 13 = _)
        have y_29 := fd_ymixA (d := 14) eσ11_23 (rfl : σ.2.1 14 = _)
        have y_30 := fd_ymix (d := 15) eσ11_23 (by decide) (rfl : σ.2.2 15 = _)
        have x_31 : ((¬ (0 ≤ p2.toInt ∧ p2.toInt < (σ.1 1).toInt ∧ (p1.toInt = 5 ∨ p1.toInt = 6 ∨ (0 ≤ p3.toInt ∧ p3.toInt < (σ.1 1).toInt)))) ∧ (1 : Int32).toInt = 1 ∧ (σ11_23.1 1).toInt = (σ.1 1).toInt) ∨ (¬ (¬ (0 ≤ p2.toInt ∧ p2.toInt < (σ.1 1).toInt ∧ (p1.toInt = 5 ∨ p1.toInt = 6 ∨ (0 ≤ p3.toInt ∧ p3.toInt < (σ.1 1).toInt)))) ∧ ((σ.1 1).toInt = 200) ∧ (1 : Int32).toInt = 2 ∧ (σ11_23.1 1).toInt = (σ.1 1).toInt) ∨ (¬ (¬ (0 ≤ p2.toInt ∧ p2.toInt < (σ.1 1).toInt ∧ (p1.toInt = 5 ∨ p1.toInt = 6 ∨ (0 ≤ p3.toInt ∧ p3.toInt < (σ.1 1).toInt)))) ∧ ¬ ((σ.1 1).toInt = 200) ∧ (p1.toInt < 0 ∨ 6 < p1.toInt) ∧ (1 : Int32).toInt = 3 ∧ (σ11_23.1 1).toInt = (σ.1 1).toInt) ∨ (¬ (¬ (0 ≤ p2.toInt ∧ p2.toInt < (σ.1 1).toInt ∧ (p1.toInt = 5 ∨ p1.toInt = 6 ∨ (0 ≤ p3.toInt ∧ p3.toInt < (σ.1 1).toInt)))) ∧ ¬ ((σ.1 1).toInt = 200) ∧ ¬ (p1.toInt < 0 ∨ 6 < p1.toInt) ∧ (1 : Int32).toInt = 0 ∧ (σ11_23.1 1).toInt = (σ.1 1).toInt + 1 ∧ (σ11_23.2.2 39 (0 : Int32).toNatClampNeg).toInt = (σ.1 1).toInt) := by omega
        have w_32 : fd_H (((¬ (1 : Int32).toInt = 0 → σ11_23.2.1 12 = σ.2.1 12) ∧ ((1 : Int32).toInt = 0 → ∃ j w : Int32, (j.toInt = (σ.1 1).toInt ∧ w.toInt = p1.toInt) ∧ σ11_23.2.1 12 = upd (σ.2.1 12) j.toNatClampNeg w))) := fd_hd (⟨fun _ => y_27, fun h => absurd h (by omega)⟩)
        have w_33 : fd_H (((¬ (1 : Int32).toInt = 0 → σ11_23.2.1 13 = σ.2.1 13) ∧ ((1 : Int32).toInt = 0 → ∃ j w : Int32, (j.toInt = (σ.1 1).toInt ∧ w.toInt = p2.toInt) ∧ σ11_23.2.1 13 = upd (σ.2.1 13) j.toNatClampNeg w))) := fd_hd (⟨fun _ => y_28, fun h => absurd h (by omega)⟩)
        have w_34 : fd_H (((¬ (1 : Int32).toInt = 0 → σ11_23.2.1 14 = σ.2.1 14) ∧ ((1 : Int32).toInt = 0 → ∃ j w : Int32, (j.toInt = (σ.1 1).toInt ∧ ((p1.toInt = 5 ∨ p1.toInt = 6) → w.toInt = p2.toInt) ∧ (¬ (p1.toInt = 5 ∨ p1.toInt = 6) → w.toInt = p3.toInt)) ∧ σ11_23.2.1 14 = upd (σ.2.1 14) j.toNatClampNeg w))) := fd_hd (⟨fun _ => y_29, fun h => absurd h (by omega)⟩)
        have w_35 : fd_H ((¬ (1 : Int32).toInt = 0 → σ11_23.2.2 15 = σ.2.2 15)) := fd_hd (fun _ => y_30)
        have w_36 : fd_H (((1 : Int32).toInt = 0 → ∃ j : Int32, j.toInt = (σ.1 1).toInt ∧ σ11_23.2.2 15 = vp_updL (σ.2.2 15) j.toNatClampNeg (fd_tl (σ11_23.2.1 12 j.toNatClampNeg) (σ.2.2 15 (σ11_23.2.1 13 j.toNatClampNeg).toNatClampNeg) (σ.2.2 15 (σ11_23.2.1 14 j.toNatClampNeg).toNatClampNeg)))) := fd_hd (fun h => absurd h (by omega))
        exact fd_ok_some ⟨i_24, f_25, x_31, w_32, w_33, w_34, w_35, w_36⟩
      ·
        have d_37 := Int32.lt_iff_toInt_lt.mp (Int32.not_le.mp c_21)
        refine fd_ok_pb ?_
        refine fd_ok_itn (by decide) ?_
        refine fd_ok_pl ?_
        refine fd_ok_itp (by decide) ?_
        try unfold f_X10_gate_0_J33
        refine fd_ok_bd ?_
        try unfold f_X2_nets_1
        refine fd_ok_pb ?_
        refine fd_ok_ite (fun c_38 => ?_) (fun c_38 => ?_)
        ·
          have d_39 := congrArg Int32.toInt c_38
          refine fd_ok_pr ?_
          refine fd_ok_itn (by decide) ?_
          refine fd_ok_itp (by decide) ?_
          refine fd_ok_lt (fun σ13_40 eσ13_40 => ?_)
          have i_41 : fd_InvC σ13_40 := by subst eσ13_40; exact i0
          have f_42 : fd_fr [0, 1, 112, 113, 114, 215, 239] σ σ13_40 := fd_fr_mix eσ13_40 f0
          have t_43 : (σ13_40.1 1).toInt = (σ.1 1).toInt := by subst eσ13_40; rfl
          have y_44 := fd_ymixA (d := 12) eσ13_40 (rfl : σ.2.1 12 = _)
          have y_45 := fd_ymixA (d := 13) eσ13_40 (rfl : σ.2.1 13 = _)
          have y_46 := fd_ymixA (d := 14) eσ13_40 (rfl : σ.2.1 14 = _)
          have y_47 := fd_ymix (d := 15) eσ13_40 (by decide) (rfl : σ.2.2 15 = _)
          have x_48 : ((¬ (0 ≤ p2.toInt ∧ p2.toInt < (σ.1 1).toInt ∧ (p1.toInt = 5 ∨ p1.toInt = 6 ∨ (0 ≤ p3.toInt ∧ p3.toInt < (σ.1 1).toInt)))) ∧ (2 : Int32).toInt = 1 ∧ (σ13_40.1 1).toInt = (σ.1 1).toInt) ∨ (¬ (¬ (0 ≤ p2.toInt ∧ p2.toInt < (σ.1 1).toInt ∧ (p1.toInt = 5 ∨ p1.toInt = 6 ∨ (0 ≤ p3.toInt ∧ p3.toInt < (σ.1 1).toInt)))) ∧ ((σ.1 1).toInt = 200) ∧ (2 : Int32).toInt = 2 ∧ (σ13_40.1 1).toInt = (σ.1 1).toInt) ∨ (¬ (¬ (0 ≤ p2.toInt ∧ p2.toInt < (σ.1 1).toInt ∧ (p1.toInt = 5 ∨ p1.toInt = 6 ∨ (0 ≤ p3.toInt ∧ p3.toInt < (σ.1 1).toInt)))) ∧ ¬ ((σ.1 1).toInt = 200) ∧ (p1.toInt < 0 ∨ 6 < p1.toInt) ∧ (2 : Int32).toInt = 3 ∧ (σ13_40.1 1).toInt = (σ.1 1).toInt) ∨ (¬ (¬ (0 ≤ p2.toInt ∧ p2.toInt < (σ.1 1).toInt ∧ (p1.toInt = 5 ∨ p1.toInt = 6 ∨ (0 ≤ p3.toInt ∧ p3.toInt < (σ.1 1).toInt)))) ∧ ¬ ((σ.1 1).toInt = 200) ∧ ¬ (p1.toInt < 0 ∨ 6 < p1.toInt) ∧ (2 : Int32).toInt = 0 ∧ (σ13_40.1 1).toInt = (σ.1 1).toInt + 1 ∧ (σ13_40.2.2 39 (0 : Int32).toNatClampNeg).toInt = (σ.1 1).toInt) := by omega
          have w_49 : fd_H (((¬ (2 : Int32).toInt = 0 → σ13_40.2.1 12 = σ.2.1 12) ∧ ((2 : Int32).toInt = 0 → ∃ j w : Int32, (j.toInt = (σ.1 1).toInt ∧ w.toInt = p1.toInt) ∧ σ13_40.2.1 12 = upd (σ.2.1 12) j.toNatClampNeg w))) := fd_hd (⟨fun _ => y_44, fun h => absurd h (by omega)⟩)
          have w_50 : fd_H (((¬ (2 : Int32).toInt = 0 → σ13_40.2.1 13 = σ.2.1 13) ∧ ((2 : Int32).toInt = 0 → ∃ j w : Int32, (j.toInt = (σ.1 1).toInt ∧ w.toInt = p2.toInt) ∧ σ13_40.2.1 13 = upd (σ.2.1 13) j.toNatClampNeg w))) := fd_hd (⟨fun _ => y_45, fun h => absurd h (by omega)⟩)
          have w_51 : fd_H (((¬ (2 : Int32).toInt = 0 → σ13_40.2.1 14 = σ.2.1 14) ∧ ((2 : Int32).toInt = 0 → ∃ j w : Int32, (j.toInt = (σ.1 1).toInt ∧ ((p1.toInt = 5 ∨ p1.toInt = 6) → w.toInt = p2.toInt) ∧ (¬ (p1.toInt = 5 ∨ p1.toInt = 6) → w.toInt = p3.toInt)) ∧ σ13_40.2.1 14 = upd (σ.2.1 14) j.toNatClampNeg w))) := fd_hd (⟨fun _ => y_46, fun h => absurd h (by omega)⟩)
          have w_52 : fd_H ((¬ (2 : Int32).toInt = 0 → σ13_40.2.2 15 = σ.2.2 15)) := fd_hd (fun _ => y_47)
          have w_53 : fd_H (((2 : Int32).toInt = 0 → ∃ j : Int32, j.toInt = (σ.1 1).toInt ∧ σ13_40.2.2 15 = vp_updL (σ.2.2 15) j.toNatClampNeg (fd_tl (σ13_40.2.1 12 j.toNatClampNeg) (σ.2.2 15 (σ13_40.2.1 13 j.toNatClampNeg).toNatClampNeg) (σ.2.2 15 (σ13_40.2.1 14 j.toNatClampNeg).toNatClampNeg)))) := fd_hd (fun h => absurd h (by omega))
          exact fd_ok_some ⟨i_41, f_42, x_48, w_49, w_50, w_51, w_52, w_53⟩
        ·
          have d_54 : ¬ (σ.1 1).toInt = (200 : Int32).toInt := fun q => c_38 (Int32.toInt_inj.mp q)
          refine fd_ok_ite (fun c_55 => ?_) (fun c_55 => ?_)
          ·
            have d_56 := Int32.lt_iff_toInt_lt.mp c_55
            try unfold f_X10_gate_0_J66
            refine fd_ok_pr ?_
            refine fd_ok_itn (by decide) ?_
            refine fd_ok_itn (by decide) ?_
            refine fd_ok_itp (by decide) ?_
            refine fd_ok_lt (fun σ15_57 eσ15_57 => ?_)
            have i_58 : fd_InvC σ15_57 := by subst eσ15_57; exact i0
            have f_59 : fd_fr [0, 1, 112, 113, 114, 215, 239] σ σ15_57 := fd_fr_mix eσ15_57 f0
            have t_60 : (σ15_57.1 1).toInt = (σ.1 1).toInt := by subst eσ15_57; rfl
            have y_61 := fd_ymixA (d := 12) eσ15_57 (rfl : σ.2.1 12 = _)
            have y_62 := fd_ymixA (d := 13) eσ15_57 (rfl : σ.2.1 13 = _)
            have y_63 := fd_ymixA (d := 14) eσ15_57 (rfl : σ.2.1 14 = _)
            have y_64 := fd_ymix (d := 15) eσ15_57 (by decide) (rfl : σ.2.2 15 = _)
            have x_65 : ((¬ (0 ≤ p2.toInt ∧ p2.toInt < (σ.1 1).toInt ∧ (p1.toInt = 5 ∨ p1.toInt = 6 ∨ (0 ≤ p3.toInt ∧ p3.toInt < (σ.1 1).toInt)))) ∧ (3 : Int32).toInt = 1 ∧ (σ15_57.1 1).toInt = (σ.1 1).toInt) ∨ (¬ (¬ (0 ≤ p2.toInt ∧ p2.toInt < (σ.1 1).toInt ∧ (p1.toInt = 5 ∨ p1.toInt = 6 ∨ (0 ≤ p3.toInt ∧ p3.toInt < (σ.1 1).toInt)))) ∧ ((σ.1 1).toInt = 200) ∧ (3 : Int32).toInt = 2 ∧ (σ15_57.1 1).toInt = (σ.1 1).toInt) ∨ (¬ (¬ (0 ≤ p2.toInt ∧ p2.toInt < (σ.1 1).toInt ∧ (p1.toInt = 5 ∨ p1.toInt = 6 ∨ (0 ≤ p3.toInt ∧ p3.toInt < (σ.1 1).toInt)))) ∧ ¬ ((σ.1 1).toInt = 200) ∧ (p1.toInt < 0 ∨ 6 < p1.toInt) ∧ (3 : Int32).toInt = 3 ∧ (σ15_57.1 1).toInt = (σ.1 1).toInt) ∨ (¬ (¬ (0 ≤ p2.toInt ∧ p2.toInt < (σ.1 1).toInt ∧ (p1.toInt = 5 ∨ p1.toInt = 6 ∨ (0 ≤ p3.toInt ∧ p3.toInt < (σ.1 1).toInt)))) ∧ ¬ ((σ.1 1).toInt = 200) ∧ ¬ (p1.toInt < 0 ∨ 6 < p1.toInt) ∧ (3 : Int32).toInt = 0 ∧ (σ15_57.1 1).toInt = (σ.1 1).toInt + 1 ∧ (σ15_57.2.2 39 (0 : Int32).toNatClampNeg).toInt = (σ.1 1).toInt) := by omega
            have w_66 : fd_H (((¬ (3 : Int32).toInt = 0 → σ15_57.2.1 12 = σ.2.1 12) ∧ ((3 : Int32).toInt = 0 → ∃ j w : Int32, (j.toInt = (σ.1 1).toInt ∧ w.toInt = p1.toInt) ∧ σ15_57.2.1 12 = upd (σ.2.1 12) j.toNatClampNeg w))) := fd_hd (⟨fun _ => y_61, fun h => absurd h (by omega)⟩)
            have w_67 : fd_H (((¬ (3 : Int32).toInt = 0 → σ15_57.2.1 13 = σ.2.1 13) ∧ ((3 : Int32).toInt = 0 → ∃ j w : Int32, (j.toInt = (σ.1 1).toInt ∧ w.toInt = p2.toInt) ∧ σ15_57.2.1 13 = upd (σ.2.1 13) j.toNatClampNeg w))) := fd_hd (⟨fun _ => y_62, fun h => absurd h (by omega)⟩)
            have w_68 : fd_H (((¬ (3 : Int32).toInt = 0 → σ15_57.2.1 14 = σ.2.1 14) ∧ ((3 : Int32).toInt = 0 → ∃ j w : Int32, (j.toInt = (σ.1 1).toInt ∧ ((p1.toInt = 5 ∨ p1.toInt = 6) → w.toInt = p2.toInt) ∧ (¬ (p1.toInt = 5 ∨ p1.toInt = 6) → w.toInt = p3.toInt)) ∧ σ15_57.2.1 14 = upd (σ.2.1 14) j.toNatClampNeg w))) := fd_hd (⟨fun _ => y_63, fun h => absurd h (by omega)⟩)
            have w_69 : fd_H ((¬ (3 : Int32).toInt = 0 → σ15_57.2.2 15 = σ.2.2 15)) := fd_hd (fun _ => y_64)
            have w_70 : fd_H (((3 : Int32).toInt = 0 → ∃ j : Int32, j.toInt = (σ.1 1).toInt ∧ σ15_57.2.2 15 = vp_updL (σ.2.2 15) j.toNatClampNeg (fd_tl (σ15_57.2.1 12 j.toNatClampNeg) (σ.2.2 15 (σ15_57.2.1 13 j.toNatClampNeg).toNatClampNeg) (σ.2.2 15 (σ15_57.2.1 14 j.toNatClampNeg).toNatClampNeg)))) := fd_hd (fun h => absurd h (by omega))
            exact fd_ok_some ⟨i_58, f_59, x_65, w_66, w_67, w_68, w_69, w_70⟩
          ·
            have d_71 := Int32.le_iff_toInt_le.mp (Int32.not_lt.mp c_55)
            refine fd_ok_ite (fun c_72 => ?_) (fun c_72 => ?_)
            ·
              have d_73 := Int32.le_iff_toInt_le.mp c_72
              refine fd_ok_lt (fun σ18_74 eσ18_74 => ?_)
              have i_75 : fd_InvC σ18_74 := fd_inv_sI eσ18_74 i0 ⟨(by omega : (0 : Int) ≤ (0 : Int32).toInt), (by omega : (0 : Int32).toInt ≤ 1)⟩
              have f_76 : fd_fr [0, 1, 112, 113, 114, 215, 239] σ σ18_74 := fd_fr_tr f0 (fd_fr_sI eσ18_74 (by decide))
              have t_77 : (σ18_74.1 1).toInt = (σ.1 1).toInt := congrArg Int32.toInt (fd_tN eσ18_74 (by decide))
              have y_78 := fd_yIA (d := 12) eσ18_74 (rfl : σ.2.1 12 = _)
              have y_79 := fd_yIA (d := 13) eσ18_74 (rfl : σ.2.1 13 = _)
              have y_80 := fd_yIA (d := 14) eσ18_74 (rfl : σ.2.1 14 = _)
              have y_81 := fd_yIL (d := 15) eσ18_74 (rfl : σ.2.2 15 = _)
              refine fd_ok_itp (by decide) ?_
              try unfold f_X10_gate_0_J97
              refine fd_ok_bd ?_
              try unfold f_X2_addGate_1
              have r_82 : (0 : Int) ≤ (σ18_74.1 1).toInt ∧ (σ18_74.1 1).toInt ≤ 200 := i_75.1 1
              refine fd_ok_gd (vp_in_iff.mpr ⟨by omega, by omega⟩) ?_
              refine fd_ok_lt (fun σ2_83 eσ2_83 => ?_)
              have i_84 : fd_InvC σ2_83 := fd_inv_sA eσ2_83 i_75 (by decide) (by decide) (fd_rng _)
              have f_85 : fd_fr [0, 1, 112, 113, 114, 215, 239] σ σ2_83 := fd_fr_tr f_76 (fd_fr_sA eσ2_83 (by decide))
              have t_86 : (σ2_83.1 1).toInt = (σ18_74.1 1).toInt := by subst eσ2_83; rfl
              have y_87 := fd_yA eσ2_83 y_78
              have y_88 := fd_yAn (d := 13) eσ2_83 (by decide) y_79
              have y_89 := fd_yAn (d := 14) eσ2_83 (by decide) y_80
              have y_90 := fd_yAL (d := 15) eσ2_83 y_81
              have r_91 : (0 : Int) ≤ (σ2_83.1 1).toInt ∧ (σ2_83.1 1).toInt ≤ 200 := i_84.1 1
              refine fd_ok_gd (vp_in_iff.mpr ⟨by omega, by omega⟩) ?_
              refine fd_ok_lt (fun σ4_92 eσ4_92 => ?_)
              have i_93 : fd_InvC σ4_92 := fd_inv_sA eσ4_92 i_84 (by decide) (by decide) ⟨(by omega : (0 : Int) ≤ p2.toInt), (by omega : p2.toInt ≤ 199)⟩
              have f_94 : fd_fr [0, 1, 112, 113, 114, 215, 239] σ σ4_92 := fd_fr_tr f_85 (fd_fr_sA eσ4_92 (by decide))
              have t_95 : (σ4_92.1 1).toInt = (σ2_83.1 1).toInt := by subst eσ4_92; rfl
              have y_96 := fd_yAn (d := 12) eσ4_92 (by decide) y_87
              have y_97 := fd_yA eσ4_92 y_88
              have y_98 := fd_yAn (d := 14) eσ4_92 (by decide) y_89
              have y_99 := fd_yAL (d := 15) eσ4_92 y_90
              have r_100 : (0 : Int) ≤ (σ4_92.1 1).toInt ∧ (σ4_92.1 1).toInt ≤ 200 := i_93.1 1
              refine fd_ok_gd (vp_in_iff.mpr ⟨by omega, by omega⟩) ?_
              refine fd_ok_lt (fun σ6_101 eσ6_101 => ?_)
              have i_102 : fd_InvC σ6_101 := fd_inv_sA eσ6_101 i_93 (by decide) (by decide) ⟨(by omega : (0 : Int) ≤ p2.toInt), (by omega : p2.toInt ≤ 199)⟩
              have f_103 : fd_fr [0, 1, 112, 113, 114, 215, 239] σ σ6_101 := fd_fr_tr f_94 (fd_fr_sA eσ6_101 (by decide))
              have t_104 : (σ6_101.1 1).toInt = (σ4_92.1 1).toInt := by subst eσ6_101; rfl
              have y_105 := fd_yAn (d := 12) eσ6_101 (by decide) y_96
              have y_106 := fd_yAn (d := 13) eσ6_101 (by decide) y_97
              have y_107 := fd_yA eσ6_101 y_98
              have y_108 := fd_yAL (d := 15) eσ6_101 y_99
              refine fd_ok_bd ?_
              have r_109 : (0 : Int) ≤ (σ6_101.1 1).toInt ∧ (σ6_101.1 1).toInt ≤ 200 := i_102.1 1
              refine fd_ok_cl (s_X2_gateRow_1_15 N hN _ _ i_102 (by omega) (by omega)) ?_
              rintro v_110 σ_111 ⟨i_112, g_113, x_114⟩
              have f_115 : fd_fr [0, 1, 112, 113, 114, 215, 239] σ σ_111 := fd_fr_tr f_103 (fd_fr_mono g_113 (by decide))
              have y_116 := (g_113.2.1 12 (by decide)).trans y_105
              have y_117 := (g_113.2.1 13 (by decide)).trans y_106
              have y_118 := (g_113.2.1 14 (by decide)).trans y_107
              have y_119 := (g_113.2.2 15 (by decide)).trans y_108
              have t_120 : (σ_111.1 1).toInt = (σ6_101.1 1).toInt := congrArg Int32.toInt (g_113.1 1 (by decide))
              refine fd_ok_gd (vp_in_iff.mpr ⟨by omega, by omega⟩) ?_
              refine fd_ok_lt (fun σ13_121 eσ13_121 => ?_)
              have i_122 : fd_InvC σ13_121 := fd_inv_sL eσ13_121 i_112
              have f_123 : fd_fr [0, 1, 112, 113, 114, 215, 239] σ σ13_121 := fd_fr_tr f_115 (fd_fr_sL eσ13_121 (by decide))
              have t_124 : (σ13_121.1 1).toInt = (σ_111.1 1).toInt := by subst eσ13_121; rfl
              have y_125 := fd_yLA (d := 12) eσ13_121 y_116
              have y_126 := fd_yLA (d := 13) eσ13_121 y_117
              have y_127 := fd_yLA (d := 14) eσ13_121 y_118
              have y_128 := fd_yL eσ13_121 y_119
              refine fd_ok_lt (fun σ14_129 eσ14_129 => ?_)
              have r_132 : (0 : Int) ≤ (σ13_121.1 1).toInt ∧ (σ13_121.1 1).toInt ≤ 200 := i_122.1 1
              have u_133 := Jvm.Kit.i32_add (x := (σ13_121.1 1)) (y := (1 : Int32)) (by omega) (by omega)
              have i_130 : fd_InvC σ14_129 := fd_inv_sI eσ14_129 i_122 ⟨(by omega : (0 : Int) ≤ ((σ13_121.1 1) + (1 : Int32)).toInt), (by omega : ((σ13_121.1 1) + (1 : Int32)).toInt ≤ 200)⟩
              have f_131 : fd_fr [0, 1, 112, 113, 114, 215, 239] σ σ14_129 := fd_fr_tr f_123 (fd_fr_sI eσ14_129 (by decide))
              have t_134 : (σ14_129.1 1).toInt = ((σ13_121.1 1) + (1 : Int32)).toInt := congrArg Int32.toInt (fd_tI eσ14_129)
              have y_135 := fd_yIA (d := 12) eσ14_129 y_125
              have y_136 := fd_yIA (d := 13) eσ14_129 y_126
              have y_137 := fd_yIA (d := 14) eσ14_129 y_127
              have y_138 := fd_yIL (d := 15) eσ14_129 y_128
              refine fd_ok_pb ?_
              refine fd_ok_pl ?_
              refine fd_ok_lt (fun σ6_139 eσ6_139 => ?_)
              have i_140 : fd_InvC σ6_139 := by subst eσ6_139; exact i_130
              have f_141 : fd_fr [0, 1, 112, 113, 114, 215, 239] σ σ6_139 := fd_fr_mix eσ6_139 f_131
              have t_142 : (σ6_139.1 1).toInt = (σ14_129.1 1).toInt := by subst eσ6_139; rfl
              have y_143 := fd_ymixA (d := 12) eσ6_139 y_135
              have y_144 := fd_ymixA (d := 13) eσ6_139 y_136
              have y_145 := fd_ymixA (d := 14) eσ6_139 y_137
              have y_146 := fd_ymix (d := 15) eσ6_139 (by decide) y_138
              refine fd_ok_gd (vp_in_iff.mpr ⟨by omega, by omega⟩) ?_
              refine fd_ok_lt (fun σ9_147 eσ9_147 => ?_)
              have i_148 : fd_InvC σ9_147 := fd_inv_sL eσ9_147 i_140
              have f_149 : fd_fr [0, 1, 112, 113, 114, 215, 239] σ σ9_147 := fd_fr_tr f_141 (fd_fr_sL eσ9_147 (by decide))
              have t_150 : (σ9_147.1 1).toInt = (σ6_139.1 1).toInt := by subst eσ9_147; rfl
              have r_151 : (0 : Int) ≤ (σ14_129.1 1).toInt ∧ (σ14_129.1 1).toInt ≤ 200 := i_130.1 1
              have u_152 := Jvm.Kit.i32_sub (x := (σ14_129.1 1)) (y := (1 : Int32)) (by omega) (by omega)
              have o_153 : (σ9_147.2.2 39 (0 : Int32).toNatClampNeg).toInt = ((σ14_129.1 1) - (1 : Int32)).toInt := fd_o39 eσ9_147
              have y_154 := fd_yLA (d := 12) eσ9_147 y_143
              have y_155 := fd_yLA (d := 13) eσ9_147 y_144
              have y_156 := fd_yLA (d := 14) eσ9_147 y_145
              have y_157 := fd_yLn (d := 15) eσ9_147 (by decide) y_146
              have x_158 : ((¬ (0 ≤ p2.toInt ∧ p2.toInt < (σ.1 1).toInt ∧ (p1.toInt = 5 ∨ p1.toInt = 6 ∨ (0 ≤ p3.toInt ∧ p3.toInt < (σ.1 1).toInt)))) ∧ (0 : Int32).toInt = 1 ∧ (σ9_147.1 1).toInt = (σ.1 1).toInt) ∨ (¬ (¬ (0 ≤ p2.toInt ∧ p2.toInt < (σ.1 1).toInt ∧ (p1.toInt = 5 ∨ p1.toInt = 6 ∨ (0 ≤ p3.toInt ∧ p3.toInt < (σ.1 1).toInt)))) ∧ ((σ.1 1).toInt = 200) ∧ (0 : Int32).toInt = 2 ∧ (σ9_147.1 1).toInt = (σ.1 1).toInt) ∨ (¬ (¬ (0 ≤ p2.toInt ∧ p2.toInt < (σ.1 1).toInt ∧ (p1.toInt = 5 ∨ p1.toInt = 6 ∨ (0 ≤ p3.toInt ∧ p3.toInt < (σ.1 1).toInt)))) ∧ ¬ ((σ.1 1).toInt = 200) ∧ (p1.toInt < 0 ∨ 6 < p1.toInt) ∧ (0 : Int32).toInt = 3 ∧ (σ9_147.1 1).toInt = (σ.1 1).toInt) ∨ (¬ (¬ (0 ≤ p2.toInt ∧ p2.toInt < (σ.1 1).toInt ∧ (p1.toInt = 5 ∨ p1.toInt = 6 ∨ (0 ≤ p3.toInt ∧ p3.toInt < (σ.1 1).toInt)))) ∧ ¬ ((σ.1 1).toInt = 200) ∧ ¬ (p1.toInt < 0 ∨ 6 < p1.toInt) ∧ (0 : Int32).toInt = 0 ∧ (σ9_147.1 1).toInt = (σ.1 1).toInt + 1 ∧ (σ9_147.2.2 39 (0 : Int32).toNatClampNeg).toInt = (σ.1 1).toInt) := by omega
              have w_159 : fd_H (((¬ (0 : Int32).toInt = 0 → σ9_147.2.1 12 = σ.2.1 12) ∧ ((0 : Int32).toInt = 0 → ∃ j w : Int32, (j.toInt = (σ.1 1).toInt ∧ w.toInt = p1.toInt) ∧ σ9_147.2.1 12 = upd (σ.2.1 12) j.toNatClampNeg w))) := fd_hd (⟨fun h => absurd (by omega) h, fun _ => ⟨_, _, by omega, y_154⟩⟩)
              have w_160 : fd_H (((¬ (0 : Int32).toInt = 0 → σ9_147.2.1 13 = σ.2.1 13) ∧ ((0 : Int32).toInt = 0 → ∃ j w : Int32, (j.toInt = (σ.1 1).toInt ∧ w.toInt = p2.toInt) ∧ σ9_147.2.1 13 = upd (σ.2.1 13) j.toNatClampNeg w))) := fd_hd (⟨fun h => absurd (by omega) h, fun _ => ⟨_, _, by omega, y_155⟩⟩)
              have w_161 : fd_H (((¬ (0 : Int32).toInt = 0 → σ9_147.2.1 14 = σ.2.1 14) ∧ ((0 : Int32).toInt = 0 → ∃ j w : Int32, (j.toInt = (σ.1 1).toInt ∧ ((p1.toInt = 5 ∨ p1.toInt = 6) → w.toInt = p2.toInt) ∧ (¬ (p1.toInt = 5 ∨ p1.toInt = 6) → w.toInt = p3.toInt)) ∧ σ9_147.2.1 14 = upd (σ.2.1 14) j.toNatClampNeg w))) := fd_hd (⟨fun h => absurd (by omega) h, fun _ => ⟨_, _, by omega, y_156⟩⟩)
              have w_162 : fd_H ((¬ (0 : Int32).toInt = 0 → σ9_147.2.2 15 = σ.2.2 15)) := fd_hd (fun h => absurd (by omega) h)
              have w_163 : fd_H (((0 : Int32).toInt = 0 → ∃ j : Int32, j.toInt = (σ.1 1).toInt ∧ σ9_147.2.2 15 = vp_updL (σ.2.2 15) j.toNatClampNeg (fd_tl (σ9_147.2.1 12 j.toNatClampNeg) (σ.2.2 15 (σ9_147.2.1 13 j.toNatClampNeg).toNatClampNeg) (σ.2.2 15 (σ9_147.2.1 14 j.toNatClampNeg).toNatClampNeg)))) := fd_hd (fun _ => ⟨(σ6_101.1 1), by omega, by rw [y_154, y_155, y_156, y_157, x_114, y_105, y_106, y_107, y_108]⟩)
              exact fd_ok_some ⟨i_148, f_149, x_158, w_159, w_160, w_161, w_162, w_163⟩
            ·
              have d_164 := Int32.lt_iff_toInt_lt.mp (Int32.not_le.mp c_72)
              try unfold f_X10_gate_0_J66
              refine fd_ok_pr ?_
              refine fd_ok_itn (by decide) ?_
              refine fd_ok_itn (by decide) ?_
              refine fd_ok_itp (by decide) ?_
              refine fd_ok_lt (fun σ15_165 eσ15_165 => ?_)
              have i_166 : fd_InvC σ15_165 := by subst eσ15_165; exact i0
              have f_167 : fd_fr [0, 1, 112, 113, 114, 215, 239] σ σ15_165 := fd_fr_mix eσ15_165 f0
              have t_168 : (σ15_165.1 1).toInt = (σ.1 1).toInt := by subst eσ15_165; rfl
              have y_169 := fd_ymixA (d := 12) eσ15_165 (rfl : σ.2.1 12 = _)
              have y_170 := fd_ymixA (d := 13) eσ15_165 (rfl : σ.2.1 13 = _)
              have y_171 := fd_ymixA (d := 14) eσ15_165 (rfl : σ.2.1 14 = _)
              have y_172 := fd_ymix (d := 15) eσ15_165 (by decide) (rfl : σ.2.2 15 = _)
              have x_173 : ((¬ (0 ≤ p2.toInt ∧ p2.toInt < (σ.1 1).toInt ∧ (p1.toInt = 5 ∨ p1.toInt = 6 ∨ (0 ≤ p3.toInt ∧ p3.toInt < (σ.1 1).toInt)))) ∧ (3 : Int32).toInt = 1 ∧ (σ15_165.1 1).toInt = (σ.1 1).toInt) ∨ (¬ (¬ (0 ≤ p2.toInt ∧ p2.toInt < (σ.1 1).toInt ∧ (p1.toInt = 5 ∨ p1.toInt = 6 ∨ (0 ≤ p3.toInt ∧ p3.toInt < (σ.1 1).toInt)))) ∧ ((σ.1 1).toInt = 200) ∧ (3 : Int32).toInt = 2 ∧ (σ15_165.1 1).toInt = (σ.1 1).toInt) ∨ (¬ (¬ (0 ≤ p2.toInt ∧ p2.toInt < (σ.1 1).toInt ∧ (p1.toInt = 5 ∨ p1.toInt = 6 ∨ (0 ≤ p3.toInt ∧ p3.toInt < (σ.1 1).toInt)))) ∧ ¬ ((σ.1 1).toInt = 200) ∧ (p1.toInt < 0 ∨ 6 < p1.toInt) ∧ (3 : Int32).toInt = 3 ∧ (σ15_165.1 1).toInt = (σ.1 1).toInt) ∨ (¬ (¬ (0 ≤ p2.toInt ∧ p2.toInt < (σ.1 1).toInt ∧ (p1.toInt = 5 ∨ p1.toInt = 6 ∨ (0 ≤ p3.toInt ∧ p3.toInt < (σ.1 1).toInt)))) ∧ ¬ ((σ.1 1).toInt = 200) ∧ ¬ (p1.toInt < 0 ∨ 6 < p1.toInt) ∧ (3 : Int32).toInt = 0 ∧ (σ15_165.1 1).toInt = (σ.1 1).toInt + 1 ∧ (σ15_165.2.2 39 (0 : Int32).toNatClampNeg).toInt = (σ.1 1).toInt) := by omega
              have w_174 : fd_H (((¬ (3 : Int32).toInt = 0 → σ15_165.2.1 12 = σ.2.1 12) ∧ ((3 : Int32).toInt = 0 → ∃ j w : Int32, (j.toInt = (σ.1 1).toInt ∧ w.toInt = p1.toInt) ∧ σ15_165.2.1 12 = upd (σ.2.1 12) j.toNatClampNeg w))) := fd_hd (⟨fun _ => y_169, fun h => absurd h (by omega)⟩)
              have w_175 : fd_H (((¬ (3 : Int32).toInt = 0 → σ15_165.2.1 13 = σ.2.1 13) ∧ ((3 : Int32).toInt = 0 → ∃ j w : Int32, (j.toInt = (σ.1 1).toInt ∧ w.toInt = p2.toInt) ∧ σ15_165.2.1 13 = upd (σ.2.1 13) j.toNatClampNeg w))) := fd_hd (⟨fun _ => y_170, fun h => absurd h (by omega)⟩)
              have w_176 : fd_H (((¬ (3 : Int32).toInt = 0 → σ15_165.2.1 14 = σ.2.1 14) ∧ ((3 : Int32).toInt = 0 → ∃ j w : Int32, (j.toInt = (σ.1 1).toInt ∧ ((p1.toInt = 5 ∨ p1.toInt = 6) → w.toInt = p2.toInt) ∧ (¬ (p1.toInt = 5 ∨ p1.toInt = 6) → w.toInt = p3.toInt)) ∧ σ15_165.2.1 14 = upd (σ.2.1 14) j.toNatClampNeg w))) := fd_hd (⟨fun _ => y_171, fun h => absurd h (by omega)⟩)
              have w_177 : fd_H ((¬ (3 : Int32).toInt = 0 → σ15_165.2.2 15 = σ.2.2 15)) := fd_hd (fun _ => y_172)
              have w_178 : fd_H (((3 : Int32).toInt = 0 → ∃ j : Int32, j.toInt = (σ.1 1).toInt ∧ σ15_165.2.2 15 = vp_updL (σ.2.2 15) j.toNatClampNeg (fd_tl (σ15_165.2.1 12 j.toNatClampNeg) (σ.2.2 15 (σ15_165.2.1 13 j.toNatClampNeg).toNatClampNeg) (σ.2.2 15 (σ15_165.2.1 14 j.toNatClampNeg).toNatClampNeg)))) := fd_hd (fun h => absurd h (by omega))
              exact fd_ok_some ⟨i_166, f_167, x_173, w_174, w_175, w_176, w_177, w_178⟩
  ·
    have d_179 : ¬ p1.toInt = (5 : Int32).toInt := fun q => c_1 (Int32.toInt_inj.mp q)
    refine fd_ok_ite (fun c_180 => ?_) (fun c_180 => ?_)
    ·
      have d_181 := congrArg Int32.toInt c_180
      try unfold f_X10_gate_0_J15
      try unfold f_X10_gate_0_J16
      refine fd_ok_bx ?_
      try unfold f_X10_needNet_0
      refine fd_ok_bd ?_
      try unfold f_X2_has_1
      refine fd_ok_ite (fun c_182 => ?_) (fun c_182 => ?_)
      ·
        have d_183 := Int32.lt_iff_toInt_lt.mp c_182
        refine fd_ok_pb ?_
        refine fd_ok_itp (by decide) ?_
        refine fd_ok_pr ?_
        refine fd_ok_pr ?_
        refine fd_ok_itp (by decide) ?_
        refine fd_ok_lt (fun σ11_184 eσ11_184 => ?_)
        have i_185 : fd_InvC σ11_184 := by subst eσ11_184; exact i0
        have f_186 : fd_fr [0, 1, 112, 113, 114, 215, 239] σ σ11_184 := fd_fr_mix eσ11_184 f0
        have t_187 : (σ11_184.1 1).toInt = (σ.1 1).toInt := by subst eσ11_184; rfl
        have y_188 := fd_ymixA (d := 12) eσ11_184 (rfl : σ.2.1 12 = _)
        have y_189 := fd_ymixA (d := 13) eσ11_184 (rfl : σ.2.1 13 = _)
        have y_190 := fd_ymixA (d := 14) eσ11_184 (rfl : σ.2.1 14 = _)
        have y_191 := fd_ymix (d := 15) eσ11_184 (by decide) (rfl : σ.2.2 15 = _)
        have x_192 : ((¬ (0 ≤ p2.toInt ∧ p2.toInt < (σ.1 1).toInt ∧ (p1.toInt = 5 ∨ p1.toInt = 6 ∨ (0 ≤ p3.toInt ∧ p3.toInt < (σ.1 1).toInt)))) ∧ (1 : Int32).toInt = 1 ∧ (σ11_184.1 1).toInt = (σ.1 1).toInt) ∨ (¬ (¬ (0 ≤ p2.toInt ∧ p2.toInt < (σ.1 1).toInt ∧ (p1.toInt = 5 ∨ p1.toInt = 6 ∨ (0 ≤ p3.toInt ∧ p3.toInt < (σ.1 1).toInt)))) ∧ ((σ.1 1).toInt = 200) ∧ (1 : Int32).toInt = 2 ∧ (σ11_184.1 1).toInt = (σ.1 1).toInt) ∨ (¬ (¬ (0 ≤ p2.toInt ∧ p2.toInt < (σ.1 1).toInt ∧ (p1.toInt = 5 ∨ p1.toInt = 6 ∨ (0 ≤ p3.toInt ∧ p3.toInt < (σ.1 1).toInt)))) ∧ ¬ ((σ.1 1).toInt = 200) ∧ (p1.toInt < 0 ∨ 6 < p1.toInt) ∧ (1 : Int32).toInt = 3 ∧ (σ11_184.1 1).toInt = (σ.1 1).toInt) ∨ (¬ (¬ (0 ≤ p2.toInt ∧ p2.toInt < (σ.1 1).toInt ∧ (p1.toInt = 5 ∨ p1.toInt = 6 ∨ (0 ≤ p3.toInt ∧ p3.toInt < (σ.1 1).toInt)))) ∧ ¬ ((σ.1 1).toInt = 200) ∧ ¬ (p1.toInt < 0 ∨ 6 < p1.toInt) ∧ (1 : Int32).toInt = 0 ∧ (σ11_184.1 1).toInt = (σ.1 1).toInt + 1 ∧ (σ11_184.2.2 39 (0 : Int32).toNatClampNeg).toInt = (σ.1 1).toInt) := by omega
        have w_193 : fd_H (((¬ (1 : Int32).toInt = 0 → σ11_184.2.1 12 = σ.2.1 12) ∧ ((1 : Int32).toInt = 0 → ∃ j w : Int32, (j.toInt = (σ.1 1).toInt ∧ w.toInt = p1.toInt) ∧ σ11_184.2.1 12 = upd (σ.2.1 12) j.toNatClampNeg w))) := fd_hd (⟨fun _ => y_188, fun h => absurd h (by omega)⟩)
        have w_194 : fd_H (((¬ (1 : Int32).toInt = 0 → σ11_184.2.1 13 = σ.2.1 13) ∧ ((1 : Int32).toInt = 0 → ∃ j w : Int32, (j.toInt = (σ.1 1).toInt ∧ w.toInt = p2.toInt) ∧ σ11_184.2.1 13 = upd (σ.2.1 13) j.toNatClampNeg w))) := fd_hd (⟨fun _ => y_189, fun h => absurd h (by omega)⟩)
        have w_195 : fd_H (((¬ (1 : Int32).toInt = 0 → σ11_184.2.1 14 = σ.2.1 14) ∧ ((1 : Int32).toInt = 0 → ∃ j w : Int32, (j.toInt = (σ.1 1).toInt ∧ ((p1.toInt = 5 ∨ p1.toInt = 6) → w.toInt = p2.toInt) ∧ (¬ (p1.toInt = 5 ∨ p1.toInt = 6) → w.toInt = p3.toInt)) ∧ σ11_184.2.1 14 = upd (σ.2.1 14) j.toNatClampNeg w))) := fd_hd (⟨fun _ => y_190, fun h => absurd h (by omega)⟩)
        have w_196 : fd_H ((¬ (1 : Int32).toInt = 0 → σ11_184.2.2 15 = σ.2.2 15)) := fd_hd (fun _ => y_191)
        have w_197 : fd_H (((1 : Int32).toInt = 0 → ∃ j : Int32, j.toInt = (σ.1 1).toInt ∧ σ11_184.2.2 15 = vp_updL (σ.2.2 15) j.toNatClampNeg (fd_tl (σ11_184.2.1 12 j.toNatClampNeg) (σ.2.2 15 (σ11_184.2.1 13 j.toNatClampNeg).toNatClampNeg) (σ.2.2 15 (σ11_184.2.1 14 j.toNatClampNeg).toNatClampNeg)))) := fd_hd (fun h => absurd h (by omega))
        exact fd_ok_some ⟨i_185, f_186, x_192, w_193, w_194, w_195, w_196, w_197⟩
      ·
        have d_198 := Int32.le_iff_toInt_le.mp (Int32.not_lt.mp c_182)
        have r_199 : (0 : Int) ≤ (σ.1 1).toInt ∧ (σ.1 1).toInt ≤ 200 := i0.1 1
        refine fd_ok_ite (fun c_200 => ?_) (fun c_200 => ?_)
        ·
          have d_201 := Int32.le_iff_toInt_le.mp c_200
          refine fd_ok_pb ?_
          refine fd_ok_itp (by decide) ?_
          refine fd_ok_pr ?_
          refine fd_ok_pr ?_
          refine fd_ok_itp (by decide) ?_
          refine fd_ok_lt (fun σ11_202 eσ11_202 => ?_)
          have i_203 : fd_InvC σ11_202 := by subst eσ11_202; exact i0
          have f_204 : fd_fr [0, 1, 112, 113, 114, 215, 239] σ σ11_202 := fd_fr_mix eσ11_202 f0
          have t_205 : (σ11_202.1 1).toInt = (σ.1 1).toInt := by subst eσ11_202; rfl
          have y_206 := fd_ymixA (d := 12) eσ11_202 (rfl : σ.2.1 12 = _)
          have y_207 := fd_ymixA (d := 13) eσ11_202 (rfl : σ.2.1 13 = _)
          have y_208 := fd_ymixA (d := 14) eσ11_202 (rfl : σ.2.1 14 = _)
          have y_209 := fd_ymix (d := 15) eσ11_202 (by decide) (rfl : σ.2.2 15 = _)
          have x_210 : ((¬ (0 ≤ p2.toInt ∧ p2.toInt < (σ.1 1).toInt ∧ (p1.toInt = 5 ∨ p1.toInt = 6 ∨ (0 ≤ p3.toInt ∧ p3.toInt < (σ.1 1).toInt)))) ∧ (1 : Int32).toInt = 1 ∧ (σ11_202.1 1).toInt = (σ.1 1).toInt) ∨ (¬ (¬ (0 ≤ p2.toInt ∧ p2.toInt < (σ.1 1).toInt ∧ (p1.toInt = 5 ∨ p1.toInt = 6 ∨ (0 ≤ p3.toInt ∧ p3.toInt < (σ.1 1).toInt)))) ∧ ((σ.1 1).toInt = 200) ∧ (1 : Int32).toInt = 2 ∧ (σ11_202.1 1).toInt = (σ.1 1).toInt) ∨ (¬ (¬ (0 ≤ p2.toInt ∧ p2.toInt < (σ.1 1).toInt ∧ (p1.toInt = 5 ∨ p1.toInt = 6 ∨ (0 ≤ p3.toInt ∧ p3.toInt < (σ.1 1).toInt)))) ∧ ¬ ((σ.1 1).toInt = 200) ∧ (p1.toInt < 0 ∨ 6 < p1.toInt) ∧ (1 : Int32).toInt = 3 ∧ (σ11_202.1 1).toInt = (σ.1 1).toInt) ∨ (¬ (¬ (0 ≤ p2.toInt ∧ p2.toInt < (σ.1 1).toInt ∧ (p1.toInt = 5 ∨ p1.toInt = 6 ∨ (0 ≤ p3.toInt ∧ p3.toInt < (σ.1 1).toInt)))) ∧ ¬ ((σ.1 1).toInt = 200) ∧ ¬ (p1.toInt < 0 ∨ 6 < p1.toInt) ∧ (1 : Int32).toInt = 0 ∧ (σ11_202.1 1).toInt = (σ.1 1).toInt + 1 ∧ (σ11_202.2.2 39 (0 : Int32).toNatClampNeg).toInt = (σ.1 1).toInt) := by omega
          have w_211 : fd_H (((¬ (1 : Int32).toInt = 0 → σ11_202.2.1 12 = σ.2.1 12) ∧ ((1 : Int32).toInt = 0 → ∃ j w : Int32, (j.toInt = (σ.1 1).toInt ∧ w.toInt = p1.toInt) ∧ σ11_202.2.1 12 = upd (σ.2.1 12) j.toNatClampNeg w))) := fd_hd (⟨fun _ => y_206, fun h => absurd h (by omega)⟩)
          have w_212 : fd_H (((¬ (1 : Int32).toInt = 0 → σ11_202.2.1 13 = σ.2.1 13) ∧ ((1 : Int32).toInt = 0 → ∃ j w : Int32, (j.toInt = (σ.1 1).toInt ∧ w.toInt = p2.toInt) ∧ σ11_202.2.1 13 = upd (σ.2.1 13) j.toNatClampNeg w))) := fd_hd (⟨fun _ => y_207, fun h => absurd h (by omega)⟩)
          have w_213 : fd_H (((¬ (1 : Int32).toInt = 0 → σ11_202.2.1 14 = σ.2.1 14) ∧ ((1 : Int32).toInt = 0 → ∃ j w : Int32, (j.toInt = (σ.1 1).toInt ∧ ((p1.toInt = 5 ∨ p1.toInt = 6) → w.toInt = p2.toInt) ∧ (¬ (p1.toInt = 5 ∨ p1.toInt = 6) → w.toInt = p3.toInt)) ∧ σ11_202.2.1 14 = upd (σ.2.1 14) j.toNatClampNeg w))) := fd_hd (⟨fun _ => y_208, fun h => absurd h (by omega)⟩)
          have w_214 : fd_H ((¬ (1 : Int32).toInt = 0 → σ11_202.2.2 15 = σ.2.2 15)) := fd_hd (fun _ => y_209)
          have w_215 : fd_H (((1 : Int32).toInt = 0 → ∃ j : Int32, j.toInt = (σ.1 1).toInt ∧ σ11_202.2.2 15 = vp_updL (σ.2.2 15) j.toNatClampNeg (fd_tl (σ11_202.2.1 12 j.toNatClampNeg) (σ.2.2 15 (σ11_202.2.1 13 j.toNatClampNeg).toNatClampNeg) (σ.2.2 15 (σ11_202.2.1 14 j.toNatClampNeg).toNatClampNeg)))) := fd_hd (fun h => absurd h (by omega))
          exact fd_ok_some ⟨i_203, f_204, x_210, w_211, w_212, w_213, w_214, w_215⟩
        ·
          have d_216 := Int32.lt_iff_toInt_lt.mp (Int32.not_le.mp c_200)
          refine fd_ok_pb ?_
          refine fd_ok_itn (by decide) ?_
          refine fd_ok_pl ?_
          refine fd_ok_itp (by decide) ?_
          try unfold f_X10_gate_0_J33
          refine fd_ok_bd ?_
          try unfold f_X2_nets_1
          refine fd_ok_pb ?_
          refine fd_ok_ite (fun c_217 => ?_) (fun c_217 => ?_)
          ·
            have d_218 := congrArg Int32.toInt c_217
            refine fd_ok_pr ?_
            refine fd_ok_itn (by decide) ?_
            refine fd_ok_itp (by decide) ?_
            refine fd_ok_lt (fun σ13_219 eσ13_219 => ?_)
            have i_220 : fd_InvC σ13_219 := by subst eσ13_219; exact i0
            have f_221 : fd_fr [0, 1, 112, 113, 114, 215, 239] σ σ13_219 := fd_fr_mix eσ13_219 f0
            have t_222 : (σ13_219.1 1).toInt = (σ.1 1).toInt := by subst eσ13_219; rfl
            have y_223 := fd_ymixA (d := 12) eσ13_219 (rfl : σ.2.1 12 = _)
            have y_224 := fd_ymixA (d := 13) eσ13_219 (rfl : σ.2.1 13 = _)
            have y_225 := fd_ymixA (d := 14) eσ13_219 (rfl : σ.2.1 14 = _)
            have y_226 := fd_ymix (d := 15) eσ13_219 (by decide) (rfl : σ.2.2 15 = _)
            have x_227 : ((¬ (0 ≤ p2.toInt ∧ p2.toInt < (σ.1 1).toInt ∧ (p1.toInt = 5 ∨ p1.toInt = 6 ∨ (0 ≤ p3.toInt ∧ p3.toInt < (σ.1 1).toInt)))) ∧ (2 : Int32).toInt = 1 ∧ (σ13_219.1 1).toInt = (σ.1 1).toInt) ∨ (¬ (¬ (0 ≤ p2.toInt ∧ p2.toInt < (σ.1 1).toInt ∧ (p1.toInt = 5 ∨ p1.toInt = 6 ∨ (0 ≤ p3.toInt ∧ p3.toInt < (σ.1 1).toInt)))) ∧ ((σ.1 1).toInt = 200) ∧ (2 : Int32).toInt = 2 ∧ (σ13_219.1 1).toInt = (σ.1 1).toInt) ∨ (¬ (¬ (0 ≤ p2.toInt ∧ p2.toInt < (σ.1 1).toInt ∧ (p1.toInt = 5 ∨ p1.toInt = 6 ∨ (0 ≤ p3.toInt ∧ p3.toInt < (σ.1 1).toInt)))) ∧ ¬ ((σ.1 1).toInt = 200) ∧ (p1.toInt < 0 ∨ 6 < p1.toInt) ∧ (2 : Int32).toInt = 3 ∧ (σ13_219.1 1).toInt = (σ.1 1).toInt) ∨ (¬ (¬ (0 ≤ p2.toInt ∧ p2.toInt < (σ.1 1).toInt ∧ (p1.toInt = 5 ∨ p1.toInt = 6 ∨ (0 ≤ p3.toInt ∧ p3.toInt < (σ.1 1).toInt)))) ∧ ¬ ((σ.1 1).toInt = 200) ∧ ¬ (p1.toInt < 0 ∨ 6 < p1.toInt) ∧ (2 : Int32).toInt = 0 ∧ (σ13_219.1 1).toInt = (σ.1 1).toInt + 1 ∧ (σ13_219.2.2 39 (0 : Int32).toNatClampNeg).toInt = (σ.1 1).toInt) := by omega
            have w_228 : fd_H (((¬ (2 : Int32).toInt = 0 → σ13_219.2.1 12 = σ.2.1 12) ∧ ((2 : Int32).toInt = 0 → ∃ j w : Int32, (j.toInt = (σ.1 1).toInt ∧ w.toInt = p1.toInt) ∧ σ13_219.2.1 12 = upd (σ.2.1 12) j.toNatClampNeg w))) := fd_hd (⟨fun _ => y_223, fun h => absurd h (by omega)⟩)
            have w_229 : fd_H (((¬ (2 : Int32).toInt = 0 → σ13_219.2.1 13 = σ.2.1 13) ∧ ((2 : Int32).toInt = 0 → ∃ j w : Int32, (j.toInt = (σ.1 1).toInt ∧ w.toInt = p2.toInt) ∧ σ13_219.2.1 13 = upd (σ.2.1 13) j.toNatClampNeg w))) := fd_hd (⟨fun _ => y_224, fun h => absurd h (by omega)⟩)
            have w_230 : fd_H (((¬ (2 : Int32).toInt = 0 → σ13_219.2.1 14 = σ.2.1 14) ∧ ((2 : Int32).toInt = 0 → ∃ j w : Int32, (j.toInt = (σ.1 1).toInt ∧ ((p1.toInt = 5 ∨ p1.toInt = 6) → w.toInt = p2.toInt) ∧ (¬ (p1.toInt = 5 ∨ p1.toInt = 6) → w.toInt = p3.toInt)) ∧ σ13_219.2.1 14 = upd (σ.2.1 14) j.toNatClampNeg w))) := fd_hd (⟨fun _ => y_225, fun h => absurd h (by omega)⟩)
            have w_231 : fd_H ((¬ (2 : Int32).toInt = 0 → σ13_219.2.2 15 = σ.2.2 15)) := fd_hd (fun _ => y_226)
            have w_232 : fd_H (((2 : Int32).toInt = 0 → ∃ j : Int32, j.toInt = (σ.1 1).toInt ∧ σ13_219.2.2 15 = vp_updL (σ.2.2 15) j.toNatClampNeg (fd_tl (σ13_219.2.1 12 j.toNatClampNeg) (σ.2.2 15 (σ13_219.2.1 13 j.toNatClampNeg).toNatClampNeg) (σ.2.2 15 (σ13_219.2.1 14 j.toNatClampNeg).toNatClampNeg)))) := fd_hd (fun h => absurd h (by omega))
            exact fd_ok_some ⟨i_220, f_221, x_227, w_228, w_229, w_230, w_231, w_232⟩
          ·
            have d_233 : ¬ (σ.1 1).toInt = (200 : Int32).toInt := fun q => c_217 (Int32.toInt_inj.mp q)
            refine fd_ok_ite (fun c_234 => ?_) (fun c_234 => ?_)
            ·
              have d_235 := Int32.lt_iff_toInt_lt.mp c_234
              try unfold f_X10_gate_0_J66
              refine fd_ok_pr ?_
              refine fd_ok_itn (by decide) ?_
              refine fd_ok_itn (by decide) ?_
              refine fd_ok_itp (by decide) ?_
              refine fd_ok_lt (fun σ15_236 eσ15_236 => ?_)
              have i_237 : fd_InvC σ15_236 := by subst eσ15_236; exact i0
              have f_238 : fd_fr [0, 1, 112, 113, 114, 215, 239] σ σ15_236 := fd_fr_mix eσ15_236 f0
              have t_239 : (σ15_236.1 1).toInt = (σ.1 1).toInt := by subst eσ15_236; rfl
              have y_240 := fd_ymixA (d := 12) eσ15_236 (rfl : σ.2.1 12 = _)
              have y_241 := fd_ymixA (d := 13) eσ15_236 (rfl : σ.2.1 13 = _)
              have y_242 := fd_ymixA (d := 14) eσ15_236 (rfl : σ.2.1 14 = _)
              have y_243 := fd_ymix (d := 15) eσ15_236 (by decide) (rfl : σ.2.2 15 = _)
              have x_244 : ((¬ (0 ≤ p2.toInt ∧ p2.toInt < (σ.1 1).toInt ∧ (p1.toInt = 5 ∨ p1.toInt = 6 ∨ (0 ≤ p3.toInt ∧ p3.toInt < (σ.1 1).toInt)))) ∧ (3 : Int32).toInt = 1 ∧ (σ15_236.1 1).toInt = (σ.1 1).toInt) ∨ (¬ (¬ (0 ≤ p2.toInt ∧ p2.toInt < (σ.1 1).toInt ∧ (p1.toInt = 5 ∨ p1.toInt = 6 ∨ (0 ≤ p3.toInt ∧ p3.toInt < (σ.1 1).toInt)))) ∧ ((σ.1 1).toInt = 200) ∧ (3 : Int32).toInt = 2 ∧ (σ15_236.1 1).toInt = (σ.1 1).toInt) ∨ (¬ (¬ (0 ≤ p2.toInt ∧ p2.toInt < (σ.1 1).toInt ∧ (p1.toInt = 5 ∨ p1.toInt = 6 ∨ (0 ≤ p3.toInt ∧ p3.toInt < (σ.1 1).toInt)))) ∧ ¬ ((σ.1 1).toInt = 200) ∧ (p1.toInt < 0 ∨ 6 < p1.toInt) ∧ (3 : Int32).toInt = 3 ∧ (σ15_236.1 1).toInt = (σ.1 1).toInt) ∨ (¬ (¬ (0 ≤ p2.toInt ∧ p2.toInt < (σ.1 1).toInt ∧ (p1.toInt = 5 ∨ p1.toInt = 6 ∨ (0 ≤ p3.toInt ∧ p3.toInt < (σ.1 1).toInt)))) ∧ ¬ ((σ.1 1).toInt = 200) ∧ ¬ (p1.toInt < 0 ∨ 6 < p1.toInt) ∧ (3 : Int32).toInt = 0 ∧ (σ15_236.1 1).toInt = (σ.1 1).toInt + 1 ∧ (σ15_236.2.2 39 (0 : Int32).toNatClampNeg).toInt = (σ.1 1).toInt) := by omega
              have w_245 : fd_H (((¬ (3 : Int32).toInt = 0 → σ15_236.2.1 12 = σ.2.1 12) ∧ ((3 : Int32).toInt = 0 → ∃ j w : Int32, (j.toInt = (σ.1 1).toInt ∧ w.toInt = p1.toInt) ∧ σ15_236.2.1 12 = upd (σ.2.1 12) j.toNatClampNeg w))) := fd_hd (⟨fun _ => y_240, fun h => absurd h (by omega)⟩)
              have w_246 : fd_H (((¬ (3 : Int32).toInt = 0 → σ15_236.2.1 13 = σ.2.1 13) ∧ ((3 : Int32).toInt = 0 → ∃ j w : Int32, (j.toInt = (σ.1 1).toInt ∧ w.toInt = p2.toInt) ∧ σ15_236.2.1 13 = upd (σ.2.1 13) j.toNatClampNeg w))) := fd_hd (⟨fun _ => y_241, fun h => absurd h (by omega)⟩)
              have w_247 : fd_H (((¬ (3 : Int32).toInt = 0 → σ15_236.2.1 14 = σ.2.1 14) ∧ ((3 : Int32).toInt = 0 → ∃ j w : Int32, (j.toInt = (σ.1 1).toInt ∧ ((p1.toInt = 5 ∨ p1.toInt = 6) → w.toInt = p2.toInt) ∧ (¬ (p1.toInt = 5 ∨ p1.toInt = 6) → w.toInt = p3.toInt)) ∧ σ15_236.2.1 14 = upd (σ.2.1 14) j.toNatClampNeg w))) := fd_hd (⟨fun _ => y_242, fun h => absurd h (by omega)⟩)
              have w_248 : fd_H ((¬ (3 : Int32).toInt = 0 → σ15_236.2.2 15 = σ.2.2 15)) := fd_hd (fun _ => y_243)
              have w_249 : fd_H (((3 : Int32).toInt = 0 → ∃ j : Int32, j.toInt = (σ.1 1).toInt ∧ σ15_236.2.2 15 = vp_updL (σ.2.2 15) j.toNatClampNeg (fd_tl (σ15_236.2.1 12 j.toNatClampNeg) (σ.2.2 15 (σ15_236.2.1 13 j.toNatClampNeg).toNatClampNeg) (σ.2.2 15 (σ15_236.2.1 14 j.toNatClampNeg).toNatClampNeg)))) := fd_hd (fun h => absurd h (by omega))
              exact fd_ok_some ⟨i_237, f_238, x_244, w_245, w_246, w_247, w_248, w_249⟩
            ·
              have d_250 := Int32.le_iff_toInt_le.mp (Int32.not_lt.mp c_234)
              refine fd_ok_ite (fun c_251 => ?_) (fun c_251 => ?_)
              ·
                have d_252 := Int32.le_iff_toInt_le.mp c_251
                refine fd_ok_lt (fun σ18_253 eσ18_253 => ?_)
                have i_254 : fd_InvC σ18_253 := fd_inv_sI eσ18_253 i0 ⟨(by omega : (0 : Int) ≤ (0 : Int32).toInt), (by omega : (0 : Int32).toInt ≤ 1)⟩
                have f_255 : fd_fr [0, 1, 112, 113, 114, 215, 239] σ σ18_253 := fd_fr_tr f0 (fd_fr_sI eσ18_253 (by decide))
                have t_256 : (σ18_253.1 1).toInt = (σ.1 1).toInt := congrArg Int32.toInt (fd_tN eσ18_253 (by decide))
                have y_257 := fd_yIA (d := 12) eσ18_253 (rfl : σ.2.1 12 = _)
                have y_258 := fd_yIA (d := 13) eσ18_253 (rfl : σ.2.1 13 = _)
                have y_259 := fd_yIA (d := 14) eσ18_253 (rfl : σ.2.1 14 = _)
                have y_260 := fd_yIL (d := 15) eσ18_253 (rfl : σ.2.2 15 = _)
                refine fd_ok_itp (by decide) ?_
                try unfold f_X10_gate_0_J97
                refine fd_ok_bd ?_
                try unfold f_X2_addGate_1
                have r_261 : (0 : Int) ≤ (σ18_253.1 1).toInt ∧ (σ18_253.1 1).toInt ≤ 200 := i_254.1 1
                refine fd_ok_gd (vp_in_iff.mpr ⟨by omega, by omega⟩) ?_
                refine fd_ok_lt (fun σ2_262 eσ2_262 => ?_)
                have i_263 : fd_InvC σ2_262 := fd_inv_sA eσ2_262 i_254 (by decide) (by decide) (fd_rng _)
                have f_264 : fd_fr [0, 1, 112, 113, 114, 215, 239] σ σ2_262 := fd_fr_tr f_255 (fd_fr_sA eσ2_262 (by decide))
                have t_265 : (σ2_262.1 1).toInt = (σ18_253.1 1).toInt := by subst eσ2_262; rfl
                have y_266 := fd_yA eσ2_262 y_257
                have y_267 := fd_yAn (d := 13) eσ2_262 (by decide) y_258
                have y_268 := fd_yAn (d := 14) eσ2_262 (by decide) y_259
                have y_269 := fd_yAL (d := 15) eσ2_262 y_260
                have r_270 : (0 : Int) ≤ (σ2_262.1 1).toInt ∧ (σ2_262.1 1).toInt ≤ 200 := i_263.1 1
                refine fd_ok_gd (vp_in_iff.mpr ⟨by omega, by omega⟩) ?_
                refine fd_ok_lt (fun σ4_271 eσ4_271 => ?_)
                have i_272 : fd_InvC σ4_271 := fd_inv_sA eσ4_271 i_263 (by decide) (by decide) ⟨(by omega : (0 : Int) ≤ p2.toInt), (by omega : p2.toInt ≤ 199)⟩
                have f_273 : fd_fr [0, 1, 112, 113, 114, 215, 239] σ σ4_271 := fd_fr_tr f_264 (fd_fr_sA eσ4_271 (by decide))
                have t_274 : (σ4_271.1 1).toInt = (σ2_262.1 1).toInt := by subst eσ4_271; rfl
                have y_275 := fd_yAn (d := 12) eσ4_271 (by decide) y_266
                have y_276 := fd_yA eσ4_271 y_267
                have y_277 := fd_yAn (d := 14) eσ4_271 (by decide) y_268
                have y_278 := fd_yAL (d := 15) eσ4_271 y_269
                have r_279 : (0 : Int) ≤ (σ4_271.1 1).toInt ∧ (σ4_271.1 1).toInt ≤ 200 := i_272.1 1
                refine fd_ok_gd (vp_in_iff.mpr ⟨by omega, by omega⟩) ?_
                refine fd_ok_lt (fun σ6_280 eσ6_280 => ?_)
                have i_281 : fd_InvC σ6_280 := fd_inv_sA eσ6_280 i_272 (by decide) (by decide) ⟨(by omega : (0 : Int) ≤ p2.toInt), (by omega : p2.toInt ≤ 199)⟩
                have f_282 : fd_fr [0, 1, 112, 113, 114, 215, 239] σ σ6_280 := fd_fr_tr f_273 (fd_fr_sA eσ6_280 (by decide))
                have t_283 : (σ6_280.1 1).toInt = (σ4_271.1 1).toInt := by subst eσ6_280; rfl
                have y_284 := fd_yAn (d := 12) eσ6_280 (by decide) y_275
                have y_285 := fd_yAn (d := 13) eσ6_280 (by decide) y_276
                have y_286 := fd_yA eσ6_280 y_277
                have y_287 := fd_yAL (d := 15) eσ6_280 y_278
                refine fd_ok_bd ?_
                have r_288 : (0 : Int) ≤ (σ6_280.1 1).toInt ∧ (σ6_280.1 1).toInt ≤ 200 := i_281.1 1
                refine fd_ok_cl (s_X2_gateRow_1_15 N hN _ _ i_281 (by omega) (by omega)) ?_
                rintro v_289 σ_290 ⟨i_291, g_292, x_293⟩
                have f_294 : fd_fr [0, 1, 112, 113, 114, 215, 239] σ σ_290 := fd_fr_tr f_282 (fd_fr_mono g_292 (by decide))
                have y_295 := (g_292.2.1 12 (by decide)).trans y_284
                have y_296 := (g_292.2.1 13 (by decide)).trans y_285
                have y_297 := (g_292.2.1 14 (by decide)).trans y_286
                have y_298 := (g_292.2.2 15 (by decide)).trans y_287
                have t_299 : (σ_290.1 1).toInt = (σ6_280.1 1).toInt := congrArg Int32.toInt (g_292.1 1 (by decide))
                refine fd_ok_gd (vp_in_iff.mpr ⟨by omega, by omega⟩) ?_
                refine fd_ok_lt (fun σ13_300 eσ13_300 => ?_)
                have i_301 : fd_InvC σ13_300 := fd_inv_sL eσ13_300 i_291
                have f_302 : fd_fr [0, 1, 112, 113, 114, 215, 239] σ σ13_300 := fd_fr_tr f_294 (fd_fr_sL eσ13_300 (by decide))
                have t_303 : (σ13_300.1 1).toInt = (σ_290.1 1).toInt := by subst eσ13_300; rfl
                have y_304 := fd_yLA (d := 12) eσ13_300 y_295
                have y_305 := fd_yLA (d := 13) eσ13_300 y_296
                have y_306 := fd_yLA (d := 14) eσ13_300 y_297
                have y_307 := fd_yL eσ13_300 y_298
                refine fd_ok_lt (fun σ14_308 eσ14_308 => ?_)
                have r_311 : (0 : Int) ≤ (σ13_300.1 1).toInt ∧ (σ13_300.1 1).toInt ≤ 200 := i_301.1 1
                have u_312 := Jvm.Kit.i32_add (x := (σ13_300.1 1)) (y := (1 : Int32)) (by omega) (by omega)
                have i_309 : fd_InvC σ14_308 := fd_inv_sI eσ14_308 i_301 ⟨(by omega : (0 : Int) ≤ ((σ13_300.1 1) + (1 : Int32)).toInt), (by omega : ((σ13_300.1 1) + (1 : Int32)).toInt ≤ 200)⟩
                have f_310 : fd_fr [0, 1, 112, 113, 114, 215, 239] σ σ14_308 := fd_fr_tr f_302 (fd_fr_sI eσ14_308 (by decide))
                have t_313 : (σ14_308.1 1).toInt = ((σ13_300.1 1) + (1 : Int32)).toInt := congrArg Int32.toInt (fd_tI eσ14_308)
                have y_314 := fd_yIA (d := 12) eσ14_308 y_304
                have y_315 := fd_yIA (d := 13) eσ14_308 y_305
                have y_316 := fd_yIA (d := 14) eσ14_308 y_306
                have y_317 := fd_yIL (d := 15) eσ14_308 y_307
                refine fd_ok_pb ?_
                refine fd_ok_pl ?_
                refine fd_ok_lt (fun σ6_318 eσ6_318 => ?_)
                have i_319 : fd_InvC σ6_318 := by subst eσ6_318; exact i_309
                have f_320 : fd_fr [0, 1, 112, 113, 114, 215, 239] σ σ6_318 := fd_fr_mix eσ6_318 f_310
                have t_321 : (σ6_318.1 1).toInt = (σ14_308.1 1).toInt := by subst eσ6_318; rfl
                have y_322 := fd_ymixA (d := 12) eσ6_318 y_314
                have y_323 := fd_ymixA (d := 13) eσ6_318 y_315
                have y_324 := fd_ymixA (d := 14) eσ6_318 y_316
                have y_325 := fd_ymix (d := 15) eσ6_318 (by decide) y_317
                refine fd_ok_gd (vp_in_iff.mpr ⟨by omega, by omega⟩) ?_
                refine fd_ok_lt (fun σ9_326 eσ9_326 => ?_)
                have i_327 : fd_InvC σ9_326 := fd_inv_sL eσ9_326 i_319
                have f_328 : fd_fr [0, 1, 112, 113, 114, 215, 239] σ σ9_326 := fd_fr_tr f_320 (fd_fr_sL eσ9_326 (by decide))
                have t_329 : (σ9_326.1 1).toInt = (σ6_318.1 1).toInt := by subst eσ9_326; rfl
                have r_330 : (0 : Int) ≤ (σ14_308.1 1).toInt ∧ (σ14_308.1 1).toInt ≤ 200 := i_309.1 1
                have u_331 := Jvm.Kit.i32_sub (x := (σ14_308.1 1)) (y := (1 : Int32)) (by omega) (by omega)
                have o_332 : (σ9_326.2.2 39 (0 : Int32).toNatClampNeg).toInt = ((σ14_308.1 1) - (1 : Int32)).toInt := fd_o39 eσ9_326
                have y_333 := fd_yLA (d := 12) eσ9_326 y_322
                have y_334 := fd_yLA (d := 13) eσ9_326 y_323
                have y_335 := fd_yLA (d := 14) eσ9_326 y_324
                have y_336 := fd_yLn (d := 15) eσ9_326 (by decide) y_325
                have x_337 : ((¬ (0 ≤ p2.toInt ∧ p2.toInt < (σ.1 1).toInt ∧ (p1.toInt = 5 ∨ p1.toInt = 6 ∨ (0 ≤ p3.toInt ∧ p3.toInt < (σ.1 1).toInt)))) ∧ (0 : Int32).toInt = 1 ∧ (σ9_326.1 1).toInt = (σ.1 1).toInt) ∨ (¬ (¬ (0 ≤ p2.toInt ∧ p2.toInt < (σ.1 1).toInt ∧ (p1.toInt = 5 ∨ p1.toInt = 6 ∨ (0 ≤ p3.toInt ∧ p3.toInt < (σ.1 1).toInt)))) ∧ ((σ.1 1).toInt = 200) ∧ (0 : Int32).toInt = 2 ∧ (σ9_326.1 1).toInt = (σ.1 1).toInt) ∨ (¬ (¬ (0 ≤ p2.toInt ∧ p2.toInt < (σ.1 1).toInt ∧ (p1.toInt = 5 ∨ p1.toInt = 6 ∨ (0 ≤ p3.toInt ∧ p3.toInt < (σ.1 1).toInt)))) ∧ ¬ ((σ.1 1).toInt = 200) ∧ (p1.toInt < 0 ∨ 6 < p1.toInt) ∧ (0 : Int32).toInt = 3 ∧ (σ9_326.1 1).toInt = (σ.1 1).toInt) ∨ (¬ (¬ (0 ≤ p2.toInt ∧ p2.toInt < (σ.1 1).toInt ∧ (p1.toInt = 5 ∨ p1.toInt = 6 ∨ (0 ≤ p3.toInt ∧ p3.toInt < (σ.1 1).toInt)))) ∧ ¬ ((σ.1 1).toInt = 200) ∧ ¬ (p1.toInt < 0 ∨ 6 < p1.toInt) ∧ (0 : Int32).toInt = 0 ∧ (σ9_326.1 1).toInt = (σ.1 1).toInt + 1 ∧ (σ9_326.2.2 39 (0 : Int32).toNatClampNeg).toInt = (σ.1 1).toInt) := by omega
                have w_338 : fd_H (((¬ (0 : Int32).toInt = 0 → σ9_326.2.1 12 = σ.2.1 12) ∧ ((0 : Int32).toInt = 0 → ∃ j w : Int32, (j.toInt = (σ.1 1).toInt ∧ w.toInt = p1.toInt) ∧ σ9_326.2.1 12 = upd (σ.2.1 12) j.toNatClampNeg w))) := fd_hd (⟨fun h => absurd (by omega) h, fun _ => ⟨_, _, by omega, y_333⟩⟩)
                have w_339 : fd_H (((¬ (0 : Int32).toInt = 0 → σ9_326.2.1 13 = σ.2.1 13) ∧ ((0 : Int32).toInt = 0 → ∃ j w : Int32, (j.toInt = (σ.1 1).toInt ∧ w.toInt = p2.toInt) ∧ σ9_326.2.1 13 = upd (σ.2.1 13) j.toNatClampNeg w))) := fd_hd (⟨fun h => absurd (by omega) h, fun _ => ⟨_, _, by omega, y_334⟩⟩)
                have w_340 : fd_H (((¬ (0 : Int32).toInt = 0 → σ9_326.2.1 14 = σ.2.1 14) ∧ ((0 : Int32).toInt = 0 → ∃ j w : Int32, (j.toInt = (σ.1 1).toInt ∧ ((p1.toInt = 5 ∨ p1.toInt = 6) → w.toInt = p2.toInt) ∧ (¬ (p1.toInt = 5 ∨ p1.toInt = 6) → w.toInt = p3.toInt)) ∧ σ9_326.2.1 14 = upd (σ.2.1 14) j.toNatClampNeg w))) := fd_hd (⟨fun h => absurd (by omega) h, fun _ => ⟨_, _, by omega, y_335⟩⟩)
                have w_341 : fd_H ((¬ (0 : Int32).toInt = 0 → σ9_326.2.2 15 = σ.2.2 15)) := fd_hd (fun h => absurd (by omega) h)
                have w_342 : fd_H (((0 : Int32).toInt = 0 → ∃ j : Int32, j.toInt = (σ.1 1).toInt ∧ σ9_326.2.2 15 = vp_updL (σ.2.2 15) j.toNatClampNeg (fd_tl (σ9_326.2.1 12 j.toNatClampNeg) (σ.2.2 15 (σ9_326.2.1 13 j.toNatClampNeg).toNatClampNeg) (σ.2.2 15 (σ9_326.2.1 14 j.toNatClampNeg).toNatClampNeg)))) := fd_hd (fun _ => ⟨(σ6_280.1 1), by omega, by rw [y_333, y_334, y_335, y_336, x_293, y_284, y_285, y_286, y_287]⟩)
                exact fd_ok_some ⟨i_327, f_328, x_337, w_338, w_339, w_340, w_341, w_342⟩
              ·
                have d_343 := Int32.lt_iff_toInt_lt.mp (Int32.not_le.mp c_251)
                try unfold f_X10_gate_0_J66
                refine fd_ok_pr ?_
                refine fd_ok_itn (by decide) ?_
                refine fd_ok_itn (by decide) ?_
                refine fd_ok_itp (by decide) ?_
                refine fd_ok_lt (fun σ15_344 eσ15_344 => ?_)
                have i_345 : fd_InvC σ15_344 := by subst eσ15_344; exact i0
                have f_346 : fd_fr [0, 1, 112, 113, 114, 215, 239] σ σ15_344 := fd_fr_mix eσ15_344 f0
                have t_347 : (σ15_344.1 1).toInt = (σ.1 1).toInt := by subst eσ15_344; rfl
                have y_348 := fd_ymixA (d := 12) eσ15_344 (rfl : σ.2.1 12 = _)
                have y_349 := fd_ymixA (d := 13) eσ15_344 (rfl : σ.2.1 13 = _)
                have y_350 := fd_ymixA (d := 14) eσ15_344 (rfl : σ.2.1 14 = _)
                have y_351 := fd_ymix (d := 15) eσ15_344 (by decide) (rfl : σ.2.2 15 = _)
                have x_352 : ((¬ (0 ≤ p2.toInt ∧ p2.toInt < (σ.1 1).toInt ∧ (p1.toInt = 5 ∨ p1.toInt = 6 ∨ (0 ≤ p3.toInt ∧ p3.toInt < (σ.1 1).toInt)))) ∧ (3 : Int32).toInt = 1 ∧ (σ15_344.1 1).toInt = (σ.1 1).toInt) ∨ (¬ (¬ (0 ≤ p2.toInt ∧ p2.toInt < (σ.1 1).toInt ∧ (p1.toInt = 5 ∨ p1.toInt = 6 ∨ (0 ≤ p3.toInt ∧ p3.toInt < (σ.1 1).toInt)))) ∧ ((σ.1 1).toInt = 200) ∧ (3 : Int32).toInt = 2 ∧ (σ15_344.1 1).toInt = (σ.1 1).toInt) ∨ (¬ (¬ (0 ≤ p2.toInt ∧ p2.toInt < (σ.1 1).toInt ∧ (p1.toInt = 5 ∨ p1.toInt = 6 ∨ (0 ≤ p3.toInt ∧ p3.toInt < (σ.1 1).toInt)))) ∧ ¬ ((σ.1 1).toInt = 200) ∧ (p1.toInt < 0 ∨ 6 < p1.toInt) ∧ (3 : Int32).toInt = 3 ∧ (σ15_344.1 1).toInt = (σ.1 1).toInt) ∨ (¬ (¬ (0 ≤ p2.toInt ∧ p2.toInt < (σ.1 1).toInt ∧ (p1.toInt = 5 ∨ p1.toInt = 6 ∨ (0 ≤ p3.toInt ∧ p3.toInt < (σ.1 1).toInt)))) ∧ ¬ ((σ.1 1).toInt = 200) ∧ ¬ (p1.toInt < 0 ∨ 6 < p1.toInt) ∧ (3 : Int32).toInt = 0 ∧ (σ15_344.1 1).toInt = (σ.1 1).toInt + 1 ∧ (σ15_344.2.2 39 (0 : Int32).toNatClampNeg).toInt = (σ.1 1).toInt) := by omega
                have w_353 : fd_H (((¬ (3 : Int32).toInt = 0 → σ15_344.2.1 12 = σ.2.1 12) ∧ ((3 : Int32).toInt = 0 → ∃ j w : Int32, (j.toInt = (σ.1 1).toInt ∧ w.toInt = p1.toInt) ∧ σ15_344.2.1 12 = upd (σ.2.1 12) j.toNatClampNeg w))) := fd_hd (⟨fun _ => y_348, fun h => absurd h (by omega)⟩)
                have w_354 : fd_H (((¬ (3 : Int32).toInt = 0 → σ15_344.2.1 13 = σ.2.1 13) ∧ ((3 : Int32).toInt = 0 → ∃ j w : Int32, (j.toInt = (σ.1 1).toInt ∧ w.toInt = p2.toInt) ∧ σ15_344.2.1 13 = upd (σ.2.1 13) j.toNatClampNeg w))) := fd_hd (⟨fun _ => y_349, fun h => absurd h (by omega)⟩)
                have w_355 : fd_H (((¬ (3 : Int32).toInt = 0 → σ15_344.2.1 14 = σ.2.1 14) ∧ ((3 : Int32).toInt = 0 → ∃ j w : Int32, (j.toInt = (σ.1 1).toInt ∧ ((p1.toInt = 5 ∨ p1.toInt = 6) → w.toInt = p2.toInt) ∧ (¬ (p1.toInt = 5 ∨ p1.toInt = 6) → w.toInt = p3.toInt)) ∧ σ15_344.2.1 14 = upd (σ.2.1 14) j.toNatClampNeg w))) := fd_hd (⟨fun _ => y_350, fun h => absurd h (by omega)⟩)
                have w_356 : fd_H ((¬ (3 : Int32).toInt = 0 → σ15_344.2.2 15 = σ.2.2 15)) := fd_hd (fun _ => y_351)
                have w_357 : fd_H (((3 : Int32).toInt = 0 → ∃ j : Int32, j.toInt = (σ.1 1).toInt ∧ σ15_344.2.2 15 = vp_updL (σ.2.2 15) j.toNatClampNeg (fd_tl (σ15_344.2.1 12 j.toNatClampNeg) (σ.2.2 15 (σ15_344.2.1 13 j.toNatClampNeg).toNatClampNeg) (σ.2.2 15 (σ15_344.2.1 14 j.toNatClampNeg).toNatClampNeg)))) := fd_hd (fun h => absurd h (by omega))
                exact fd_ok_some ⟨i_345, f_346, x_352, w_353, w_354, w_355, w_356, w_357⟩
    ·
      have d_358 : ¬ p1.toInt = (6 : Int32).toInt := fun q => c_180 (Int32.toInt_inj.mp q)
      try unfold f_X10_gate_0_J16
      refine fd_ok_bx ?_
      try unfold f_X10_needNet_0
      refine fd_ok_bd ?_
      try unfold f_X2_has_1
      refine fd_ok_ite (fun c_359 => ?_) (fun c_359 => ?_)
      ·
        have d_360 := Int32.lt_iff_toInt_lt.mp c_359
        refine fd_ok_pb ?_
        refine fd_ok_itp (by decide) ?_
        refine fd_ok_pr ?_
        refine fd_ok_pr ?_
        refine fd_ok_itp (by decide) ?_
        refine fd_ok_lt (fun σ11_361 eσ11_361 => ?_)
        have i_362 : fd_InvC σ11_361 := by subst eσ11_361; exact i0
        have f_363 : fd_fr [0, 1, 112, 113, 114, 215, 239] σ σ11_361 := fd_fr_mix eσ11_361 f0
        have t_364 : (σ11_361.1 1).toInt = (σ.1 1).toInt := by subst eσ11_361; rfl
        have y_365 := fd_ymixA (d := 12) eσ11_361 (rfl : σ.2.1 12 = _)
        have y_366 := fd_ymixA (d := 13) eσ11_361 (rfl : σ.2.1 13 = _)
        have y_367 := fd_ymixA (d := 14) eσ11_361 (rfl : σ.2.1 14 = _)
        have y_368 := fd_ymix (d := 15) eσ11_361 (by decide) (rfl : σ.2.2 15 = _)
        have x_369 : ((¬ (0 ≤ p2.toInt ∧ p2.toInt < (σ.1 1).toInt ∧ (p1.toInt = 5 ∨ p1.toInt = 6 ∨ (0 ≤ p3.toInt ∧ p3.toInt < (σ.1 1).toInt)))) ∧ (1 : Int32).toInt = 1 ∧ (σ11_361.1 1).toInt = (σ.1 1).toInt) ∨ (¬ (¬ (0 ≤ p2.toInt ∧ p2.toInt < (σ.1 1).toInt ∧ (p1.toInt = 5 ∨ p1.toInt = 6 ∨ (0 ≤ p3.toInt ∧ p3.toInt < (σ.1 1).toInt)))) ∧ ((σ.1 1).toInt = 200) ∧ (1 : Int32).toInt = 2 ∧ (σ11_361.1 1).toInt = (σ.1 1).toInt) ∨ (¬ (¬ (0 ≤ p2.toInt ∧ p2.toInt < (σ.1 1).toInt ∧ (p1.toInt = 5 ∨ p1.toInt = 6 ∨ (0 ≤ p3.toInt ∧ p3.toInt < (σ.1 1).toInt)))) ∧ ¬ ((σ.1 1).toInt = 200) ∧ (p1.toInt < 0 ∨ 6 < p1.toInt) ∧ (1 : Int32).toInt = 3 ∧ (σ11_361.1 1).toInt = (σ.1 1).toInt) ∨ (¬ (¬ (0 ≤ p2.toInt ∧ p2.toInt < (σ.1 1).toInt ∧ (p1.toInt = 5 ∨ p1.toInt = 6 ∨ (0 ≤ p3.toInt ∧ p3.toInt < (σ.1 1).toInt)))) ∧ ¬ ((σ.1 1).toInt = 200) ∧ ¬ (p1.toInt < 0 ∨ 6 < p1.toInt) ∧ (1 : Int32).toInt = 0 ∧ (σ11_361.1 1).toInt = (σ.1 1).toInt + 1 ∧ (σ11_361.2.2 39 (0 : Int32).toNatClampNeg).toInt = (σ.1 1).toInt) := by omega
        have w_370 : fd_H (((¬ (1 : Int32).toInt = 0 → σ11_361.2.1 12 = σ.2.1 12) ∧ ((1 : Int32).toInt = 0 → ∃ j w : Int32, (j.toInt = (σ.1 1).toInt ∧ w.toInt = p1.toInt) ∧ σ11_361.2.1 12 = upd (σ.2.1 12) j.toNatClampNeg w))) := fd_hd (⟨fun _ => y_365, fun h => absurd h (by omega)⟩)
        have w_371 : fd_H (((¬ (1 : Int32).toInt = 0 → σ11_361.2.1 13 = σ.2.1 13) ∧ ((1 : Int32).toInt = 0 → ∃ j w : Int32, (j.toInt = (σ.1 1).toInt ∧ w.toInt = p2.toInt) ∧ σ11_361.2.1 13 = upd (σ.2.1 13) j.toNatClampNeg w))) := fd_hd (⟨fun _ => y_366, fun h => absurd h (by omega)⟩)
        have w_372 : fd_H (((¬ (1 : Int32).toInt = 0 → σ11_361.2.1 14 = σ.2.1 14) ∧ ((1 : Int32).toInt = 0 → ∃ j w : Int32, (j.toInt = (σ.1 1).toInt ∧ ((p1.toInt = 5 ∨ p1.toInt = 6) → w.toInt = p2.toInt) ∧ (¬ (p1.toInt = 5 ∨ p1.toInt = 6) → w.toInt = p3.toInt)) ∧ σ11_361.2.1 14 = upd (σ.2.1 14) j.toNatClampNeg w))) := fd_hd (⟨fun _ => y_367, fun h => absurd h (by omega)⟩)
        have w_373 : fd_H ((¬ (1 : Int32).toInt = 0 → σ11_361.2.2 15 = σ.2.2 15)) := fd_hd (fun _ => y_368)
        have w_374 : fd_H (((1 : Int32).toInt = 0 → ∃ j : Int32, j.toInt = (σ.1 1).toInt ∧ σ11_361.2.2 15 = vp_updL (σ.2.2 15) j.toNatClampNeg (fd_tl (σ11_361.2.1 12 j.toNatClampNeg) (σ.2.2 15 (σ11_361.2.1 13 j.toNatClampNeg).toNatClampNeg) (σ.2.2 15 (σ11_361.2.1 14 j.toNatClampNeg).toNatClampNeg)))) := fd_hd (fun h => absurd h (by omega))
        exact fd_ok_some ⟨i_362, f_363, x_369, w_370, w_371, w_372, w_373, w_374⟩
      ·
        have d_375 := Int32.le_iff_toInt_le.mp (Int32.not_lt.mp c_359)
        have r_376 : (0 : Int) ≤ (σ.1 1).toInt ∧ (σ.1 1).toInt ≤ 200 := i0.1 1
        refine fd_ok_ite (fun c_377 => ?_) (fun c_377 => ?_)
        ·
          have d_378 := Int32.le_iff_toInt_le.mp c_377
          refine fd_ok_pb ?_
          refine fd_ok_itp (by decide) ?_
          refine fd_ok_pr ?_
          refine fd_ok_pr ?_
          refine fd_ok_itp (by decide) ?_
          refine fd_ok_lt (fun σ11_379 eσ11_379 => ?_)
          have i_380 : fd_InvC σ11_379 := by subst eσ11_379; exact i0
          have f_381 : fd_fr [0, 1, 112, 113, 114, 215, 239] σ σ11_379 := fd_fr_mix eσ11_379 f0
          have t_382 : (σ11_379.1 1).toInt = (σ.1 1).toInt := by subst eσ11_379; rfl
          have y_383 := fd_ymixA (d := 12) eσ11_379 (rfl : σ.2.1 12 = _)
          have y_384 := fd_ymixA (d := 13) eσ11_379 (rfl : σ.2.1 13 = _)
          have y_385 := fd_ymixA (d := 14) eσ11_379 (rfl : σ.2.1 14 = _)
          have y_386 := fd_ymix (d := 15) eσ11_379 (by decide) (rfl : σ.2.2 15 = _)
          have x_387 : ((¬ (0 ≤ p2.toInt ∧ p2.toInt < (σ.1 1).toInt ∧ (p1.toInt = 5 ∨ p1.toInt = 6 ∨ (0 ≤ p3.toInt ∧ p3.toInt < (σ.1 1).toInt)))) ∧ (1 : Int32).toInt = 1 ∧ (σ11_379.1 1).toInt = (σ.1 1).toInt) ∨ (¬ (¬ (0 ≤ p2.toInt ∧ p2.toInt < (σ.1 1).toInt ∧ (p1.toInt = 5 ∨ p1.toInt = 6 ∨ (0 ≤ p3.toInt ∧ p3.toInt < (σ.1 1).toInt)))) ∧ ((σ.1 1).toInt = 200) ∧ (1 : Int32).toInt = 2 ∧ (σ11_379.1 1).toInt = (σ.1 1).toInt) ∨ (¬ (¬ (0 ≤ p2.toInt ∧ p2.toInt < (σ.1 1).toInt ∧ (p1.toInt = 5 ∨ p1.toInt = 6 ∨ (0 ≤ p3.toInt ∧ p3.toInt < (σ.1 1).toInt)))) ∧ ¬ ((σ.1 1).toInt = 200) ∧ (p1.toInt < 0 ∨ 6 < p1.toInt) ∧ (1 : Int32).toInt = 3 ∧ (σ11_379.1 1).toInt = (σ.1 1).toInt) ∨ (¬ (¬ (0 ≤ p2.toInt ∧ p2.toInt < (σ.1 1).toInt ∧ (p1.toInt = 5 ∨ p1.toInt = 6 ∨ (0 ≤ p3.toInt ∧ p3.toInt < (σ.1 1).toInt)))) ∧ ¬ ((σ.1 1).toInt = 200) ∧ ¬ (p1.toInt < 0 ∨ 6 < p1.toInt) ∧ (1 : Int32).toInt = 0 ∧ (σ11_379.1 1).toInt = (σ.1 1).toInt + 1 ∧ (σ11_379.2.2 39 (0 : Int32).toNatClampNeg).toInt = (σ.1 1).toInt) := by omega
          have w_388 : fd_H (((¬ (1 : Int32).toInt = 0 → σ11_379.2.1 12 = σ.2.1 12) ∧ ((1 : Int32).toInt = 0 → ∃ j w : Int32, (j.toInt = (σ.1 1).toInt ∧ w.toInt = p1.toInt) ∧ σ11_379.2.1 12 = upd (σ.2.1 12) j.toNatClampNeg w))) := fd_hd (⟨fun _ => y_383, fun h => absurd h (by omega)⟩)
          have w_389 : fd_H (((¬ (1 : Int32).toInt = 0 → σ11_379.2.1 13 = σ.2.1 13) ∧ ((1 : Int32).toInt = 0 → ∃ j w : Int32, (j.toInt = (σ.1 1).toInt ∧ w.toInt = p2.toInt) ∧ σ11_379.2.1 13 = upd (σ.2.1 13) j.toNatClampNeg w))) := fd_hd (⟨fun _ => y_384, fun h => absurd h (by omega)⟩)
          have w_390 : fd_H (((¬ (1 : Int32).toInt = 0 → σ11_379.2.1 14 = σ.2.1 14) ∧ ((1 : Int32).toInt = 0 → ∃ j w : Int32, (j.toInt = (σ.1 1).toInt ∧ ((p1.toInt = 5 ∨ p1.toInt = 6) → w.toInt = p2.toInt) ∧ (¬ (p1.toInt = 5 ∨ p1.toInt = 6) → w.toInt = p3.toInt)) ∧ σ11_379.2.1 14 = upd (σ.2.1 14) j.toNatClampNeg w))) := fd_hd (⟨fun _ => y_385, fun h => absurd h (by omega)⟩)
          have w_391 : fd_H ((¬ (1 : Int32).toInt = 0 → σ11_379.2.2 15 = σ.2.2 15)) := fd_hd (fun _ => y_386)
          have w_392 : fd_H (((1 : Int32).toInt = 0 → ∃ j : Int32, j.toInt = (σ.1 1).toInt ∧ σ11_379.2.2 15 = vp_updL (σ.2.2 15) j.toNatClampNeg (fd_tl (σ11_379.2.1 12 j.toNatClampNeg) (σ.2.2 15 (σ11_379.2.1 13 j.toNatClampNeg).toNatClampNeg) (σ.2.2 15 (σ11_379.2.1 14 j.toNatClampNeg).toNatClampNeg)))) := fd_hd (fun h => absurd h (by omega))
          exact fd_ok_some ⟨i_380, f_381, x_387, w_388, w_389, w_390, w_391, w_392⟩
        ·
          have d_393 := Int32.lt_iff_toInt_lt.mp (Int32.not_le.mp c_377)
          refine fd_ok_pb ?_
          refine fd_ok_itn (by decide) ?_
          refine fd_ok_pl ?_
          refine fd_ok_itn (by decide) ?_
          refine fd_ok_bx ?_
          try unfold f_X10_needNet_0
          refine fd_ok_bd ?_
          try unfold f_X2_has_1
          refine fd_ok_ite (fun c_394 => ?_) (fun c_394 => ?_)
          ·
            have d_395 := Int32.lt_iff_toInt_lt.mp c_394
            refine fd_ok_pb ?_
            refine fd_ok_itp (by decide) ?_
            refine fd_ok_pr ?_
            refine fd_ok_pr ?_
            refine fd_ok_itp (by decide) ?_
            refine fd_ok_lt (fun σ11_396 eσ11_396 => ?_)
            have i_397 : fd_InvC σ11_396 := by subst eσ11_396; exact i0
            have f_398 : fd_fr [0, 1, 112, 113, 114, 215, 239] σ σ11_396 := fd_fr_mix eσ11_396 f0
            have t_399 : (σ11_396.1 1).toInt = (σ.1 1).toInt := by subst eσ11_396; rfl
            have y_400 := fd_ymixA (d := 12) eσ11_396 (rfl : σ.2.1 12 = _)
            have y_401 := fd_ymixA (d := 13) eσ11_396 (rfl : σ.2.1 13 = _)
            have y_402 := fd_ymixA (d := 14) eσ11_396 (rfl : σ.2.1 14 = _)
            have y_403 := fd_ymix (d := 15) eσ11_396 (by decide) (rfl : σ.2.2 15 = _)
            have x_404 : ((¬ (0 ≤ p2.toInt ∧ p2.toInt < (σ.1 1).toInt ∧ (p1.toInt = 5 ∨ p1.toInt = 6 ∨ (0 ≤ p3.toInt ∧ p3.toInt < (σ.1 1).toInt)))) ∧ (1 : Int32).toInt = 1 ∧ (σ11_396.1 1).toInt = (σ.1 1).toInt) ∨ (¬ (¬ (0 ≤ p2.toInt ∧ p2.toInt < (σ.1 1).toInt ∧ (p1.toInt = 5 ∨ p1.toInt = 6 ∨ (0 ≤ p3.toInt ∧ p3.toInt < (σ.1 1).toInt)))) ∧ ((σ.1 1).toInt = 200) ∧ (1 : Int32).toInt = 2 ∧ (σ11_396.1 1).toInt = (σ.1 1).toInt) ∨ (¬ (¬ (0 ≤ p2.toInt ∧ p2.toInt < (σ.1 1).toInt ∧ (p1.toInt = 5 ∨ p1.toInt = 6 ∨ (0 ≤ p3.toInt ∧ p3.toInt < (σ.1 1).toInt)))) ∧ ¬ ((σ.1 1).toInt = 200) ∧ (p1.toInt < 0 ∨ 6 < p1.toInt) ∧ (1 : Int32).toInt = 3 ∧ (σ11_396.1 1).toInt = (σ.1 1).toInt) ∨ (¬ (¬ (0 ≤ p2.toInt ∧ p2.toInt < (σ.1 1).toInt ∧ (p1.toInt = 5 ∨ p1.toInt = 6 ∨ (0 ≤ p3.toInt ∧ p3.toInt < (σ.1 1).toInt)))) ∧ ¬ ((σ.1 1).toInt = 200) ∧ ¬ (p1.toInt < 0 ∨ 6 < p1.toInt) ∧ (1 : Int32).toInt = 0 ∧ (σ11_396.1 1).toInt = (σ.1 1).toInt + 1 ∧ (σ11_396.2.2 39 (0 : Int32).toNatClampNeg).toInt = (σ.1 1).toInt) := by omega
            have w_405 : fd_H (((¬ (1 : Int32).toInt = 0 → σ11_396.2.1 12 = σ.2.1 12) ∧ ((1 : Int32).toInt = 0 → ∃ j w : Int32, (j.toInt = (σ.1 1).toInt ∧ w.toInt = p1.toInt) ∧ σ11_396.2.1 12 = upd (σ.2.1 12) j.toNatClampNeg w))) := fd_hd (⟨fun _ => y_400, fun h => absurd h (by omega)⟩)
            have w_406 : fd_H (((¬ (1 : Int32).toInt = 0 → σ11_396.2.1 13 = σ.2.1 13) ∧ ((1 : Int32).toInt = 0 → ∃ j w : Int32, (j.toInt = (σ.1 1).toInt ∧ w.toInt = p2.toInt) ∧ σ11_396.2.1 13 = upd (σ.2.1 13) j.toNatClampNeg w))) := fd_hd (⟨fun _ => y_401, fun h => absurd h (by omega)⟩)
            have w_407 : fd_H (((¬ (1 : Int32).toInt = 0 → σ11_396.2.1 14 = σ.2.1 14) ∧ ((1 : Int32).toInt = 0 → ∃ j w : Int32, (j.toInt = (σ.1 1).toInt ∧ ((p1.toInt = 5 ∨ p1.toInt = 6) → w.toInt = p2.toInt) ∧ (¬ (p1.toInt = 5 ∨ p1.toInt = 6) → w.toInt = p3.toInt)) ∧ σ11_396.2.1 14 = upd (σ.2.1 14) j.toNatClampNeg w))) := fd_hd (⟨fun _ => y_402, fun h => absurd h (by omega)⟩)
            have w_408 : fd_H ((¬ (1 : Int32).toInt = 0 → σ11_396.2.2 15 = σ.2.2 15)) := fd_hd (fun _ => y_403)
            have w_409 : fd_H (((1 : Int32).toInt = 0 → ∃ j : Int32, j.toInt = (σ.1 1).toInt ∧ σ11_396.2.2 15 = vp_updL (σ.2.2 15) j.toNatClampNeg (fd_tl (σ11_396.2.1 12 j.toNatClampNeg) (σ.2.2 15 (σ11_396.2.1 13 j.toNatClampNeg).toNatClampNeg) (σ.2.2 15 (σ11_396.2.1 14 j.toNatClampNeg).toNatClampNeg)))) := fd_hd (fun h => absurd h (by omega))
            exact fd_ok_some ⟨i_397, f_398, x_404, w_405, w_406, w_407, w_408, w_409⟩
          ·
            have d_410 := Int32.le_iff_toInt_le.mp (Int32.not_lt.mp c_394)
            refine fd_ok_ite (fun c_411 => ?_) (fun c_411 => ?_)
            ·
              have d_412 := Int32.le_iff_toInt_le.mp c_411
              refine fd_ok_pb ?_
              refine fd_ok_itp (by decide) ?_
              refine fd_ok_pr ?_
              refine fd_ok_pr ?_
              refine fd_ok_itp (by decide) ?_
              refine fd_ok_lt (fun σ11_413 eσ11_413 => ?_)
              have i_414 : fd_InvC σ11_413 := by subst eσ11_413; exact i0
              have f_415 : fd_fr [0, 1, 112, 113, 114, 215, 239] σ σ11_413 := fd_fr_mix eσ11_413 f0
              have t_416 : (σ11_413.1 1).toInt = (σ.1 1).toInt := by subst eσ11_413; rfl
              have y_417 := fd_ymixA (d := 12) eσ11_413 (rfl : σ.2.1 12 = _)
              have y_418 := fd_ymixA (d := 13) eσ11_413 (rfl : σ.2.1 13 = _)
              have y_419 := fd_ymixA (d := 14) eσ11_413 (rfl : σ.2.1 14 = _)
              have y_420 := fd_ymix (d := 15) eσ11_413 (by decide) (rfl : σ.2.2 15 = _)
              have x_421 : ((¬ (0 ≤ p2.toInt ∧ p2.toInt < (σ.1 1).toInt ∧ (p1.toInt = 5 ∨ p1.toInt = 6 ∨ (0 ≤ p3.toInt ∧ p3.toInt < (σ.1 1).toInt)))) ∧ (1 : Int32).toInt = 1 ∧ (σ11_413.1 1).toInt = (σ.1 1).toInt) ∨ (¬ (¬ (0 ≤ p2.toInt ∧ p2.toInt < (σ.1 1).toInt ∧ (p1.toInt = 5 ∨ p1.toInt = 6 ∨ (0 ≤ p3.toInt ∧ p3.toInt < (σ.1 1).toInt)))) ∧ ((σ.1 1).toInt = 200) ∧ (1 : Int32).toInt = 2 ∧ (σ11_413.1 1).toInt = (σ.1 1).toInt) ∨ (¬ (¬ (0 ≤ p2.toInt ∧ p2.toInt < (σ.1 1).toInt ∧ (p1.toInt = 5 ∨ p1.toInt = 6 ∨ (0 ≤ p3.toInt ∧ p3.toInt < (σ.1 1).toInt)))) ∧ ¬ ((σ.1 1).toInt = 200) ∧ (p1.toInt < 0 ∨ 6 < p1.toInt) ∧ (1 : Int32).toInt = 3 ∧ (σ11_413.1 1).toInt = (σ.1 1).toInt) ∨ (¬ (¬ (0 ≤ p2.toInt ∧ p2.toInt < (σ.1 1).toInt ∧ (p1.toInt = 5 ∨ p1.toInt = 6 ∨ (0 ≤ p3.toInt ∧ p3.toInt < (σ.1 1).toInt)))) ∧ ¬ ((σ.1 1).toInt = 200) ∧ ¬ (p1.toInt < 0 ∨ 6 < p1.toInt) ∧ (1 : Int32).toInt = 0 ∧ (σ11_413.1 1).toInt = (σ.1 1).toInt + 1 ∧ (σ11_413.2.2 39 (0 : Int32).toNatClampNeg).toInt = (σ.1 1).toInt) := by omega
              have w_422 : fd_H (((¬ (1 : Int32).toInt = 0 → σ11_413.2.1 12 = σ.2.1 12) ∧ ((1 : Int32).toInt = 0 → ∃ j w : Int32, (j.toInt = (σ.1 1).toInt ∧ w.toInt = p1.toInt) ∧ σ11_413.2.1 12 = upd (σ.2.1 12) j.toNatClampNeg w))) := fd_hd (⟨fun _ => y_417, fun h => absurd h (by omega)⟩)
              have w_423 : fd_H (((¬ (1 : Int32).toInt = 0 → σ11_413.2.1 13 = σ.2.1 13) ∧ ((1 : Int32).toInt = 0 → ∃ j w : Int32, (j.toInt = (σ.1 1).toInt ∧ w.toInt = p2.toInt) ∧ σ11_413.2.1 13 = upd (σ.2.1 13) j.toNatClampNeg w))) := fd_hd (⟨fun _ => y_418, fun h => absurd h (by omega)⟩)
              have w_424 : fd_H (((¬ (1 : Int32).toInt = 0 → σ11_413.2.1 14 = σ.2.1 14) ∧ ((1 : Int32).toInt = 0 → ∃ j w : Int32, (j.toInt = (σ.1 1).toInt ∧ ((p1.toInt = 5 ∨ p1.toInt = 6) → w.toInt = p2.toInt) ∧ (¬ (p1.toInt = 5 ∨ p1.toInt = 6) → w.toInt = p3.toInt)) ∧ σ11_413.2.1 14 = upd (σ.2.1 14) j.toNatClampNeg w))) := fd_hd (⟨fun _ => y_419, fun h => absurd h (by omega)⟩)
              have w_425 : fd_H ((¬ (1 : Int32).toInt = 0 → σ11_413.2.2 15 = σ.2.2 15)) := fd_hd (fun _ => y_420)
              have w_426 : fd_H (((1 : Int32).toInt = 0 → ∃ j : Int32, j.toInt = (σ.1 1).toInt ∧ σ11_413.2.2 15 = vp_updL (σ.2.2 15) j.toNatClampNeg (fd_tl (σ11_413.2.1 12 j.toNatClampNeg) (σ.2.2 15 (σ11_413.2.1 13 j.toNatClampNeg).toNatClampNeg) (σ.2.2 15 (σ11_413.2.1 14 j.toNatClampNeg).toNatClampNeg)))) := fd_hd (fun h => absurd h (by omega))
              exact fd_ok_some ⟨i_414, f_415, x_421, w_422, w_423, w_424, w_425, w_426⟩
            ·
              have d_427 := Int32.lt_iff_toInt_lt.mp (Int32.not_le.mp c_411)
              refine fd_ok_pb ?_
              refine fd_ok_itn (by decide) ?_
              refine fd_ok_pl ?_
              try unfold f_X10_gate_0_J33
              refine fd_ok_bd ?_
              try unfold f_X2_nets_1
              refine fd_ok_pb ?_
              refine fd_ok_ite (fun c_428 => ?_) (fun c_428 => ?_)
              ·
                have d_429 := congrArg Int32.toInt c_428
                refine fd_ok_pr ?_
                refine fd_ok_itn (by decide) ?_
                refine fd_ok_itp (by decide) ?_
                refine fd_ok_lt (fun σ13_430 eσ13_430 => ?_)
                have i_431 : fd_InvC σ13_430 := by subst eσ13_430; exact i0
                have f_432 : fd_fr [0, 1, 112, 113, 114, 215, 239] σ σ13_430 := fd_fr_mix eσ13_430 f0
                have t_433 : (σ13_430.1 1).toInt = (σ.1 1).toInt := by subst eσ13_430; rfl
                have y_434 := fd_ymixA (d := 12) eσ13_430 (rfl : σ.2.1 12 = _)
                have y_435 := fd_ymixA (d := 13) eσ13_430 (rfl : σ.2.1 13 = _)
                have y_436 := fd_ymixA (d := 14) eσ13_430 (rfl : σ.2.1 14 = _)
                have y_437 := fd_ymix (d := 15) eσ13_430 (by decide) (rfl : σ.2.2 15 = _)
                have x_438 : ((¬ (0 ≤ p2.toInt ∧ p2.toInt < (σ.1 1).toInt ∧ (p1.toInt = 5 ∨ p1.toInt = 6 ∨ (0 ≤ p3.toInt ∧ p3.toInt < (σ.1 1).toInt)))) ∧ (2 : Int32).toInt = 1 ∧ (σ13_430.1 1).toInt = (σ.1 1).toInt) ∨ (¬ (¬ (0 ≤ p2.toInt ∧ p2.toInt < (σ.1 1).toInt ∧ (p1.toInt = 5 ∨ p1.toInt = 6 ∨ (0 ≤ p3.toInt ∧ p3.toInt < (σ.1 1).toInt)))) ∧ ((σ.1 1).toInt = 200) ∧ (2 : Int32).toInt = 2 ∧ (σ13_430.1 1).toInt = (σ.1 1).toInt) ∨ (¬ (¬ (0 ≤ p2.toInt ∧ p2.toInt < (σ.1 1).toInt ∧ (p1.toInt = 5 ∨ p1.toInt = 6 ∨ (0 ≤ p3.toInt ∧ p3.toInt < (σ.1 1).toInt)))) ∧ ¬ ((σ.1 1).toInt = 200) ∧ (p1.toInt < 0 ∨ 6 < p1.toInt) ∧ (2 : Int32).toInt = 3 ∧ (σ13_430.1 1).toInt = (σ.1 1).toInt) ∨ (¬ (¬ (0 ≤ p2.toInt ∧ p2.toInt < (σ.1 1).toInt ∧ (p1.toInt = 5 ∨ p1.toInt = 6 ∨ (0 ≤ p3.toInt ∧ p3.toInt < (σ.1 1).toInt)))) ∧ ¬ ((σ.1 1).toInt = 200) ∧ ¬ (p1.toInt < 0 ∨ 6 < p1.toInt) ∧ (2 : Int32).toInt = 0 ∧ (σ13_430.1 1).toInt = (σ.1 1).toInt + 1 ∧ (σ13_430.2.2 39 (0 : Int32).toNatClampNeg).toInt = (σ.1 1).toInt) := by omega
                have w_439 : fd_H (((¬ (2 : Int32).toInt = 0 → σ13_430.2.1 12 = σ.2.1 12) ∧ ((2 : Int32).toInt = 0 → ∃ j w : Int32, (j.toInt = (σ.1 1).toInt ∧ w.toInt = p1.toInt) ∧ σ13_430.2.1 12 = upd (σ.2.1 12) j.toNatClampNeg w))) := fd_hd (⟨fun _ => y_434, fun h => absurd h (by omega)⟩)
                have w_440 : fd_H (((¬ (2 : Int32).toInt = 0 → σ13_430.2.1 13 = σ.2.1 13) ∧ ((2 : Int32).toInt = 0 → ∃ j w : Int32, (j.toInt = (σ.1 1).toInt ∧ w.toInt = p2.toInt) ∧ σ13_430.2.1 13 = upd (σ.2.1 13) j.toNatClampNeg w))) := fd_hd (⟨fun _ => y_435, fun h => absurd h (by omega)⟩)
                have w_441 : fd_H (((¬ (2 : Int32).toInt = 0 → σ13_430.2.1 14 = σ.2.1 14) ∧ ((2 : Int32).toInt = 0 → ∃ j w : Int32, (j.toInt = (σ.1 1).toInt ∧ ((p1.toInt = 5 ∨ p1.toInt = 6) → w.toInt = p2.toInt) ∧ (¬ (p1.toInt = 5 ∨ p1.toInt = 6) → w.toInt = p3.toInt)) ∧ σ13_430.2.1 14 = upd (σ.2.1 14) j.toNatClampNeg w))) := fd_hd (⟨fun _ => y_436, fun h => absurd h (by omega)⟩)
                have w_442 : fd_H ((¬ (2 : Int32).toInt = 0 → σ13_430.2.2 15 = σ.2.2 15)) := fd_hd (fun _ => y_437)
                have w_443 : fd_H (((2 : Int32).toInt = 0 → ∃ j : Int32, j.toInt = (σ.1 1).toInt ∧ σ13_430.2.2 15 = vp_updL (σ.2.2 15) j.toNatClampNeg (fd_tl (σ13_430.2.1 12 j.toNatClampNeg) (σ.2.2 15 (σ13_430.2.1 13 j.toNatClampNeg).toNatClampNeg) (σ.2.2 15 (σ13_430.2.1 14 j.toNatClampNeg).toNatClampNeg)))) := fd_hd (fun h => absurd h (by omega))
                exact fd_ok_some ⟨i_431, f_432, x_438, w_439, w_440, w_441, w_442, w_443⟩
              ·
                have d_444 : ¬ (σ.1 1).toInt = (200 : Int32).toInt := fun q => c_428 (Int32.toInt_inj.mp q)
                refine fd_ok_ite (fun c_445 => ?_) (fun c_445 => ?_)
                ·
                  have d_446 := Int32.lt_iff_toInt_lt.mp c_445
                  try unfold f_X10_gate_0_J66
                  refine fd_ok_pr ?_
                  refine fd_ok_itn (by decide) ?_
                  refine fd_ok_itn (by decide) ?_
                  refine fd_ok_itp (by decide) ?_
                  refine fd_ok_lt (fun σ15_447 eσ15_447 => ?_)
                  have i_448 : fd_InvC σ15_447 := by subst eσ15_447; exact i0
                  have f_449 : fd_fr [0, 1, 112, 113, 114, 215, 239] σ σ15_447 := fd_fr_mix eσ15_447 f0
                  have t_450 : (σ15_447.1 1).toInt = (σ.1 1).toInt := by subst eσ15_447; rfl
                  have y_451 := fd_ymixA (d := 12) eσ15_447 (rfl : σ.2.1 12 = _)
                  have y_452 := fd_ymixA (d := 13) eσ15_447 (rfl : σ.2.1 13 = _)
                  have y_453 := fd_ymixA (d := 14) eσ15_447 (rfl : σ.2.1 14 = _)
                  have y_454 := fd_ymix (d := 15) eσ15_447 (by decide) (rfl : σ.2.2 15 = _)
                  have x_455 : ((¬ (0 ≤ p2.toInt ∧ p2.toInt < (σ.1 1).toInt ∧ (p1.toInt = 5 ∨ p1.toInt = 6 ∨ (0 ≤ p3.toInt ∧ p3.toInt < (σ.1 1).toInt)))) ∧ (3 : Int32).toInt = 1 ∧ (σ15_447.1 1).toInt = (σ.1 1).toInt) ∨ (¬ (¬ (0 ≤ p2.toInt ∧ p2.toInt < (σ.1 1).toInt ∧ (p1.toInt = 5 ∨ p1.toInt = 6 ∨ (0 ≤ p3.toInt ∧ p3.toInt < (σ.1 1).toInt)))) ∧ ((σ.1 1).toInt = 200) ∧ (3 : Int32).toInt = 2 ∧ (σ15_447.1 1).toInt = (σ.1 1).toInt) ∨ (¬ (¬ (0 ≤ p2.toInt ∧ p2.toInt < (σ.1 1).toInt ∧ (p1.toInt = 5 ∨ p1.toInt = 6 ∨ (0 ≤ p3.toInt ∧ p3.toInt < (σ.1 1).toInt)))) ∧ ¬ ((σ.1 1).toInt = 200) ∧ (p1.toInt < 0 ∨ 6 < p1.toInt) ∧ (3 : Int32).toInt = 3 ∧ (σ15_447.1 1).toInt = (σ.1 1).toInt) ∨ (¬ (¬ (0 ≤ p2.toInt ∧ p2.toInt < (σ.1 1).toInt ∧ (p1.toInt = 5 ∨ p1.toInt = 6 ∨ (0 ≤ p3.toInt ∧ p3.toInt < (σ.1 1).toInt)))) ∧ ¬ ((σ.1 1).toInt = 200) ∧ ¬ (p1.toInt < 0 ∨ 6 < p1.toInt) ∧ (3 : Int32).toInt = 0 ∧ (σ15_447.1 1).toInt = (σ.1 1).toInt + 1 ∧ (σ15_447.2.2 39 (0 : Int32).toNatClampNeg).toInt = (σ.1 1).toInt) := by omega
                  have w_456 : fd_H (((¬ (3 : Int32).toInt = 0 → σ15_447.2.1 12 = σ.2.1 12) ∧ ((3 : Int32).toInt = 0 → ∃ j w : Int32, (j.toInt = (σ.1 1).toInt ∧ w.toInt = p1.toInt) ∧ σ15_447.2.1 12 = upd (σ.2.1 12) j.toNatClampNeg w))) := fd_hd (⟨fun _ => y_451, fun h => absurd h (by omega)⟩)
                  have w_457 : fd_H (((¬ (3 : Int32).toInt = 0 → σ15_447.2.1 13 = σ.2.1 13) ∧ ((3 : Int32).toInt = 0 → ∃ j w : Int32, (j.toInt = (σ.1 1).toInt ∧ w.toInt = p2.toInt) ∧ σ15_447.2.1 13 = upd (σ.2.1 13) j.toNatClampNeg w))) := fd_hd (⟨fun _ => y_452, fun h => absurd h (by omega)⟩)
                  have w_458 : fd_H (((¬ (3 : Int32).toInt = 0 → σ15_447.2.1 14 = σ.2.1 14) ∧ ((3 : Int32).toInt = 0 → ∃ j w : Int32, (j.toInt = (σ.1 1).toInt ∧ ((p1.toInt = 5 ∨ p1.toInt = 6) → w.toInt = p2.toInt) ∧ (¬ (p1.toInt = 5 ∨ p1.toInt = 6) → w.toInt = p3.toInt)) ∧ σ15_447.2.1 14 = upd (σ.2.1 14) j.toNatClampNeg w))) := fd_hd (⟨fun _ => y_453, fun h => absurd h (by omega)⟩)
                  have w_459 : fd_H ((¬ (3 : Int32).toInt = 0 → σ15_447.2.2 15 = σ.2.2 15)) := fd_hd (fun _ => y_454)
                  have w_460 : fd_H (((3 : Int32).toInt = 0 → ∃ j : Int32, j.toInt = (σ.1 1).toInt ∧ σ15_447.2.2 15 = vp_updL (σ.2.2 15) j.toNatClampNeg (fd_tl (σ15_447.2.1 12 j.toNatClampNeg) (σ.2.2 15 (σ15_447.2.1 13 j.toNatClampNeg).toNatClampNeg) (σ.2.2 15 (σ15_447.2.1 14 j.toNatClampNeg).toNatClampNeg)))) := fd_hd (fun h => absurd h (by omega))
                  exact fd_ok_some ⟨i_448, f_449, x_455, w_456, w_457, w_458, w_459, w_460⟩
                ·
                  have d_461 := Int32.le_iff_toInt_le.mp (Int32.not_lt.mp c_445)
                  refine fd_ok_ite (fun c_462 => ?_) (fun c_462 => ?_)
                  ·
                    have d_463 := Int32.le_iff_toInt_le.mp c_462
                    refine fd_ok_lt (fun σ18_464 eσ18_464 => ?_)
                    have i_465 : fd_InvC σ18_464 := fd_inv_sI eσ18_464 i0 ⟨(by omega : (0 : Int) ≤ (0 : Int32).toInt), (by omega : (0 : Int32).toInt ≤ 1)⟩
                    have f_466 : fd_fr [0, 1, 112, 113, 114, 215, 239] σ σ18_464 := fd_fr_tr f0 (fd_fr_sI eσ18_464 (by decide))
                    have t_467 : (σ18_464.1 1).toInt = (σ.1 1).toInt := congrArg Int32.toInt (fd_tN eσ18_464 (by decide))
                    have y_468 := fd_yIA (d := 12) eσ18_464 (rfl : σ.2.1 12 = _)
                    have y_469 := fd_yIA (d := 13) eσ18_464 (rfl : σ.2.1 13 = _)
                    have y_470 := fd_yIA (d := 14) eσ18_464 (rfl : σ.2.1 14 = _)
                    have y_471 := fd_yIL (d := 15) eσ18_464 (rfl : σ.2.2 15 = _)
                    refine fd_ok_itn (by decide) ?_
                    try unfold f_X10_gate_0_J97
                    refine fd_ok_bd ?_
                    try unfold f_X2_addGate_1
                    have r_472 : (0 : Int) ≤ (σ18_464.1 1).toInt ∧ (σ18_464.1 1).toInt ≤ 200 := i_465.1 1
                    refine fd_ok_gd (vp_in_iff.mpr ⟨by omega, by omega⟩) ?_
                    refine fd_ok_lt (fun σ2_473 eσ2_473 => ?_)
                    have i_474 : fd_InvC σ2_473 := fd_inv_sA eσ2_473 i_465 (by decide) (by decide) (fd_rng _)
                    have f_475 : fd_fr [0, 1, 112, 113, 114, 215, 239] σ σ2_473 := fd_fr_tr f_466 (fd_fr_sA eσ2_473 (by decide))
                    have t_476 : (σ2_473.1 1).toInt = (σ18_464.1 1).toInt := by subst eσ2_473; rfl
                    have y_477 := fd_yA eσ2_473 y_468
                    have y_478 := fd_yAn (d := 13) eσ2_473 (by decide) y_469
                    have y_479 := fd_yAn (d := 14) eσ2_473 (by decide) y_470
                    have y_480 := fd_yAL (d := 15) eσ2_473 y_471
                    have r_481 : (0 : Int) ≤ (σ2_473.1 1).toInt ∧ (σ2_473.1 1).toInt ≤ 200 := i_474.1 1
                    refine fd_ok_gd (vp_in_iff.mpr ⟨by omega, by omega⟩) ?_
                    refine fd_ok_lt (fun σ4_482 eσ4_482 => ?_)
                    have i_483 : fd_InvC σ4_482 := fd_inv_sA eσ4_482 i_474 (by decide) (by decide) ⟨(by omega : (0 : Int) ≤ p2.toInt), (by omega : p2.toInt ≤ 199)⟩
                    have f_484 : fd_fr [0, 1, 112, 113, 114, 215, 239] σ σ4_482 := fd_fr_tr f_475 (fd_fr_sA eσ4_482 (by decide))
                    have t_485 : (σ4_482.1 1).toInt = (σ2_473.1 1).toInt := by subst eσ4_482; rfl
                    have y_486 := fd_yAn (d := 12) eσ4_482 (by decide) y_477
                    have y_487 := fd_yA eσ4_482 y_478
                    have y_488 := fd_yAn (d := 14) eσ4_482 (by decide) y_479
                    have y_489 := fd_yAL (d := 15) eσ4_482 y_480
                    have r_490 : (0 : Int) ≤ (σ4_482.1 1).toInt ∧ (σ4_482.1 1).toInt ≤ 200 := i_483.1 1
                    refine fd_ok_gd (vp_in_iff.mpr ⟨by omega, by omega⟩) ?_
                    refine fd_ok_lt (fun σ6_491 eσ6_491 => ?_)
                    have i_492 : fd_InvC σ6_491 := fd_inv_sA eσ6_491 i_483 (by decide) (by decide) ⟨(by omega : (0 : Int) ≤ p3.toInt), (by omega : p3.toInt ≤ 199)⟩
                    have f_493 : fd_fr [0, 1, 112, 113, 114, 215, 239] σ σ6_491 := fd_fr_tr f_484 (fd_fr_sA eσ6_491 (by decide))
                    have t_494 : (σ6_491.1 1).toInt = (σ4_482.1 1).toInt := by subst eσ6_491; rfl
                    have y_495 := fd_yAn (d := 12) eσ6_491 (by decide) y_486
                    have y_496 := fd_yAn (d := 13) eσ6_491 (by decide) y_487
                    have y_497 := fd_yA eσ6_491 y_488
                    have y_498 := fd_yAL (d := 15) eσ6_491 y_489
                    refine fd_ok_bd ?_
                    have r_499 : (0 : Int) ≤ (σ6_491.1 1).toInt ∧ (σ6_491.1 1).toInt ≤ 200 := i_492.1 1
                    refine fd_ok_cl (s_X2_gateRow_1_15 N hN _ _ i_492 (by omega) (by omega)) ?_
                    rintro v_500 σ_501 ⟨i_502, g_503, x_504⟩
                    have f_505 : fd_fr [0, 1, 112, 113, 114, 215, 239] σ σ_501 := fd_fr_tr f_493 (fd_fr_mono g_503 (by decide))
                    have y_506 := (g_503.2.1 12 (by decide)).trans y_495
                    have y_507 := (g_503.2.1 13 (by decide)).trans y_496
                    have y_508 := (g_503.2.1 14 (by decide)).trans y_497
                    have y_509 := (g_503.2.2 15 (by decide)).trans y_498
                    have t_510 : (σ_501.1 1).toInt = (σ6_491.1 1).toInt := congrArg Int32.toInt (g_503.1 1 (by decide))
                    refine fd_ok_gd (vp_in_iff.mpr ⟨by omega, by omega⟩) ?_
                    refine fd_ok_lt (fun σ13_511 eσ13_511 => ?_)
                    have i_512 : fd_InvC σ13_511 := fd_inv_sL eσ13_511 i_502
                    have f_513 : fd_fr [0, 1, 112, 113, 114, 215, 239] σ σ13_511 := fd_fr_tr f_505 (fd_fr_sL eσ13_511 (by decide))
                    have t_514 : (σ13_511.1 1).toInt = (σ_501.1 1).toInt := by subst eσ13_511; rfl
                    have y_515 := fd_yLA (d := 12) eσ13_511 y_506
                    have y_516 := fd_yLA (d := 13) eσ13_511 y_507
                    have y_517 := fd_yLA (d := 14) eσ13_511 y_508
                    have y_518 := fd_yL eσ13_511 y_509
                    refine fd_ok_lt (fun σ14_519 eσ14_519 => ?_)
                    have r_522 : (0 : Int) ≤ (σ13_511.1 1).toInt ∧ (σ13_511.1 1).toInt ≤ 200 := i_512.1 1
                    have u_523 := Jvm.Kit.i32_add (x := (σ13_511.1 1)) (y := (1 : Int32)) (by omega) (by omega)
                    have i_520 : fd_InvC σ14_519 := fd_inv_sI eσ14_519 i_512 ⟨(by omega : (0 : Int) ≤ ((σ13_511.1 1) + (1 : Int32)).toInt), (by omega : ((σ13_511.1 1) + (1 : Int32)).toInt ≤ 200)⟩
                    have f_521 : fd_fr [0, 1, 112, 113, 114, 215, 239] σ σ14_519 := fd_fr_tr f_513 (fd_fr_sI eσ14_519 (by decide))
                    have t_524 : (σ14_519.1 1).toInt = ((σ13_511.1 1) + (1 : Int32)).toInt := congrArg Int32.toInt (fd_tI eσ14_519)
                    have y_525 := fd_yIA (d := 12) eσ14_519 y_515
                    have y_526 := fd_yIA (d := 13) eσ14_519 y_516
                    have y_527 := fd_yIA (d := 14) eσ14_519 y_517
                    have y_528 := fd_yIL (d := 15) eσ14_519 y_518
                    refine fd_ok_pb ?_
                    refine fd_ok_pl ?_
                    refine fd_ok_lt (fun σ6_529 eσ6_529 => ?_)
                    have i_530 : fd_InvC σ6_529 := by subst eσ6_529; exact i_520
                    have f_531 : fd_fr [0, 1, 112, 113, 114, 215, 239] σ σ6_529 := fd_fr_mix eσ6_529 f_521
                    have t_532 : (σ6_529.1 1).toInt = (σ14_519.1 1).toInt := by subst eσ6_529; rfl
                    have y_533 := fd_ymixA (d := 12) eσ6_529 y_525
                    have y_534 := fd_ymixA (d := 13) eσ6_529 y_526
                    have y_535 := fd_ymixA (d := 14) eσ6_529 y_527
                    have y_536 := fd_ymix (d := 15) eσ6_529 (by decide) y_528
                    refine fd_ok_gd (vp_in_iff.mpr ⟨by omega, by omega⟩) ?_
                    refine fd_ok_lt (fun σ9_537 eσ9_537 => ?_)
                    have i_538 : fd_InvC σ9_537 := fd_inv_sL eσ9_537 i_530
                    have f_539 : fd_fr [0, 1, 112, 113, 114, 215, 239] σ σ9_537 := fd_fr_tr f_531 (fd_fr_sL eσ9_537 (by decide))
                    have t_540 : (σ9_537.1 1).toInt = (σ6_529.1 1).toInt := by subst eσ9_537; rfl
                    have r_541 : (0 : Int) ≤ (σ14_519.1 1).toInt ∧ (σ14_519.1 1).toInt ≤ 200 := i_520.1 1
                    have u_542 := Jvm.Kit.i32_sub (x := (σ14_519.1 1)) (y := (1 : Int32)) (by omega) (by omega)
                    have o_543 : (σ9_537.2.2 39 (0 : Int32).toNatClampNeg).toInt = ((σ14_519.1 1) - (1 : Int32)).toInt := fd_o39 eσ9_537
                    have y_544 := fd_yLA (d := 12) eσ9_537 y_533
                    have y_545 := fd_yLA (d := 13) eσ9_537 y_534
                    have y_546 := fd_yLA (d := 14) eσ9_537 y_535
                    have y_547 := fd_yLn (d := 15) eσ9_537 (by decide) y_536
                    have x_548 : ((¬ (0 ≤ p2.toInt ∧ p2.toInt < (σ.1 1).toInt ∧ (p1.toInt = 5 ∨ p1.toInt = 6 ∨ (0 ≤ p3.toInt ∧ p3.toInt < (σ.1 1).toInt)))) ∧ (0 : Int32).toInt = 1 ∧ (σ9_537.1 1).toInt = (σ.1 1).toInt) ∨ (¬ (¬ (0 ≤ p2.toInt ∧ p2.toInt < (σ.1 1).toInt ∧ (p1.toInt = 5 ∨ p1.toInt = 6 ∨ (0 ≤ p3.toInt ∧ p3.toInt < (σ.1 1).toInt)))) ∧ ((σ.1 1).toInt = 200) ∧ (0 : Int32).toInt = 2 ∧ (σ9_537.1 1).toInt = (σ.1 1).toInt) ∨ (¬ (¬ (0 ≤ p2.toInt ∧ p2.toInt < (σ.1 1).toInt ∧ (p1.toInt = 5 ∨ p1.toInt = 6 ∨ (0 ≤ p3.toInt ∧ p3.toInt < (σ.1 1).toInt)))) ∧ ¬ ((σ.1 1).toInt = 200) ∧ (p1.toInt < 0 ∨ 6 < p1.toInt) ∧ (0 : Int32).toInt = 3 ∧ (σ9_537.1 1).toInt = (σ.1 1).toInt) ∨ (¬ (¬ (0 ≤ p2.toInt ∧ p2.toInt < (σ.1 1).toInt ∧ (p1.toInt = 5 ∨ p1.toInt = 6 ∨ (0 ≤ p3.toInt ∧ p3.toInt < (σ.1 1).toInt)))) ∧ ¬ ((σ.1 1).toInt = 200) ∧ ¬ (p1.toInt < 0 ∨ 6 < p1.toInt) ∧ (0 : Int32).toInt = 0 ∧ (σ9_537.1 1).toInt = (σ.1 1).toInt + 1 ∧ (σ9_537.2.2 39 (0 : Int32).toNatClampNeg).toInt = (σ.1 1).toInt) := by omega
                    have w_549 : fd_H (((¬ (0 : Int32).toInt = 0 → σ9_537.2.1 12 = σ.2.1 12) ∧ ((0 : Int32).toInt = 0 → ∃ j w : Int32, (j.toInt = (σ.1 1).toInt ∧ w.toInt = p1.toInt) ∧ σ9_537.2.1 12 = upd (σ.2.1 12) j.toNatClampNeg w))) := fd_hd (⟨fun h => absurd (by omega) h, fun _ => ⟨_, _, by omega, y_544⟩⟩)
                    have w_550 : fd_H (((¬ (0 : Int32).toInt = 0 → σ9_537.2.1 13 = σ.2.1 13) ∧ ((0 : Int32).toInt = 0 → ∃ j w : Int32, (j.toInt = (σ.1 1).toInt ∧ w.toInt = p2.toInt) ∧ σ9_537.2.1 13 = upd (σ.2.1 13) j.toNatClampNeg w))) := fd_hd (⟨fun h => absurd (by omega) h, fun _ => ⟨_, _, by omega, y_545⟩⟩)
                    have w_551 : fd_H (((¬ (0 : Int32).toInt = 0 → σ9_537.2.1 14 = σ.2.1 14) ∧ ((0 : Int32).toInt = 0 → ∃ j w : Int32, (j.toInt = (σ.1 1).toInt ∧ ((p1.toInt = 5 ∨ p1.toInt = 6) → w.toInt = p2.toInt) ∧ (¬ (p1.toInt = 5 ∨ p1.toInt = 6) → w.toInt = p3.toInt)) ∧ σ9_537.2.1 14 = upd (σ.2.1 14) j.toNatClampNeg w))) := fd_hd (⟨fun h => absurd (by omega) h, fun _ => ⟨_, _, by omega, y_546⟩⟩)
                    have w_552 : fd_H ((¬ (0 : Int32).toInt = 0 → σ9_537.2.2 15 = σ.2.2 15)) := fd_hd (fun h => absurd (by omega) h)
                    have w_553 : fd_H (((0 : Int32).toInt = 0 → ∃ j : Int32, j.toInt = (σ.1 1).toInt ∧ σ9_537.2.2 15 = vp_updL (σ.2.2 15) j.toNatClampNeg (fd_tl (σ9_537.2.1 12 j.toNatClampNeg) (σ.2.2 15 (σ9_537.2.1 13 j.toNatClampNeg).toNatClampNeg) (σ.2.2 15 (σ9_537.2.1 14 j.toNatClampNeg).toNatClampNeg)))) := fd_hd (fun _ => ⟨(σ6_491.1 1), by omega, by rw [y_544, y_545, y_546, y_547, x_504, y_495, y_496, y_497, y_498]⟩)
                    exact fd_ok_some ⟨i_538, f_539, x_548, w_549, w_550, w_551, w_552, w_553⟩
                  ·
                    have d_554 := Int32.lt_iff_toInt_lt.mp (Int32.not_le.mp c_462)
                    try unfold f_X10_gate_0_J66
                    refine fd_ok_pr ?_
                    refine fd_ok_itn (by decide) ?_
                    refine fd_ok_itn (by decide) ?_
                    refine fd_ok_itp (by decide) ?_
                    refine fd_ok_lt (fun σ15_555 eσ15_555 => ?_)
                    have i_556 : fd_InvC σ15_555 := by subst eσ15_555; exact i0
                    have f_557 : fd_fr [0, 1, 112, 113, 114, 215, 239] σ σ15_555 := fd_fr_mix eσ15_555 f0
                    have t_558 : (σ15_555.1 1).toInt = (σ.1 1).toInt := by subst eσ15_555; rfl
                    have y_559 := fd_ymixA (d := 12) eσ15_555 (rfl : σ.2.1 12 = _)
                    have y_560 := fd_ymixA (d := 13) eσ15_555 (rfl : σ.2.1 13 = _)
                    have y_561 := fd_ymixA (d := 14) eσ15_555 (rfl : σ.2.1 14 = _)
                    have y_562 := fd_ymix (d := 15) eσ15_555 (by decide) (rfl : σ.2.2 15 = _)
                    have x_563 : ((¬ (0 ≤ p2.toInt ∧ p2.toInt < (σ.1 1).toInt ∧ (p1.toInt = 5 ∨ p1.toInt = 6 ∨ (0 ≤ p3.toInt ∧ p3.toInt < (σ.1 1).toInt)))) ∧ (3 : Int32).toInt = 1 ∧ (σ15_555.1 1).toInt = (σ.1 1).toInt) ∨ (¬ (¬ (0 ≤ p2.toInt ∧ p2.toInt < (σ.1 1).toInt ∧ (p1.toInt = 5 ∨ p1.toInt = 6 ∨ (0 ≤ p3.toInt ∧ p3.toInt < (σ.1 1).toInt)))) ∧ ((σ.1 1).toInt = 200) ∧ (3 : Int32).toInt = 2 ∧ (σ15_555.1 1).toInt = (σ.1 1).toInt) ∨ (¬ (¬ (0 ≤ p2.toInt ∧ p2.toInt < (σ.1 1).toInt ∧ (p1.toInt = 5 ∨ p1.toInt = 6 ∨ (0 ≤ p3.toInt ∧ p3.toInt < (σ.1 1).toInt)))) ∧ ¬ ((σ.1 1).toInt = 200) ∧ (p1.toInt < 0 ∨ 6 < p1.toInt) ∧ (3 : Int32).toInt = 3 ∧ (σ15_555.1 1).toInt = (σ.1 1).toInt) ∨ (¬ (¬ (0 ≤ p2.toInt ∧ p2.toInt < (σ.1 1).toInt ∧ (p1.toInt = 5 ∨ p1.toInt = 6 ∨ (0 ≤ p3.toInt ∧ p3.toInt < (σ.1 1).toInt)))) ∧ ¬ ((σ.1 1).toInt = 200) ∧ ¬ (p1.toInt < 0 ∨ 6 < p1.toInt) ∧ (3 : Int32).toInt = 0 ∧ (σ15_555.1 1).toInt = (σ.1 1).toInt + 1 ∧ (σ15_555.2.2 39 (0 : Int32).toNatClampNeg).toInt = (σ.1 1).toInt) := by omega
                    have w_564 : fd_H (((¬ (3 : Int32).toInt = 0 → σ15_555.2.1 12 = σ.2.1 12) ∧ ((3 : Int32).toInt = 0 → ∃ j w : Int32, (j.toInt = (σ.1 1).toInt ∧ w.toInt = p1.toInt) ∧ σ15_555.2.1 12 = upd (σ.2.1 12) j.toNatClampNeg w))) := fd_hd (⟨fun _ => y_559, fun h => absurd h (by omega)⟩)
                    have w_565 : fd_H (((¬ (3 : Int32).toInt = 0 → σ15_555.2.1 13 = σ.2.1 13) ∧ ((3 : Int32).toInt = 0 → ∃ j w : Int32, (j.toInt = (σ.1 1).toInt ∧ w.toInt = p2.toInt) ∧ σ15_555.2.1 13 = upd (σ.2.1 13) j.toNatClampNeg w))) := fd_hd (⟨fun _ => y_560, fun h => absurd h (by omega)⟩)
                    have w_566 : fd_H (((¬ (3 : Int32).toInt = 0 → σ15_555.2.1 14 = σ.2.1 14) ∧ ((3 : Int32).toInt = 0 → ∃ j w : Int32, (j.toInt = (σ.1 1).toInt ∧ ((p1.toInt = 5 ∨ p1.toInt = 6) → w.toInt = p2.toInt) ∧ (¬ (p1.toInt = 5 ∨ p1.toInt = 6) → w.toInt = p3.toInt)) ∧ σ15_555.2.1 14 = upd (σ.2.1 14) j.toNatClampNeg w))) := fd_hd (⟨fun _ => y_561, fun h => absurd h (by omega)⟩)
                    have w_567 : fd_H ((¬ (3 : Int32).toInt = 0 → σ15_555.2.2 15 = σ.2.2 15)) := fd_hd (fun _ => y_562)
                    have w_568 : fd_H (((3 : Int32).toInt = 0 → ∃ j : Int32, j.toInt = (σ.1 1).toInt ∧ σ15_555.2.2 15 = vp_updL (σ.2.2 15) j.toNatClampNeg (fd_tl (σ15_555.2.1 12 j.toNatClampNeg) (σ.2.2 15 (σ15_555.2.1 13 j.toNatClampNeg).toNatClampNeg) (σ.2.2 15 (σ15_555.2.1 14 j.toNatClampNeg).toNatClampNeg)))) := fd_hd (fun h => absurd h (by omega))
                    exact fd_ok_some ⟨i_556, f_557, x_563, w_564, w_565, w_566, w_567, w_568⟩
set_option maxHeartbeats 4000000 in
theorem s_L_output_0_39 (N : Nat) (hN : 1000 ≤ N) (p1 : Int32) (σ : fd_St) (i0 : fd_InvC σ) : fd_ok (f_L_output_0_39 N p1 σ) (fun v s => fd_InvC s ∧ fd_fr [0, 4, 118, 219, 239] σ s ∧ (((¬ (0 ≤ p1.toInt ∧ p1.toInt < (σ.1 1).toInt)) ∧ v.toInt = 1 ∧ (s.1 4).toInt = (σ.1 4).toInt) ∨ (¬ (¬ (0 ≤ p1.toInt ∧ p1.toInt < (σ.1 1).toInt)) ∧ ((σ.1 4).toInt = 32) ∧ v.toInt = 2 ∧ (s.1 4).toInt = (σ.1 4).toInt) ∨ (¬ (¬ (0 ≤ p1.toInt ∧ p1.toInt < (σ.1 1).toInt)) ∧ ¬ ((σ.1 4).toInt = 32) ∧ v.toInt = 0 ∧ (s.1 4).toInt = (σ.1 4).toInt + 1 ∧ (s.2.2 39 (0 : Int32).toNatClampNeg).toInt = (σ.1 4).toInt)) ∧ fd_H (((¬ v.toInt = 0 → s.2.1 18 = σ.2.1 18) ∧ (v.toInt = 0 → ∃ j w : Int32, (j.toInt = (σ.1 4).toInt ∧ w.toInt = p1.toInt) ∧ s.2.1 18 = upd (σ.2.1 18) j.toNatClampNeg w))) ∧ fd_H (((¬ v.toInt = 0 → s.2.2 19 = σ.2.2 19) ∧ (v.toInt = 0 → ∃ j : Int32, j.toInt = (σ.1 4).toInt ∧ s.2.2 19 = vp_updL (σ.2.2 19) j.toNatClampNeg (0 : Int64))))) := by
  have lit0 : (0 : Int32).toInt = 0 := by decide
  have lit1 : (1 : Int32).toInt = 1 := by decide
  have lit2 : (2 : Int32).toInt = 2 := by decide
  have lit32 : (32 : Int32).toInt = 32 := by decide
  have f0 : fd_fr [0, 4, 118, 219, 239] σ σ := fd_fr_rf
  unfold f_L_output_0_39
  refine fd_ok_bx ?_
  try unfold f_X10_output_0
  refine fd_ok_bx ?_
  try unfold f_X10_needNet_0
  refine fd_ok_bd ?_
  try unfold f_X2_has_1
  refine fd_ok_ite (fun c_1 => ?_) (fun c_1 => ?_)
  ·
    have d_2 := Int32.lt_iff_toInt_lt.mp c_1
    refine fd_ok_pb ?_
    refine fd_ok_itp (by decide) ?_
    refine fd_ok_pr ?_
    refine fd_ok_pr ?_
    refine fd_ok_itp (by decide) ?_
    refine fd_ok_lt (fun σ11_3 eσ11_3 => ?_)
    have i_4 : fd_InvC σ11_3 := by subst eσ11_3; exact i0
    have f_5 : fd_fr [0, 4, 118, 219, 239] σ σ11_3 := fd_fr_mix eσ11_3 f0
    have t_6 : (σ11_3.1 1).toInt = (σ.1 1).toInt := by subst eσ11_3; rfl
    have t_7 : (σ11_3.1 4).toInt = (σ.1 4).toInt := by subst eσ11_3; rfl
    have y_8 := fd_ymixA (d := 18) eσ11_3 (rfl : σ.2.1 18 = _)
    have y_9 := fd_ymix (d := 19) eσ11_3 (by decide) (rfl : σ.2.2 19 = _)
    have x_10 : ((¬ (0 ≤ p1.toInt ∧ p1.toInt < (σ.1 1).toInt)) ∧ (1 : Int32).toInt = 1 ∧ (σ11_3.1 4).toInt = (σ.1 4).toInt) ∨ (¬ (¬ (0 ≤ p1.toInt ∧ p1.toInt < (σ.1 1).toInt)) ∧ ((σ.1 4).toInt = 32) ∧ (1 : Int32).toInt = 2 ∧ (σ11_3.1 4).toInt = (σ.1 4).toInt) ∨ (¬ (¬ (0 ≤ p1.toInt ∧ p1.toInt < (σ.1 1).toInt)) ∧ ¬ ((σ.1 4).toInt = 32) ∧ (1 : Int32).toInt = 0 ∧ (σ11_3.1 4).toInt = (σ.1 4).toInt + 1 ∧ (σ11_3.2.2 39 (0 : Int32).toNatClampNeg).toInt = (σ.1 4).toInt) := by omega
    have w_11 : fd_H (((¬ (1 : Int32).toInt = 0 → σ11_3.2.1 18 = σ.2.1 18) ∧ ((1 : Int32).toInt = 0 → ∃ j w : Int32, (j.toInt = (σ.1 4).toInt ∧ w.toInt = p1.toInt) ∧ σ11_3.2.1 18 = upd (σ.2.1 18) j.toNatClampNeg w))) := fd_hd (⟨fun _ => y_8, fun h => absurd h (by omega)⟩)
    have w_12 : fd_H (((¬ (1 : Int32).toInt = 0 → σ11_3.2.2 19 = σ.2.2 19) ∧ ((1 : Int32).toInt = 0 → ∃ j : Int32, j.toInt = (σ.1 4).toInt ∧ σ11_3.2.2 19 = vp_updL (σ.2.2 19) j.toNatClampNeg (0 : Int64)))) := fd_hd (⟨fun _ => y_9, fun h => absurd h (by omega)⟩)
    exact fd_ok_some ⟨i_4, f_5, x_10, w_11, w_12⟩
  ·
    have d_13 := Int32.le_iff_toInt_le.mp (Int32.not_lt.mp c_1)
    have r_14 : (0 : Int) ≤ (σ.1 1).toInt ∧ (σ.1 1).toInt ≤ 200 := i0.1 1
    refine fd_ok_ite (fun c_15 => ?_) (fun c_15 => ?_)
    ·
      have d_16 := Int32.le_iff_toInt_le.mp c_15
      refine fd_ok_pb ?_
      refine fd_ok_itp (by decide) ?_
      refine fd_ok_pr ?_
      refine fd_ok_pr ?_
      refine fd_ok_itp (by decide) ?_
      refine fd_ok_lt (fun σ11_17 eσ11_17 => ?_)
      have i_18 : fd_InvC σ11_17 := by subst eσ11_17; exact i0
      have f_19 : fd_fr [0, 4, 118, 219, 239] σ σ11_17 := fd_fr_mix eσ11_17 f0
      have t_20 : (σ11_17.1 1).toInt = (σ.1 1).toInt := by subst eσ11_17; rfl
      have t_21 : (σ11_17.1 4).toInt = (σ.1 4).toInt := by subst eσ11_17; rfl
      have y_22 := fd_ymixA (d := 18) eσ11_17 (rfl : σ.2.1 18 = _)
      have y_23 := fd_ymix (d := 19) eσ11_17 (by decide) (rfl : σ.2.2 19 = _)
      have x_24 : ((¬ (0 ≤ p1.toInt ∧ p1.toInt < (σ.1 1).toInt)) ∧ (1 : Int32).toInt = 1 ∧ (σ11_17.1 4).toInt = (σ.1 4).toInt) ∨ (¬ (¬ (0 ≤ p1.toInt ∧ p1.toInt < (σ.1 1).toInt)) ∧ ((σ.1 4).toInt = 32) ∧ (1 : Int32).toInt = 2 ∧ (σ11_17.1 4).toInt = (σ.1 4).toInt) ∨ (¬ (¬ (0 ≤ p1.toInt ∧ p1.toInt < (σ.1 1).toInt)) ∧ ¬ ((σ.1 4).toInt = 32) ∧ (1 : Int32).toInt = 0 ∧ (σ11_17.1 4).toInt = (σ.1 4).toInt + 1 ∧ (σ11_17.2.2 39 (0 : Int32).toNatClampNeg).toInt = (σ.1 4).toInt) := by omega
      have w_25 : fd_H (((¬ (1 : Int32).toInt = 0 → σ11_17.2.1 18 = σ.2.1 18) ∧ ((1 : Int32).toInt = 0 → ∃ j w : Int32, (j.toInt = (σ.1 4).toInt ∧ w.toInt = p1.toInt) ∧ σ11_17.2.1 18 = upd (σ.2.1 18) j.toNatClampNeg w))) := fd_hd (⟨fun _ => y_22, fun h => absurd h (by omega)⟩)
      have w_26 : fd_H (((¬ (1 : Int32).toInt = 0 → σ11_17.2.2 19 = σ.2.2 19) ∧ ((1 : Int32).toInt = 0 → ∃ j : Int32, j.toInt = (σ.1 4).toInt ∧ σ11_17.2.2 19 = vp_updL (σ.2.2 19) j.toNatClampNeg (0 : Int64)))) := fd_hd (⟨fun _ => y_23, fun h => absurd h (by omega)⟩)
      exact fd_ok_some ⟨i_18, f_19, x_24, w_25, w_26⟩
    ·
      have d_27 := Int32.lt_iff_toInt_lt.mp (Int32.not_le.mp c_15)
      refine fd_ok_pb ?_
      refine fd_ok_itn (by decide) ?_
      refine fd_ok_pl ?_
      refine fd_ok_bd ?_
      try unfold f_X5_size_2
      refine fd_ok_pb ?_
      have r_28 : (0 : Int) ≤ (σ.1 4).toInt ∧ (σ.1 4).toInt ≤ 32 := i0.1 4
      refine fd_ok_ite (fun c_29 => ?_) (fun c_29 => ?_)
      ·
        have d_30 := congrArg Int32.toInt c_29
        refine fd_ok_pr ?_
        refine fd_ok_itn (by decide) ?_
        refine fd_ok_itp (by decide) ?_
        refine fd_ok_lt (fun σ13_31 eσ13_31 => ?_)
        have i_32 : fd_InvC σ13_31 := by subst eσ13_31; exact i0
        have f_33 : fd_fr [0, 4, 118, 219, 239] σ σ13_31 := fd_fr_mix eσ13_31 f0
        have t_34 : (σ13_31.1 1).toInt = (σ.1 1).toInt := by subst eσ13_31; rfl
        have t_35 : (σ13_31.1 4).toInt = (σ.1 4).toInt := by subst eσ13_31; rfl
        have y_36 := fd_ymixA (d := 18) eσ13_31 (rfl : σ.2.1 18 = _)
        have y_37 := fd_ymix (d := 19) eσ13_31 (by decide) (rfl : σ.2.2 19 = _)
        have x_38 : ((¬ (0 ≤ p1.toInt ∧ p1.toInt < (σ.1 1).toInt)) ∧ (2 : Int32).toInt = 1 ∧ (σ13_31.1 4).toInt = (σ.1 4).toInt) ∨ (¬ (¬ (0 ≤ p1.toInt ∧ p1.toInt < (σ.1 1).toInt)) ∧ ((σ.1 4).toInt = 32) ∧ (2 : Int32).toInt = 2 ∧ (σ13_31.1 4).toInt = (σ.1 4).toInt) ∨ (¬ (¬ (0 ≤ p1.toInt ∧ p1.toInt < (σ.1 1).toInt)) ∧ ¬ ((σ.1 4).toInt = 32) ∧ (2 : Int32).toInt = 0 ∧ (σ13_31.1 4).toInt = (σ.1 4).toInt + 1 ∧ (σ13_31.2.2 39 (0 : Int32).toNatClampNeg).toInt = (σ.1 4).toInt) := by omega
        have w_39 : fd_H (((¬ (2 : Int32).toInt = 0 → σ13_31.2.1 18 = σ.2.1 18) ∧ ((2 : Int32).toInt = 0 → ∃ j w : Int32, (j.toInt = (σ.1 4).toInt ∧ w.toInt = p1.toInt) ∧ σ13_31.2.1 18 = upd (σ.2.1 18) j.toNatClampNeg w))) := fd_hd (⟨fun _ => y_36, fun h => absurd h (by omega)⟩)
        have w_40 : fd_H (((¬ (2 : Int32).toInt = 0 → σ13_31.2.2 19 = σ.2.2 19) ∧ ((2 : Int32).toInt = 0 → ∃ j : Int32, j.toInt = (σ.1 4).toInt ∧ σ13_31.2.2 19 = vp_updL (σ.2.2 19) j.toNatClampNeg (0 : Int64)))) := fd_hd (⟨fun _ => y_37, fun h => absurd h (by omega)⟩)
        exact fd_ok_some ⟨i_32, f_33, x_38, w_39, w_40⟩
      ·
        have d_41 : ¬ (σ.1 4).toInt = (32 : Int32).toInt := fun q => c_29 (Int32.toInt_inj.mp q)
        refine fd_ok_lt (fun σ13_42 eσ13_42 => ?_)
        have i_43 : fd_InvC σ13_42 := fd_inv_sI eσ13_42 i0 ⟨(by omega : (0 : Int) ≤ (0 : Int32).toInt), (by omega : (0 : Int32).toInt ≤ 1)⟩
        have f_44 : fd_fr [0, 4, 118, 219, 239] σ σ13_42 := fd_fr_tr f0 (fd_fr_sI eσ13_42 (by decide))
        have t_45 : (σ13_42.1 1).toInt = (σ.1 1).toInt := congrArg Int32.toInt (fd_tN eσ13_42 (by decide))
        have t_46 : (σ13_42.1 4).toInt = (σ.1 4).toInt := congrArg Int32.toInt (fd_tN eσ13_42 (by decide))
        have y_47 := fd_yIA (d := 18) eσ13_42 (rfl : σ.2.1 18 = _)
        have y_48 := fd_yIL (d := 19) eσ13_42 (rfl : σ.2.2 19 = _)
        refine fd_ok_bd ?_
        try unfold f_X5_add_2
        have r_49 : (0 : Int) ≤ (σ13_42.1 4).toInt ∧ (σ13_42.1 4).toInt ≤ 32 := i_43.1 4
        refine fd_ok_gd (vp_in_iff.mpr ⟨by omega, by omega⟩) ?_
        refine fd_ok_lt (fun σ2_50 eσ2_50 => ?_)
        have i_51 : fd_InvC σ2_50 := fd_inv_sA eσ2_50 i_43 (by decide) (by decide) ⟨(by omega : (0 : Int) ≤ p1.toInt), (by omega : p1.toInt ≤ 199)⟩
        have f_52 : fd_fr [0, 4, 118, 219, 239] σ σ2_50 := fd_fr_tr f_44 (fd_fr_sA eσ2_50 (by decide))
        have t_53 : (σ2_50.1 1).toInt = (σ13_42.1 1).toInt := by subst eσ2_50; rfl
        have t_54 : (σ2_50.1 4).toInt = (σ13_42.1 4).toInt := by subst eσ2_50; rfl
        have y_55 := fd_yA eσ2_50 y_47
        have y_56 := fd_yAL (d := 19) eσ2_50 y_48
        have r_57 : (0 : Int) ≤ (σ2_50.1 4).toInt ∧ (σ2_50.1 4).toInt ≤ 32 := i_51.1 4
        refine fd_ok_gd (vp_in_iff.mpr ⟨by omega, by omega⟩) ?_
        refine fd_ok_lt (fun σ4_58 eσ4_58 => ?_)
        have i_59 : fd_InvC σ4_58 := fd_inv_sL eσ4_58 i_51
        have f_60 : fd_fr [0, 4, 118, 219, 239] σ σ4_58 := fd_fr_tr f_52 (fd_fr_sL eσ4_58 (by decide))
        have t_61 : (σ4_58.1 1).toInt = (σ2_50.1 1).toInt := by subst eσ4_58; rfl
        have t_62 : (σ4_58.1 4).toInt = (σ2_50.1 4).toInt := by subst eσ4_58; rfl
        have y_63 := fd_yLA (d := 18) eσ4_58 y_55
        have y_64 := fd_yL eσ4_58 y_56
        refine fd_ok_lt (fun σ5_65 eσ5_65 => ?_)
        have r_68 : (0 : Int) ≤ (σ4_58.1 4).toInt ∧ (σ4_58.1 4).toInt ≤ 32 := i_59.1 4
        have u_69 := Jvm.Kit.i32_add (x := (σ4_58.1 4)) (y := (1 : Int32)) (by omega) (by omega)
        have i_66 : fd_InvC σ5_65 := fd_inv_sI eσ5_65 i_59 ⟨(by omega : (0 : Int) ≤ ((σ4_58.1 4) + (1 : Int32)).toInt), (by omega : ((σ4_58.1 4) + (1 : Int32)).toInt ≤ 32)⟩
        have f_67 : fd_fr [0, 4, 118, 219, 239] σ σ5_65 := fd_fr_tr f_60 (fd_fr_sI eσ5_65 (by decide))
        have t_70 : (σ5_65.1 1).toInt = (σ4_58.1 1).toInt := congrArg Int32.toInt (fd_tN eσ5_65 (by decide))
        have t_71 : (σ5_65.1 4).toInt = ((σ4_58.1 4) + (1 : Int32)).toInt := congrArg Int32.toInt (fd_tI eσ5_65)
        have y_72 := fd_yIA (d := 18) eσ5_65 y_63
        have y_73 := fd_yIL (d := 19) eσ5_65 y_64
        refine fd_ok_pb ?_
        refine fd_ok_pl ?_
        refine fd_ok_lt (fun σ6_74 eσ6_74 => ?_)
        have i_75 : fd_InvC σ6_74 := by subst eσ6_74; exact i_66
        have f_76 : fd_fr [0, 4, 118, 219, 239] σ σ6_74 := fd_fr_mix eσ6_74 f_67
        have t_77 : (σ6_74.1 1).toInt = (σ5_65.1 1).toInt := by subst eσ6_74; rfl
        have t_78 : (σ6_74.1 4).toInt = (σ5_65.1 4).toInt := by subst eσ6_74; rfl
        have y_79 := fd_ymixA (d := 18) eσ6_74 y_72
        have y_80 := fd_ymix (d := 19) eσ6_74 (by decide) y_73
        refine fd_ok_gd (vp_in_iff.mpr ⟨by omega, by omega⟩) ?_
        refine fd_ok_lt (fun σ9_81 eσ9_81 => ?_)
        have i_82 : fd_InvC σ9_81 := fd_inv_sL eσ9_81 i_75
        have f_83 : fd_fr [0, 4, 118, 219, 239] σ σ9_81 := fd_fr_tr f_76 (fd_fr_sL eσ9_81 (by decide))
        have t_84 : (σ9_81.1 1).toInt = (σ6_74.1 1).toInt := by subst eσ9_81; rfl
        have t_85 : (σ9_81.1 4).toInt = (σ6_74.1 4).toInt := by subst eσ9_81; rfl
        have r_86 : (0 : Int) ≤ (σ5_65.1 4).toInt ∧ (σ5_65.1 4).toInt ≤ 32 := i_66.1 4
        have u_87 := Jvm.Kit.i32_sub (x := (σ5_65.1 4)) (y := (1 : Int32)) (by omega) (by omega)
        have o_88 : (σ9_81.2.2 39 (0 : Int32).toNatClampNeg).toInt = ((σ5_65.1 4) - (1 : Int32)).toInt := fd_o39 eσ9_81
        have y_89 := fd_yLA (d := 18) eσ9_81 y_79
        have y_90 := fd_yLn (d := 19) eσ9_81 (by decide) y_80
        have x_91 : ((¬ (0 ≤ p1.toInt ∧ p1.toInt < (σ.1 1).toInt)) ∧ (0 : Int32).toInt = 1 ∧ (σ9_81.1 4).toInt = (σ.1 4).toInt) ∨ (¬ (¬ (0 ≤ p1.toInt ∧ p1.toInt < (σ.1 1).toInt)) ∧ ((σ.1 4).toInt = 32) ∧ (0 : Int32).toInt = 2 ∧ (σ9_81.1 4).toInt = (σ.1 4).toInt) ∨ (¬ (¬ (0 ≤ p1.toInt ∧ p1.toInt < (σ.1 1).toInt)) ∧ ¬ ((σ.1 4).toInt = 32) ∧ (0 : Int32).toInt = 0 ∧ (σ9_81.1 4).toInt = (σ.1 4).toInt + 1 ∧ (σ9_81.2.2 39 (0 : Int32).toNatClampNeg).toInt = (σ.1 4).toInt) := by omega
        have w_92 : fd_H (((¬ (0 : Int32).toInt = 0 → σ9_81.2.1 18 = σ.2.1 18) ∧ ((0 : Int32).toInt = 0 → ∃ j w : Int32, (j.toInt = (σ.1 4).toInt ∧ w.toInt = p1.toInt) ∧ σ9_81.2.1 18 = upd (σ.2.1 18) j.toNatClampNeg w))) := fd_hd (⟨fun h => absurd (by omega) h, fun _ => ⟨_, _, by omega, y_89⟩⟩)
        have w_93 : fd_H (((¬ (0 : Int32).toInt = 0 → σ9_81.2.2 19 = σ.2.2 19) ∧ ((0 : Int32).toInt = 0 → ∃ j : Int32, j.toInt = (σ.1 4).toInt ∧ σ9_81.2.2 19 = vp_updL (σ.2.2 19) j.toNatClampNeg (0 : Int64)))) := fd_hd (⟨fun h => absurd (by omega) h, fun _ => ⟨_, by omega, y_90⟩⟩)
        exact fd_ok_some ⟨i_82, f_83, x_91, w_92, w_93⟩
set_option maxHeartbeats 4000000 in
theorem s_L_patterns_0_39 (N : Nat) (hN : 1000 ≤ N) (p1 : Int32) (σ : fd_St) (i0 : fd_InvC σ) : fd_ok (f_L_patterns_0_39 N p1 σ) (fun v s => fd_InvC s ∧ fd_fr [0, 3, 239] σ s ∧ (((p1.toInt < 0 ∨ 64 < p1.toInt) ∧ v.toInt = 1 ∧ (s.1 3).toInt = (σ.1 3).toInt) ∨ (¬ (p1.toInt < 0 ∨ 64 < p1.toInt) ∧ v.toInt = 0 ∧ (s.1 3).toInt = p1.toInt ∧ (s.2.2 39 (0 : Int32).toNatClampNeg).toInt = (σ.1 3).toInt))) := by
  have lit0 : (0 : Int32).toInt = 0 := by decide
  have lit1 : (1 : Int32).toInt = 1 := by decide
  have lit64 : (64 : Int32).toInt = 64 := by decide
  have f0 : fd_fr [0, 3, 239] σ σ := fd_fr_rf
  unfold f_L_patterns_0_39
  refine fd_ok_bx ?_
  try unfold f_X10_patterns_0
  refine fd_ok_ite (fun c_1 => ?_) (fun c_1 => ?_)
  ·
    have d_2 := Int32.lt_iff_toInt_lt.mp c_1
    try unfold f_X10_patterns_0_J10
    refine fd_ok_pr ?_
    refine fd_ok_itp (by decide) ?_
    refine fd_ok_lt (fun σ11_3 eσ11_3 => ?_)
    have i_4 : fd_InvC σ11_3 := by subst eσ11_3; exact i0
    have f_5 : fd_fr [0, 3, 239] σ σ11_3 := fd_fr_mix eσ11_3 f0
    have t_6 : (σ11_3.1 3).toInt = (σ.1 3).toInt := by subst eσ11_3; rfl
    have x_7 : ((p1.toInt < 0 ∨ 64 < p1.toInt) ∧ (1 : Int32).toInt = 1 ∧ (σ11_3.1 3).toInt = (σ.1 3).toInt) ∨ (¬ (p1.toInt < 0 ∨ 64 < p1.toInt) ∧ (1 : Int32).toInt = 0 ∧ (σ11_3.1 3).toInt = p1.toInt ∧ (σ11_3.2.2 39 (0 : Int32).toNatClampNeg).toInt = (σ.1 3).toInt) := by omega
    exact fd_ok_some ⟨i_4, f_5, x_7⟩
  ·
    have d_8 := Int32.le_iff_toInt_le.mp (Int32.not_lt.mp c_1)
    refine fd_ok_ite (fun c_9 => ?_) (fun c_9 => ?_)
    ·
      have d_10 := Int32.le_iff_toInt_le.mp c_9
      refine fd_ok_lt (fun σ4_11 eσ4_11 => ?_)
      have i_12 : fd_InvC σ4_11 := fd_inv_sI eσ4_11 i0 ⟨(by omega : (0 : Int) ≤ (0 : Int32).toInt), (by omega : (0 : Int32).toInt ≤ 1)⟩
      have f_13 : fd_fr [0, 3, 239] σ σ4_11 := fd_fr_tr f0 (fd_fr_sI eσ4_11 (by decide))
      have t_14 : (σ4_11.1 3).toInt = (σ.1 3).toInt := congrArg Int32.toInt (fd_tN eσ4_11 (by decide))
      refine fd_ok_bd ?_
      try unfold f_X2_putPatterns_1
      have r_16 : (0 : Int) ≤ (σ4_11.1 3).toInt ∧ (σ4_11.1 3).toInt ≤ 64 := i_12.1 3
      refine fd_ok_lt (fun x1_15 ex1_15 => ?_)
      have t_17 : x1_15.toInt = (σ4_11.1 3).toInt := congrArg Int32.toInt ex1_15
      refine fd_ok_lt (fun σ2_18 eσ2_18 => ?_)
      have i_19 : fd_InvC σ2_18 := fd_inv_sI eσ2_18 i_12 ⟨(by omega : (0 : Int) ≤ p1.toInt), (by omega : p1.toInt ≤ 64)⟩
      have f_20 : fd_fr [0, 3, 239] σ σ2_18 := fd_fr_tr f_13 (fd_fr_sI eσ2_18 (by decide))
      have t_21 : (σ2_18.1 3).toInt = p1.toInt := congrArg Int32.toInt (fd_tI eσ2_18)
      refine fd_ok_pb ?_
      refine fd_ok_pl ?_
      refine fd_ok_lt (fun σ6_22 eσ6_22 => ?_)
      have i_23 : fd_InvC σ6_22 := by subst eσ6_22; exact i_19
      have f_24 : fd_fr [0, 3, 239] σ σ6_22 := fd_fr_mix eσ6_22 f_20
      have t_25 : (σ6_22.1 3).toInt = (σ2_18.1 3).toInt := by subst eσ6_22; rfl
      refine fd_ok_gd (vp_in_iff.mpr ⟨by omega, by omega⟩) ?_
      refine fd_ok_lt (fun σ9_26 eσ9_26 => ?_)
      have i_27 : fd_InvC σ9_26 := fd_inv_sL eσ9_26 i_23
      have f_28 : fd_fr [0, 3, 239] σ σ9_26 := fd_fr_tr f_24 (fd_fr_sL eσ9_26 (by decide))
      have t_29 : (σ9_26.1 3).toInt = (σ6_22.1 3).toInt := by subst eσ9_26; rfl
      have o_30 : (σ9_26.2.2 39 (0 : Int32).toNatClampNeg).toInt = x1_15.toInt := fd_o39 eσ9_26
      have x_31 : ((p1.toInt < 0 ∨ 64 < p1.toInt) ∧ (0 : Int32).toInt = 1 ∧ (σ9_26.1 3).toInt = (σ.1 3).toInt) ∨ (¬ (p1.toInt < 0 ∨ 64 < p1.toInt) ∧ (0 : Int32).toInt = 0 ∧ (σ9_26.1 3).toInt = p1.toInt ∧ (σ9_26.2.2 39 (0 : Int32).toNatClampNeg).toInt = (σ.1 3).toInt) := by omega
      exact fd_ok_some ⟨i_27, f_28, x_31⟩
    ·
      have d_32 := Int32.lt_iff_toInt_lt.mp (Int32.not_le.mp c_9)
      try unfold f_X10_patterns_0_J10
      refine fd_ok_pr ?_
      refine fd_ok_itp (by decide) ?_
      refine fd_ok_lt (fun σ11_33 eσ11_33 => ?_)
      have i_34 : fd_InvC σ11_33 := by subst eσ11_33; exact i0
      have f_35 : fd_fr [0, 3, 239] σ σ11_33 := fd_fr_mix eσ11_33 f0
      have t_36 : (σ11_33.1 3).toInt = (σ.1 3).toInt := by subst eσ11_33; rfl
      have x_37 : ((p1.toInt < 0 ∨ 64 < p1.toInt) ∧ (1 : Int32).toInt = 1 ∧ (σ11_33.1 3).toInt = (σ.1 3).toInt) ∨ (¬ (p1.toInt < 0 ∨ 64 < p1.toInt) ∧ (1 : Int32).toInt = 0 ∧ (σ11_33.1 3).toInt = p1.toInt ∧ (σ11_33.2.2 39 (0 : Int32).toNatClampNeg).toInt = (σ.1 3).toInt) := by omega
      exact fd_ok_some ⟨i_34, f_35, x_37⟩
set_option maxHeartbeats 4000000 in
theorem s_L_pattern_0_39 (N : Nat) (hN : 1000 ≤ N) (p1 : Int32) (p2 : Int64) (σ : fd_St) (i0 : fd_InvC σ) : fd_ok (f_L_pattern_0_39 N p1 p2 σ) (fun v s => fd_InvC s ∧ fd_fr [0, 215, 239] σ s ∧ (((¬ (0 ≤ p1.toInt ∧ p1.toInt < (σ.1 1).toInt ∧ (σ.2.1 12 p1.toNatClampNeg).toInt = -1)) ∧ v.toInt = 1) ∨ (¬ (¬ (0 ≤ p1.toInt ∧ p1.toInt < (σ.1 1).toInt ∧ (σ.2.1 12 p1.toNatClampNeg).toInt = -1)) ∧ v.toInt = 0)) ∧ fd_H ((¬ v.toInt = 0 → s.2.2 15 = σ.2.2 15)) ∧ fd_H ((v.toInt = 0 → s.2.2 39 (0 : Int32).toNatClampNeg = σ.2.2 15 p1.toNatClampNeg ∧ (∀ i, σ.2.1 12 i = -1 → s.2.2 15 i = vp_updL (σ.2.2 15) p1.toNatClampNeg p2 i) ∧ (fd_Go (σ.2.1 12) (σ.2.1 13) (σ.2.1 14) (σ.1 1).toNatClampNeg → fd_Gr (σ.2.1 12) (σ.2.1 13) (σ.2.1 14) (σ.2.2 15) (σ.1 1).toNatClampNeg → fd_Gr (σ.2.1 12) (σ.2.1 13) (σ.2.1 14) (s.2.2 15) (σ.1 1).toNatClampNeg)))) := by
  have litm1 : (-1 : Int32).toInt = -1 := by decide
  have lit0 : (0 : Int32).toInt = 0 := by decide
  have lit1 : (1 : Int32).toInt = 1 := by decide
  have f0 : fd_fr [0, 215, 239] σ σ := fd_fr_rf
  unfold f_L_pattern_0_39
  refine fd_ok_bx ?_
  try unfold f_X10_pattern_0
  refine fd_ok_bd ?_
  try unfold f_X2_hasInput_1
  refine fd_ok_bd ?_
  try unfold f_X2_has_1
  refine fd_ok_ite (fun c_1 => ?_) (fun c_1 => ?_)
  ·
    have d_2 := Int32.lt_iff_toInt_lt.mp c_1
    refine fd_ok_pb ?_
    refine fd_ok_itp (by decide) ?_
    refine fd_ok_pb ?_
    refine fd_ok_itp (by decide) ?_
    refine fd_ok_pr ?_
    refine fd_ok_itp (by decide) ?_
    refine fd_ok_lt (fun σ11_3 eσ11_3 => ?_)
    have i_4 : fd_InvC σ11_3 := by subst eσ11_3; exact i0
    have f_5 : fd_fr [0, 215, 239] σ σ11_3 := fd_fr_mix eσ11_3 f0
    have t_6 : (σ11_3.1 1).toInt = (σ.1 1).toInt := by subst eσ11_3; rfl
    have y_7 := fd_ymixA (d := 12) eσ11_3 (rfl : σ.2.1 12 = _)
    have y_8 := fd_ymixA (d := 13) eσ11_3 (rfl : σ.2.1 13 = _)
    have y_9 := fd_ymixA (d := 14) eσ11_3 (rfl : σ.2.1 14 = _)
    have y_10 := fd_ymix (d := 15) eσ11_3 (by decide) (rfl : σ.2.2 15 = _)
    have x_11 : ((¬ (0 ≤ p1.toInt ∧ p1.toInt < (σ.1 1).toInt ∧ (σ.2.1 12 p1.toNatClampNeg).toInt = -1)) ∧ (1 : Int32).toInt = 1) ∨ (¬ (¬ (0 ≤ p1.toInt ∧ p1.toInt < (σ.1 1).toInt ∧ (σ.2.1 12 p1.toNatClampNeg).toInt = -1)) ∧ (1 : Int32).toInt = 0) := by omega
    have w_12 : fd_H ((¬ (1 : Int32).toInt = 0 → σ11_3.2.2 15 = σ.2.2 15)) := fd_hd (fun _ => y_10)
    have w_13 : fd_H (((1 : Int32).toInt = 0 → σ11_3.2.2 39 (0 : Int32).toNatClampNeg = σ.2.2 15 p1.toNatClampNeg ∧ (∀ i, σ.2.1 12 i = -1 → σ11_3.2.2 15 i = vp_updL (σ.2.2 15) p1.toNatClampNeg p2 i) ∧ (fd_Go (σ.2.1 12) (σ.2.1 13) (σ.2.1 14) (σ.1 1).toNatClampNeg → fd_Gr (σ.2.1 12) (σ.2.1 13) (σ.2.1 14) (σ.2.2 15) (σ.1 1).toNatClampNeg → fd_Gr (σ.2.1 12) (σ.2.1 13) (σ.2.1 14) (σ11_3.2.2 15) (σ.1 1).toNatClampNeg))) := fd_hd (fun h => absurd h (by omega))
    exact fd_ok_some ⟨i_4, f_5, x_11, w_12, w_13⟩
  ·
    have d_14 := Int32.le_iff_toInt_le.mp (Int32.not_lt.mp c_1)
    have r_15 : (0 : Int) ≤ (σ.1 1).toInt ∧ (σ.1 1).toInt ≤ 200 := i0.1 1
    refine fd_ok_ite (fun c_16 => ?_) (fun c_16 => ?_)
    ·
      have d_17 := Int32.le_iff_toInt_le.mp c_16
      refine fd_ok_pb ?_
      refine fd_ok_itp (by decide) ?_
      refine fd_ok_pb ?_
      refine fd_ok_itp (by decide) ?_
      refine fd_ok_pr ?_
      refine fd_ok_itp (by decide) ?_
      refine fd_ok_lt (fun σ11_18 eσ11_18 => ?_)
      have i_19 : fd_InvC σ11_18 := by subst eσ11_18; exact i0
      have f_20 : fd_fr [0, 215, 239] σ σ11_18 := fd_fr_mix eσ11_18 f0
      have t_21 : (σ11_18.1 1).toInt = (σ.1 1).toInt := by subst eσ11_18; rfl
      have y_22 := fd_ymixA (d := 12) eσ11_18 (rfl : σ.2.1 12 = _)
      have y_23 := fd_ymixA (d := 13) eσ11_18 (rfl : σ.2.1 13 = _)
      have y_24 := fd_ymixA (d := 14) eσ11_18 (rfl : σ.2.1 14 = _)
      have y_25 := fd_ymix (d := 15) eσ11_18 (by decide) (rfl : σ.2.2 15 = _)
      have x_26 : ((¬ (0 ≤ p1.toInt ∧ p1.toInt < (σ.1 1).toInt ∧ (σ.2.1 12 p1.toNatClampNeg).toInt = -1)) ∧ (1 : Int32).toInt = 1) ∨ (¬ (¬ (0 ≤ p1.toInt ∧ p1.toInt < (σ.1 1).toInt ∧ (σ.2.1 12 p1.toNatClampNeg).toInt = -1)) ∧ (1 : Int32).toInt = 0) := by omega
      have w_27 : fd_H ((¬ (1 : Int32).toInt = 0 → σ11_18.2.2 15 = σ.2.2 15)) := fd_hd (fun _ => y_25)
      have w_28 : fd_H (((1 : Int32).toInt = 0 → σ11_18.2.2 39 (0 : Int32).toNatClampNeg = σ.2.2 15 p1.toNatClampNeg ∧ (∀ i, σ.2.1 12 i = -1 → σ11_18.2.2 15 i = vp_updL (σ.2.2 15) p1.toNatClampNeg p2 i) ∧ (fd_Go (σ.2.1 12) (σ.2.1 13) (σ.2.1 14) (σ.1 1).toNatClampNeg → fd_Gr (σ.2.1 12) (σ.2.1 13) (σ.2.1 14) (σ.2.2 15) (σ.1 1).toNatClampNeg → fd_Gr (σ.2.1 12) (σ.2.1 13) (σ.2.1 14) (σ11_18.2.2 15) (σ.1 1).toNatClampNeg))) := fd_hd (fun h => absurd h (by omega))
      exact fd_ok_some ⟨i_19, f_20, x_26, w_27, w_28⟩
    ·
      have d_29 := Int32.lt_iff_toInt_lt.mp (Int32.not_le.mp c_16)
      refine fd_ok_pb ?_
      refine fd_ok_itn (by decide) ?_
      refine fd_ok_gd (vp_in_iff.mpr ⟨by omega, by omega⟩) ?_
      refine fd_ok_ite (fun c_30 => ?_) (fun c_30 => ?_)
      ·
        have d_31 := congrArg Int32.toInt c_30
        refine fd_ok_pb ?_
        refine fd_ok_itn (by decide) ?_
        refine fd_ok_lt (fun σ7_32 eσ7_32 => ?_)
        have i_33 : fd_InvC σ7_32 := fd_inv_sI eσ7_32 i0 ⟨(by omega : (0 : Int) ≤ (0 : Int32).toInt), (by omega : (0 : Int32).toInt ≤ 1)⟩
        have f_34 : fd_fr [0, 215, 239] σ σ7_32 := fd_fr_tr f0 (fd_fr_sI eσ7_32 (by decide))
        have t_35 : (σ7_32.1 1).toInt = (σ.1 1).toInt := congrArg Int32.toInt (fd_tN eσ7_32 (by decide))
        have y_36 := fd_yIA (d := 12) eσ7_32 (rfl : σ.2.1 12 = _)
        have y_37 := fd_yIA (d := 13) eσ7_32 (rfl : σ.2.1 13 = _)
        have y_38 := fd_yIA (d := 14) eσ7_32 (rfl : σ.2.1 14 = _)
        have y_39 := fd_yIL (d := 15) eσ7_32 (rfl : σ.2.2 15 = _)
        refine fd_ok_bd ?_
        try unfold f_X2_putRow_1
        refine fd_ok_gd (vp_in_iff.mpr ⟨by omega, by omega⟩) ?_
        refine fd_ok_lt (fun x2_40 ex2_40 => ?_)
        refine fd_ok_gd (vp_in_iff.mpr ⟨by omega, by omega⟩) ?_
        refine fd_ok_lt (fun σ4_41 eσ4_41 => ?_)
        have i_42 : fd_InvC σ4_41 := fd_inv_sL eσ4_41 i_33
        have f_43 : fd_fr [0, 215, 239] σ σ4_41 := fd_fr_tr f_34 (fd_fr_sL eσ4_41 (by decide))
        have t_44 : (σ4_41.1 1).toInt = (σ7_32.1 1).toInt := by subst eσ4_41; rfl
        have y_45 := fd_yLA (d := 12) eσ4_41 y_36
        have y_46 := fd_yLA (d := 13) eσ4_41 y_37
        have y_47 := fd_yLA (d := 14) eσ4_41 y_38
        have y_48 := fd_yL eσ4_41 y_39
        refine fd_ok_lt (fun x5_49 ex5_49 => ?_)
        have t_50 := fd_la ex5_49 (by omega) (by omega)
        refine fd_ok_cl (s_X2_putRow_1_L20 N hN N _ _ _ i_42 (by omega) (by omega) (by omega)) ?_
        rintro v_51 σ_52 ⟨i_53, g_54, x_55⟩
        have f_56 : fd_fr [0, 215, 239] σ σ_52 := fd_fr_tr f_43 (fd_fr_mono g_54 (by decide))
        have y_57 := (g_54.2.1 12 (by decide)).trans y_45
        have y_58 := (g_54.2.1 13 (by decide)).trans y_46
        have y_59 := (g_54.2.1 14 (by decide)).trans y_47
        have t_60 : (σ_52.1 1).toInt = (σ4_41.1 1).toInt := congrArg Int32.toInt (g_54.1 1 (by decide))
        refine fd_ok_pl ?_
        refine fd_ok_lt (fun σ6_61 eσ6_61 => ?_)
        have i_62 : fd_InvC σ6_61 := by subst eσ6_61; exact i_53
        have f_63 : fd_fr [0, 215, 239] σ σ6_61 := fd_fr_mix eσ6_61 f_56
        have t_64 : (σ6_61.1 1).toInt = (σ_52.1 1).toInt := by subst eσ6_61; rfl
        have y_65 := fd_ymixA (d := 12) eσ6_61 y_57
        have y_66 := fd_ymixA (d := 13) eσ6_61 y_58
        have y_67 := fd_ymixA (d := 14) eσ6_61 y_59
        refine fd_ok_gd (vp_in_iff.mpr ⟨by omega, by omega⟩) ?_
        refine fd_ok_lt (fun σ9_68 eσ9_68 => ?_)
        have i_69 : fd_InvC σ9_68 := fd_inv_sL eσ9_68 i_62
        have f_70 : fd_fr [0, 215, 239] σ σ9_68 := fd_fr_tr f_63 (fd_fr_sL eσ9_68 (by decide))
        have t_71 : (σ9_68.1 1).toInt = (σ6_61.1 1).toInt := by subst eσ9_68; rfl
        have y_72 := fd_yLA (d := 12) eσ9_68 y_65
        have y_73 := fd_yLA (d := 13) eσ9_68 y_66
        have y_74 := fd_yLA (d := 14) eσ9_68 y_67
        have x_75 : ((¬ (0 ≤ p1.toInt ∧ p1.toInt < (σ.1 1).toInt ∧ (σ.2.1 12 p1.toNatClampNeg).toInt = -1)) ∧ (0 : Int32).toInt = 1) ∨ (¬ (¬ (0 ≤ p1.toInt ∧ p1.toInt < (σ.1 1).toInt ∧ (σ.2.1 12 p1.toNatClampNeg).toInt = -1)) ∧ (0 : Int32).toInt = 0) := by omega
        have E1 : σ4_41.1 1 = σ.1 1 := Int32.toInt_inj.mp (by omega)
        obtain ⟨A1, A2, A3⟩ := x_55
        rw [y_45, y_46, y_47, y_48, E1] at A3
        rw [y_45, y_48] at A2
        have E5 : σ9_68.2.2 15 = σ_52.2.2 15 := fd_yLn (d := 15) eσ9_68 (by decide) (fd_ymix (d := 15) eσ6_61 (by decide) rfl)
        have w_76 : fd_H ((¬ (0 : Int32).toInt = 0 → σ9_68.2.2 15 = σ.2.2 15)) := fd_hd (fun h => absurd (by omega) h)
        have w_77 : fd_H (((0 : Int32).toInt = 0 → σ9_68.2.2 39 (0 : Int32).toNatClampNeg = σ.2.2 15 p1.toNatClampNeg ∧ (∀ i, σ.2.1 12 i = -1 → σ9_68.2.2 15 i = vp_updL (σ.2.2 15) p1.toNatClampNeg p2 i) ∧ (fd_Go (σ.2.1 12) (σ.2.1 13) (σ.2.1 14) (σ.1 1).toNatClampNeg → fd_Gr (σ.2.1 12) (σ.2.1 13) (σ.2.1 14) (σ.2.2 15) (σ.1 1).toNatClampNeg → fd_Gr (σ.2.1 12) (σ.2.1 13) (σ.2.1 14) (σ9_68.2.2 15) (σ.1 1).toNatClampNeg))) := fd_hd (fun _ => ⟨(fd_o39L eσ9_68).trans (A1.trans (ex2_40.trans (congrFun y_39 _))), fun i hi => (congrFun E5 i).trans (A2 i hi), fun ho hr => by rw [E5]; exact A3 (by omega) ho (by rw [(fd_t1 ex5_49 (by omega) (by omega)).2]; exact fd_Gr_p ho hr (fd_tl' (by omega) (by omega)) (by assumption))⟩)
        exact fd_ok_some ⟨i_69, f_70, x_75, w_76, w_77⟩
      ·
        have d_78 : ¬ (σ.2.1 12 p1.toNatClampNeg).toInt = (-1 : Int32).toInt := fun q => c_30 (Int32.toInt_inj.mp q)
        refine fd_ok_pb ?_
        refine fd_ok_itp (by decide) ?_
        refine fd_ok_pr ?_
        refine fd_ok_itp (by decide) ?_
        refine fd_ok_lt (fun σ11_79 eσ11_79 => ?_)
        have i_80 : fd_InvC σ11_79 := by subst eσ11_79; exact i0
        have f_81 : fd_fr [0, 215, 239] σ σ11_79 := fd_fr_mix eσ11_79 f0
        have t_82 : (σ11_79.1 1).toInt = (σ.1 1).toInt := by subst eσ11_79; rfl
        have y_83 := fd_ymixA (d := 12) eσ11_79 (rfl : σ.2.1 12 = _)
        have y_84 := fd_ymixA (d := 13) eσ11_79 (rfl : σ.2.1 13 = _)
        have y_85 := fd_ymixA (d := 14) eσ11_79 (rfl : σ.2.1 14 = _)
        have y_86 := fd_ymix (d := 15) eσ11_79 (by decide) (rfl : σ.2.2 15 = _)
        have x_87 : ((¬ (0 ≤ p1.toInt ∧ p1.toInt < (σ.1 1).toInt ∧ (σ.2.1 12 p1.toNatClampNeg).toInt = -1)) ∧ (1 : Int32).toInt = 1) ∨ (¬ (¬ (0 ≤ p1.toInt ∧ p1.toInt < (σ.1 1).toInt ∧ (σ.2.1 12 p1.toNatClampNeg).toInt = -1)) ∧ (1 : Int32).toInt = 0) := by omega
        have w_88 : fd_H ((¬ (1 : Int32).toInt = 0 → σ11_79.2.2 15 = σ.2.2 15)) := fd_hd (fun _ => y_86)
        have w_89 : fd_H (((1 : Int32).toInt = 0 → σ11_79.2.2 39 (0 : Int32).toNatClampNeg = σ.2.2 15 p1.toNatClampNeg ∧ (∀ i, σ.2.1 12 i = -1 → σ11_79.2.2 15 i = vp_updL (σ.2.2 15) p1.toNatClampNeg p2 i) ∧ (fd_Go (σ.2.1 12) (σ.2.1 13) (σ.2.1 14) (σ.1 1).toNatClampNeg → fd_Gr (σ.2.1 12) (σ.2.1 13) (σ.2.1 14) (σ.2.2 15) (σ.1 1).toNatClampNeg → fd_Gr (σ.2.1 12) (σ.2.1 13) (σ.2.1 14) (σ11_79.2.2 15) (σ.1 1).toNatClampNeg))) := fd_hd (fun h => absurd h (by omega))
        exact fd_ok_some ⟨i_80, f_81, x_87, w_88, w_89⟩
set_option maxHeartbeats 4000000 in
theorem s_L_row_0_39 (N : Nat) (hN : 1000 ≤ N) (p1 : Int32) (σ : fd_St) (i0 : fd_InvC σ) : fd_ok (f_L_row_0_39 N p1 σ) (fun v s => fd_InvC s ∧ fd_fr [239] σ s ∧ (((¬ (0 ≤ p1.toInt ∧ p1.toInt < (σ.1 1).toInt)) ∧ v.toInt = 1) ∨ (¬ (¬ (0 ≤ p1.toInt ∧ p1.toInt < (σ.1 1).toInt)) ∧ v.toInt = 0)) ∧ fd_H ((v.toInt = 0 → s.2.2 39 (0 : Int32).toNatClampNeg = σ.2.2 15 p1.toNatClampNeg &&& fd_ct (σ.1 3)))) := by
  have lit0 : (0 : Int32).toInt = 0 := by decide
  have lit1 : (1 : Int32).toInt = 1 := by decide
  have f0 : fd_fr [239] σ σ := fd_fr_rf
  unfold f_L_row_0_39
  refine fd_ok_bx ?_
  try unfold f_X10_row_0
  refine fd_ok_bx ?_
  try unfold f_X10_needNet_0
  refine fd_ok_bd ?_
  try unfold f_X2_has_1
  refine fd_ok_ite (fun c_1 => ?_) (fun c_1 => ?_)
  ·
    have d_2 := Int32.lt_iff_toInt_lt.mp c_1
    refine fd_ok_pb ?_
    refine fd_ok_itp (by decide) ?_
    refine fd_ok_pr ?_
    refine fd_ok_pr ?_
    refine fd_ok_itp (by decide) ?_
    refine fd_ok_lt (fun σ11_3 eσ11_3 => ?_)
    have i_4 : fd_InvC σ11_3 := by subst eσ11_3; exact i0
    have f_5 : fd_fr [239] σ σ11_3 := fd_fr_mix eσ11_3 f0
    have t_6 : (σ11_3.1 1).toInt = (σ.1 1).toInt := by subst eσ11_3; rfl
    have y_7 := fd_ymix (d := 15) eσ11_3 (by decide) (rfl : σ.2.2 15 = _)
    have x_8 : ((¬ (0 ≤ p1.toInt ∧ p1.toInt < (σ.1 1).toInt)) ∧ (1 : Int32).toInt = 1) ∨ (¬ (¬ (0 ≤ p1.toInt ∧ p1.toInt < (σ.1 1).toInt)) ∧ (1 : Int32).toInt = 0) := by omega
    have w_9 : fd_H (((1 : Int32).toInt = 0 → σ11_3.2.2 39 (0 : Int32).toNatClampNeg = σ.2.2 15 p1.toNatClampNeg &&& fd_ct (σ.1 3))) := fd_hd (fun h => absurd h (by omega))
    exact fd_ok_some ⟨i_4, f_5, x_8, w_9⟩
  ·
    have d_10 := Int32.le_iff_toInt_le.mp (Int32.not_lt.mp c_1)
    have r_11 : (0 : Int) ≤ (σ.1 1).toInt ∧ (σ.1 1).toInt ≤ 200 := i0.1 1
    refine fd_ok_ite (fun c_12 => ?_) (fun c_12 => ?_)
    ·
      have d_13 := Int32.le_iff_toInt_le.mp c_12
      refine fd_ok_pb ?_
      refine fd_ok_itp (by decide) ?_
      refine fd_ok_pr ?_
      refine fd_ok_pr ?_
      refine fd_ok_itp (by decide) ?_
      refine fd_ok_lt (fun σ11_14 eσ11_14 => ?_)
      have i_15 : fd_InvC σ11_14 := by subst eσ11_14; exact i0
      have f_16 : fd_fr [239] σ σ11_14 := fd_fr_mix eσ11_14 f0
      have t_17 : (σ11_14.1 1).toInt = (σ.1 1).toInt := by subst eσ11_14; rfl
      have y_18 := fd_ymix (d := 15) eσ11_14 (by decide) (rfl : σ.2.2 15 = _)
      have x_19 : ((¬ (0 ≤ p1.toInt ∧ p1.toInt < (σ.1 1).toInt)) ∧ (1 : Int32).toInt = 1) ∨ (¬ (¬ (0 ≤ p1.toInt ∧ p1.toInt < (σ.1 1).toInt)) ∧ (1 : Int32).toInt = 0) := by omega
      have w_20 : fd_H (((1 : Int32).toInt = 0 → σ11_14.2.2 39 (0 : Int32).toNatClampNeg = σ.2.2 15 p1.toNatClampNeg &&& fd_ct (σ.1 3))) := fd_hd (fun h => absurd h (by omega))
      exact fd_ok_some ⟨i_15, f_16, x_19, w_20⟩
    ·
      have d_21 := Int32.lt_iff_toInt_lt.mp (Int32.not_le.mp c_12)
      refine fd_ok_pb ?_
      refine fd_ok_itn (by decide) ?_
      refine fd_ok_pl ?_
      refine fd_ok_bd ?_
      try unfold f_X2_goodRow_1
      refine fd_ok_gd (vp_in_iff.mpr ⟨by omega, by omega⟩) ?_
      refine fd_ok_bd ?_
      refine fd_ok_cl (s_X2_counted_1 N hN _ i0) ?_
      rintro v_22 σ_23 ⟨i_24, g_25, x_26⟩
      have f_27 : fd_fr [239] σ σ_23 := fd_fr_tr f0 (fd_fr_mono g_25 (by decide))
      have y_28 := (g_25.2.2 15 (by decide)).trans (rfl : σ.2.2 15 = _)
      have t_29 : (σ_23.1 1).toInt = (σ.1 1).toInt := congrArg Int32.toInt (g_25.1 1 (by decide))
      refine fd_ok_pb ?_
      refine fd_ok_pl ?_
      refine fd_ok_lt (fun σ6_30 eσ6_30 => ?_)
      have i_31 : fd_InvC σ6_30 := by subst eσ6_30; exact i_24
      have f_32 : fd_fr [239] σ σ6_30 := fd_fr_mix eσ6_30 f_27
      have t_33 : (σ6_30.1 1).toInt = (σ_23.1 1).toInt := by subst eσ6_30; rfl
      have y_34 := fd_ymix (d := 15) eσ6_30 (by decide) y_28
      refine fd_ok_gd (vp_in_iff.mpr ⟨by omega, by omega⟩) ?_
      refine fd_ok_lt (fun σ9_35 eσ9_35 => ?_)
      have i_36 : fd_InvC σ9_35 := fd_inv_sL eσ9_35 i_31
      have f_37 : fd_fr [239] σ σ9_35 := fd_fr_tr f_32 (fd_fr_sL eσ9_35 (by decide))
      have t_38 : (σ9_35.1 1).toInt = (σ6_30.1 1).toInt := by subst eσ9_35; rfl
      have y_39 := fd_yLn (d := 15) eσ9_35 (by decide) y_34
      have x_40 : ((¬ (0 ≤ p1.toInt ∧ p1.toInt < (σ.1 1).toInt)) ∧ (0 : Int32).toInt = 1) ∨ (¬ (¬ (0 ≤ p1.toInt ∧ p1.toInt < (σ.1 1).toInt)) ∧ (0 : Int32).toInt = 0) := by omega
      have w_41 : fd_H (((0 : Int32).toInt = 0 → σ9_35.2.2 39 (0 : Int32).toNatClampNeg = σ.2.2 15 p1.toNatClampNeg &&& fd_ct (σ.1 3))) := fd_hd (fun _ => (fd_o39L eσ9_35).trans (by rw [x_26]))
      exact fd_ok_some ⟨i_36, f_37, x_40, w_41⟩
set_option maxHeartbeats 4000000 in
theorem s_L_fail_0_39 (N : Nat) (hN : 1000 ≤ N) (p1 : Int32) (p2 : Int64) (σ : fd_St) (i0 : fd_InvC σ) : fd_ok (f_L_fail_0_39 N p1 p2 σ) (fun v s => fd_InvC s ∧ fd_fr [0, 219, 239] σ s ∧ (((¬ (0 ≤ p1.toInt ∧ p1.toInt < (σ.1 4).toInt)) ∧ v.toInt = 1) ∨ (¬ (¬ (0 ≤ p1.toInt ∧ p1.toInt < (σ.1 4).toInt)) ∧ v.toInt = 0)) ∧ fd_H (((¬ v.toInt = 0 → s.2.2 19 = σ.2.2 19) ∧ (v.toInt = 0 → ∃ j : Int32, j.toInt = p1.toInt ∧ s.2.2 19 = vp_updL (σ.2.2 19) j.toNatClampNeg p2))) ∧ fd_H ((v.toInt = 0 → s.2.2 39 (0 : Int32).toNatClampNeg = σ.2.2 19 p1.toNatClampNeg))) := by
  have lit0 : (0 : Int32).toInt = 0 := by decide
  have lit1 : (1 : Int32).toInt = 1 := by decide
  have f0 : fd_fr [0, 219, 239] σ σ := fd_fr_rf
  unfold f_L_fail_0_39
  refine fd_ok_bx ?_
  try unfold f_X10_fail_0
  refine fd_ok_bx ?_
  try unfold f_X10_needOutput_0
  refine fd_ok_ite (fun c_1 => ?_) (fun c_1 => ?_)
  ·
    have d_2 := Int32.lt_iff_toInt_lt.mp c_1
    try unfold f_X10_needOutput_0_J15
    refine fd_ok_pr ?_
    refine fd_ok_pr ?_
    refine fd_ok_itp (by decide) ?_
    refine fd_ok_lt (fun σ11_3 eσ11_3 => ?_)
    have i_4 : fd_InvC σ11_3 := by subst eσ11_3; exact i0
    have f_5 : fd_fr [0, 219, 239] σ σ11_3 := fd_fr_mix eσ11_3 f0
    have t_6 : (σ11_3.1 4).toInt = (σ.1 4).toInt := by subst eσ11_3; rfl
    have y_7 := fd_ymix (d := 19) eσ11_3 (by decide) (rfl : σ.2.2 19 = _)
    have x_8 : ((¬ (0 ≤ p1.toInt ∧ p1.toInt < (σ.1 4).toInt)) ∧ (1 : Int32).toInt = 1) ∨ (¬ (¬ (0 ≤ p1.toInt ∧ p1.toInt < (σ.1 4).toInt)) ∧ (1 : Int32).toInt = 0) := by omega
    have w_9 : fd_H (((¬ (1 : Int32).toInt = 0 → σ11_3.2.2 19 = σ.2.2 19) ∧ ((1 : Int32).toInt = 0 → ∃ j : Int32, j.toInt = p1.toInt ∧ σ11_3.2.2 19 = vp_updL (σ.2.2 19) j.toNatClampNeg p2))) := fd_hd (⟨fun _ => y_7, fun h => absurd h (by omega)⟩)
    have w_10 : fd_H (((1 : Int32).toInt = 0 → σ11_3.2.2 39 (0 : Int32).toNatClampNeg = σ.2.2 19 p1.toNatClampNeg)) := fd_hd (fun h => absurd h (by omega))
    exact fd_ok_some ⟨i_4, f_5, x_8, w_9, w_10⟩
  ·
    have d_11 := Int32.le_iff_toInt_le.mp (Int32.not_lt.mp c_1)
    refine fd_ok_bd ?_
    try unfold f_X5_size_2
    refine fd_ok_pb ?_
    have r_12 : (0 : Int) ≤ (σ.1 4).toInt ∧ (σ.1 4).toInt ≤ 32 := i0.1 4
    refine fd_ok_ite (fun c_13 => ?_) (fun c_13 => ?_)
    ·
      have d_14 := Int32.lt_iff_toInt_lt.mp c_13
      refine fd_ok_pl ?_
      refine fd_ok_lt (fun σ7_15 eσ7_15 => ?_)
      have i_16 : fd_InvC σ7_15 := fd_inv_sI eσ7_15 i0 ⟨(by omega : (0 : Int) ≤ (0 : Int32).toInt), (by omega : (0 : Int32).toInt ≤ 1)⟩
      have f_17 : fd_fr [0, 219, 239] σ σ7_15 := fd_fr_tr f0 (fd_fr_sI eσ7_15 (by decide))
      have t_18 : (σ7_15.1 4).toInt = (σ.1 4).toInt := congrArg Int32.toInt (fd_tN eσ7_15 (by decide))
      have y_19 := fd_yIL (d := 19) eσ7_15 (rfl : σ.2.2 19 = _)
      refine fd_ok_bd ?_
      try unfold f_X5_putFails_2
      refine fd_ok_gd (vp_in_iff.mpr ⟨by omega, by omega⟩) ?_
      refine fd_ok_lt (fun x2_20 ex2_20 => ?_)
      refine fd_ok_gd (vp_in_iff.mpr ⟨by omega, by omega⟩) ?_
      refine fd_ok_lt (fun σ4_21 eσ4_21 => ?_)
      have i_22 : fd_InvC σ4_21 := fd_inv_sL eσ4_21 i_16
      have f_23 : fd_fr [0, 219, 239] σ σ4_21 := fd_fr_tr f_17 (fd_fr_sL eσ4_21 (by decide))
      have t_24 : (σ4_21.1 4).toInt = (σ7_15.1 4).toInt := by subst eσ4_21; rfl
      have y_25 := fd_yL eσ4_21 y_19
      refine fd_ok_pb ?_
      refine fd_ok_pl ?_
      refine fd_ok_lt (fun σ6_26 eσ6_26 => ?_)
      have i_27 : fd_InvC σ6_26 := by subst eσ6_26; exact i_22
      have f_28 : fd_fr [0, 219, 239] σ σ6_26 := fd_fr_mix eσ6_26 f_23
      have t_29 : (σ6_26.1 4).toInt = (σ4_21.1 4).toInt := by subst eσ6_26; rfl
      have y_30 := fd_ymix (d := 19) eσ6_26 (by decide) y_25
      refine fd_ok_gd (vp_in_iff.mpr ⟨by omega, by omega⟩) ?_
      refine fd_ok_lt (fun σ9_31 eσ9_31 => ?_)
      have i_32 : fd_InvC σ9_31 := fd_inv_sL eσ9_31 i_27
      have f_33 : fd_fr [0, 219, 239] σ σ9_31 := fd_fr_tr f_28 (fd_fr_sL eσ9_31 (by decide))
      have t_34 : (σ9_31.1 4).toInt = (σ6_26.1 4).toInt := by subst eσ9_31; rfl
      have y_35 := fd_yLn (d := 19) eσ9_31 (by decide) y_30
      have x_36 : ((¬ (0 ≤ p1.toInt ∧ p1.toInt < (σ.1 4).toInt)) ∧ (0 : Int32).toInt = 1) ∨ (¬ (¬ (0 ≤ p1.toInt ∧ p1.toInt < (σ.1 4).toInt)) ∧ (0 : Int32).toInt = 0) := by omega
      have w_37 : fd_H (((¬ (0 : Int32).toInt = 0 → σ9_31.2.2 19 = σ.2.2 19) ∧ ((0 : Int32).toInt = 0 → ∃ j : Int32, j.toInt = p1.toInt ∧ σ9_31.2.2 19 = vp_updL (σ.2.2 19) j.toNatClampNeg p2))) := fd_hd (⟨fun h => absurd (by omega) h, fun _ => ⟨_, by omega, y_35⟩⟩)
      have w_38 : fd_H (((0 : Int32).toInt = 0 → σ9_31.2.2 39 (0 : Int32).toNatClampNeg = σ.2.2 19 p1.toNatClampNeg)) := fd_hd (fun _ => (fd_o39L eσ9_31).trans (ex2_20.trans (congrFun y_19 _)))
      exact fd_ok_some ⟨i_32, f_33, x_36, w_37, w_38⟩
    ·
      have d_39 := Int32.le_iff_toInt_le.mp (Int32.not_lt.mp c_13)
      try unfold f_X10_needOutput_0_J15
      refine fd_ok_pr ?_
      refine fd_ok_pr ?_
      refine fd_ok_itp (by decide) ?_
      refine fd_ok_lt (fun σ11_40 eσ11_40 => ?_)
      have i_41 : fd_InvC σ11_40 := by subst eσ11_40; exact i0
      have f_42 : fd_fr [0, 219, 239] σ σ11_40 := fd_fr_mix eσ11_40 f0
      have t_43 : (σ11_40.1 4).toInt = (σ.1 4).toInt := by subst eσ11_40; rfl
      have y_44 := fd_ymix (d := 19) eσ11_40 (by decide) (rfl : σ.2.2 19 = _)
      have x_45 : ((¬ (0 ≤ p1.toInt ∧ p1.toInt < (σ.1 4).toInt)) ∧ (1 : Int32).toInt = 1) ∨ (¬ (¬ (0 ≤ p1.toInt ∧ p1.toInt < (σ.1 4).toInt)) ∧ (1 : Int32).toInt = 0) := by omega
      have w_46 : fd_H (((¬ (1 : Int32).toInt = 0 → σ11_40.2.2 19 = σ.2.2 19) ∧ ((1 : Int32).toInt = 0 → ∃ j : Int32, j.toInt = p1.toInt ∧ σ11_40.2.2 19 = vp_updL (σ.2.2 19) j.toNatClampNeg p2))) := fd_hd (⟨fun _ => y_44, fun h => absurd h (by omega)⟩)
      have w_47 : fd_H (((1 : Int32).toInt = 0 → σ11_40.2.2 39 (0 : Int32).toNatClampNeg = σ.2.2 19 p1.toNatClampNeg)) := fd_hd (fun h => absurd h (by omega))
      exact fd_ok_some ⟨i_41, f_42, x_45, w_46, w_47⟩
