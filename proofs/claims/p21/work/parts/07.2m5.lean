set_option maxHeartbeats 4000000 in
theorem s_X11_output_0 (N : Nat) (hN : 1000 ≤ N) (p1 : Int32) (σ : fd_St) (i0 : fd_InvM σ) : fd_ok (f_X11_output_0 N p1 σ) (fun v s => fd_InvM s ∧ fd_fr [0, 3, 6, 7, 105, 206] σ s ∧ (((¬ (0 ≤ p1.toInt ∧ p1.toInt < (σ.1 1).toInt)) ∧ (s.1 0).toInt = 1 ∧ (s.1 3).toInt = (σ.1 3).toInt) ∨ (¬ (¬ (0 ≤ p1.toInt ∧ p1.toInt < (σ.1 1).toInt)) ∧ ((σ.1 3).toInt = 32) ∧ (s.1 0).toInt = 2 ∧ (s.1 3).toInt = (σ.1 3).toInt) ∨ (¬ (¬ (0 ≤ p1.toInt ∧ p1.toInt < (σ.1 1).toInt)) ∧ ¬ ((σ.1 3).toInt = 32) ∧ (s.1 0).toInt = 0 ∧ (s.1 3).toInt = (σ.1 3).toInt + 1 ∧ v.toInt = (σ.1 3).toInt)) ∧ fd_H (((¬ (s.1 0).toInt = 0 → s.2.1 5 = σ.2.1 5) ∧ ((s.1 0).toInt = 0 → ∃ j w : Int32, (j.toInt = (σ.1 3).toInt ∧ w.toInt = p1.toInt) ∧ s.2.1 5 = upd (σ.2.1 5) j.toNatClampNeg w))) ∧ fd_H (((¬ (s.1 0).toInt = 0 → s.2.2 6 = σ.2.2 6) ∧ ((s.1 0).toInt = 0 → ∃ j : Int32, j.toInt = (σ.1 3).toInt ∧ s.2.2 6 = vp_updL (σ.2.2 6) j.toNatClampNeg (0 : Int64))))) := by
  have lit0 : (0 : Int32).toInt = 0 := by decide
  have lit1 : (1 : Int32).toInt = 1 := by decide
  have lit2 : (2 : Int32).toInt = 2 := by decide
  have lit32 : (32 : Int32).toInt = 32 := by decide
  have f0 : fd_fr [0, 3, 6, 7, 105, 206] σ σ := fd_fr_rf
  unfold f_X11_output_0
  refine fd_ok_bd ?_
  try unfold f_X11_isIn
  refine fd_ok_ite (fun c_1 => ?_) (fun c_1 => ?_)
  ·
    have d_2 := Int32.lt_iff_toInt_lt.mp c_1
    refine fd_ok_pb ?_
    refine fd_ok_itp (by decide) ?_
    try unfold f_X11_output_0_J30
    refine fd_ok_lt (fun σ8_3 eσ8_3 => ?_)
    have i_4 : fd_InvM σ8_3 := fd_inv_sI eσ8_3 i0 (fd_rng _)
    have f_5 : fd_fr [0, 3, 6, 7, 105, 206] σ σ8_3 := fd_fr_tr f0 (fd_fr_sI eσ8_3 (by decide))
    have t_6 : (σ8_3.1 0).toInt = (1 : Int32).toInt := congrArg Int32.toInt (fd_tI eσ8_3)
    have t_7 : (σ8_3.1 1).toInt = (σ.1 1).toInt := congrArg Int32.toInt (fd_tN eσ8_3 (by decide))
    have t_8 : (σ8_3.1 3).toInt = (σ.1 3).toInt := congrArg Int32.toInt (fd_tN eσ8_3 (by decide))
    have y_9 := fd_yIA (d := 5) eσ8_3 (rfl : σ.2.1 5 = _)
    have y_10 := fd_yIL (d := 6) eσ8_3 (rfl : σ.2.2 6 = _)
    have r_11 := fd_rng (σ8_3.1 0)
    refine fd_ok_itn (Int32.not_le.mpr (Int32.lt_iff_toInt_lt.mpr (by omega))) ?_
    have x_12 : ((¬ (0 ≤ p1.toInt ∧ p1.toInt < (σ.1 1).toInt)) ∧ (σ8_3.1 0).toInt = 1 ∧ (σ8_3.1 3).toInt = (σ.1 3).toInt) ∨ (¬ (¬ (0 ≤ p1.toInt ∧ p1.toInt < (σ.1 1).toInt)) ∧ ((σ.1 3).toInt = 32) ∧ (σ8_3.1 0).toInt = 2 ∧ (σ8_3.1 3).toInt = (σ.1 3).toInt) ∨ (¬ (¬ (0 ≤ p1.toInt ∧ p1.toInt < (σ.1 1).toInt)) ∧ ¬ ((σ.1 3).toInt = 32) ∧ (σ8_3.1 0).toInt = 0 ∧ (σ8_3.1 3).toInt = (σ.1 3).toInt + 1 ∧ (0 : Int32).toInt = (σ.1 3).toInt) := by omega
    have w_13 : fd_H (((¬ (σ8_3.1 0).toInt = 0 → σ8_3.2.1 5 = σ.2.1 5) ∧ ((σ8_3.1 0).toInt = 0 → ∃ j w : Int32, (j.toInt = (σ.1 3).toInt ∧ w.toInt = p1.toInt) ∧ σ8_3.2.1 5 = upd (σ.2.1 5) j.toNatClampNeg w))) := fd_hd (⟨fun _ => y_9, fun h => absurd h (by omega)⟩)
    have w_14 : fd_H (((¬ (σ8_3.1 0).toInt = 0 → σ8_3.2.2 6 = σ.2.2 6) ∧ ((σ8_3.1 0).toInt = 0 → ∃ j : Int32, j.toInt = (σ.1 3).toInt ∧ σ8_3.2.2 6 = vp_updL (σ.2.2 6) j.toNatClampNeg (0 : Int64)))) := fd_hd (⟨fun _ => y_10, fun h => absurd h (by omega)⟩)
    exact fd_ok_some ⟨i_4, f_5, x_12, w_13, w_14⟩
  ·
    have d_15 := Int32.le_iff_toInt_le.mp (Int32.not_lt.mp c_1)
    have r_16 : (0 : Int) ≤ (σ.1 1).toInt ∧ (σ.1 1).toInt ≤ 200 := i0.1 1
    refine fd_ok_ite (fun c_17 => ?_) (fun c_17 => ?_)
    ·
      have d_18 := Int32.le_iff_toInt_le.mp c_17
      refine fd_ok_pb ?_
      refine fd_ok_itp (by decide) ?_
      try unfold f_X11_output_0_J30
      refine fd_ok_lt (fun σ8_19 eσ8_19 => ?_)
      have i_20 : fd_InvM σ8_19 := fd_inv_sI eσ8_19 i0 (fd_rng _)
      have f_21 : fd_fr [0, 3, 6, 7, 105, 206] σ σ8_19 := fd_fr_tr f0 (fd_fr_sI eσ8_19 (by decide))
      have t_22 : (σ8_19.1 0).toInt = (1 : Int32).toInt := congrArg Int32.toInt (fd_tI eσ8_19)
      have t_23 : (σ8_19.1 1).toInt = (σ.1 1).toInt := congrArg Int32.toInt (fd_tN eσ8_19 (by decide))
      have t_24 : (σ8_19.1 3).toInt = (σ.1 3).toInt := congrArg Int32.toInt (fd_tN eσ8_19 (by decide))
      have y_25 := fd_yIA (d := 5) eσ8_19 (rfl : σ.2.1 5 = _)
      have y_26 := fd_yIL (d := 6) eσ8_19 (rfl : σ.2.2 6 = _)
      have r_27 := fd_rng (σ8_19.1 0)
      refine fd_ok_itn (Int32.not_le.mpr (Int32.lt_iff_toInt_lt.mpr (by omega))) ?_
      have x_28 : ((¬ (0 ≤ p1.toInt ∧ p1.toInt < (σ.1 1).toInt)) ∧ (σ8_19.1 0).toInt = 1 ∧ (σ8_19.1 3).toInt = (σ.1 3).toInt) ∨ (¬ (¬ (0 ≤ p1.toInt ∧ p1.toInt < (σ.1 1).toInt)) ∧ ((σ.1 3).toInt = 32) ∧ (σ8_19.1 0).toInt = 2 ∧ (σ8_19.1 3).toInt = (σ.1 3).toInt) ∨ (¬ (¬ (0 ≤ p1.toInt ∧ p1.toInt < (σ.1 1).toInt)) ∧ ¬ ((σ.1 3).toInt = 32) ∧ (σ8_19.1 0).toInt = 0 ∧ (σ8_19.1 3).toInt = (σ.1 3).toInt + 1 ∧ (0 : Int32).toInt = (σ.1 3).toInt) := by omega
      have w_29 : fd_H (((¬ (σ8_19.1 0).toInt = 0 → σ8_19.2.1 5 = σ.2.1 5) ∧ ((σ8_19.1 0).toInt = 0 → ∃ j w : Int32, (j.toInt = (σ.1 3).toInt ∧ w.toInt = p1.toInt) ∧ σ8_19.2.1 5 = upd (σ.2.1 5) j.toNatClampNeg w))) := fd_hd (⟨fun _ => y_25, fun h => absurd h (by omega)⟩)
      have w_30 : fd_H (((¬ (σ8_19.1 0).toInt = 0 → σ8_19.2.2 6 = σ.2.2 6) ∧ ((σ8_19.1 0).toInt = 0 → ∃ j : Int32, j.toInt = (σ.1 3).toInt ∧ σ8_19.2.2 6 = vp_updL (σ.2.2 6) j.toNatClampNeg (0 : Int64)))) := fd_hd (⟨fun _ => y_26, fun h => absurd h (by omega)⟩)
      exact fd_ok_some ⟨i_20, f_21, x_28, w_29, w_30⟩
    ·
      have d_31 := Int32.lt_iff_toInt_lt.mp (Int32.not_le.mp c_17)
      refine fd_ok_pb ?_
      refine fd_ok_itn (by decide) ?_
      have r_32 : (0 : Int) ≤ (σ.1 3).toInt ∧ (σ.1 3).toInt ≤ 32 := i0.1 3
      refine fd_ok_ite (fun c_33 => ?_) (fun c_33 => ?_)
      ·
        have d_34 := congrArg Int32.toInt c_33
        try unfold f_X11_output_0_J30
        refine fd_ok_lt (fun σ8_35 eσ8_35 => ?_)
        have i_36 : fd_InvM σ8_35 := fd_inv_sI eσ8_35 i0 (fd_rng _)
        have f_37 : fd_fr [0, 3, 6, 7, 105, 206] σ σ8_35 := fd_fr_tr f0 (fd_fr_sI eσ8_35 (by decide))
        have t_38 : (σ8_35.1 0).toInt = (2 : Int32).toInt := congrArg Int32.toInt (fd_tI eσ8_35)
        have t_39 : (σ8_35.1 1).toInt = (σ.1 1).toInt := congrArg Int32.toInt (fd_tN eσ8_35 (by decide))
        have t_40 : (σ8_35.1 3).toInt = (σ.1 3).toInt := congrArg Int32.toInt (fd_tN eσ8_35 (by decide))
        have y_41 := fd_yIA (d := 5) eσ8_35 (rfl : σ.2.1 5 = _)
        have y_42 := fd_yIL (d := 6) eσ8_35 (rfl : σ.2.2 6 = _)
        have r_43 := fd_rng (σ8_35.1 0)
        refine fd_ok_itn (Int32.not_le.mpr (Int32.lt_iff_toInt_lt.mpr (by omega))) ?_
        have x_44 : ((¬ (0 ≤ p1.toInt ∧ p1.toInt < (σ.1 1).toInt)) ∧ (σ8_35.1 0).toInt = 1 ∧ (σ8_35.1 3).toInt = (σ.1 3).toInt) ∨ (¬ (¬ (0 ≤ p1.toInt ∧ p1.toInt < (σ.1 1).toInt)) ∧ ((σ.1 3).toInt = 32) ∧ (σ8_35.1 0).toInt = 2 ∧ (σ8_35.1 3).toInt = (σ.1 3).toInt) ∨ (¬ (¬ (0 ≤ p1.toInt ∧ p1.toInt < (σ.1 1).toInt)) ∧ ¬ ((σ.1 3).toInt = 32) ∧ (σ8_35.1 0).toInt = 0 ∧ (σ8_35.1 3).toInt = (σ.1 3).toInt + 1 ∧ (0 : Int32).toInt = (σ.1 3).toInt) := by omega
        have w_45 : fd_H (((¬ (σ8_35.1 0).toInt = 0 → σ8_35.2.1 5 = σ.2.1 5) ∧ ((σ8_35.1 0).toInt = 0 → ∃ j w : Int32, (j.toInt = (σ.1 3).toInt ∧ w.toInt = p1.toInt) ∧ σ8_35.2.1 5 = upd (σ.2.1 5) j.toNatClampNeg w))) := fd_hd (⟨fun _ => y_41, fun h => absurd h (by omega)⟩)
        have w_46 : fd_H (((¬ (σ8_35.1 0).toInt = 0 → σ8_35.2.2 6 = σ.2.2 6) ∧ ((σ8_35.1 0).toInt = 0 → ∃ j : Int32, j.toInt = (σ.1 3).toInt ∧ σ8_35.2.2 6 = vp_updL (σ.2.2 6) j.toNatClampNeg (0 : Int64)))) := fd_hd (⟨fun _ => y_42, fun h => absurd h (by omega)⟩)
        exact fd_ok_some ⟨i_36, f_37, x_44, w_45, w_46⟩
      ·
        have d_47 : ¬ (σ.1 3).toInt = (32 : Int32).toInt := fun q => c_33 (Int32.toInt_inj.mp q)
        try unfold f_X11_output_0_J30
        refine fd_ok_lt (fun σ8_48 eσ8_48 => ?_)
        have i_49 : fd_InvM σ8_48 := fd_inv_sI eσ8_48 i0 (fd_rng _)
        have f_50 : fd_fr [0, 3, 6, 7, 105, 206] σ σ8_48 := fd_fr_tr f0 (fd_fr_sI eσ8_48 (by decide))
        have t_51 : (σ8_48.1 0).toInt = (0 : Int32).toInt := congrArg Int32.toInt (fd_tI eσ8_48)
        have t_52 : (σ8_48.1 1).toInt = (σ.1 1).toInt := congrArg Int32.toInt (fd_tN eσ8_48 (by decide))
        have t_53 : (σ8_48.1 3).toInt = (σ.1 3).toInt := congrArg Int32.toInt (fd_tN eσ8_48 (by decide))
        have y_54 := fd_yIA (d := 5) eσ8_48 (rfl : σ.2.1 5 = _)
        have y_55 := fd_yIL (d := 6) eσ8_48 (rfl : σ.2.2 6 = _)
        have r_56 := fd_rng (σ8_48.1 0)
        refine fd_ok_itp (Int32.le_iff_toInt_le.mpr (by omega)) ?_
        have r_57 : (0 : Int) ≤ (σ8_48.1 3).toInt ∧ (σ8_48.1 3).toInt ≤ 32 := i_49.1 3
        refine fd_ok_gd (vp_in_iff.mpr ⟨by omega, by omega⟩) ?_
        refine fd_ok_lt (fun σ11_58 eσ11_58 => ?_)
        have i_59 : fd_InvM σ11_58 := fd_inv_sA eσ11_58 i_49 (by decide) (by decide) ⟨(by omega : (0 : Int) ≤ p1.toInt), (by omega : p1.toInt ≤ 199)⟩
        have f_60 : fd_fr [0, 3, 6, 7, 105, 206] σ σ11_58 := fd_fr_tr f_50 (fd_fr_sA eσ11_58 (by decide))
        have t_61 : (σ11_58.1 0).toInt = (σ8_48.1 0).toInt := by subst eσ11_58; rfl
        have t_62 : (σ11_58.1 1).toInt = (σ8_48.1 1).toInt := by subst eσ11_58; rfl
        have t_63 : (σ11_58.1 3).toInt = (σ8_48.1 3).toInt := by subst eσ11_58; rfl
        have y_64 := fd_yA eσ11_58 y_54
        have y_65 := fd_yAL (d := 6) eσ11_58 y_55
        have r_66 : (0 : Int) ≤ (σ11_58.1 3).toInt ∧ (σ11_58.1 3).toInt ≤ 32 := i_59.1 3
        refine fd_ok_gd (vp_in_iff.mpr ⟨by omega, by omega⟩) ?_
        refine fd_ok_lt (fun σ13_67 eσ13_67 => ?_)
        have i_68 : fd_InvM σ13_67 := fd_inv_sL eσ13_67 i_59
        have f_69 : fd_fr [0, 3, 6, 7, 105, 206] σ σ13_67 := fd_fr_tr f_60 (fd_fr_sL eσ13_67 (by decide))
        have t_70 : (σ13_67.1 0).toInt = (σ11_58.1 0).toInt := by subst eσ13_67; rfl
        have t_71 : (σ13_67.1 1).toInt = (σ11_58.1 1).toInt := by subst eσ13_67; rfl
        have t_72 : (σ13_67.1 3).toInt = (σ11_58.1 3).toInt := by subst eσ13_67; rfl
        have y_73 := fd_yLA (d := 5) eσ13_67 y_64
        have y_74 := fd_yL eσ13_67 y_65
        refine fd_ok_lt (fun σ14_75 eσ14_75 => ?_)
        have r_78 : (0 : Int) ≤ (σ13_67.1 3).toInt ∧ (σ13_67.1 3).toInt ≤ 32 := i_68.1 3
        have u_79 := Jvm.Kit.i32_add (x := (σ13_67.1 3)) (y := (1 : Int32)) (by omega) (by omega)
        have i_76 : fd_InvM σ14_75 := fd_inv_sI eσ14_75 i_68 ⟨(by omega : (0 : Int) ≤ ((σ13_67.1 3) + (1 : Int32)).toInt), (by omega : ((σ13_67.1 3) + (1 : Int32)).toInt ≤ 32)⟩
        have f_77 : fd_fr [0, 3, 6, 7, 105, 206] σ σ14_75 := fd_fr_tr f_69 (fd_fr_sI eσ14_75 (by decide))
        have t_80 : (σ14_75.1 0).toInt = (σ13_67.1 0).toInt := congrArg Int32.toInt (fd_tN eσ14_75 (by decide))
        have t_81 : (σ14_75.1 1).toInt = (σ13_67.1 1).toInt := congrArg Int32.toInt (fd_tN eσ14_75 (by decide))
        have t_82 : (σ14_75.1 3).toInt = ((σ13_67.1 3) + (1 : Int32)).toInt := congrArg Int32.toInt (fd_tI eσ14_75)
        have y_83 := fd_yIA (d := 5) eσ14_75 y_73
        have y_84 := fd_yIL (d := 6) eσ14_75 y_74
        refine fd_ok_bd ?_
        try unfold f_X11_changed_0
        refine fd_ok_lt (fun σ1_85 eσ1_85 => ?_)
        have i_86 : fd_InvM σ1_85 := fd_inv_sI eσ1_85 i_76 ⟨(by omega : (0 : Int) ≤ (0 : Int32).toInt), (by omega : (0 : Int32).toInt ≤ 1)⟩
        have f_87 : fd_fr [0, 3, 6, 7, 105, 206] σ σ1_85 := fd_fr_tr f_77 (fd_fr_sI eσ1_85 (by decide))
        have t_88 : (σ1_85.1 0).toInt = (σ14_75.1 0).toInt := congrArg Int32.toInt (fd_tN eσ1_85 (by decide))
        have t_89 : (σ1_85.1 1).toInt = (σ14_75.1 1).toInt := congrArg Int32.toInt (fd_tN eσ1_85 (by decide))
        have t_90 : (σ1_85.1 3).toInt = (σ14_75.1 3).toInt := congrArg Int32.toInt (fd_tN eσ1_85 (by decide))
        have y_91 := fd_yIA (d := 5) eσ1_85 y_83
        have y_92 := fd_yIL (d := 6) eσ1_85 y_84
        refine fd_ok_lt (fun σ2_93 eσ2_93 => ?_)
        have i_94 : fd_InvM σ2_93 := fd_inv_sI eσ2_93 i_86 ⟨(by omega : (0 : Int) ≤ (0 : Int32).toInt), (by omega : (0 : Int32).toInt ≤ 480)⟩
        have f_95 : fd_fr [0, 3, 6, 7, 105, 206] σ σ2_93 := fd_fr_tr f_87 (fd_fr_sI eσ2_93 (by decide))
        have t_96 : (σ2_93.1 0).toInt = (σ1_85.1 0).toInt := congrArg Int32.toInt (fd_tN eσ2_93 (by decide))
        have t_97 : (σ2_93.1 1).toInt = (σ1_85.1 1).toInt := congrArg Int32.toInt (fd_tN eσ2_93 (by decide))
        have t_98 : (σ2_93.1 3).toInt = (σ1_85.1 3).toInt := congrArg Int32.toInt (fd_tN eσ2_93 (by decide))
        have y_99 := fd_yIA (d := 5) eσ2_93 y_91
        have y_100 := fd_yIL (d := 6) eσ2_93 y_92
        refine fd_ok_pb ?_
        have r_101 : (0 : Int) ≤ (σ2_93.1 3).toInt ∧ (σ2_93.1 3).toInt ≤ 32 := i_94.1 3
        have u_102 := Jvm.Kit.i32_sub (x := (σ2_93.1 3)) (y := (1 : Int32)) (by omega) (by omega)
        have x_103 : ((¬ (0 ≤ p1.toInt ∧ p1.toInt < (σ.1 1).toInt)) ∧ (σ2_93.1 0).toInt = 1 ∧ (σ2_93.1 3).toInt = (σ.1 3).toInt) ∨ (¬ (¬ (0 ≤ p1.toInt ∧ p1.toInt < (σ.1 1).toInt)) ∧ ((σ.1 3).toInt = 32) ∧ (σ2_93.1 0).toInt = 2 ∧ (σ2_93.1 3).toInt = (σ.1 3).toInt) ∨ (¬ (¬ (0 ≤ p1.toInt ∧ p1.toInt < (σ.1 1).toInt)) ∧ ¬ ((σ.1 3).toInt = 32) ∧ (σ2_93.1 0).toInt = 0 ∧ (σ2_93.1 3).toInt = (σ.1 3).toInt + 1 ∧ ((σ2_93.1 3) - (1 : Int32)).toInt = (σ.1 3).toInt) := by omega
        have w_104 : fd_H (((¬ (σ2_93.1 0).toInt = 0 → σ2_93.2.1 5 = σ.2.1 5) ∧ ((σ2_93.1 0).toInt = 0 → ∃ j w : Int32, (j.toInt = (σ.1 3).toInt ∧ w.toInt = p1.toInt) ∧ σ2_93.2.1 5 = upd (σ.2.1 5) j.toNatClampNeg w))) := fd_hd (⟨fun h => absurd (by omega) h, fun _ => ⟨_, _, by omega, y_99⟩⟩)
        have w_105 : fd_H (((¬ (σ2_93.1 0).toInt = 0 → σ2_93.2.2 6 = σ.2.2 6) ∧ ((σ2_93.1 0).toInt = 0 → ∃ j : Int32, j.toInt = (σ.1 3).toInt ∧ σ2_93.2.2 6 = vp_updL (σ.2.2 6) j.toNatClampNeg (0 : Int64)))) := fd_hd (⟨fun h => absurd (by omega) h, fun _ => ⟨_, by omega, y_100⟩⟩)
        exact fd_ok_some ⟨i_94, f_95, x_103, w_104, w_105⟩
set_option maxHeartbeats 4000000 in
theorem s_X11_patterns_0 (N : Nat) (hN : 1000 ≤ N) (p1 : Int32) (σ : fd_St) (i0 : fd_InvM σ) : fd_ok (f_X11_patterns_0 N p1 σ) (fun v s => fd_InvM s ∧ fd_fr [0, 4, 6, 7] σ s ∧ (((p1.toInt < 0 ∨ 64 < p1.toInt) ∧ (s.1 0).toInt = 1 ∧ (s.1 4).toInt = (σ.1 4).toInt) ∨ (¬ (p1.toInt < 0 ∨ 64 < p1.toInt) ∧ (s.1 0).toInt = 0 ∧ (s.1 4).toInt = p1.toInt ∧ v.toInt = (σ.1 4).toInt))) := by
  have lit0 : (0 : Int32).toInt = 0 := by decide
  have lit1 : (1 : Int32).toInt = 1 := by decide
  have lit64 : (64 : Int32).toInt = 64 := by decide
  have f0 : fd_fr [0, 4, 6, 7] σ σ := fd_fr_rf
  unfold f_X11_patterns_0
  refine fd_ok_ite (fun c_1 => ?_) (fun c_1 => ?_)
  ·
    have d_2 := Int32.lt_iff_toInt_lt.mp c_1
    try unfold f_X11_patterns_0_J15
    try unfold f_X11_patterns_0_J16
    refine fd_ok_lt (fun σ2_3 eσ2_3 => ?_)
    have i_4 : fd_InvM σ2_3 := fd_inv_sI eσ2_3 i0 (fd_rng _)
    have f_5 : fd_fr [0, 4, 6, 7] σ σ2_3 := fd_fr_tr f0 (fd_fr_sI eσ2_3 (by decide))
    have t_6 : (σ2_3.1 0).toInt = (1 : Int32).toInt := congrArg Int32.toInt (fd_tI eσ2_3)
    have t_7 : (σ2_3.1 4).toInt = (σ.1 4).toInt := congrArg Int32.toInt (fd_tN eσ2_3 (by decide))
    have r_8 := fd_rng (σ2_3.1 0)
    refine fd_ok_itn (Int32.not_le.mpr (Int32.lt_iff_toInt_lt.mpr (by omega))) ?_
    have x_9 : ((p1.toInt < 0 ∨ 64 < p1.toInt) ∧ (σ2_3.1 0).toInt = 1 ∧ (σ2_3.1 4).toInt = (σ.1 4).toInt) ∨ (¬ (p1.toInt < 0 ∨ 64 < p1.toInt) ∧ (σ2_3.1 0).toInt = 0 ∧ (σ2_3.1 4).toInt = p1.toInt ∧ (0 : Int32).toInt = (σ.1 4).toInt) := by omega
    exact fd_ok_some ⟨i_4, f_5, x_9⟩
  ·
    have d_10 := Int32.le_iff_toInt_le.mp (Int32.not_lt.mp c_1)
    refine fd_ok_ite (fun c_11 => ?_) (fun c_11 => ?_)
    ·
      have d_12 := Int32.lt_iff_toInt_lt.mp c_11
      try unfold f_X11_patterns_0_J15
      try unfold f_X11_patterns_0_J16
      refine fd_ok_lt (fun σ2_13 eσ2_13 => ?_)
      have i_14 : fd_InvM σ2_13 := fd_inv_sI eσ2_13 i0 (fd_rng _)
      have f_15 : fd_fr [0, 4, 6, 7] σ σ2_13 := fd_fr_tr f0 (fd_fr_sI eσ2_13 (by decide))
      have t_16 : (σ2_13.1 0).toInt = (1 : Int32).toInt := congrArg Int32.toInt (fd_tI eσ2_13)
      have t_17 : (σ2_13.1 4).toInt = (σ.1 4).toInt := congrArg Int32.toInt (fd_tN eσ2_13 (by decide))
      have r_18 := fd_rng (σ2_13.1 0)
      refine fd_ok_itn (Int32.not_le.mpr (Int32.lt_iff_toInt_lt.mpr (by omega))) ?_
      have x_19 : ((p1.toInt < 0 ∨ 64 < p1.toInt) ∧ (σ2_13.1 0).toInt = 1 ∧ (σ2_13.1 4).toInt = (σ.1 4).toInt) ∨ (¬ (p1.toInt < 0 ∨ 64 < p1.toInt) ∧ (σ2_13.1 0).toInt = 0 ∧ (σ2_13.1 4).toInt = p1.toInt ∧ (0 : Int32).toInt = (σ.1 4).toInt) := by omega
      exact fd_ok_some ⟨i_14, f_15, x_19⟩
    ·
      have d_20 := Int32.le_iff_toInt_le.mp (Int32.not_lt.mp c_11)
      try unfold f_X11_patterns_0_J16
      refine fd_ok_lt (fun σ2_21 eσ2_21 => ?_)
      have i_22 : fd_InvM σ2_21 := fd_inv_sI eσ2_21 i0 (fd_rng _)
      have f_23 : fd_fr [0, 4, 6, 7] σ σ2_21 := fd_fr_tr f0 (fd_fr_sI eσ2_21 (by decide))
      have t_24 : (σ2_21.1 0).toInt = (0 : Int32).toInt := congrArg Int32.toInt (fd_tI eσ2_21)
      have t_25 : (σ2_21.1 4).toInt = (σ.1 4).toInt := congrArg Int32.toInt (fd_tN eσ2_21 (by decide))
      have r_26 := fd_rng (σ2_21.1 0)
      refine fd_ok_itp (Int32.le_iff_toInt_le.mpr (by omega)) ?_
      have r_28 : (0 : Int) ≤ (σ2_21.1 4).toInt ∧ (σ2_21.1 4).toInt ≤ 64 := i_22.1 4
      refine fd_ok_lt (fun x4_27 ex4_27 => ?_)
      have t_29 : x4_27.toInt = (σ2_21.1 4).toInt := congrArg Int32.toInt ex4_27
      refine fd_ok_lt (fun σ5_30 eσ5_30 => ?_)
      have i_31 : fd_InvM σ5_30 := fd_inv_sI eσ5_30 i_22 ⟨(by omega : (0 : Int) ≤ p1.toInt), (by omega : p1.toInt ≤ 64)⟩
      have f_32 : fd_fr [0, 4, 6, 7] σ σ5_30 := fd_fr_tr f_23 (fd_fr_sI eσ5_30 (by decide))
      have t_33 : (σ5_30.1 0).toInt = (σ2_21.1 0).toInt := congrArg Int32.toInt (fd_tN eσ5_30 (by decide))
      have t_34 : (σ5_30.1 4).toInt = p1.toInt := congrArg Int32.toInt (fd_tI eσ5_30)
      refine fd_ok_bd ?_
      try unfold f_X11_changed_0
      refine fd_ok_lt (fun σ1_35 eσ1_35 => ?_)
      have i_36 : fd_InvM σ1_35 := fd_inv_sI eσ1_35 i_31 ⟨(by omega : (0 : Int) ≤ (0 : Int32).toInt), (by omega : (0 : Int32).toInt ≤ 1)⟩
      have f_37 : fd_fr [0, 4, 6, 7] σ σ1_35 := fd_fr_tr f_32 (fd_fr_sI eσ1_35 (by decide))
      have t_38 : (σ1_35.1 0).toInt = (σ5_30.1 0).toInt := congrArg Int32.toInt (fd_tN eσ1_35 (by decide))
      have t_39 : (σ1_35.1 4).toInt = (σ5_30.1 4).toInt := congrArg Int32.toInt (fd_tN eσ1_35 (by decide))
      refine fd_ok_lt (fun σ2_40 eσ2_40 => ?_)
      have i_41 : fd_InvM σ2_40 := fd_inv_sI eσ2_40 i_36 ⟨(by omega : (0 : Int) ≤ (0 : Int32).toInt), (by omega : (0 : Int32).toInt ≤ 480)⟩
      have f_42 : fd_fr [0, 4, 6, 7] σ σ2_40 := fd_fr_tr f_37 (fd_fr_sI eσ2_40 (by decide))
      have t_43 : (σ2_40.1 0).toInt = (σ1_35.1 0).toInt := congrArg Int32.toInt (fd_tN eσ2_40 (by decide))
      have t_44 : (σ2_40.1 4).toInt = (σ1_35.1 4).toInt := congrArg Int32.toInt (fd_tN eσ2_40 (by decide))
      refine fd_ok_pb ?_
      have x_45 : ((p1.toInt < 0 ∨ 64 < p1.toInt) ∧ (σ2_40.1 0).toInt = 1 ∧ (σ2_40.1 4).toInt = (σ.1 4).toInt) ∨ (¬ (p1.toInt < 0 ∨ 64 < p1.toInt) ∧ (σ2_40.1 0).toInt = 0 ∧ (σ2_40.1 4).toInt = p1.toInt ∧ x4_27.toInt = (σ.1 4).toInt) := by omega
      exact fd_ok_some ⟨i_41, f_42, x_45⟩
set_option maxHeartbeats 4000000 in
theorem s_X11_pattern_0 (N : Nat) (hN : 1000 ≤ N) (p1 : Int32) (p2 : Int64) (σ : fd_St) (i0 : fd_InvM σ) : fd_ok (f_X11_pattern_0 N p1 p2 σ) (fun v s => fd_InvM s ∧ fd_fr [0, 6, 7, 204] σ s ∧ (((¬ (0 ≤ p1.toInt ∧ p1.toInt < (σ.1 1).toInt ∧ (σ.2.1 1 p1.toNatClampNeg).toInt = -1)) ∧ (s.1 0).toInt = 1) ∨ (¬ (¬ (0 ≤ p1.toInt ∧ p1.toInt < (σ.1 1).toInt ∧ (σ.2.1 1 p1.toNatClampNeg).toInt = -1)) ∧ (s.1 0).toInt = 0)) ∧ fd_H (((¬ (s.1 0).toInt = 0 → s.2.2 4 = σ.2.2 4) ∧ ((s.1 0).toInt = 0 → ∃ j : Int32, j.toInt = p1.toInt ∧ s.2.2 4 = vp_updL (σ.2.2 4) j.toNatClampNeg p2))) ∧ fd_H (((s.1 0).toInt = 0 → v = σ.2.2 4 p1.toNatClampNeg))) := by
  have litm1 : (-1 : Int32).toInt = -1 := by decide
  have lit0 : (0 : Int32).toInt = 0 := by decide
  have lit1 : (1 : Int32).toInt = 1 := by decide
  have f0 : fd_fr [0, 6, 7, 204] σ σ := fd_fr_rf
  unfold f_X11_pattern_0
  refine fd_ok_bd ?_
  try unfold f_X11_isIn
  refine fd_ok_ite (fun c_1 => ?_) (fun c_1 => ?_)
  ·
    have d_2 := Int32.lt_iff_toInt_lt.mp c_1
    refine fd_ok_pb ?_
    refine fd_ok_itp (by decide) ?_
    try unfold f_X11_pattern_0_J26
    try unfold f_X11_pattern_0_J27
    refine fd_ok_lt (fun σ7_3 eσ7_3 => ?_)
    have i_4 : fd_InvM σ7_3 := fd_inv_sI eσ7_3 i0 (fd_rng _)
    have f_5 : fd_fr [0, 6, 7, 204] σ σ7_3 := fd_fr_tr f0 (fd_fr_sI eσ7_3 (by decide))
    have t_6 : (σ7_3.1 0).toInt = (1 : Int32).toInt := congrArg Int32.toInt (fd_tI eσ7_3)
    have t_7 : (σ7_3.1 1).toInt = (σ.1 1).toInt := congrArg Int32.toInt (fd_tN eσ7_3 (by decide))
    have y_8 := fd_yIL (d := 4) eσ7_3 (rfl : σ.2.2 4 = _)
    have r_9 := fd_rng (σ7_3.1 0)
    refine fd_ok_itn (Int32.not_le.mpr (Int32.lt_iff_toInt_lt.mpr (by omega))) ?_
    have x_10 : ((¬ (0 ≤ p1.toInt ∧ p1.toInt < (σ.1 1).toInt ∧ (σ.2.1 1 p1.toNatClampNeg).toInt = -1)) ∧ (σ7_3.1 0).toInt = 1) ∨ (¬ (¬ (0 ≤ p1.toInt ∧ p1.toInt < (σ.1 1).toInt ∧ (σ.2.1 1 p1.toNatClampNeg).toInt = -1)) ∧ (σ7_3.1 0).toInt = 0) := by omega
    have w_11 : fd_H (((¬ (σ7_3.1 0).toInt = 0 → σ7_3.2.2 4 = σ.2.2 4) ∧ ((σ7_3.1 0).toInt = 0 → ∃ j : Int32, j.toInt = p1.toInt ∧ σ7_3.2.2 4 = vp_updL (σ.2.2 4) j.toNatClampNeg p2))) := fd_hd (⟨fun _ => y_8, fun h => absurd h (by omega)⟩)
    have w_12 : fd_H (((σ7_3.1 0).toInt = 0 → (0 : Int64) = σ.2.2 4 p1.toNatClampNeg)) := fd_hd (fun h => absurd h (by omega))
    exact fd_ok_some ⟨i_4, f_5, x_10, w_11, w_12⟩
  ·
    have d_13 := Int32.le_iff_toInt_le.mp (Int32.not_lt.mp c_1)
    have r_14 : (0 : Int) ≤ (σ.1 1).toInt ∧ (σ.1 1).toInt ≤ 200 := i0.1 1
    refine fd_ok_ite (fun c_15 => ?_) (fun c_15 => ?_)
    ·
      have d_16 := Int32.le_iff_toInt_le.mp c_15
      refine fd_ok_pb ?_
      refine fd_ok_itp (by decide) ?_
      try unfold f_X11_pattern_0_J26
      try unfold f_X11_pattern_0_J27
      refine fd_ok_lt (fun σ7_17 eσ7_17 => ?_)
      have i_18 : fd_InvM σ7_17 := fd_inv_sI eσ7_17 i0 (fd_rng _)
      have f_19 : fd_fr [0, 6, 7, 204] σ σ7_17 := fd_fr_tr f0 (fd_fr_sI eσ7_17 (by decide))
      have t_20 : (σ7_17.1 0).toInt = (1 : Int32).toInt := congrArg Int32.toInt (fd_tI eσ7_17)
      have t_21 : (σ7_17.1 1).toInt = (σ.1 1).toInt := congrArg Int32.toInt (fd_tN eσ7_17 (by decide))
      have y_22 := fd_yIL (d := 4) eσ7_17 (rfl : σ.2.2 4 = _)
      have r_23 := fd_rng (σ7_17.1 0)
      refine fd_ok_itn (Int32.not_le.mpr (Int32.lt_iff_toInt_lt.mpr (by omega))) ?_
      have x_24 : ((¬ (0 ≤ p1.toInt ∧ p1.toInt < (σ.1 1).toInt ∧ (σ.2.1 1 p1.toNatClampNeg).toInt = -1)) ∧ (σ7_17.1 0).toInt = 1) ∨ (¬ (¬ (0 ≤ p1.toInt ∧ p1.toInt < (σ.1 1).toInt ∧ (σ.2.1 1 p1.toNatClampNeg).toInt = -1)) ∧ (σ7_17.1 0).toInt = 0) := by omega
      have w_25 : fd_H (((¬ (σ7_17.1 0).toInt = 0 → σ7_17.2.2 4 = σ.2.2 4) ∧ ((σ7_17.1 0).toInt = 0 → ∃ j : Int32, j.toInt = p1.toInt ∧ σ7_17.2.2 4 = vp_updL (σ.2.2 4) j.toNatClampNeg p2))) := fd_hd (⟨fun _ => y_22, fun h => absurd h (by omega)⟩)
      have w_26 : fd_H (((σ7_17.1 0).toInt = 0 → (0 : Int64) = σ.2.2 4 p1.toNatClampNeg)) := fd_hd (fun h => absurd h (by omega))
      exact fd_ok_some ⟨i_18, f_19, x_24, w_25, w_26⟩
    ·
      have d_27 := Int32.lt_iff_toInt_lt.mp (Int32.not_le.mp c_15)
      refine fd_ok_pb ?_
      refine fd_ok_itn (by decide) ?_
      refine fd_ok_gd (vp_in_iff.mpr ⟨by omega, by omega⟩) ?_
      refine fd_ok_ite (fun c_28 => ?_) (fun c_28 => ?_)
      ·
        have d_29 := congrArg Int32.toInt c_28
        try unfold f_X11_pattern_0_J27
        refine fd_ok_lt (fun σ7_30 eσ7_30 => ?_)
        have i_31 : fd_InvM σ7_30 := fd_inv_sI eσ7_30 i0 (fd_rng _)
        have f_32 : fd_fr [0, 6, 7, 204] σ σ7_30 := fd_fr_tr f0 (fd_fr_sI eσ7_30 (by decide))
        have t_33 : (σ7_30.1 0).toInt = (0 : Int32).toInt := congrArg Int32.toInt (fd_tI eσ7_30)
        have t_34 : (σ7_30.1 1).toInt = (σ.1 1).toInt := congrArg Int32.toInt (fd_tN eσ7_30 (by decide))
        have y_35 := fd_yIL (d := 4) eσ7_30 (rfl : σ.2.2 4 = _)
        have r_36 := fd_rng (σ7_30.1 0)
        refine fd_ok_itp (Int32.le_iff_toInt_le.mpr (by omega)) ?_
        refine fd_ok_gd (vp_in_iff.mpr ⟨by omega, by omega⟩) ?_
        refine fd_ok_lt (fun x10_37 ex10_37 => ?_)
        refine fd_ok_gd (vp_in_iff.mpr ⟨by omega, by omega⟩) ?_
        refine fd_ok_lt (fun σ12_38 eσ12_38 => ?_)
        have i_39 : fd_InvM σ12_38 := fd_inv_sL eσ12_38 i_31
        have f_40 : fd_fr [0, 6, 7, 204] σ σ12_38 := fd_fr_tr f_32 (fd_fr_sL eσ12_38 (by decide))
        have t_41 : (σ12_38.1 0).toInt = (σ7_30.1 0).toInt := by subst eσ12_38; rfl
        have t_42 : (σ12_38.1 1).toInt = (σ7_30.1 1).toInt := by subst eσ12_38; rfl
        have y_43 := fd_yL eσ12_38 y_35
        refine fd_ok_bd ?_
        try unfold f_X11_changed_0
        refine fd_ok_lt (fun σ1_44 eσ1_44 => ?_)
        have i_45 : fd_InvM σ1_44 := fd_inv_sI eσ1_44 i_39 ⟨(by omega : (0 : Int) ≤ (0 : Int32).toInt), (by omega : (0 : Int32).toInt ≤ 1)⟩
        have f_46 : fd_fr [0, 6, 7, 204] σ σ1_44 := fd_fr_tr f_40 (fd_fr_sI eσ1_44 (by decide))
        have t_47 : (σ1_44.1 0).toInt = (σ12_38.1 0).toInt := congrArg Int32.toInt (fd_tN eσ1_44 (by decide))
        have t_48 : (σ1_44.1 1).toInt = (σ12_38.1 1).toInt := congrArg Int32.toInt (fd_tN eσ1_44 (by decide))
        have y_49 := fd_yIL (d := 4) eσ1_44 y_43
        refine fd_ok_lt (fun σ2_50 eσ2_50 => ?_)
        have i_51 : fd_InvM σ2_50 := fd_inv_sI eσ2_50 i_45 ⟨(by omega : (0 : Int) ≤ (0 : Int32).toInt), (by omega : (0 : Int32).toInt ≤ 480)⟩
        have f_52 : fd_fr [0, 6, 7, 204] σ σ2_50 := fd_fr_tr f_46 (fd_fr_sI eσ2_50 (by decide))
        have t_53 : (σ2_50.1 0).toInt = (σ1_44.1 0).toInt := congrArg Int32.toInt (fd_tN eσ2_50 (by decide))
        have t_54 : (σ2_50.1 1).toInt = (σ1_44.1 1).toInt := congrArg Int32.toInt (fd_tN eσ2_50 (by decide))
        have y_55 := fd_yIL (d := 4) eσ2_50 y_49
        refine fd_ok_pb ?_
        have x_56 : ((¬ (0 ≤ p1.toInt ∧ p1.toInt < (σ.1 1).toInt ∧ (σ.2.1 1 p1.toNatClampNeg).toInt = -1)) ∧ (σ2_50.1 0).toInt = 1) ∨ (¬ (¬ (0 ≤ p1.toInt ∧ p1.toInt < (σ.1 1).toInt ∧ (σ.2.1 1 p1.toNatClampNeg).toInt = -1)) ∧ (σ2_50.1 0).toInt = 0) := by omega
        have w_57 : fd_H (((¬ (σ2_50.1 0).toInt = 0 → σ2_50.2.2 4 = σ.2.2 4) ∧ ((σ2_50.1 0).toInt = 0 → ∃ j : Int32, j.toInt = p1.toInt ∧ σ2_50.2.2 4 = vp_updL (σ.2.2 4) j.toNatClampNeg p2))) := fd_hd (⟨fun h => absurd (by omega) h, fun _ => ⟨_, by omega, y_55⟩⟩)
        have w_58 : fd_H (((σ2_50.1 0).toInt = 0 → x10_37 = σ.2.2 4 p1.toNatClampNeg)) := fd_hd (fun _ => ex10_37.trans (congrFun y_35 _))
        exact fd_ok_some ⟨i_51, f_52, x_56, w_57, w_58⟩
      ·
        have d_59 : ¬ (σ.2.1 1 p1.toNatClampNeg).toInt = (-1 : Int32).toInt := fun q => c_28 (Int32.toInt_inj.mp q)
        try unfold f_X11_pattern_0_J26
        try unfold f_X11_pattern_0_J27
        refine fd_ok_lt (fun σ7_60 eσ7_60 => ?_)
        have i_61 : fd_InvM σ7_60 := fd_inv_sI eσ7_60 i0 (fd_rng _)
        have f_62 : fd_fr [0, 6, 7, 204] σ σ7_60 := fd_fr_tr f0 (fd_fr_sI eσ7_60 (by decide))
        have t_63 : (σ7_60.1 0).toInt = (1 : Int32).toInt := congrArg Int32.toInt (fd_tI eσ7_60)
        have t_64 : (σ7_60.1 1).toInt = (σ.1 1).toInt := congrArg Int32.toInt (fd_tN eσ7_60 (by decide))
        have y_65 := fd_yIL (d := 4) eσ7_60 (rfl : σ.2.2 4 = _)
        have r_66 := fd_rng (σ7_60.1 0)
        refine fd_ok_itn (Int32.not_le.mpr (Int32.lt_iff_toInt_lt.mpr (by omega))) ?_
        have x_67 : ((¬ (0 ≤ p1.toInt ∧ p1.toInt < (σ.1 1).toInt ∧ (σ.2.1 1 p1.toNatClampNeg).toInt = -1)) ∧ (σ7_60.1 0).toInt = 1) ∨ (¬ (¬ (0 ≤ p1.toInt ∧ p1.toInt < (σ.1 1).toInt ∧ (σ.2.1 1 p1.toNatClampNeg).toInt = -1)) ∧ (σ7_60.1 0).toInt = 0) := by omega
        have w_68 : fd_H (((¬ (σ7_60.1 0).toInt = 0 → σ7_60.2.2 4 = σ.2.2 4) ∧ ((σ7_60.1 0).toInt = 0 → ∃ j : Int32, j.toInt = p1.toInt ∧ σ7_60.2.2 4 = vp_updL (σ.2.2 4) j.toNatClampNeg p2))) := fd_hd (⟨fun _ => y_65, fun h => absurd h (by omega)⟩)
        have w_69 : fd_H (((σ7_60.1 0).toInt = 0 → (0 : Int64) = σ.2.2 4 p1.toNatClampNeg)) := fd_hd (fun h => absurd h (by omega))
        exact fd_ok_some ⟨i_61, f_62, x_67, w_68, w_69⟩
set_option maxHeartbeats 4000000 in
theorem s_X11_row_0 (N : Nat) (hN : 1000 ≤ N) (p1 : Int32) (σ : fd_St) (i0 : fd_InvM σ) : fd_ok (f_X11_row_0 N p1 σ) (fun v s => fd_InvM s ∧ fd_fr [0, 209] σ s ∧ (((¬ (0 ≤ p1.toInt ∧ p1.toInt < (σ.1 1).toInt)) ∧ (s.1 0).toInt = 1) ∨ (¬ (¬ (0 ≤ p1.toInt ∧ p1.toInt < (σ.1 1).toInt)) ∧ (s.1 0).toInt = 0)) ∧ fd_H (((s.1 0).toInt = 0 → ∀ r : Nat → Int64, fd_E (σ.2.1 1) (σ.2.1 2) (σ.2.1 3) r (σ.2.2 4) (σ.1 1).toNatClampNeg → v = r p1.toNatClampNeg &&& fd_mk (σ.1 4)))) := by
  have lit0 : (0 : Int32).toInt = 0 := by decide
  have lit1 : (1 : Int32).toInt = 1 := by decide
  have f0 : fd_fr [0, 209] σ σ := fd_fr_rf
  unfold f_X11_row_0
  refine fd_ok_bd ?_
  try unfold f_X11_isIn
  refine fd_ok_ite (fun c_1 => ?_) (fun c_1 => ?_)
  ·
    have d_2 := Int32.lt_iff_toInt_lt.mp c_1
    refine fd_ok_pb ?_
    refine fd_ok_itp (by decide) ?_
    try unfold f_X11_row_0_J17
    refine fd_ok_lt (fun σ7_3 eσ7_3 => ?_)
    have i_4 : fd_InvM σ7_3 := fd_inv_sI eσ7_3 i0 (fd_rng _)
    have f_5 : fd_fr [0, 209] σ σ7_3 := fd_fr_tr f0 (fd_fr_sI eσ7_3 (by decide))
    have t_6 : (σ7_3.1 0).toInt = (1 : Int32).toInt := congrArg Int32.toInt (fd_tI eσ7_3)
    have t_7 : (σ7_3.1 1).toInt = (σ.1 1).toInt := congrArg Int32.toInt (fd_tN eσ7_3 (by decide))
    have t_8 : (σ7_3.1 4).toInt = (σ.1 4).toInt := congrArg Int32.toInt (fd_tN eσ7_3 (by decide))
    have y_9 := fd_yIL (d := 4) eσ7_3 (rfl : σ.2.2 4 = _)
    have r_10 := fd_rng (σ7_3.1 0)
    refine fd_ok_itn (Int32.not_le.mpr (Int32.lt_iff_toInt_lt.mpr (by omega))) ?_
    have x_11 : ((¬ (0 ≤ p1.toInt ∧ p1.toInt < (σ.1 1).toInt)) ∧ (σ7_3.1 0).toInt = 1) ∨ (¬ (¬ (0 ≤ p1.toInt ∧ p1.toInt < (σ.1 1).toInt)) ∧ (σ7_3.1 0).toInt = 0) := by omega
    have w_12 : fd_H (((σ7_3.1 0).toInt = 0 → ∀ r : Nat → Int64, fd_E (σ.2.1 1) (σ.2.1 2) (σ.2.1 3) r (σ.2.2 4) (σ.1 1).toNatClampNeg → (0 : Int64) = r p1.toNatClampNeg &&& fd_mk (σ.1 4))) := fd_hd (fun h => absurd h (by omega))
    exact fd_ok_some ⟨i_4, f_5, x_11, w_12⟩
  ·
    have d_13 := Int32.le_iff_toInt_le.mp (Int32.not_lt.mp c_1)
    have r_14 : (0 : Int) ≤ (σ.1 1).toInt ∧ (σ.1 1).toInt ≤ 200 := i0.1 1
    refine fd_ok_ite (fun c_15 => ?_) (fun c_15 => ?_)
    ·
      have d_16 := Int32.le_iff_toInt_le.mp c_15
      refine fd_ok_pb ?_
      refine fd_ok_itp (by decide) ?_
      try unfold f_X11_row_0_J17
      refine fd_ok_lt (fun σ7_17 eσ7_17 => ?_)
      have i_18 : fd_InvM σ7_17 := fd_inv_sI eσ7_17 i0 (fd_rng _)
      have f_19 : fd_fr [0, 209] σ σ7_17 := fd_fr_tr f0 (fd_fr_sI eσ7_17 (by decide))
      have t_20 : (σ7_17.1 0).toInt = (1 : Int32).toInt := congrArg Int32.toInt (fd_tI eσ7_17)
      have t_21 : (σ7_17.1 1).toInt = (σ.1 1).toInt := congrArg Int32.toInt (fd_tN eσ7_17 (by decide))
      have t_22 : (σ7_17.1 4).toInt = (σ.1 4).toInt := congrArg Int32.toInt (fd_tN eσ7_17 (by decide))
      have y_23 := fd_yIL (d := 4) eσ7_17 (rfl : σ.2.2 4 = _)
      have r_24 := fd_rng (σ7_17.1 0)
      refine fd_ok_itn (Int32.not_le.mpr (Int32.lt_iff_toInt_lt.mpr (by omega))) ?_
      have x_25 : ((¬ (0 ≤ p1.toInt ∧ p1.toInt < (σ.1 1).toInt)) ∧ (σ7_17.1 0).toInt = 1) ∨ (¬ (¬ (0 ≤ p1.toInt ∧ p1.toInt < (σ.1 1).toInt)) ∧ (σ7_17.1 0).toInt = 0) := by omega
      have w_26 : fd_H (((σ7_17.1 0).toInt = 0 → ∀ r : Nat → Int64, fd_E (σ.2.1 1) (σ.2.1 2) (σ.2.1 3) r (σ.2.2 4) (σ.1 1).toNatClampNeg → (0 : Int64) = r p1.toNatClampNeg &&& fd_mk (σ.1 4))) := fd_hd (fun h => absurd h (by omega))
      exact fd_ok_some ⟨i_18, f_19, x_25, w_26⟩
    ·
      have d_27 := Int32.lt_iff_toInt_lt.mp (Int32.not_le.mp c_15)
      refine fd_ok_pb ?_
      refine fd_ok_itn (by decide) ?_
      try unfold f_X11_row_0_J17
      refine fd_ok_lt (fun σ7_28 eσ7_28 => ?_)
      have i_29 : fd_InvM σ7_28 := fd_inv_sI eσ7_28 i0 (fd_rng _)
      have f_30 : fd_fr [0, 209] σ σ7_28 := fd_fr_tr f0 (fd_fr_sI eσ7_28 (by decide))
      have t_31 : (σ7_28.1 0).toInt = (0 : Int32).toInt := congrArg Int32.toInt (fd_tI eσ7_28)
      have t_32 : (σ7_28.1 1).toInt = (σ.1 1).toInt := congrArg Int32.toInt (fd_tN eσ7_28 (by decide))
      have t_33 : (σ7_28.1 4).toInt = (σ.1 4).toInt := congrArg Int32.toInt (fd_tN eσ7_28 (by decide))
      have y_34 := fd_yIL (d := 4) eσ7_28 (rfl : σ.2.2 4 = _)
      have r_35 := fd_rng (σ7_28.1 0)
      refine fd_ok_itp (Int32.le_iff_toInt_le.mpr (by omega)) ?_
      refine fd_ok_bd ?_
      try unfold f_X11_workPlain_0
      refine fd_ok_cl (s_X11_workPlain_0_L2 N hN N _ _ i_29 (by omega) (by omega) (by omega)) ?_
      rintro v_36 σ_37 ⟨i_38, g_39, x_40⟩
      have f_41 : fd_fr [0, 209] σ σ_37 := fd_fr_tr f_30 (fd_fr_mono g_39 (by decide))
      have y_42 := (g_39.2.2 4 (by decide)).trans y_34
      have t_43 : (σ_37.1 0).toInt = (σ7_28.1 0).toInt := congrArg Int32.toInt (g_39.1 0 (by decide))
      have t_44 : (σ_37.1 1).toInt = (σ7_28.1 1).toInt := congrArg Int32.toInt (g_39.1 1 (by decide))
      have t_45 : (σ_37.1 4).toInt = (σ7_28.1 4).toInt := congrArg Int32.toInt (g_39.1 4 (by decide))
      refine fd_ok_gd (vp_in_iff.mpr ⟨by omega, by omega⟩) ?_
      have x_46 : ((¬ (0 ≤ p1.toInt ∧ p1.toInt < (σ.1 1).toInt)) ∧ (σ_37.1 0).toInt = 1) ∨ (¬ (¬ (0 ≤ p1.toInt ∧ p1.toInt < (σ.1 1).toInt)) ∧ (σ_37.1 0).toInt = 0) := by omega
      have E1 : σ7_28.1 1 = σ.1 1 := Int32.toInt_inj.mp (by omega)
      have E4 : σ7_28.1 4 = σ.1 4 := Int32.toInt_inj.mp (by omega)
      have E2 : σ7_28.2.1 = σ.2.1 := by subst eσ7_28; rfl
      have E3 : σ7_28.2.2 4 = σ.2.2 4 := by subst eσ7_28; rfl
      have E0 : (0 : Int32).toNatClampNeg = 0 := by decide
      rw [E2, E3, E1, E4, E0] at x_40
      have w_47 : fd_H (((σ_37.1 0).toInt = 0 → ∀ r : Nat → Int64, fd_E (σ.2.1 1) (σ.2.1 2) (σ.2.1 3) r (σ.2.2 4) (σ.1 1).toNatClampNeg → (σ_37.2.2 9 p1.toNatClampNeg) = r p1.toNatClampNeg &&& fd_mk (σ.1 4))) := fd_hd (fun _ => fun r hE => x_40 (by decide) r hE (fun i hi => absurd hi (Nat.not_lt_zero i)) _ (fd_tl' (by omega) (by omega)))
      exact fd_ok_some ⟨i_38, f_41, x_46, w_47⟩
set_option maxHeartbeats 4000000 in
theorem s_X11_fail_0 (N : Nat) (hN : 1000 ≤ N) (p1 : Int32) (p2 : Int64) (σ : fd_St) (i0 : fd_InvM σ) : fd_ok (f_X11_fail_0 N p1 p2 σ) (fun v s => fd_InvM s ∧ fd_fr [0, 6, 7, 206] σ s ∧ (((¬ (0 ≤ p1.toInt ∧ p1.toInt < (σ.1 3).toInt)) ∧ (s.1 0).toInt = 1) ∨ (¬ (¬ (0 ≤ p1.toInt ∧ p1.toInt < (σ.1 3).toInt)) ∧ (s.1 0).toInt = 0)) ∧ fd_H (((¬ (s.1 0).toInt = 0 → s.2.2 6 = σ.2.2 6) ∧ ((s.1 0).toInt = 0 → ∃ j : Int32, j.toInt = p1.toInt ∧ s.2.2 6 = vp_updL (σ.2.2 6) j.toNatClampNeg p2))) ∧ fd_H (((s.1 0).toInt = 0 → v = σ.2.2 6 p1.toNatClampNeg))) := by
  have lit0 : (0 : Int32).toInt = 0 := by decide
  have lit1 : (1 : Int32).toInt = 1 := by decide
  have f0 : fd_fr [0, 6, 7, 206] σ σ := fd_fr_rf
  unfold f_X11_fail_0
  refine fd_ok_bd ?_
  try unfold f_X11_isIn
  refine fd_ok_ite (fun c_1 => ?_) (fun c_1 => ?_)
  ·
    have d_2 := Int32.lt_iff_toInt_lt.mp c_1
    refine fd_ok_pb ?_
    refine fd_ok_itp (by decide) ?_
    try unfold f_X11_fail_0_J17
    refine fd_ok_lt (fun σ7_3 eσ7_3 => ?_)
    have i_4 : fd_InvM σ7_3 := fd_inv_sI eσ7_3 i0 (fd_rng _)
    have f_5 : fd_fr [0, 6, 7, 206] σ σ7_3 := fd_fr_tr f0 (fd_fr_sI eσ7_3 (by decide))
    have t_6 : (σ7_3.1 0).toInt = (1 : Int32).toInt := congrArg Int32.toInt (fd_tI eσ7_3)
    have t_7 : (σ7_3.1 3).toInt = (σ.1 3).toInt := congrArg Int32.toInt (fd_tN eσ7_3 (by decide))
    have y_8 := fd_yIL (d := 6) eσ7_3 (rfl : σ.2.2 6 = _)
    have r_9 := fd_rng (σ7_3.1 0)
    refine fd_ok_itn (Int32.not_le.mpr (Int32.lt_iff_toInt_lt.mpr (by omega))) ?_
    have x_10 : ((¬ (0 ≤ p1.toInt ∧ p1.toInt < (σ.1 3).toInt)) ∧ (σ7_3.1 0).toInt = 1) ∨ (¬ (¬ (0 ≤ p1.toInt ∧ p1.toInt < (σ.1 3).toInt)) ∧ (σ7_3.1 0).toInt = 0) := by omega
    have w_11 : fd_H (((¬ (σ7_3.1 0).toInt = 0 → σ7_3.2.2 6 = σ.2.2 6) ∧ ((σ7_3.1 0).toInt = 0 → ∃ j : Int32, j.toInt = p1.toInt ∧ σ7_3.2.2 6 = vp_updL (σ.2.2 6) j.toNatClampNeg p2))) := fd_hd (⟨fun _ => y_8, fun h => absurd h (by omega)⟩)
    have w_12 : fd_H (((σ7_3.1 0).toInt = 0 → (0 : Int64) = σ.2.2 6 p1.toNatClampNeg)) := fd_hd (fun h => absurd h (by omega))
    exact fd_ok_some ⟨i_4, f_5, x_10, w_11, w_12⟩
  ·
    have d_13 := Int32.le_iff_toInt_le.mp (Int32.not_lt.mp c_1)
    have r_14 : (0 : Int) ≤ (σ.1 3).toInt ∧ (σ.1 3).toInt ≤ 32 := i0.1 3
    refine fd_ok_ite (fun c_15 => ?_) (fun c_15 => ?_)
    ·
      have d_16 := Int32.le_iff_toInt_le.mp c_15
      refine fd_ok_pb ?_
      refine fd_ok_itp (by decide) ?_
      try unfold f_X11_fail_0_J17
      refine fd_ok_lt (fun σ7_17 eσ7_17 => ?_)
      have i_18 : fd_InvM σ7_17 := fd_inv_sI eσ7_17 i0 (fd_rng _)
      have f_19 : fd_fr [0, 6, 7, 206] σ σ7_17 := fd_fr_tr f0 (fd_fr_sI eσ7_17 (by decide))
      have t_20 : (σ7_17.1 0).toInt = (1 : Int32).toInt := congrArg Int32.toInt (fd_tI eσ7_17)
      have t_21 : (σ7_17.1 3).toInt = (σ.1 3).toInt := congrArg Int32.toInt (fd_tN eσ7_17 (by decide))
      have y_22 := fd_yIL (d := 6) eσ7_17 (rfl : σ.2.2 6 = _)
      have r_23 := fd_rng (σ7_17.1 0)
      refine fd_ok_itn (Int32.not_le.mpr (Int32.lt_iff_toInt_lt.mpr (by omega))) ?_
      have x_24 : ((¬ (0 ≤ p1.toInt ∧ p1.toInt < (σ.1 3).toInt)) ∧ (σ7_17.1 0).toInt = 1) ∨ (¬ (¬ (0 ≤ p1.toInt ∧ p1.toInt < (σ.1 3).toInt)) ∧ (σ7_17.1 0).toInt = 0) := by omega
      have w_25 : fd_H (((¬ (σ7_17.1 0).toInt = 0 → σ7_17.2.2 6 = σ.2.2 6) ∧ ((σ7_17.1 0).toInt = 0 → ∃ j : Int32, j.toInt = p1.toInt ∧ σ7_17.2.2 6 = vp_updL (σ.2.2 6) j.toNatClampNeg p2))) := fd_hd (⟨fun _ => y_22, fun h => absurd h (by omega)⟩)
      have w_26 : fd_H (((σ7_17.1 0).toInt = 0 → (0 : Int64) = σ.2.2 6 p1.toNatClampNeg)) := fd_hd (fun h => absurd h (by omega))
      exact fd_ok_some ⟨i_18, f_19, x_24, w_25, w_26⟩
    ·
      have d_27 := Int32.lt_iff_toInt_lt.mp (Int32.not_le.mp c_15)
      refine fd_ok_pb ?_
      refine fd_ok_itn (by decide) ?_
      try unfold f_X11_fail_0_J17
      refine fd_ok_lt (fun σ7_28 eσ7_28 => ?_)
      have i_29 : fd_InvM σ7_28 := fd_inv_sI eσ7_28 i0 (fd_rng _)
      have f_30 : fd_fr [0, 6, 7, 206] σ σ7_28 := fd_fr_tr f0 (fd_fr_sI eσ7_28 (by decide))
      have t_31 : (σ7_28.1 0).toInt = (0 : Int32).toInt := congrArg Int32.toInt (fd_tI eσ7_28)
      have t_32 : (σ7_28.1 3).toInt = (σ.1 3).toInt := congrArg Int32.toInt (fd_tN eσ7_28 (by decide))
      have y_33 := fd_yIL (d := 6) eσ7_28 (rfl : σ.2.2 6 = _)
      have r_34 := fd_rng (σ7_28.1 0)
      refine fd_ok_itp (Int32.le_iff_toInt_le.mpr (by omega)) ?_
      refine fd_ok_gd (vp_in_iff.mpr ⟨by omega, by omega⟩) ?_
      refine fd_ok_lt (fun x10_35 ex10_35 => ?_)
      refine fd_ok_gd (vp_in_iff.mpr ⟨by omega, by omega⟩) ?_
      refine fd_ok_lt (fun σ12_36 eσ12_36 => ?_)
      have i_37 : fd_InvM σ12_36 := fd_inv_sL eσ12_36 i_29
      have f_38 : fd_fr [0, 6, 7, 206] σ σ12_36 := fd_fr_tr f_30 (fd_fr_sL eσ12_36 (by decide))
      have t_39 : (σ12_36.1 0).toInt = (σ7_28.1 0).toInt := by subst eσ12_36; rfl
      have t_40 : (σ12_36.1 3).toInt = (σ7_28.1 3).toInt := by subst eσ12_36; rfl
      have y_41 := fd_yL eσ12_36 y_33
      refine fd_ok_bd ?_
      try unfold f_X11_changed_0
      refine fd_ok_lt (fun σ1_42 eσ1_42 => ?_)
      have i_43 : fd_InvM σ1_42 := fd_inv_sI eσ1_42 i_37 ⟨(by omega : (0 : Int) ≤ (0 : Int32).toInt), (by omega : (0 : Int32).toInt ≤ 1)⟩
      have f_44 : fd_fr [0, 6, 7, 206] σ σ1_42 := fd_fr_tr f_38 (fd_fr_sI eσ1_42 (by decide))
      have t_45 : (σ1_42.1 0).toInt = (σ12_36.1 0).toInt := congrArg Int32.toInt (fd_tN eσ1_42 (by decide))
      have t_46 : (σ1_42.1 3).toInt = (σ12_36.1 3).toInt := congrArg Int32.toInt (fd_tN eσ1_42 (by decide))
      have y_47 := fd_yIL (d := 6) eσ1_42 y_41
      refine fd_ok_lt (fun σ2_48 eσ2_48 => ?_)
      have i_49 : fd_InvM σ2_48 := fd_inv_sI eσ2_48 i_43 ⟨(by omega : (0 : Int) ≤ (0 : Int32).toInt), (by omega : (0 : Int32).toInt ≤ 480)⟩
      have f_50 : fd_fr [0, 6, 7, 206] σ σ2_48 := fd_fr_tr f_44 (fd_fr_sI eσ2_48 (by decide))
      have t_51 : (σ2_48.1 0).toInt = (σ1_42.1 0).toInt := congrArg Int32.toInt (fd_tN eσ2_48 (by decide))
      have t_52 : (σ2_48.1 3).toInt = (σ1_42.1 3).toInt := congrArg Int32.toInt (fd_tN eσ2_48 (by decide))
      have y_53 := fd_yIL (d := 6) eσ2_48 y_47
      refine fd_ok_pb ?_
      have x_54 : ((¬ (0 ≤ p1.toInt ∧ p1.toInt < (σ.1 3).toInt)) ∧ (σ2_48.1 0).toInt = 1) ∨ (¬ (¬ (0 ≤ p1.toInt ∧ p1.toInt < (σ.1 3).toInt)) ∧ (σ2_48.1 0).toInt = 0) := by omega
      have w_55 : fd_H (((¬ (σ2_48.1 0).toInt = 0 → σ2_48.2.2 6 = σ.2.2 6) ∧ ((σ2_48.1 0).toInt = 0 → ∃ j : Int32, j.toInt = p1.toInt ∧ σ2_48.2.2 6 = vp_updL (σ.2.2 6) j.toNatClampNeg p2))) := fd_hd (⟨fun h => absurd (by omega) h, fun _ => ⟨_, by omega, y_53⟩⟩)
      have w_56 : fd_H (((σ2_48.1 0).toInt = 0 → x10_35 = σ.2.2 6 p1.toNatClampNeg)) := fd_hd (fun _ => ex10_35.trans (congrFun y_33 _))
      exact fd_ok_some ⟨i_49, f_50, x_54, w_55, w_56⟩
set_option maxHeartbeats 4000000 in
theorem s_X11_near_0 (N : Nat) (hN : 1000 ≤ N) (p1 : Int32) (p2 : Int32) (σ : fd_St) (i0 : fd_InvM σ) : fd_ok (f_X11_near_0 N p1 p2 σ) (fun v s => fd_InvM s ∧ fd_fr [0, 5, 6, 7, 107, 108, 111] σ s ∧ (True)) := by
  have litm1 : (-1 : Int32).toInt = -1 := by decide
  have lit0 : (0 : Int32).toInt = 0 := by decide
  have lit1 : (1 : Int32).toInt = 1 := by decide
  have f0 : fd_fr [0, 5, 6, 7, 107, 108, 111] σ σ := fd_fr_rf
  unfold f_X11_near_0
  refine fd_ok_bd ?_
  try unfold f_X11_isIn
  refine fd_ok_ite (fun c_1 => ?_) (fun c_1 => ?_)
  ·
    have d_2 := Int32.lt_iff_toInt_lt.mp c_1
    refine fd_ok_pb ?_
    refine fd_ok_itp (by decide) ?_
    try unfold f_X11_near_0_J26
    try unfold f_X11_near_0_J27
    refine fd_ok_mono (s_X11_near_0_L34 N hN N _ _ _ _ _ _ i0 (by omega) (by omega) (by omega) (by omega) (by omega) (by omega)) ?_
    rintro v s ⟨hi, hf, hx⟩
    exact ⟨hi, fd_fr_tr f0 (fd_fr_mono hf (by decide)), trivial⟩
  ·
    have d_3 := Int32.le_iff_toInt_le.mp (Int32.not_lt.mp c_1)
    have r_4 : (0 : Int) ≤ (σ.1 1).toInt ∧ (σ.1 1).toInt ≤ 200 := i0.1 1
    refine fd_ok_ite (fun c_5 => ?_) (fun c_5 => ?_)
    ·
      have d_6 := Int32.le_iff_toInt_le.mp c_5
      refine fd_ok_pb ?_
      refine fd_ok_itp (by decide) ?_
      try unfold f_X11_near_0_J26
      try unfold f_X11_near_0_J27
      refine fd_ok_mono (s_X11_near_0_L34 N hN N _ _ _ _ _ _ i0 (by omega) (by omega) (by omega) (by omega) (by omega) (by omega)) ?_
      rintro v s ⟨hi, hf, hx⟩
      exact ⟨hi, fd_fr_tr f0 (fd_fr_mono hf (by decide)), trivial⟩
    ·
      have d_7 := Int32.lt_iff_toInt_lt.mp (Int32.not_le.mp c_5)
      refine fd_ok_pb ?_
      refine fd_ok_itn (by decide) ?_
      refine fd_ok_bd ?_
      try unfold f_X11_isIn
      refine fd_ok_ite (fun c_8 => ?_) (fun c_8 => ?_)
      ·
        have d_9 := Int32.lt_iff_toInt_lt.mp c_8
        refine fd_ok_pb ?_
        refine fd_ok_itp (by decide) ?_
        try unfold f_X11_near_0_J26
        try unfold f_X11_near_0_J27
        refine fd_ok_mono (s_X11_near_0_L34 N hN N _ _ _ _ _ _ i0 (by omega) (by omega) (by omega) (by omega) (by omega) (by omega)) ?_
        rintro v s ⟨hi, hf, hx⟩
        exact ⟨hi, fd_fr_tr f0 (fd_fr_mono hf (by decide)), trivial⟩
      ·
        have d_10 := Int32.le_iff_toInt_le.mp (Int32.not_lt.mp c_8)
        refine fd_ok_ite (fun c_11 => ?_) (fun c_11 => ?_)
        ·
          have d_12 := Int32.le_iff_toInt_le.mp c_11
          refine fd_ok_pb ?_
          refine fd_ok_itp (by decide) ?_
          try unfold f_X11_near_0_J26
          try unfold f_X11_near_0_J27
          refine fd_ok_mono (s_X11_near_0_L34 N hN N _ _ _ _ _ _ i0 (by omega) (by omega) (by omega) (by omega) (by omega) (by omega)) ?_
          rintro v s ⟨hi, hf, hx⟩
          exact ⟨hi, fd_fr_tr f0 (fd_fr_mono hf (by decide)), trivial⟩
        ·
          have d_13 := Int32.lt_iff_toInt_lt.mp (Int32.not_le.mp c_11)
          refine fd_ok_pb ?_
          refine fd_ok_itn (by decide) ?_
          try unfold f_X11_near_0_J27
          refine fd_ok_mono (s_X11_near_0_L34 N hN N _ _ _ _ _ _ i0 (by omega) (by omega) (by omega) (by omega) (by omega) (by omega)) ?_
          rintro v s ⟨hi, hf, hx⟩
          exact ⟨hi, fd_fr_tr f0 (fd_fr_mono hf (by decide)), trivial⟩
set_option maxHeartbeats 4000000 in
theorem s_X11_shows_0 (N : Nat) (hN : 1000 ≤ N) (p1 : Int32) (p2 : Int32) (p3 : Int32) (σ : fd_St) (i0 : fd_InvM σ) : fd_ok (f_X11_shows_0 N p1 p2 p3 σ) (fun v s => fd_InvM s ∧ fd_fr [0, 209, 210] σ s ∧ (True)) := by
  have lit0 : (0 : Int32).toInt = 0 := by decide
  have lit1 : (1 : Int32).toInt = 1 := by decide
  have lit2 : (2 : Int32).toInt = 2 := by decide
  have lit3 : (3 : Int32).toInt = 3 := by decide
  have f0 : fd_fr [0, 209, 210] σ σ := fd_fr_rf
  unfold f_X11_shows_0
  refine fd_ok_ite (fun c_1 => ?_) (fun c_1 => ?_)
  ·
    have d_2 := congrArg Int32.toInt c_1
    try unfold f_X11_shows_0_J9
    refine fd_ok_bd ?_
    try unfold f_X11_isIn
    refine fd_ok_ite (fun c_3 => ?_) (fun c_3 => ?_)
    ·
      have d_4 := Int32.lt_iff_toInt_lt.mp c_3
      refine fd_ok_pb ?_
      refine fd_ok_itp (by decide) ?_
      try unfold f_X11_shows_0_J20
      refine fd_ok_ite (fun c_5 => ?_) (fun c_5 => ?_)
      ·
        have d_6 := congrArg Int32.toInt c_5
        try unfold f_X11_shows_0_J30
        refine fd_ok_bd ?_
        try unfold f_X11_isIn
        refine fd_ok_ite (fun c_7 => ?_) (fun c_7 => ?_)
        ·
          have d_8 := Int32.lt_iff_toInt_lt.mp c_7
          refine fd_ok_pb ?_
          refine fd_ok_itp (by decide) ?_
          try unfold f_X11_shows_0_J45
          try unfold f_X11_shows_0_J46
          refine fd_ok_itp (by decide) ?_
          try unfold f_X11_shows_0_J69
          try unfold f_X11_shows_0_J70
          refine fd_ok_lt (fun σ9_9 eσ9_9 => ?_)
          have i_10 : fd_InvM σ9_9 := fd_inv_sI eσ9_9 i0 (fd_rng _)
          have f_11 : fd_fr [0, 209, 210] σ σ9_9 := fd_fr_tr f0 (fd_fr_sI eσ9_9 (by decide))
          have t_12 : (σ9_9.1 0).toInt = (1 : Int32).toInt := congrArg Int32.toInt (fd_tI eσ9_9)
          have t_13 : (σ9_9.1 1).toInt = (σ.1 1).toInt := congrArg Int32.toInt (fd_tN eσ9_9 (by decide))
          have t_14 : (σ9_9.1 3).toInt = (σ.1 3).toInt := congrArg Int32.toInt (fd_tN eσ9_9 (by decide))
          have t_15 : (σ9_9.1 5).toInt = (σ.1 5).toInt := congrArg Int32.toInt (fd_tN eσ9_9 (by decide))
          have r_16 := fd_rng (σ9_9.1 0)
          refine fd_ok_itn (Int32.not_le.mpr (Int32.lt_iff_toInt_lt.mpr (by omega))) ?_
          exact fd_ok_some ⟨i_10, f_11, trivial⟩
        ·
          have d_17 := Int32.le_iff_toInt_le.mp (Int32.not_lt.mp c_7)
          have r_18 : (0 : Int) ≤ (σ.1 5).toInt ∧ (σ.1 5).toInt ≤ 40 := i0.1 5
          refine fd_ok_ite (fun c_19 => ?_) (fun c_19 => ?_)
          ·
            have d_20 := Int32.le_iff_toInt_le.mp c_19
            refine fd_ok_pb ?_
            refine fd_ok_itp (by decide) ?_
            try unfold f_X11_shows_0_J45
            try unfold f_X11_shows_0_J46
            refine fd_ok_itp (by decide) ?_
            try unfold f_X11_shows_0_J69
            try unfold f_X11_shows_0_J70
            refine fd_ok_lt (fun σ9_21 eσ9_21 => ?_)
            have i_22 : fd_InvM σ9_21 := fd_inv_sI eσ9_21 i0 (fd_rng _)
            have f_23 : fd_fr [0, 209, 210] σ σ9_21 := fd_fr_tr f0 (fd_fr_sI eσ9_21 (by decide))
            have t_24 : (σ9_21.1 0).toInt = (1 : Int32).toInt := congrArg Int32.toInt (fd_tI eσ9_21)
            have t_25 : (σ9_21.1 1).toInt = (σ.1 1).toInt := congrArg Int32.toInt (fd_tN eσ9_21 (by decide))
            have t_26 : (σ9_21.1 3).toInt = (σ.1 3).toInt := congrArg Int32.toInt (fd_tN eσ9_21 (by decide))
            have t_27 : (σ9_21.1 5).toInt = (σ.1 5).toInt := congrArg Int32.toInt (fd_tN eσ9_21 (by decide))
            have r_28 := fd_rng (σ9_21.1 0)
            refine fd_ok_itn (Int32.not_le.mpr (Int32.lt_iff_toInt_lt.mpr (by omega))) ?_
            exact fd_ok_some ⟨i_22, f_23, trivial⟩
          ·
            have d_29 := Int32.lt_iff_toInt_lt.mp (Int32.not_le.mp c_19)
            refine fd_ok_pb ?_
            refine fd_ok_itn (by decide) ?_
            try unfold f_X11_shows_0_J41
            try unfold f_X11_shows_0_J46
            refine fd_ok_itn (by decide) ?_
            refine fd_ok_bd ?_
            try unfold f_X11_isIn
            refine fd_ok_ite (fun c_30 => ?_) (fun c_30 => ?_)
            ·
              have d_31 := Int32.lt_iff_toInt_lt.mp c_30
              refine fd_ok_pb ?_
              refine fd_ok_itp (by decide) ?_
              try unfold f_X11_shows_0_J69
              try unfold f_X11_shows_0_J70
              refine fd_ok_lt (fun σ9_32 eσ9_32 => ?_)
              have i_33 : fd_InvM σ9_32 := fd_inv_sI eσ9_32 i0 (fd_rng _)
              have f_34 : fd_fr [0, 209, 210] σ σ9_32 := fd_fr_tr f0 (fd_fr_sI eσ9_32 (by decide))
              have t_35 : (σ9_32.1 0).toInt = (1 : Int32).toInt := congrArg Int32.toInt (fd_tI eσ9_32)
              have t_36 : (σ9_32.1 1).toInt = (σ.1 1).toInt := congrArg Int32.toInt (fd_tN eσ9_32 (by decide))
              have t_37 : (σ9_32.1 3).toInt = (σ.1 3).toInt := congrArg Int32.toInt (fd_tN eσ9_32 (by decide))
              have t_38 : (σ9_32.1 5).toInt = (σ.1 5).toInt := congrArg Int32.toInt (fd_tN eσ9_32 (by decide))
              have r_39 := fd_rng (σ9_32.1 0)
              refine fd_ok_itn (Int32.not_le.mpr (Int32.lt_iff_toInt_lt.mpr (by omega))) ?_
              exact fd_ok_some ⟨i_33, f_34, trivial⟩
            ·
              have d_40 := Int32.le_iff_toInt_le.mp (Int32.not_lt.mp c_30)
              have r_41 : (0 : Int) ≤ (σ.1 3).toInt ∧ (σ.1 3).toInt ≤ 32 := i0.1 3
              refine fd_ok_ite (fun c_42 => ?_) (fun c_42 => ?_)
              ·
                have d_43 := Int32.le_iff_toInt_le.mp c_42
                refine fd_ok_pb ?_
                refine fd_ok_itp (by decide) ?_
                try unfold f_X11_shows_0_J69
                try unfold f_X11_shows_0_J70
                refine fd_ok_lt (fun σ9_44 eσ9_44 => ?_)
                have i_45 : fd_InvM σ9_44 := fd_inv_sI eσ9_44 i0 (fd_rng _)
                have f_46 : fd_fr [0, 209, 210] σ σ9_44 := fd_fr_tr f0 (fd_fr_sI eσ9_44 (by decide))
                have t_47 : (σ9_44.1 0).toInt = (1 : Int32).toInt := congrArg Int32.toInt (fd_tI eσ9_44)
                have t_48 : (σ9_44.1 1).toInt = (σ.1 1).toInt := congrArg Int32.toInt (fd_tN eσ9_44 (by decide))
                have t_49 : (σ9_44.1 3).toInt = (σ.1 3).toInt := congrArg Int32.toInt (fd_tN eσ9_44 (by decide))
                have t_50 : (σ9_44.1 5).toInt = (σ.1 5).toInt := congrArg Int32.toInt (fd_tN eσ9_44 (by decide))
                have r_51 := fd_rng (σ9_44.1 0)
                refine fd_ok_itn (Int32.not_le.mpr (Int32.lt_iff_toInt_lt.mpr (by omega))) ?_
                exact fd_ok_some ⟨i_45, f_46, trivial⟩
              ·
                have d_52 := Int32.lt_iff_toInt_lt.mp (Int32.not_le.mp c_42)
                refine fd_ok_pb ?_
                refine fd_ok_itn (by decide) ?_
                try unfold f_X11_shows_0_J70
                refine fd_ok_lt (fun σ9_53 eσ9_53 => ?_)
                have i_54 : fd_InvM σ9_53 := fd_inv_sI eσ9_53 i0 (fd_rng _)
                have f_55 : fd_fr [0, 209, 210] σ σ9_53 := fd_fr_tr f0 (fd_fr_sI eσ9_53 (by decide))
                have t_56 : (σ9_53.1 0).toInt = (0 : Int32).toInt := congrArg Int32.toInt (fd_tI eσ9_53)
                have t_57 : (σ9_53.1 1).toInt = (σ.1 1).toInt := congrArg Int32.toInt (fd_tN eσ9_53 (by decide))
                have t_58 : (σ9_53.1 3).toInt = (σ.1 3).toInt := congrArg Int32.toInt (fd_tN eσ9_53 (by decide))
                have t_59 : (σ9_53.1 5).toInt = (σ.1 5).toInt := congrArg Int32.toInt (fd_tN eσ9_53 (by decide))
                have r_60 := fd_rng (σ9_53.1 0)
                refine fd_ok_itp (Int32.le_iff_toInt_le.mpr (by omega)) ?_
                refine fd_ok_bd ?_
                try unfold f_X11_workPlain_0
                refine fd_ok_cl (s_X11_workPlain_0_L2 N hN N _ _ i_54 (by omega) (by omega) (by omega)) ?_
                rintro v_61 σ_62 ⟨i_63, g_64, x_65⟩
                have f_66 : fd_fr [0, 209, 210] σ σ_62 := fd_fr_tr f_55 (fd_fr_mono g_64 (by decide))
                have t_67 : (σ_62.1 0).toInt = (σ9_53.1 0).toInt := congrArg Int32.toInt (g_64.1 0 (by decide))
                have t_68 : (σ_62.1 1).toInt = (σ9_53.1 1).toInt := congrArg Int32.toInt (g_64.1 1 (by decide))
                have t_69 : (σ_62.1 3).toInt = (σ9_53.1 3).toInt := congrArg Int32.toInt (g_64.1 3 (by decide))
                have t_70 : (σ_62.1 5).toInt = (σ9_53.1 5).toInt := congrArg Int32.toInt (g_64.1 5 (by decide))
                refine fd_ok_bd ?_
                refine fd_ok_cl (s_X11_workFault_0 N hN _ _ _ i_63 (by omega)) ?_
                rintro v_71 σ_72 ⟨i_73, g_74, x_75⟩
                have f_76 : fd_fr [0, 209, 210] σ σ_72 := fd_fr_tr f_66 (fd_fr_mono g_74 (by decide))
                have t_77 : (σ_72.1 0).toInt = (σ_62.1 0).toInt := congrArg Int32.toInt (g_74.1 0 (by decide))
                have t_78 : (σ_72.1 1).toInt = (σ_62.1 1).toInt := congrArg Int32.toInt (g_74.1 1 (by decide))
                have t_79 : (σ_72.1 3).toInt = (σ_62.1 3).toInt := congrArg Int32.toInt (g_74.1 3 (by decide))
                have t_80 : (σ_72.1 5).toInt = (σ_62.1 5).toInt := congrArg Int32.toInt (g_74.1 5 (by decide))
                refine fd_ok_gd (vp_in_iff.mpr ⟨by omega, by omega⟩) ?_
                have r_81 : (0 : Int) ≤ (σ_72.2.1 5 p3.toNatClampNeg).toInt ∧ (σ_72.2.1 5 p3.toNatClampNeg).toInt ≤ 199 := i_73.2.1 5 _
                refine fd_ok_gd (vp_in_iff.mpr ⟨by omega, by omega⟩) ?_
                refine fd_ok_gd (vp_in_iff.mpr ⟨by omega, by omega⟩) ?_
                refine fd_ok_gd (vp_in_iff.mpr ⟨by omega, by omega⟩) ?_
                exact fd_ok_some ⟨i_73, f_76, trivial⟩
      ·
        have d_82 : ¬ p1.toInt = (2 : Int32).toInt := fun q => c_5 (Int32.toInt_inj.mp q)
        refine fd_ok_ite (fun c_83 => ?_) (fun c_83 => ?_)
        ·
          have d_84 := congrArg Int32.toInt c_83
          try unfold f_X11_shows_0_J30
          refine fd_ok_bd ?_
          try unfold f_X11_isIn
          refine fd_ok_ite (fun c_85 => ?_) (fun c_85 => ?_)
          ·
            have d_86 := Int32.lt_iff_toInt_lt.mp c_85
            refine fd_ok_pb ?_
            refine fd_ok_itp (by decide) ?_
            try unfold f_X11_shows_0_J45
            try unfold f_X11_shows_0_J46
            refine fd_ok_itp (by decide) ?_
            try unfold f_X11_shows_0_J69
            try unfold f_X11_shows_0_J70
            refine fd_ok_lt (fun σ9_87 eσ9_87 => ?_)
            have i_88 : fd_InvM σ9_87 := fd_inv_sI eσ9_87 i0 (fd_rng _)
            have f_89 : fd_fr [0, 209, 210] σ σ9_87 := fd_fr_tr f0 (fd_fr_sI eσ9_87 (by decide))
            have t_90 : (σ9_87.1 0).toInt = (1 : Int32).toInt := congrArg Int32.toInt (fd_tI eσ9_87)
            have t_91 : (σ9_87.1 1).toInt = (σ.1 1).toInt := congrArg Int32.toInt (fd_tN eσ9_87 (by decide))
            have t_92 : (σ9_87.1 3).toInt = (σ.1 3).toInt := congrArg Int32.toInt (fd_tN eσ9_87 (by decide))
            have t_93 : (σ9_87.1 5).toInt = (σ.1 5).toInt := congrArg Int32.toInt (fd_tN eσ9_87 (by decide))
            have r_94 := fd_rng (σ9_87.1 0)
            refine fd_ok_itn (Int32.not_le.mpr (Int32.lt_iff_toInt_lt.mpr (by omega))) ?_
            exact fd_ok_some ⟨i_88, f_89, trivial⟩
          ·
            have d_95 := Int32.le_iff_toInt_le.mp (Int32.not_lt.mp c_85)
            have r_96 : (0 : Int) ≤ (σ.1 5).toInt ∧ (σ.1 5).toInt ≤ 40 := i0.1 5
            refine fd_ok_ite (fun c_97 => ?_) (fun c_97 => ?_)
            ·
              have d_98 := Int32.le_iff_toInt_le.mp c_97
              refine fd_ok_pb ?_
              refine fd_ok_itp (by decide) ?_
              try unfold f_X11_shows_0_J45
              try unfold f_X11_shows_0_J46
              refine fd_ok_itp (by decide) ?_
              try unfold f_X11_shows_0_J69
              try unfold f_X11_shows_0_J70
              refine fd_ok_lt (fun σ9_99 eσ9_99 => ?_)
              have i_100 : fd_InvM σ9_99 := fd_inv_sI eσ9_99 i0 (fd_rng _)
              have f_101 : fd_fr [0, 209, 210] σ σ9_99 := fd_fr_tr f0 (fd_fr_sI eσ9_99 (by decide))
              have t_102 : (σ9_99.1 0).toInt = (1 : Int32).toInt := congrArg Int32.toInt (fd_tI eσ9_99)
              have t_103 : (σ9_99.1 1).toInt = (σ.1 1).toInt := congrArg Int32.toInt (fd_tN eσ9_99 (by decide))
              have t_104 : (σ9_99.1 3).toInt = (σ.1 3).toInt := congrArg Int32.toInt (fd_tN eσ9_99 (by decide))
              have t_105 : (σ9_99.1 5).toInt = (σ.1 5).toInt := congrArg Int32.toInt (fd_tN eσ9_99 (by decide))
              have r_106 := fd_rng (σ9_99.1 0)
              refine fd_ok_itn (Int32.not_le.mpr (Int32.lt_iff_toInt_lt.mpr (by omega))) ?_
              exact fd_ok_some ⟨i_100, f_101, trivial⟩
            ·
              have d_107 := Int32.lt_iff_toInt_lt.mp (Int32.not_le.mp c_97)
              refine fd_ok_pb ?_
              refine fd_ok_itn (by decide) ?_
              try unfold f_X11_shows_0_J41
              try unfold f_X11_shows_0_J46
              refine fd_ok_itn (by decide) ?_
              refine fd_ok_bd ?_
              try unfold f_X11_isIn
              refine fd_ok_ite (fun c_108 => ?_) (fun c_108 => ?_)
              ·
                have d_109 := Int32.lt_iff_toInt_lt.mp c_108
                refine fd_ok_pb ?_
                refine fd_ok_itp (by decide) ?_
                try unfold f_X11_shows_0_J69
                try unfold f_X11_shows_0_J70
                refine fd_ok_lt (fun σ9_110 eσ9_110 => ?_)
                have i_111 : fd_InvM σ9_110 := fd_inv_sI eσ9_110 i0 (fd_rng _)
                have f_112 : fd_fr [0, 209, 210] σ σ9_110 := fd_fr_tr f0 (fd_fr_sI eσ9_110 (by decide))
                have t_113 : (σ9_110.1 0).toInt = (1 : Int32).toInt := congrArg Int32.toInt (fd_tI eσ9_110)
                have t_114 : (σ9_110.1 1).toInt = (σ.1 1).toInt := congrArg Int32.toInt (fd_tN eσ9_110 (by decide))
                have t_115 : (σ9_110.1 3).toInt = (σ.1 3).toInt := congrArg Int32.toInt (fd_tN eσ9_110 (by decide))
                have t_116 : (σ9_110.1 5).toInt = (σ.1 5).toInt := congrArg Int32.toInt (fd_tN eσ9_110 (by decide))
                have r_117 := fd_rng (σ9_110.1 0)
                refine fd_ok_itn (Int32.not_le.mpr (Int32.lt_iff_toInt_lt.mpr (by omega))) ?_
                exact fd_ok_some ⟨i_111, f_112, trivial⟩
              ·
                have d_118 := Int32.le_iff_toInt_le.mp (Int32.not_lt.mp c_108)
                have r_119 : (0 : Int) ≤ (σ.1 3).toInt ∧ (σ.1 3).toInt ≤ 32 := i0.1 3
                refine fd_ok_ite (fun c_120 => ?_) (fun c_120 => ?_)
                ·
                  have d_121 := Int32.le_iff_toInt_le.mp c_120
                  refine fd_ok_pb ?_
                  refine fd_ok_itp (by decide) ?_
                  try unfold f_X11_shows_0_J69
                  try unfold f_X11_shows_0_J70
                  refine fd_ok_lt (fun σ9_122 eσ9_122 => ?_)
                  have i_123 : fd_InvM σ9_122 := fd_inv_sI eσ9_122 i0 (fd_rng _)
                  have f_124 : fd_fr [0, 209, 210] σ σ9_122 := fd_fr_tr f0 (fd_fr_sI eσ9_122 (by decide))
                  have t_125 : (σ9_122.1 0).toInt = (1 : Int32).toInt := congrArg Int32.toInt (fd_tI eσ9_122)
                  have t_126 : (σ9_122.1 1).toInt = (σ.1 1).toInt := congrArg Int32.toInt (fd_tN eσ9_122 (by decide))
                  have t_127 : (σ9_122.1 3).toInt = (σ.1 3).toInt := congrArg Int32.toInt (fd_tN eσ9_122 (by decide))
                  have t_128 : (σ9_122.1 5).toInt = (σ.1 5).toInt := congrArg Int32.toInt (fd_tN eσ9_122 (by decide))
                  have r_129 := fd_rng (σ9_122.1 0)
                  refine fd_ok_itn (Int32.not_le.mpr (Int32.lt_iff_toInt_lt.mpr (by omega))) ?_
                  exact fd_ok_some ⟨i_123, f_124, trivial⟩
                ·
                  have d_130 := Int32.lt_iff_toInt_lt.mp (Int32.not_le.mp c_120)
                  refine fd_ok_pb ?_
                  refine fd_ok_itn (by decide) ?_
                  try unfold f_X11_shows_0_J70
                  refine fd_ok_lt (fun σ9_131 eσ9_131 => ?_)
                  have i_132 : fd_InvM σ9_131 := fd_inv_sI eσ9_131 i0 (fd_rng _)
                  have f_133 : fd_fr [0, 209, 210] σ σ9_131 := fd_fr_tr f0 (fd_fr_sI eσ9_131 (by decide))
                  have t_134 : (σ9_131.1 0).toInt = (0 : Int32).toInt := congrArg Int32.toInt (fd_tI eσ9_131)
                  have t_135 : (σ9_131.1 1).toInt = (σ.1 1).toInt := congrArg Int32.toInt (fd_tN eσ9_131 (by decide))
                  have t_136 : (σ9_131.1 3).toInt = (σ.1 3).toInt := congrArg Int32.toInt (fd_tN eσ9_131 (by decide))
                  have t_137 : (σ9_131.1 5).toInt = (σ.1 5).toInt := congrArg Int32.toInt (fd_tN eσ9_131 (by decide))
                  have r_138 := fd_rng (σ9_131.1 0)
                  refine fd_ok_itp (Int32.le_iff_toInt_le.mpr (by omega)) ?_
                  refine fd_ok_bd ?_
                  try unfold f_X11_workPlain_0
                  refine fd_ok_cl (s_X11_workPlain_0_L2 N hN N _ _ i_132 (by omega) (by omega) (by omega)) ?_
                  rintro v_139 σ_140 ⟨i_141, g_142, x_143⟩
                  have f_144 : fd_fr [0, 209, 210] σ σ_140 := fd_fr_tr f_133 (fd_fr_mono g_142 (by decide))
                  have t_145 : (σ_140.1 0).toInt = (σ9_131.1 0).toInt := congrArg Int32.toInt (g_142.1 0 (by decide))
                  have t_146 : (σ_140.1 1).toInt = (σ9_131.1 1).toInt := congrArg Int32.toInt (g_142.1 1 (by decide))
                  have t_147 : (σ_140.1 3).toInt = (σ9_131.1 3).toInt := congrArg Int32.toInt (g_142.1 3 (by decide))
                  have t_148 : (σ_140.1 5).toInt = (σ9_131.1 5).toInt := congrArg Int32.toInt (g_142.1 5 (by decide))
                  refine fd_ok_bd ?_
                  refine fd_ok_cl (s_X11_workFault_0 N hN _ _ _ i_141 (by omega)) ?_
                  rintro v_149 σ_150 ⟨i_151, g_152, x_153⟩
                  have f_154 : fd_fr [0, 209, 210] σ σ_150 := fd_fr_tr f_144 (fd_fr_mono g_152 (by decide))
                  have t_155 : (σ_150.1 0).toInt = (σ_140.1 0).toInt := congrArg Int32.toInt (g_152.1 0 (by decide))
                  have t_156 : (σ_150.1 1).toInt = (σ_140.1 1).toInt := congrArg Int32.toInt (g_152.1 1 (by decide))
                  have t_157 : (σ_150.1 3).toInt = (σ_140.1 3).toInt := congrArg Int32.toInt (g_152.1 3 (by decide))
                  have t_158 : (σ_150.1 5).toInt = (σ_140.1 5).toInt := congrArg Int32.toInt (g_152.1 5 (by decide))
                  refine fd_ok_gd (vp_in_iff.mpr ⟨by omega, by omega⟩) ?_
                  have r_159 : (0 : Int) ≤ (σ_150.2.1 5 p3.toNatClampNeg).toInt ∧ (σ_150.2.1 5 p3.toNatClampNeg).toInt ≤ 199 := i_151.2.1 5 _
                  refine fd_ok_gd (vp_in_iff.mpr ⟨by omega, by omega⟩) ?_
                  refine fd_ok_gd (vp_in_iff.mpr ⟨by omega, by omega⟩) ?_
                  refine fd_ok_gd (vp_in_iff.mpr ⟨by omega, by omega⟩) ?_
                  exact fd_ok_some ⟨i_151, f_154, trivial⟩
        ·
          have d_160 : ¬ p1.toInt = (3 : Int32).toInt := fun q => c_83 (Int32.toInt_inj.mp q)
          try unfold f_X11_shows_0_J45
          try unfold f_X11_shows_0_J46
          refine fd_ok_itp (by decide) ?_
          try unfold f_X11_shows_0_J69
          try unfold f_X11_shows_0_J70
          refine fd_ok_lt (fun σ9_161 eσ9_161 => ?_)
          have i_162 : fd_InvM σ9_161 := fd_inv_sI eσ9_161 i0 (fd_rng _)
          have f_163 : fd_fr [0, 209, 210] σ σ9_161 := fd_fr_tr f0 (fd_fr_sI eσ9_161 (by decide))
          have t_164 : (σ9_161.1 0).toInt = (1 : Int32).toInt := congrArg Int32.toInt (fd_tI eσ9_161)
          have t_165 : (σ9_161.1 1).toInt = (σ.1 1).toInt := congrArg Int32.toInt (fd_tN eσ9_161 (by decide))
          have t_166 : (σ9_161.1 3).toInt = (σ.1 3).toInt := congrArg Int32.toInt (fd_tN eσ9_161 (by decide))
          have t_167 : (σ9_161.1 5).toInt = (σ.1 5).toInt := congrArg Int32.toInt (fd_tN eσ9_161 (by decide))
          have r_168 := fd_rng (σ9_161.1 0)
          refine fd_ok_itn (Int32.not_le.mpr (Int32.lt_iff_toInt_lt.mpr (by omega))) ?_
          exact fd_ok_some ⟨i_162, f_163, trivial⟩
    ·
      have d_169 := Int32.le_iff_toInt_le.mp (Int32.not_lt.mp c_3)
      have r_170 : (0 : Int) ≤ (σ.1 1).toInt ∧ (σ.1 1).toInt ≤ 200 := i0.1 1
      refine fd_ok_ite (fun c_171 => ?_) (fun c_171 => ?_)
      ·
        have d_172 := Int32.le_iff_toInt_le.mp c_171
        refine fd_ok_pb ?_
        refine fd_ok_itp (by decide) ?_
        try unfold f_X11_shows_0_J20
        refine fd_ok_ite (fun c_173 => ?_) (fun c_173 => ?_)
        ·
          have d_174 := congrArg Int32.toInt c_173
          try unfold f_X11_shows_0_J30
          refine fd_ok_bd ?_
          try unfold f_X11_isIn
          refine fd_ok_ite (fun c_175 => ?_) (fun c_175 => ?_)
          ·
            have d_176 := Int32.lt_iff_toInt_lt.mp c_175
            refine fd_ok_pb ?_
            refine fd_ok_itp (by decide) ?_
            try unfold f_X11_shows_0_J45
            try unfold f_X11_shows_0_J46
            refine fd_ok_itp (by decide) ?_
            try unfold f_X11_shows_0_J69
            try unfold f_X11_shows_0_J70
            refine fd_ok_lt (fun σ9_177 eσ9_177 => ?_)
            have i_178 : fd_InvM σ9_177 := fd_inv_sI eσ9_177 i0 (fd_rng _)
            have f_179 : fd_fr [0, 209, 210] σ σ9_177 := fd_fr_tr f0 (fd_fr_sI eσ9_177 (by decide))
            have t_180 : (σ9_177.1 0).toInt = (1 : Int32).toInt := congrArg Int32.toInt (fd_tI eσ9_177)
            have t_181 : (σ9_177.1 1).toInt = (σ.1 1).toInt := congrArg Int32.toInt (fd_tN eσ9_177 (by decide))
            have t_182 : (σ9_177.1 3).toInt = (σ.1 3).toInt := congrArg Int32.toInt (fd_tN eσ9_177 (by decide))
            have t_183 : (σ9_177.1 5).toInt = (σ.1 5).toInt := congrArg Int32.toInt (fd_tN eσ9_177 (by decide))
            have r_184 := fd_rng (σ9_177.1 0)
            refine fd_ok_itn (Int32.not_le.mpr (Int32.lt_iff_toInt_lt.mpr (by omega))) ?_
            exact fd_ok_some ⟨i_178, f_179, trivial⟩
          ·
            have d_185 := Int32.le_iff_toInt_le.mp (Int32.not_lt.mp c_175)
            have r_186 : (0 : Int) ≤ (σ.1 5).toInt ∧ (σ.1 5).toInt ≤ 40 := i0.1 5
            refine fd_ok_ite (fun c_187 => ?_) (fun c_187 => ?_)
            ·
              have d_188 := Int32.le_iff_toInt_le.mp c_187
              refine fd_ok_pb ?_
              refine fd_ok_itp (by decide) ?_
              try unfold f_X11_shows_0_J45
              try unfold f_X11_shows_0_J46
              refine fd_ok_itp (by decide) ?_
              try unfold f_X11_shows_0_J69
              try unfold f_X11_shows_0_J70
              refine fd_ok_lt (fun σ9_189 eσ9_189 => ?_)
              have i_190 : fd_InvM σ9_189 := fd_inv_sI eσ9_189 i0 (fd_rng _)
              have f_191 : fd_fr [0, 209, 210] σ σ9_189 := fd_fr_tr f0 (fd_fr_sI eσ9_189 (by decide))
              have t_192 : (σ9_189.1 0).toInt = (1 : Int32).toInt := congrArg Int32.toInt (fd_tI eσ9_189)
              have t_193 : (σ9_189.1 1).toInt = (σ.1 1).toInt := congrArg Int32.toInt (fd_tN eσ9_189 (by decide))
              have t_194 : (σ9_189.1 3).toInt = (σ.1 3).toInt := congrArg Int32.toInt (fd_tN eσ9_189 (by decide))
              have t_195 : (σ9_189.1 5).toInt = (σ.1 5).toInt := congrArg Int32.toInt (fd_tN eσ9_189 (by decide))
              have r_196 := fd_rng (σ9_189.1 0)
              refine fd_ok_itn (Int32.not_le.mpr (Int32.lt_iff_toInt_lt.mpr (by omega))) ?_
              exact fd_ok_some ⟨i_190, f_191, trivial⟩
            ·
              have d_197 := Int32.lt_iff_toInt_lt.mp (Int32.not_le.mp c_187)
              refine fd_ok_pb ?_
              refine fd_ok_itn (by decide) ?_
              try unfold f_X11_shows_0_J41
              try unfold f_X11_shows_0_J46
              refine fd_ok_itn (by decide) ?_
              refine fd_ok_bd ?_
              try unfold f_X11_isIn
              refine fd_ok_ite (fun c_198 => ?_) (fun c_198 => ?_)
              ·
                have d_199 := Int32.lt_iff_toInt_lt.mp c_198
                refine fd_ok_pb ?_
                refine fd_ok_itp (by decide) ?_
                try unfold f_X11_shows_0_J69
                try unfold f_X11_shows_0_J70
                refine fd_ok_lt (fun σ9_200 eσ9_200 => ?_)
                have i_201 : fd_InvM σ9_200 := fd_inv_sI eσ9_200 i0 (fd_rng _)
                have f_202 : fd_fr [0, 209, 210] σ σ9_200 := fd_fr_tr f0 (fd_fr_sI eσ9_200 (by decide))
                have t_203 : (σ9_200.1 0).toInt = (1 : Int32).toInt := congrArg Int32.toInt (fd_tI eσ9_200)
                have t_204 : (σ9_200.1 1).toInt = (σ.1 1).toInt := congrArg Int32.toInt (fd_tN eσ9_200 (by decide))
                have t_205 : (σ9_200.1 3).toInt = (σ.1 3).toInt := congrArg Int32.toInt (fd_tN eσ9_200 (by decide))
                have t_206 : (σ9_200.1 5).toInt = (σ.1 5).toInt := congrArg Int32.toInt (fd_tN eσ9_200 (by decide))
                have r_207 := fd_rng (σ9_200.1 0)
                refine fd_ok_itn (Int32.not_le.mpr (Int32.lt_iff_toInt_lt.mpr (by omega))) ?_
                exact fd_ok_some ⟨i_201, f_202, trivial⟩
              ·
                have d_208 := Int32.le_iff_toInt_le.mp (Int32.not_lt.mp c_198)
                have r_209 : (0 : Int) ≤ (σ.1 3).toInt ∧ (σ.1 3).toInt ≤ 32 := i0.1 3
                refine fd_ok_ite (fun c_210 => ?_) (fun c_210 => ?_)
                ·
                  have d_211 := Int32.le_iff_toInt_le.mp c_210
                  refine fd_ok_pb ?_
                  refine fd_ok_itp (by decide) ?_
                  try unfold f_X11_shows_0_J69
                  try unfold f_X11_shows_0_J70
                  refine fd_ok_lt (fun σ9_212 eσ9_212 => ?_)
                  have i_213 : fd_InvM σ9_212 := fd_inv_sI eσ9_212 i0 (fd_rng _)
                  have f_214 : fd_fr [0, 209, 210] σ σ9_212 := fd_fr_tr f0 (fd_fr_sI eσ9_212 (by decide))
                  have t_215 : (σ9_212.1 0).toInt = (1 : Int32).toInt := congrArg Int32.toInt (fd_tI eσ9_212)
                  have t_216 : (σ9_212.1 1).toInt = (σ.1 1).toInt := congrArg Int32.toInt (fd_tN eσ9_212 (by decide))
                  have t_217 : (σ9_212.1 3).toInt = (σ.1 3).toInt := congrArg Int32.toInt (fd_tN eσ9_212 (by decide))
                  have t_218 : (σ9_212.1 5).toInt = (σ.1 5).toInt := congrArg Int32.toInt (fd_tN eσ9_212 (by decide))
                  have r_219 := fd_rng (σ9_212.1 0)
                  refine fd_ok_itn (Int32.not_le.mpr (Int32.lt_iff_toInt_lt.mpr (by omega))) ?_
                  exact fd_ok_some ⟨i_213, f_214, trivial⟩
                ·
                  have d_220 := Int32.lt_iff_toInt_lt.mp (Int32.not_le.mp c_210)
                  refine fd_ok_pb ?_
                  refine fd_ok_itn (by decide) ?_
                  try unfold f_X11_shows_0_J70
                  refine fd_ok_lt (fun σ9_221 eσ9_221 => ?_)
                  have i_222 : fd_InvM σ9_221 := fd_inv_sI eσ9_221 i0 (fd_rng _)
                  have f_223 : fd_fr [0, 209, 210] σ σ9_221 := fd_fr_tr f0 (fd_fr_sI eσ9_221 (by decide))
                  have t_224 : (σ9_221.1 0).toInt = (0 : Int32).toInt := congrArg Int32.toInt (fd_tI eσ9_221)
                  have t_225 : (σ9_221.1 1).toInt = (σ.1 1).toInt := congrArg Int32.toInt (fd_tN eσ9_221 (by decide))
                  have t_226 : (σ9_221.1 3).toInt = (σ.1 3).toInt := congrArg Int32.toInt (fd_tN eσ9_221 (by decide))
                  have t_227 : (σ9_221.1 5).toInt = (σ.1 5).toInt := congrArg Int32.toInt (fd_tN eσ9_221 (by decide))
                  have r_228 := fd_rng (σ9_221.1 0)
                  refine fd_ok_itp (Int32.le_iff_toInt_le.mpr (by omega)) ?_
                  refine fd_ok_bd ?_
                  try unfold f_X11_workPlain_0
                  refine fd_ok_cl (s_X11_workPlain_0_L2 N hN N _ _ i_222 (by omega) (by omega) (by omega)) ?_
                  rintro v_229 σ_230 ⟨i_231, g_232, x_233⟩
                  have f_234 : fd_fr [0, 209, 210] σ σ_230 := fd_fr_tr f_223 (fd_fr_mono g_232 (by decide))
                  have t_235 : (σ_230.1 0).toInt = (σ9_221.1 0).toInt := congrArg Int32.toInt (g_232.1 0 (by decide))
                  have t_236 : (σ_230.1 1).toInt = (σ9_221.1 1).toInt := congrArg Int32.toInt (g_232.1 1 (by decide))
                  have t_237 : (σ_230.1 3).toInt = (σ9_221.1 3).toInt := congrArg Int32.toInt (g_232.1 3 (by decide))
                  have t_238 : (σ_230.1 5).toInt = (σ9_221.1 5).toInt := congrArg Int32.toInt (g_232.1 5 (by decide))
                  refine fd_ok_bd ?_
                  refine fd_ok_cl (s_X11_workFault_0 N hN _ _ _ i_231 (by omega)) ?_
                  rintro v_239 σ_240 ⟨i_241, g_242, x_243⟩
                  have f_244 : fd_fr [0, 209, 210] σ σ_240 := fd_fr_tr f_234 (fd_fr_mono g_242 (by decide))
                  have t_245 : (σ_240.1 0).toInt = (σ_230.1 0).toInt := congrArg Int32.toInt (g_242.1 0 (by decide))
                  have t_246 : (σ_240.1 1).toInt = (σ_230.1 1).toInt := congrArg Int32.toInt (g_242.1 1 (by decide))
                  have t_247 : (σ_240.1 3).toInt = (σ_230.1 3).toInt := congrArg Int32.toInt (g_242.1 3 (by decide))
                  have t_248 : (σ_240.1 5).toInt = (σ_230.1 5).toInt := congrArg Int32.toInt (g_242.1 5 (by decide))
                  refine fd_ok_gd (vp_in_iff.mpr ⟨by omega, by omega⟩) ?_
                  have r_249 : (0 : Int) ≤ (σ_240.2.1 5 p3.toNatClampNeg).toInt ∧ (σ_240.2.1 5 p3.toNatClampNeg).toInt ≤ 199 := i_241.2.1 5 _
                  refine fd_ok_gd (vp_in_iff.mpr ⟨by omega, by omega⟩) ?_
                  refine fd_ok_gd (vp_in_iff.mpr ⟨by omega, by omega⟩) ?_
                  refine fd_ok_gd (vp_in_iff.mpr ⟨by omega, by omega⟩) ?_
                  exact fd_ok_some ⟨i_241, f_244, trivial⟩
        ·
          have d_250 : ¬ p1.toInt = (2 : Int32).toInt := fun q => c_173 (Int32.toInt_inj.mp q)
          refine fd_ok_ite (fun c_251 => ?_) (fun c_251 => ?_)
          ·
            have d_252 := congrArg Int32.toInt c_251
            try unfold f_X11_shows_0_J30
            refine fd_ok_bd ?_
            try unfold f_X11_isIn
            refine fd_ok_ite (fun c_253 => ?_) (fun c_253 => ?_)
            ·
              have d_254 := Int32.lt_iff_toInt_lt.mp c_253
              refine fd_ok_pb ?_
              refine fd_ok_itp (by decide) ?_
              try unfold f_X11_shows_0_J45
              try unfold f_X11_shows_0_J46
              refine fd_ok_itp (by decide) ?_
              try unfold f_X11_shows_0_J69
              try unfold f_X11_shows_0_J70
              refine fd_ok_lt (fun σ9_255 eσ9_255 => ?_)
              have i_256 : fd_InvM σ9_255 := fd_inv_sI eσ9_255 i0 (fd_rng _)
              have f_257 : fd_fr [0, 209, 210] σ σ9_255 := fd_fr_tr f0 (fd_fr_sI eσ9_255 (by decide))
              have t_258 : (σ9_255.1 0).toInt = (1 : Int32).toInt := congrArg Int32.toInt (fd_tI eσ9_255)
              have t_259 : (σ9_255.1 1).toInt = (σ.1 1).toInt := congrArg Int32.toInt (fd_tN eσ9_255 (by decide))
              have t_260 : (σ9_255.1 3).toInt = (σ.1 3).toInt := congrArg Int32.toInt (fd_tN eσ9_255 (by decide))
              have t_261 : (σ9_255.1 5).toInt = (σ.1 5).toInt := congrArg Int32.toInt (fd_tN eσ9_255 (by decide))
              have r_262 := fd_rng (σ9_255.1 0)
              refine fd_ok_itn (Int32.not_le.mpr (Int32.lt_iff_toInt_lt.mpr (by omega))) ?_
              exact fd_ok_some ⟨i_256, f_257, trivial⟩
            ·
              have d_263 := Int32.le_iff_toInt_le.mp (Int32.not_lt.mp c_253)
              have r_264 : (0 : Int) ≤ (σ.1 5).toInt ∧ (σ.1 5).toInt ≤ 40 := i0.1 5
              refine fd_ok_ite (fun c_265 => ?_) (fun c_265 => ?_)
              ·
                have d_266 := Int32.le_iff_toInt_le.mp c_265
                refine fd_ok_pb ?_
                refine fd_ok_itp (by decide) ?_
                try unfold f_X11_shows_0_J45
                try unfold f_X11_shows_0_J46
                refine fd_ok_itp (by decide) ?_
                try unfold f_X11_shows_0_J69
                try unfold f_X11_shows_0_J70
                refine fd_ok_lt (fun σ9_267 eσ9_267 => ?_)
                have i_268 : fd_InvM σ9_267 := fd_inv_sI eσ9_267 i0 (fd_rng _)
                have f_269 : fd_fr [0, 209, 210] σ σ9_267 := fd_fr_tr f0 (fd_fr_sI eσ9_267 (by decide))
                have t_270 : (σ9_267.1 0).toInt = (1 : Int32).toInt := congrArg Int32.toInt (fd_tI eσ9_267)
                have t_271 : (σ9_267.1 1).toInt = (σ.1 1).toInt := congrArg Int32.toInt (fd_tN eσ9_267 (by decide))
                have t_272 : (σ9_267.1 3).toInt = (σ.1 3).toInt := congrArg Int32.toInt (fd_tN eσ9_267 (by decide))
                have t_273 : (σ9_267.1 5).toInt = (σ.1 5).toInt := congrArg Int32.toInt (fd_tN eσ9_267 (by decide))
                have r_274 := fd_rng (σ9_267.1 0)
                refine fd_ok_itn (Int32.not_le.mpr (Int32.lt_iff_toInt_lt.mpr (by omega))) ?_
                exact fd_ok_some ⟨i_268, f_269, trivial⟩
              ·
                have d_275 := Int32.lt_iff_toInt_lt.mp (Int32.not_le.mp c_265)
                refine fd_ok_pb ?_
                refine fd_ok_itn (by decide) ?_
                try unfold f_X11_shows_0_J41
                try unfold f_X11_shows_0_J46
                refine fd_ok_itn (by decide) ?_
                refine fd_ok_bd ?_
                try unfold f_X11_isIn
                refine fd_ok_ite (fun c_276 => ?_) (fun c_276 => ?_)
                ·
                  have d_277 := Int32.lt_iff_toInt_lt.mp c_276
                  refine fd_ok_pb ?_
                  refine fd_ok_itp (by decide) ?_
                  try unfold f_X11_shows_0_J69
                  try unfold f_X11_shows_0_J70
                  refine fd_ok_lt (fun σ9_278 eσ9_278 => ?_)
                  have i_279 : fd_InvM σ9_278 := fd_inv_sI eσ9_278 i0 (fd_rng _)
                  have f_280 : fd_fr [0, 209, 210] σ σ9_278 := fd_fr_tr f0 (fd_fr_sI eσ9_278 (by decide))
                  have t_281 : (σ9_278.1 0).toInt = (1 : Int32).toInt := congrArg Int32.toInt (fd_tI eσ9_278)
                  have t_282 : (σ9_278.1 1).toInt = (σ.1 1).toInt := congrArg Int32.toInt (fd_tN eσ9_278 (by decide))
                  have t_283 : (σ9_278.1 3).toInt = (σ.1 3).toInt := congrArg Int32.toInt (fd_tN eσ9_278 (by decide))
                  have t_284 : (σ9_278.1 5).toInt = (σ.1 5).toInt := congrArg Int32.toInt (fd_tN eσ9_278 (by decide))
                  have r_285 := fd_rng (σ9_278.1 0)
                  refine fd_ok_itn (Int32.not_le.mpr (Int32.lt_iff_toInt_lt.mpr (by omega))) ?_
                  exact fd_ok_some ⟨i_279, f_280, trivial⟩
                ·
                  have d_286 := Int32.le_iff_toInt_le.mp (Int32.not_lt.mp c_276)
                  have r_287 : (0 : Int) ≤ (σ.1 3).toInt ∧ (σ.1 3).toInt ≤ 32 := i0.1 3
                  refine fd_ok_ite (fun c_288 => ?_) (fun c_288 => ?_)
                  ·
                    have d_289 := Int32.le_iff_toInt_le.mp c_288
                    refine fd_ok_pb ?_
                    refine fd_ok_itp (by decide) ?_
                    try unfold f_X11_shows_0_J69
                    try unfold f_X11_shows_0_J70
                    refine fd_ok_lt (fun σ9_290 eσ9_290 => ?_)
                    have i_291 : fd_InvM σ9_290 := fd_inv_sI eσ9_290 i0 (fd_rng _)
                    have f_292 : fd_fr [0, 209, 210] σ σ9_290 := fd_fr_tr f0 (fd_fr_sI eσ9_290 (by decide))
                    have t_293 : (σ9_290.1 0).toInt = (1 : Int32).toInt := congrArg Int32.toInt (fd_tI eσ9_290)
                    have t_294 : (σ9_290.1 1).toInt = (σ.1 1).toInt := congrArg Int32.toInt (fd_tN eσ9_290 (by decide))
                    have t_295 : (σ9_290.1 3).toInt = (σ.1 3).toInt := congrArg Int32.toInt (fd_tN eσ9_290 (by decide))
                    have t_296 : (σ9_290.1 5).toInt = (σ.1 5).toInt := congrArg Int32.toInt (fd_tN eσ9_290 (by decide))
                    have r_297 := fd_rng (σ9_290.1 0)
                    refine fd_ok_itn (Int32.not_le.mpr (Int32.lt_iff_toInt_lt.mpr (by omega))) ?_
                    exact fd_ok_some ⟨i_291, f_292, trivial⟩
                  ·
                    have d_298 := Int32.lt_iff_toInt_lt.mp (Int32.not_le.mp c_288)
                    refine fd_ok_pb ?_
                    refine fd_ok_itn (by decide) ?_
                    try unfold f_X11_shows_0_J70
                    refine fd_ok_lt (fun σ9_299 eσ9_299 => ?_)
                    have i_300 : fd_InvM σ9_299 := fd_inv_sI eσ9_299 i0 (fd_rng _)
                    have f_301 : fd_fr [0, 209, 210] σ σ9_299 := fd_fr_tr f0 (fd_fr_sI eσ9_299 (by decide))
                    have t_302 : (σ9_299.1 0).toInt = (0 : Int32).toInt := congrArg Int32.toInt (fd_tI eσ9_299)
                    have t_303 : (σ9_299.1 1).toInt = (σ.1 1).toInt := congrArg Int32.toInt (fd_tN eσ9_299 (by decide))
                    have t_304 : (σ9_299.1 3).toInt = (σ.1 3).toInt := congrArg Int32.toInt (fd_tN eσ9_299 (by decide))
                    have t_305 : (σ9_299.1 5).toInt = (σ.1 5).toInt := congrArg Int32.toInt (fd_tN eσ9_299 (by decide))
                    have r_306 := fd_rng (σ9_299.1 0)
                    refine fd_ok_itp (Int32.le_iff_toInt_le.mpr (by omega)) ?_
                    refine fd_ok_bd ?_
                    try unfold f_X11_workPlain_0
                    refine fd_ok_cl (s_X11_workPlain_0_L2 N hN N _ _ i_300 (by omega) (by omega) (by omega)) ?_
                    rintro v_307 σ_308 ⟨i_309, g_310, x_311⟩
                    have f_312 : fd_fr [0, 209, 210] σ σ_308 := fd_fr_tr f_301 (fd_fr_mono g_310 (by decide))
                    have t_313 : (σ_308.1 0).toInt = (σ9_299.1 0).toInt := congrArg Int32.toInt (g_310.1 0 (by decide))
                    have t_314 : (σ_308.1 1).toInt = (σ9_299.1 1).toInt := congrArg Int32.toInt (g_310.1 1 (by decide))
                    have t_315 : (σ_308.1 3).toInt = (σ9_299.1 3).toInt := congrArg Int32.toInt (g_310.1 3 (by decide))
                    have t_316 : (σ_308.1 5).toInt = (σ9_299.1 5).toInt := congrArg Int32.toInt (g_310.1 5 (by decide))
                    refine fd_ok_bd ?_
                    refine fd_ok_cl (s_X11_workFault_0 N hN _ _ _ i_309 (by omega)) ?_
                    rintro v_317 σ_318 ⟨i_319, g_320, x_321⟩
                    have f_322 : fd_fr [0, 209, 210] σ σ_318 := fd_fr_tr f_312 (fd_fr_mono g_320 (by decide))
                    have t_323 : (σ_318.1 0).toInt = (σ_308.1 0).toInt := congrArg Int32.toInt (g_320.1 0 (by decide))
                    have t_324 : (σ_318.1 1).toInt = (σ_308.1 1).toInt := congrArg Int32.toInt (g_320.1 1 (by decide))
                    have t_325 : (σ_318.1 3).toInt = (σ_308.1 3).toInt := congrArg Int32.toInt (g_320.1 3 (by decide))
                    have t_326 : (σ_318.1 5).toInt = (σ_308.1 5).toInt := congrArg Int32.toInt (g_320.1 5 (by decide))
                    refine fd_ok_gd (vp_in_iff.mpr ⟨by omega, by omega⟩) ?_
                    have r_327 : (0 : Int) ≤ (σ_318.2.1 5 p3.toNatClampNeg).toInt ∧ (σ_318.2.1 5 p3.toNatClampNeg).toInt ≤ 199 := i_319.2.1 5 _
                    refine fd_ok_gd (vp_in_iff.mpr ⟨by omega, by omega⟩) ?_
                    refine fd_ok_gd (vp_in_iff.mpr ⟨by omega, by omega⟩) ?_
                    refine fd_ok_gd (vp_in_iff.mpr ⟨by omega, by omega⟩) ?_
                    exact fd_ok_some ⟨i_319, f_322, trivial⟩
          ·
            have d_328 : ¬ p1.toInt = (3 : Int32).toInt := fun q => c_251 (Int32.toInt_inj.mp q)
            try unfold f_X11_shows_0_J45
            try unfold f_X11_shows_0_J46
            refine fd_ok_itp (by decide) ?_
            try unfold f_X11_shows_0_J69
            try unfold f_X11_shows_0_J70
            refine fd_ok_lt (fun σ9_329 eσ9_329 => ?_)
            have i_330 : fd_InvM σ9_329 := fd_inv_sI eσ9_329 i0 (fd_rng _)
            have f_331 : fd_fr [0, 209, 210] σ σ9_329 := fd_fr_tr f0 (fd_fr_sI eσ9_329 (by decide))
            have t_332 : (σ9_329.1 0).toInt = (1 : Int32).toInt := congrArg Int32.toInt (fd_tI eσ9_329)
            have t_333 : (σ9_329.1 1).toInt = (σ.1 1).toInt := congrArg Int32.toInt (fd_tN eσ9_329 (by decide))
            have t_334 : (σ9_329.1 3).toInt = (σ.1 3).toInt := congrArg Int32.toInt (fd_tN eσ9_329 (by decide))
            have t_335 : (σ9_329.1 5).toInt = (σ.1 5).toInt := congrArg Int32.toInt (fd_tN eσ9_329 (by decide))
            have r_336 := fd_rng (σ9_329.1 0)
            refine fd_ok_itn (Int32.not_le.mpr (Int32.lt_iff_toInt_lt.mpr (by omega))) ?_
            exact fd_ok_some ⟨i_330, f_331, trivial⟩
      ·
        have d_337 := Int32.lt_iff_toInt_lt.mp (Int32.not_le.mp c_171)
        refine fd_ok_pb ?_
        refine fd_ok_itn (by decide) ?_
        try unfold f_X11_shows_0_J41
        try unfold f_X11_shows_0_J46
        refine fd_ok_itn (by decide) ?_
        refine fd_ok_bd ?_
        try unfold f_X11_isIn
        refine fd_ok_ite (fun c_338 => ?_) (fun c_338 => ?_)
        ·
          have d_339 := Int32.lt_iff_toInt_lt.mp c_338
          refine fd_ok_pb ?_
          refine fd_ok_itp (by decide) ?_
          try unfold f_X11_shows_0_J69
          try unfold f_X11_shows_0_J70
          refine fd_ok_lt (fun σ9_340 eσ9_340 => ?_)
          have i_341 : fd_InvM σ9_340 := fd_inv_sI eσ9_340 i0 (fd_rng _)
          have f_342 : fd_fr [0, 209, 210] σ σ9_340 := fd_fr_tr f0 (fd_fr_sI eσ9_340 (by decide))
          have t_343 : (σ9_340.1 0).toInt = (1 : Int32).toInt := congrArg Int32.toInt (fd_tI eσ9_340)
          have t_344 : (σ9_340.1 1).toInt = (σ.1 1).toInt := congrArg Int32.toInt (fd_tN eσ9_340 (by decide))
          have t_345 : (σ9_340.1 3).toInt = (σ.1 3).toInt := congrArg Int32.toInt (fd_tN eσ9_340 (by decide))
          have t_346 : (σ9_340.1 5).toInt = (σ.1 5).toInt := congrArg Int32.toInt (fd_tN eσ9_340 (by decide))
          have r_347 := fd_rng (σ9_340.1 0)
          refine fd_ok_itn (Int32.not_le.mpr (Int32.lt_iff_toInt_lt.mpr (by omega))) ?_
          exact fd_ok_some ⟨i_341, f_342, trivial⟩
        ·
          have d_348 := Int32.le_iff_toInt_le.mp (Int32.not_lt.mp c_338)
          have r_349 : (0 : Int) ≤ (σ.1 3).toInt ∧ (σ.1 3).toInt ≤ 32 := i0.1 3
          refine fd_ok_ite (fun c_350 => ?_) (fun c_350 => ?_)
          ·
            have d_351 := Int32.le_iff_toInt_le.mp c_350
            refine fd_ok_pb ?_
            refine fd_ok_itp (by decide) ?_
            try unfold f_X11_shows_0_J69
            try unfold f_X11_shows_0_J70
            refine fd_ok_lt (fun σ9_352 eσ9_352 => ?_)
            have i_353 : fd_InvM σ9_352 := fd_inv_sI eσ9_352 i0 (fd_rng _)
            have f_354 : fd_fr [0, 209, 210] σ σ9_352 := fd_fr_tr f0 (fd_fr_sI eσ9_352 (by decide))
            have t_355 : (σ9_352.1 0).toInt = (1 : Int32).toInt := congrArg Int32.toInt (fd_tI eσ9_352)
            have t_356 : (σ9_352.1 1).toInt = (σ.1 1).toInt := congrArg Int32.toInt (fd_tN eσ9_352 (by decide))
            have t_357 : (σ9_352.1 3).toInt = (σ.1 3).toInt := congrArg Int32.toInt (fd_tN eσ9_352 (by decide))
            have t_358 : (σ9_352.1 5).toInt = (σ.1 5).toInt := congrArg Int32.toInt (fd_tN eσ9_352 (by decide))
            have r_359 := fd_rng (σ9_352.1 0)
            refine fd_ok_itn (Int32.not_le.mpr (Int32.lt_iff_toInt_lt.mpr (by omega))) ?_
            exact fd_ok_some ⟨i_353, f_354, trivial⟩
          ·
            have d_360 := Int32.lt_iff_toInt_lt.mp (Int32.not_le.mp c_350)
            refine fd_ok_pb ?_
            refine fd_ok_itn (by decide) ?_
            try unfold f_X11_shows_0_J70
            refine fd_ok_lt (fun σ9_361 eσ9_361 => ?_)
            have i_362 : fd_InvM σ9_361 := fd_inv_sI eσ9_361 i0 (fd_rng _)
            have f_363 : fd_fr [0, 209, 210] σ σ9_361 := fd_fr_tr f0 (fd_fr_sI eσ9_361 (by decide))
            have t_364 : (σ9_361.1 0).toInt = (0 : Int32).toInt := congrArg Int32.toInt (fd_tI eσ9_361)
            have t_365 : (σ9_361.1 1).toInt = (σ.1 1).toInt := congrArg Int32.toInt (fd_tN eσ9_361 (by decide))
            have t_366 : (σ9_361.1 3).toInt = (σ.1 3).toInt := congrArg Int32.toInt (fd_tN eσ9_361 (by decide))
            have t_367 : (σ9_361.1 5).toInt = (σ.1 5).toInt := congrArg Int32.toInt (fd_tN eσ9_361 (by decide))
            have r_368 := fd_rng (σ9_361.1 0)
            refine fd_ok_itp (Int32.le_iff_toInt_le.mpr (by omega)) ?_
            refine fd_ok_bd ?_
            try unfold f_X11_workPlain_0
            refine fd_ok_cl (s_X11_workPlain_0_L2 N hN N _ _ i_362 (by omega) (by omega) (by omega)) ?_
            rintro v_369 σ_370 ⟨i_371, g_372, x_373⟩
            have f_374 : fd_fr [0, 209, 210] σ σ_370 := fd_fr_tr f_363 (fd_fr_mono g_372 (by decide))
            have t_375 : (σ_370.1 0).toInt = (σ9_361.1 0).toInt := congrArg Int32.toInt (g_372.1 0 (by decide))
            have t_376 : (σ_370.1 1).toInt = (σ9_361.1 1).toInt := congrArg Int32.toInt (g_372.1 1 (by decide))
            have t_377 : (σ_370.1 3).toInt = (σ9_361.1 3).toInt := congrArg Int32.toInt (g_372.1 3 (by decide))
            have t_378 : (σ_370.1 5).toInt = (σ9_361.1 5).toInt := congrArg Int32.toInt (g_372.1 5 (by decide))
            refine fd_ok_bd ?_
            refine fd_ok_cl (s_X11_workFault_0 N hN _ _ _ i_371 (by omega)) ?_
            rintro v_379 σ_380 ⟨i_381, g_382, x_383⟩
            have f_384 : fd_fr [0, 209, 210] σ σ_380 := fd_fr_tr f_374 (fd_fr_mono g_382 (by decide))
            have t_385 : (σ_380.1 0).toInt = (σ_370.1 0).toInt := congrArg Int32.toInt (g_382.1 0 (by decide))
            have t_386 : (σ_380.1 1).toInt = (σ_370.1 1).toInt := congrArg Int32.toInt (g_382.1 1 (by decide))
            have t_387 : (σ_380.1 3).toInt = (σ_370.1 3).toInt := congrArg Int32.toInt (g_382.1 3 (by decide))
            have t_388 : (σ_380.1 5).toInt = (σ_370.1 5).toInt := congrArg Int32.toInt (g_382.1 5 (by decide))
            refine fd_ok_gd (vp_in_iff.mpr ⟨by omega, by omega⟩) ?_
            have r_389 : (0 : Int) ≤ (σ_380.2.1 5 p3.toNatClampNeg).toInt ∧ (σ_380.2.1 5 p3.toNatClampNeg).toInt ≤ 199 := i_381.2.1 5 _
            refine fd_ok_gd (vp_in_iff.mpr ⟨by omega, by omega⟩) ?_
            refine fd_ok_gd (vp_in_iff.mpr ⟨by omega, by omega⟩) ?_
            refine fd_ok_gd (vp_in_iff.mpr ⟨by omega, by omega⟩) ?_
            exact fd_ok_some ⟨i_381, f_384, trivial⟩
  ·
    have d_390 : ¬ p1.toInt = (0 : Int32).toInt := fun q => c_1 (Int32.toInt_inj.mp q)
    refine fd_ok_ite (fun c_391 => ?_) (fun c_391 => ?_)
    ·
      have d_392 := congrArg Int32.toInt c_391
      try unfold f_X11_shows_0_J9
      refine fd_ok_bd ?_
      try unfold f_X11_isIn
      refine fd_ok_ite (fun c_393 => ?_) (fun c_393 => ?_)
      ·
        have d_394 := Int32.lt_iff_toInt_lt.mp c_393
        refine fd_ok_pb ?_
        refine fd_ok_itp (by decide) ?_
        try unfold f_X11_shows_0_J20
        refine fd_ok_ite (fun c_395 => ?_) (fun c_395 => ?_)
        ·
          have d_396 := congrArg Int32.toInt c_395
          try unfold f_X11_shows_0_J30
          refine fd_ok_bd ?_
          try unfold f_X11_isIn
          refine fd_ok_ite (fun c_397 => ?_) (fun c_397 => ?_)
          ·
            have d_398 := Int32.lt_iff_toInt_lt.mp c_397
            refine fd_ok_pb ?_
            refine fd_ok_itp (by decide) ?_
            try unfold f_X11_shows_0_J45
            try unfold f_X11_shows_0_J46
            refine fd_ok_itp (by decide) ?_
            try unfold f_X11_shows_0_J69
            try unfold f_X11_shows_0_J70
            refine fd_ok_lt (fun σ9_399 eσ9_399 => ?_)
            have i_400 : fd_InvM σ9_399 := fd_inv_sI eσ9_399 i0 (fd_rng _)
            have f_401 : fd_fr [0, 209, 210] σ σ9_399 := fd_fr_tr f0 (fd_fr_sI eσ9_399 (by decide))
            have t_402 : (σ9_399.1 0).toInt = (1 : Int32).toInt := congrArg Int32.toInt (fd_tI eσ9_399)
            have t_403 : (σ9_399.1 1).toInt = (σ.1 1).toInt := congrArg Int32.toInt (fd_tN eσ9_399 (by decide))
            have t_404 : (σ9_399.1 3).toInt = (σ.1 3).toInt := congrArg Int32.toInt (fd_tN eσ9_399 (by decide))
            have t_405 : (σ9_399.1 5).toInt = (σ.1 5).toInt := congrArg Int32.toInt (fd_tN eσ9_399 (by decide))
            have r_406 := fd_rng (σ9_399.1 0)
            refine fd_ok_itn (Int32.not_le.mpr (Int32.lt_iff_toInt_lt.mpr (by omega))) ?_
            exact fd_ok_some ⟨i_400, f_401, trivial⟩
          ·
            have d_407 := Int32.le_iff_toInt_le.mp (Int32.not_lt.mp c_397)
            have r_408 : (0 : Int) ≤ (σ.1 5).toInt ∧ (σ.1 5).toInt ≤ 40 := i0.1 5
            refine fd_ok_ite (fun c_409 => ?_) (fun c_409 => ?_)
            ·
              have d_410 := Int32.le_iff_toInt_le.mp c_409
              refine fd_ok_pb ?_
              refine fd_ok_itp (by decide) ?_
              try unfold f_X11_shows_0_J45
              try unfold f_X11_shows_0_J46
              refine fd_ok_itp (by decide) ?_
              try unfold f_X11_shows_0_J69
              try unfold f_X11_shows_0_J70
              refine fd_ok_lt (fun σ9_411 eσ9_411 => ?_)
              have i_412 : fd_InvM σ9_411 := fd_inv_sI eσ9_411 i0 (fd_rng _)
              have f_413 : fd_fr [0, 209, 210] σ σ9_411 := fd_fr_tr f0 (fd_fr_sI eσ9_411 (by decide))
              have t_414 : (σ9_411.1 0).toInt = (1 : Int32).toInt := congrArg Int32.toInt (fd_tI eσ9_411)
              have t_415 : (σ9_411.1 1).toInt = (σ.1 1).toInt := congrArg Int32.toInt (fd_tN eσ9_411 (by decide))
              have t_416 : (σ9_411.1 3).toInt = (σ.1 3).toInt := congrArg Int32.toInt (fd_tN eσ9_411 (by decide))
              have t_417 : (σ9_411.1 5).toInt = (σ.1 5).toInt := congrArg Int32.toInt (fd_tN eσ9_411 (by decide))
              have r_418 := fd_rng (σ9_411.1 0)
              refine fd_ok_itn (Int32.not_le.mpr (Int32.lt_iff_toInt_lt.mpr (by omega))) ?_
              exact fd_ok_some ⟨i_412, f_413, trivial⟩
            ·
              have d_419 := Int32.lt_iff_toInt_lt.mp (Int32.not_le.mp c_409)
              refine fd_ok_pb ?_
              refine fd_ok_itn (by decide) ?_
              try unfold f_X11_shows_0_J41
              try unfold f_X11_shows_0_J46
              refine fd_ok_itn (by decide) ?_
              refine fd_ok_bd ?_
              try unfold f_X11_isIn
              refine fd_ok_ite (fun c_420 => ?_) (fun c_420 => ?_)
              ·
                have d_421 := Int32.lt_iff_toInt_lt.mp c_420
                refine fd_ok_pb ?_
                refine fd_ok_itp (by decide) ?_
                try unfold f_X11_shows_0_J69
                try unfold f_X11_shows_0_J70
                refine fd_ok_lt (fun σ9_422 eσ9_422 => ?_)
                have i_423 : fd_InvM σ9_422 := fd_inv_sI eσ9_422 i0 (fd_rng _)
                have f_424 : fd_fr [0, 209, 210] σ σ9_422 := fd_fr_tr f0 (fd_fr_sI eσ9_422 (by decide))
                have t_425 : (σ9_422.1 0).toInt = (1 : Int32).toInt := congrArg Int32.toInt (fd_tI eσ9_422)
                have t_426 : (σ9_422.1 1).toInt = (σ.1 1).toInt := congrArg Int32.toInt (fd_tN eσ9_422 (by decide))
                have t_427 : (σ9_422.1 3).toInt = (σ.1 3).toInt := congrArg Int32.toInt (fd_tN eσ9_422 (by decide))
                have t_428 : (σ9_422.1 5).toInt = (σ.1 5).toInt := congrArg Int32.toInt (fd_tN eσ9_422 (by decide))
                have r_429 := fd_rng (σ9_422.1 0)
                refine fd_ok_itn (Int32.not_le.mpr (Int32.lt_iff_toInt_lt.mpr (by omega))) ?_
                exact fd_ok_some ⟨i_423, f_424, trivial⟩
              ·
                have d_430 := Int32.le_iff_toInt_le.mp (Int32.not_lt.mp c_420)
                have r_431 : (0 : Int) ≤ (σ.1 3).toInt ∧ (σ.1 3).toInt ≤ 32 := i0.1 3
                refine fd_ok_ite (fun c_432 => ?_) (fun c_432 => ?_)
                ·
                  have d_433 := Int32.le_iff_toInt_le.mp c_432
                  refine fd_ok_pb ?_
                  refine fd_ok_itp (by decide) ?_
                  try unfold f_X11_shows_0_J69
                  try unfold f_X11_shows_0_J70
                  refine fd_ok_lt (fun σ9_434 eσ9_434 => ?_)
                  have i_435 : fd_InvM σ9_434 := fd_inv_sI eσ9_434 i0 (fd_rng _)
                  have f_436 : fd_fr [0, 209, 210] σ σ9_434 := fd_fr_tr f0 (fd_fr_sI eσ9_434 (by decide))
                  have t_437 : (σ9_434.1 0).toInt = (1 : Int32).toInt := congrArg Int32.toInt (fd_tI eσ9_434)
                  have t_438 : (σ9_434.1 1).toInt = (σ.1 1).toInt := congrArg Int32.toInt (fd_tN eσ9_434 (by decide))
                  have t_439 : (σ9_434.1 3).toInt = (σ.1 3).toInt := congrArg Int32.toInt (fd_tN eσ9_434 (by decide))
                  have t_440 : (σ9_434.1 5).toInt = (σ.1 5).toInt := congrArg Int32.toInt (fd_tN eσ9_434 (by decide))
                  have r_441 := fd_rng (σ9_434.1 0)
                  refine fd_ok_itn (Int32.not_le.mpr (Int32.lt_iff_toInt_lt.mpr (by omega))) ?_
                  exact fd_ok_some ⟨i_435, f_436, trivial⟩
                ·
                  have d_442 := Int32.lt_iff_toInt_lt.mp (Int32.not_le.mp c_432)
                  refine fd_ok_pb ?_
                  refine fd_ok_itn (by decide) ?_
                  try unfold f_X11_shows_0_J70
                  refine fd_ok_lt (fun σ9_443 eσ9_443 => ?_)
                  have i_444 : fd_InvM σ9_443 := fd_inv_sI eσ9_443 i0 (fd_rng _)
                  have f_445 : fd_fr [0, 209, 210] σ σ9_443 := fd_fr_tr f0 (fd_fr_sI eσ9_443 (by decide))
                  have t_446 : (σ9_443.1 0).toInt = (0 : Int32).toInt := congrArg Int32.toInt (fd_tI eσ9_443)
                  have t_447 : (σ9_443.1 1).toInt = (σ.1 1).toInt := congrArg Int32.toInt (fd_tN eσ9_443 (by decide))
                  have t_448 : (σ9_443.1 3).toInt = (σ.1 3).toInt := congrArg Int32.toInt (fd_tN eσ9_443 (by decide))
                  have t_449 : (σ9_443.1 5).toInt = (σ.1 5).toInt := congrArg Int32.toInt (fd_tN eσ9_443 (by decide))
                  have r_450 := fd_rng (σ9_443.1 0)
                  refine fd_ok_itp (Int32.le_iff_toInt_le.mpr (by omega)) ?_
                  refine fd_ok_bd ?_
                  try unfold f_X11_workPlain_0
                  refine fd_ok_cl (s_X11_workPlain_0_L2 N hN N _ _ i_444 (by omega) (by omega) (by omega)) ?_
                  rintro v_451 σ_452 ⟨i_453, g_454, x_455⟩
                  have f_456 : fd_fr [0, 209, 210] σ σ_452 := fd_fr_tr f_445 (fd_fr_mono g_454 (by decide))
                  have t_457 : (σ_452.1 0).toInt = (σ9_443.1 0).toInt := congrArg Int32.toInt (g_454.1 0 (by decide))
                  have t_458 : (σ_452.1 1).toInt = (σ9_443.1 1).toInt := congrArg Int32.toInt (g_454.1 1 (by decide))
                  have t_459 : (σ_452.1 3).toInt = (σ9_443.1 3).toInt := congrArg Int32.toInt (g_454.1 3 (by decide))
                  have t_460 : (σ_452.1 5).toInt = (σ9_443.1 5).toInt := congrArg Int32.toInt (g_454.1 5 (by decide))
                  refine fd_ok_bd ?_
                  refine fd_ok_cl (s_X11_workFault_0 N hN _ _ _ i_453 (by omega)) ?_
                  rintro v_461 σ_462 ⟨i_463, g_464, x_465⟩
                  have f_466 : fd_fr [0, 209, 210] σ σ_462 := fd_fr_tr f_456 (fd_fr_mono g_464 (by decide))
                  have t_467 : (σ_462.1 0).toInt = (σ_452.1 0).toInt := congrArg Int32.toInt (g_464.1 0 (by decide))
                  have t_468 : (σ_462.1 1).toInt = (σ_452.1 1).toInt := congrArg Int32.toInt (g_464.1 1 (by decide))
                  have t_469 : (σ_462.1 3).toInt = (σ_452.1 3).toInt := congrArg Int32.toInt (g_464.1 3 (by decide))
                  have t_470 : (σ_462.1 5).toInt = (σ_452.1 5).toInt := congrArg Int32.toInt (g_464.1 5 (by decide))
                  refine fd_ok_gd (vp_in_iff.mpr ⟨by omega, by omega⟩) ?_
                  have r_471 : (0 : Int) ≤ (σ_462.2.1 5 p3.toNatClampNeg).toInt ∧ (σ_462.2.1 5 p3.toNatClampNeg).toInt ≤ 199 := i_463.2.1 5 _
                  refine fd_ok_gd (vp_in_iff.mpr ⟨by omega, by omega⟩) ?_
                  refine fd_ok_gd (vp_in_iff.mpr ⟨by omega, by omega⟩) ?_
                  refine fd_ok_gd (vp_in_iff.mpr ⟨by omega, by omega⟩) ?_
                  exact fd_ok_some ⟨i_463, f_466, trivial⟩
        ·
          have d_472 : ¬ p1.toInt = (2 : Int32).toInt := fun q => c_395 (Int32.toInt_inj.mp q)
          refine fd_ok_ite (fun c_473 => ?_) (fun c_473 => ?_)
          ·
            have d_474 := congrArg Int32.toInt c_473
            try unfold f_X11_shows_0_J30
            refine fd_ok_bd ?_
            try unfold f_X11_isIn
            refine fd_ok_ite (fun c_475 => ?_) (fun c_475 => ?_)
            ·
              have d_476 := Int32.lt_iff_toInt_lt.mp c_475
              refine fd_ok_pb ?_
              refine fd_ok_itp (by decide) ?_
              try unfold f_X11_shows_0_J45
              try unfold f_X11_shows_0_J46
              refine fd_ok_itp (by decide) ?_
              try unfold f_X11_shows_0_J69
              try unfold f_X11_shows_0_J70
              refine fd_ok_lt (fun σ9_477 eσ9_477 => ?_)
              have i_478 : fd_InvM σ9_477 := fd_inv_sI eσ9_477 i0 (fd_rng _)
              have f_479 : fd_fr [0, 209, 210] σ σ9_477 := fd_fr_tr f0 (fd_fr_sI eσ9_477 (by decide))
              have t_480 : (σ9_477.1 0).toInt = (1 : Int32).toInt := congrArg Int32.toInt (fd_tI eσ9_477)
              have t_481 : (σ9_477.1 1).toInt = (σ.1 1).toInt := congrArg Int32.toInt (fd_tN eσ9_477 (by decide))
              have t_482 : (σ9_477.1 3).toInt = (σ.1 3).toInt := congrArg Int32.toInt (fd_tN eσ9_477 (by decide))
              have t_483 : (σ9_477.1 5).toInt = (σ.1 5).toInt := congrArg Int32.toInt (fd_tN eσ9_477 (by decide))
              have r_484 := fd_rng (σ9_477.1 0)
              refine fd_ok_itn (Int32.not_le.mpr (Int32.lt_iff_toInt_lt.mpr (by omega))) ?_
              exact fd_ok_some ⟨i_478, f_479, trivial⟩
            ·
              have d_485 := Int32.le_iff_toInt_le.mp (Int32.not_lt.mp c_475)
              have r_486 : (0 : Int) ≤ (σ.1 5).toInt ∧ (σ.1 5).toInt ≤ 40 := i0.1 5
              refine fd_ok_ite (fun c_487 => ?_) (fun c_487 => ?_)
              ·
                have d_488 := Int32.le_iff_toInt_le.mp c_487
                refine fd_ok_pb ?_
                refine fd_ok_itp (by decide) ?_
                try unfold f_X11_shows_0_J45
                try unfold f_X11_shows_0_J46
                refine fd_ok_itp (by decide) ?_
                try unfold f_X11_shows_0_J69
                try unfold f_X11_shows_0_J70
                refine fd_ok_lt (fun σ9_489 eσ9_489 => ?_)
                have i_490 : fd_InvM σ9_489 := fd_inv_sI eσ9_489 i0 (fd_rng _)
                have f_491 : fd_fr [0, 209, 210] σ σ9_489 := fd_fr_tr f0 (fd_fr_sI eσ9_489 (by decide))
                have t_492 : (σ9_489.1 0).toInt = (1 : Int32).toInt := congrArg Int32.toInt (fd_tI eσ9_489)
                have t_493 : (σ9_489.1 1).toInt = (σ.1 1).toInt := congrArg Int32.toInt (fd_tN eσ9_489 (by decide))
                have t_494 : (σ9_489.1 3).toInt = (σ.1 3).toInt := congrArg Int32.toInt (fd_tN eσ9_489 (by decide))
                have t_495 : (σ9_489.1 5).toInt = (σ.1 5).toInt := congrArg Int32.toInt (fd_tN eσ9_489 (by decide))
                have r_496 := fd_rng (σ9_489.1 0)
                refine fd_ok_itn (Int32.not_le.mpr (Int32.lt_iff_toInt_lt.mpr (by omega))) ?_
                exact fd_ok_some ⟨i_490, f_491, trivial⟩
              ·
                have d_497 := Int32.lt_iff_toInt_lt.mp (Int32.not_le.mp c_487)
                refine fd_ok_pb ?_
                refine fd_ok_itn (by decide) ?_
                try unfold f_X11_shows_0_J41
                try unfold f_X11_shows_0_J46
                refine fd_ok_itn (by decide) ?_
                refine fd_ok_bd ?_
                try unfold f_X11_isIn
                refine fd_ok_ite (fun c_498 => ?_) (fun c_498 => ?_)
                ·
                  have d_499 := Int32.lt_iff_toInt_lt.mp c_498
                  refine fd_ok_pb ?_
                  refine fd_ok_itp (by decide) ?_
                  try unfold f_X11_shows_0_J69
                  try unfold f_X11_shows_0_J70
                  refine fd_ok_lt (fun σ9_500 eσ9_500 => ?_)
                  have i_501 : fd_InvM σ9_500 := fd_inv_sI eσ9_500 i0 (fd_rng _)
                  have f_502 : fd_fr [0, 209, 210] σ σ9_500 := fd_fr_tr f0 (fd_fr_sI eσ9_500 (by decide))
                  have t_503 : (σ9_500.1 0).toInt = (1 : Int32).toInt := congrArg Int32.toInt (fd_tI eσ9_500)
                  have t_504 : (σ9_500.1 1).toInt = (σ.1 1).toInt := congrArg Int32.toInt (fd_tN eσ9_500 (by decide))
                  have t_505 : (σ9_500.1 3).toInt = (σ.1 3).toInt := congrArg Int32.toInt (fd_tN eσ9_500 (by decide))
                  have t_506 : (σ9_500.1 5).toInt = (σ.1 5).toInt := congrArg Int32.toInt (fd_tN eσ9_500 (by decide))
                  have r_507 := fd_rng (σ9_500.1 0)
                  refine fd_ok_itn (Int32.not_le.mpr (Int32.lt_iff_toInt_lt.mpr (by omega))) ?_
                  exact fd_ok_some ⟨i_501, f_502, trivial⟩
                ·
                  have d_508 := Int32.le_iff_toInt_le.mp (Int32.not_lt.mp c_498)
                  have r_509 : (0 : Int) ≤ (σ.1 3).toInt ∧ (σ.1 3).toInt ≤ 32 := i0.1 3
                  refine fd_ok_ite (fun c_510 => ?_) (fun c_510 => ?_)
                  ·
                    have d_511 := Int32.le_iff_toInt_le.mp c_510
                    refine fd_ok_pb ?_
                    refine fd_ok_itp (by decide) ?_
                    try unfold f_X11_shows_0_J69
                    try unfold f_X11_shows_0_J70
                    refine fd_ok_lt (fun σ9_512 eσ9_512 => ?_)
                    have i_513 : fd_InvM σ9_512 := fd_inv_sI eσ9_512 i0 (fd_rng _)
                    have f_514 : fd_fr [0, 209, 210] σ σ9_512 := fd_fr_tr f0 (fd_fr_sI eσ9_512 (by decide))
                    have t_515 : (σ9_512.1 0).toInt = (1 : Int32).toInt := congrArg Int32.toInt (fd_tI eσ9_512)
                    have t_516 : (σ9_512.1 1).toInt = (σ.1 1).toInt := congrArg Int32.toInt (fd_tN eσ9_512 (by decide))
                    have t_517 : (σ9_512.1 3).toInt = (σ.1 3).toInt := congrArg Int32.toInt (fd_tN eσ9_512 (by decide))
                    have t_518 : (σ9_512.1 5).toInt = (σ.1 5).toInt := congrArg Int32.toInt (fd_tN eσ9_512 (by decide))
                    have r_519 := fd_rng (σ9_512.1 0)
                    refine fd_ok_itn (Int32.not_le.mpr (Int32.lt_iff_toInt_lt.mpr (by omega))) ?_
                    exact fd_ok_some ⟨i_513, f_514, trivial⟩
                  ·
                    have d_520 := Int32.lt_iff_toInt_lt.mp (Int32.not_le.mp c_510)
                    refine fd_ok_pb ?_
                    refine fd_ok_itn (by decide) ?_
                    try unfold f_X11_shows_0_J70
                    refine fd_ok_lt (fun σ9_521 eσ9_521 => ?_)
                    have i_522 : fd_InvM σ9_521 := fd_inv_sI eσ9_521 i0 (fd_rng _)
                    have f_523 : fd_fr [0, 209, 210] σ σ9_521 := fd_fr_tr f0 (fd_fr_sI eσ9_521 (by decide))
                    have t_524 : (σ9_521.1 0).toInt = (0 : Int32).toInt := congrArg Int32.toInt (fd_tI eσ9_521)
                    have t_525 : (σ9_521.1 1).toInt = (σ.1 1).toInt := congrArg Int32.toInt (fd_tN eσ9_521 (by decide))
                    have t_526 : (σ9_521.1 3).toInt = (σ.1 3).toInt := congrArg Int32.toInt (fd_tN eσ9_521 (by decide))
                    have t_527 : (σ9_521.1 5).toInt = (σ.1 5).toInt := congrArg Int32.toInt (fd_tN eσ9_521 (by decide))
                    have r_528 := fd_rng (σ9_521.1 0)
                    refine fd_ok_itp (Int32.le_iff_toInt_le.mpr (by omega)) ?_
                    refine fd_ok_bd ?_
                    try unfold f_X11_workPlain_0
                    refine fd_ok_cl (s_X11_workPlain_0_L2 N hN N _ _ i_522 (by omega) (by omega) (by omega)) ?_
                    rintro v_529 σ_530 ⟨i_531, g_532, x_533⟩
                    have f_534 : fd_fr [0, 209, 210] σ σ_530 := fd_fr_tr f_523 (fd_fr_mono g_532 (by decide))
                    have t_535 : (σ_530.1 0).toInt = (σ9_521.1 0).toInt := congrArg Int32.toInt (g_532.1 0 (by decide))
                    have t_536 : (σ_530.1 1).toInt = (σ9_521.1 1).toInt := congrArg Int32.toInt (g_532.1 1 (by decide))
                    have t_537 : (σ_530.1 3).toInt = (σ9_521.1 3).toInt := congrArg Int32.toInt (g_532.1 3 (by decide))
                    have t_538 : (σ_530.1 5).toInt = (σ9_521.1 5).toInt := congrArg Int32.toInt (g_532.1 5 (by decide))
                    refine fd_ok_bd ?_
                    refine fd_ok_cl (s_X11_workFault_0 N hN _ _ _ i_531 (by omega)) ?_
                    rintro v_539 σ_540 ⟨i_541, g_542, x_543⟩
                    have f_544 : fd_fr [0, 209, 210] σ σ_540 := fd_fr_tr f_534 (fd_fr_mono g_542 (by decide))
                    have t_545 : (σ_540.1 0).toInt = (σ_530.1 0).toInt := congrArg Int32.toInt (g_542.1 0 (by decide))
                    have t_546 : (σ_540.1 1).toInt = (σ_530.1 1).toInt := congrArg Int32.toInt (g_542.1 1 (by decide))
                    have t_547 : (σ_540.1 3).toInt = (σ_530.1 3).toInt := congrArg Int32.toInt (g_542.1 3 (by decide))
                    have t_548 : (σ_540.1 5).toInt = (σ_530.1 5).toInt := congrArg Int32.toInt (g_542.1 5 (by decide))
                    refine fd_ok_gd (vp_in_iff.mpr ⟨by omega, by omega⟩) ?_
                    have r_549 : (0 : Int) ≤ (σ_540.2.1 5 p3.toNatClampNeg).toInt ∧ (σ_540.2.1 5 p3.toNatClampNeg).toInt ≤ 199 := i_541.2.1 5 _
                    refine fd_ok_gd (vp_in_iff.mpr ⟨by omega, by omega⟩) ?_
                    refine fd_ok_gd (vp_in_iff.mpr ⟨by omega, by omega⟩) ?_
                    refine fd_ok_gd (vp_in_iff.mpr ⟨by omega, by omega⟩) ?_
                    exact fd_ok_some ⟨i_541, f_544, trivial⟩
          ·
            have d_550 : ¬ p1.toInt = (3 : Int32).toInt := fun q => c_473 (Int32.toInt_inj.mp q)
            try unfold f_X11_shows_0_J45
            try unfold f_X11_shows_0_J46
            refine fd_ok_itp (by decide) ?_
            try unfold f_X11_shows_0_J69
            try unfold f_X11_shows_0_J70
            refine fd_ok_lt (fun σ9_551 eσ9_551 => ?_)
            have i_552 : fd_InvM σ9_551 := fd_inv_sI eσ9_551 i0 (fd_rng _)
            have f_553 : fd_fr [0, 209, 210] σ σ9_551 := fd_fr_tr f0 (fd_fr_sI eσ9_551 (by decide))
            have t_554 : (σ9_551.1 0).toInt = (1 : Int32).toInt := congrArg Int32.toInt (fd_tI eσ9_551)
            have t_555 : (σ9_551.1 1).toInt = (σ.1 1).toInt := congrArg Int32.toInt (fd_tN eσ9_551 (by decide))
            have t_556 : (σ9_551.1 3).toInt = (σ.1 3).toInt := congrArg Int32.toInt (fd_tN eσ9_551 (by decide))
            have t_557 : (σ9_551.1 5).toInt = (σ.1 5).toInt := congrArg Int32.toInt (fd_tN eσ9_551 (by decide))
            have r_558 := fd_rng (σ9_551.1 0)
            refine fd_ok_itn (Int32.not_le.mpr (Int32.lt_iff_toInt_lt.mpr (by omega))) ?_
            exact fd_ok_some ⟨i_552, f_553, trivial⟩
      ·
        have d_559 := Int32.le_iff_toInt_le.mp (Int32.not_lt.mp c_393)
        have r_560 : (0 : Int) ≤ (σ.1 1).toInt ∧ (σ.1 1).toInt ≤ 200 := i0.1 1
        refine fd_ok_ite (fun c_561 => ?_) (fun c_561 => ?_)
        ·
          have d_562 := Int32.le_iff_toInt_le.mp c_561
          refine fd_ok_pb ?_
          refine fd_ok_itp (by decide) ?_
          try unfold f_X11_shows_0_J20
          refine fd_ok_ite (fun c_563 => ?_) (fun c_563 => ?_)
          ·
            have d_564 := congrArg Int32.toInt c_563
            try unfold f_X11_shows_0_J30
            refine fd_ok_bd ?_
            try unfold f_X11_isIn
            refine fd_ok_ite (fun c_565 => ?_) (fun c_565 => ?_)
            ·
              have d_566 := Int32.lt_iff_toInt_lt.mp c_565
              refine fd_ok_pb ?_
              refine fd_ok_itp (by decide) ?_
              try unfold f_X11_shows_0_J45
              try unfold f_X11_shows_0_J46
              refine fd_ok_itp (by decide) ?_
              try unfold f_X11_shows_0_J69
              try unfold f_X11_shows_0_J70
              refine fd_ok_lt (fun σ9_567 eσ9_567 => ?_)
              have i_568 : fd_InvM σ9_567 := fd_inv_sI eσ9_567 i0 (fd_rng _)
              have f_569 : fd_fr [0, 209, 210] σ σ9_567 := fd_fr_tr f0 (fd_fr_sI eσ9_567 (by decide))
              have t_570 : (σ9_567.1 0).toInt = (1 : Int32).toInt := congrArg Int32.toInt (fd_tI eσ9_567)
              have t_571 : (σ9_567.1 1).toInt = (σ.1 1).toInt := congrArg Int32.toInt (fd_tN eσ9_567 (by decide))
              have t_572 : (σ9_567.1 3).toInt = (σ.1 3).toInt := congrArg Int32.toInt (fd_tN eσ9_567 (by decide))
              have t_573 : (σ9_567.1 5).toInt = (σ.1 5).toInt := congrArg Int32.toInt (fd_tN eσ9_567 (by decide))
              have r_574 := fd_rng (σ9_567.1 0)
              refine fd_ok_itn (Int32.not_le.mpr (Int32.lt_iff_toInt_lt.mpr (by omega))) ?_
              exact fd_ok_some ⟨i_568, f_569, trivial⟩
            ·
              have d_575 := Int32.le_iff_toInt_le.mp (Int32.not_lt.mp c_565)
              have r_576 : (0 : Int) ≤ (σ.1 5).toInt ∧ (σ.1 5).toInt ≤ 40 := i0.1 5
              refine fd_ok_ite (fun c_577 => ?_) (fun c_577 => ?_)
              ·
                have d_578 := Int32.le_iff_toInt_le.mp c_577
                refine fd_ok_pb ?_
                refine fd_ok_itp (by decide) ?_
                try unfold f_X11_shows_0_J45
                try unfold f_X11_shows_0_J46
                refine fd_ok_itp (by decide) ?_
                try unfold f_X11_shows_0_J69
                try unfold f_X11_shows_0_J70
                refine fd_ok_lt (fun σ9_579 eσ9_579 => ?_)
                have i_580 : fd_InvM σ9_579 := fd_inv_sI eσ9_579 i0 (fd_rng _)
                have f_581 : fd_fr [0, 209, 210] σ σ9_579 := fd_fr_tr f0 (fd_fr_sI eσ9_579 (by decide))
                have t_582 : (σ9_579.1 0).toInt = (1 : Int32).toInt := congrArg Int32.toInt (fd_tI eσ9_579)
                have t_583 : (σ9_579.1 1).toInt = (σ.1 1).toInt := congrArg Int32.toInt (fd_tN eσ9_579 (by decide))
                have t_584 : (σ9_579.1 3).toInt = (σ.1 3).toInt := congrArg Int32.toInt (fd_tN eσ9_579 (by decide))
                have t_585 : (σ9_579.1 5).toInt = (σ.1 5).toInt := congrArg Int32.toInt (fd_tN eσ9_579 (by decide))
                have r_586 := fd_rng (σ9_579.1 0)
                refine fd_ok_itn (Int32.not_le.mpr (Int32.lt_iff_toInt_lt.mpr (by omega))) ?_
                exact fd_ok_some ⟨i_580, f_581, trivial⟩
              ·
                have d_587 := Int32.lt_iff_toInt_lt.mp (Int32.not_le.mp c_577)
                refine fd_ok_pb ?_
                refine fd_ok_itn (by decide) ?_
                try unfold f_X11_shows_0_J41
                try unfold f_X11_shows_0_J46
                refine fd_ok_itn (by decide) ?_
                refine fd_ok_bd ?_
                try unfold f_X11_isIn
                refine fd_ok_ite (fun c_588 => ?_) (fun c_588 => ?_)
                ·
                  have d_589 := Int32.lt_iff_toInt_lt.mp c_588
                  refine fd_ok_pb ?_
                  refine fd_ok_itp (by decide) ?_
                  try unfold f_X11_shows_0_J69
                  try unfold f_X11_shows_0_J70
                  refine fd_ok_lt (fun σ9_590 eσ9_590 => ?_)
                  have i_591 : fd_InvM σ9_590 := fd_inv_sI eσ9_590 i0 (fd_rng _)
                  have f_592 : fd_fr [0, 209, 210] σ σ9_590 := fd_fr_tr f0 (fd_fr_sI eσ9_590 (by decide))
                  have t_593 : (σ9_590.1 0).toInt = (1 : Int32).toInt := congrArg Int32.toInt (fd_tI eσ9_590)
                  have t_594 : (σ9_590.1 1).toInt = (σ.1 1).toInt := congrArg Int32.toInt (fd_tN eσ9_590 (by decide))
                  have t_595 : (σ9_590.1 3).toInt = (σ.1 3).toInt := congrArg Int32.toInt (fd_tN eσ9_590 (by decide))
                  have t_596 : (σ9_590.1 5).toInt = (σ.1 5).toInt := congrArg Int32.toInt (fd_tN eσ9_590 (by decide))
                  have r_597 := fd_rng (σ9_590.1 0)
                  refine fd_ok_itn (Int32.not_le.mpr (Int32.lt_iff_toInt_lt.mpr (by omega))) ?_
                  exact fd_ok_some ⟨i_591, f_592, trivial⟩
                ·
                  have d_598 := Int32.le_iff_toInt_le.mp (Int32.not_lt.mp c_588)
                  have r_599 : (0 : Int) ≤ (σ.1 3).toInt ∧ (σ.1 3).toInt ≤ 32 := i0.1 3
                  refine fd_ok_ite (fun c_600 => ?_) (fun c_600 => ?_)
                  ·
                    have d_601 := Int32.le_iff_toInt_le.mp c_600
                    refine fd_ok_pb ?_
                    refine fd_ok_itp (by decide) ?_
                    try unfold f_X11_shows_0_J69
                    try unfold f_X11_shows_0_J70
                    refine fd_ok_lt (fun σ9_602 eσ9_602 => ?_)
                    have i_603 : fd_InvM σ9_602 := fd_inv_sI eσ9_602 i0 (fd_rng _)
                    have f_604 : fd_fr [0, 209, 210] σ σ9_602 := fd_fr_tr f0 (fd_fr_sI eσ9_602 (by decide))
                    have t_605 : (σ9_602.1 0).toInt = (1 : Int32).toInt := congrArg Int32.toInt (fd_tI eσ9_602)
                    have t_606 : (σ9_602.1 1).toInt = (σ.1 1).toInt := congrArg Int32.toInt (fd_tN eσ9_602 (by decide))
                    have t_607 : (σ9_602.1 3).toInt = (σ.1 3).toInt := congrArg Int32.toInt (fd_tN eσ9_602 (by decide))
                    have t_608 : (σ9_602.1 5).toInt = (σ.1 5).toInt := congrArg Int32.toInt (fd_tN eσ9_602 (by decide))
                    have r_609 := fd_rng (σ9_602.1 0)
                    refine fd_ok_itn (Int32.not_le.mpr (Int32.lt_iff_toInt_lt.mpr (by omega))) ?_
                    exact fd_ok_some ⟨i_603, f_604, trivial⟩
                  ·
                    have d_610 := Int32.lt_iff_toInt_lt.mp (Int32.not_le.mp c_600)
                    refine fd_ok_pb ?_
                    refine fd_ok_itn (by decide) ?_
                    try unfold f_X11_shows_0_J70
                    refine fd_ok_lt (fun σ9_611 eσ9_611 => ?_)
                    have i_612 : fd_InvM σ9_611 := fd_inv_sI eσ9_611 i0 (fd_rng _)
                    have f_613 : fd_fr [0, 209, 210] σ σ9_611 := fd_fr_tr f0 (fd_fr_sI eσ9_611 (by decide))
                    have t_614 : (σ9_611.1 0).toInt = (0 : Int32).toInt := congrArg Int32.toInt (fd_tI eσ9_611)
                    have t_615 : (σ9_611.1 1).toInt = (σ.1 1).toInt := congrArg Int32.toInt (fd_tN eσ9_611 (by decide))
                    have t_616 : (σ9_611.1 3).toInt = (σ.1 3).toInt := congrArg Int32.toInt (fd_tN eσ9_611 (by decide))
                    have t_617 : (σ9_611.1 5).toInt = (σ.1 5).toInt := congrArg Int32.toInt (fd_tN eσ9_611 (by decide))
                    have r_618 := fd_rng (σ9_611.1 0)
                    refine fd_ok_itp (Int32.le_iff_toInt_le.mpr (by omega)) ?_
                    refine fd_ok_bd ?_
                    try unfold f_X11_workPlain_0
                    refine fd_ok_cl (s_X11_workPlain_0_L2 N hN N _ _ i_612 (by omega) (by omega) (by omega)) ?_
                    rintro v_619 σ_620 ⟨i_621, g_622, x_623⟩
                    have f_624 : fd_fr [0, 209, 210] σ σ_620 := fd_fr_tr f_613 (fd_fr_mono g_622 (by decide))
                    have t_625 : (σ_620.1 0).toInt = (σ9_611.1 0).toInt := congrArg Int32.toInt (g_622.1 0 (by decide))
                    have t_626 : (σ_620.1 1).toInt = (σ9_611.1 1).toInt := congrArg Int32.toInt (g_622.1 1 (by decide))
                    have t_627 : (σ_620.1 3).toInt = (σ9_611.1 3).toInt := congrArg Int32.toInt (g_622.1 3 (by decide))
                    have t_628 : (σ_620.1 5).toInt = (σ9_611.1 5).toInt := congrArg Int32.toInt (g_622.1 5 (by decide))
                    refine fd_ok_bd ?_
                    refine fd_ok_cl (s_X11_workFault_0 N hN _ _ _ i_621 (by omega)) ?_
                    rintro v_629 σ_630 ⟨i_631, g_632, x_633⟩
                    have f_634 : fd_fr [0, 209, 210] σ σ_630 := fd_fr_tr f_624 (fd_fr_mono g_632 (by decide))
                    have t_635 : (σ_630.1 0).toInt = (σ_620.1 0).toInt := congrArg Int32.toInt (g_632.1 0 (by decide))
                    have t_636 : (σ_630.1 1).toInt = (σ_620.1 1).toInt := congrArg Int32.toInt (g_632.1 1 (by decide))
                    have t_637 : (σ_630.1 3).toInt = (σ_620.1 3).toInt := congrArg Int32.toInt (g_632.1 3 (by decide))
                    have t_638 : (σ_630.1 5).toInt = (σ_620.1 5).toInt := congrArg Int32.toInt (g_632.1 5 (by decide))
                    refine fd_ok_gd (vp_in_iff.mpr ⟨by omega, by omega⟩) ?_
                    have r_639 : (0 : Int) ≤ (σ_630.2.1 5 p3.toNatClampNeg).toInt ∧ (σ_630.2.1 5 p3.toNatClampNeg).toInt ≤ 199 := i_631.2.1 5 _
                    refine fd_ok_gd (vp_in_iff.mpr ⟨by omega, by omega⟩) ?_
                    refine fd_ok_gd (vp_in_iff.mpr ⟨by omega, by omega⟩) ?_
                    refine fd_ok_gd (vp_in_iff.mpr ⟨by omega, by omega⟩) ?_
                    exact fd_ok_some ⟨i_631, f_634, trivial⟩
          ·
            have d_640 : ¬ p1.toInt = (2 : Int32).toInt := fun q => c_563 (Int32.toInt_inj.mp q)
            refine fd_ok_ite (fun c_641 => ?_) (fun c_641 => ?_)
            ·
              have d_642 := congrArg Int32.toInt c_641
              try unfold f_X11_shows_0_J30
              refine fd_ok_bd ?_
              try unfold f_X11_isIn
              refine fd_ok_ite (fun c_643 => ?_) (fun c_643 => ?_)
              ·
                have d_644 := Int32.lt_iff_toInt_lt.mp c_643
                refine fd_ok_pb ?_
                refine fd_ok_itp (by decide) ?_
                try unfold f_X11_shows_0_J45
                try unfold f_X11_shows_0_J46
                refine fd_ok_itp (by decide) ?_
                try unfold f_X11_shows_0_J69
                try unfold f_X11_shows_0_J70
                refine fd_ok_lt (fun σ9_645 eσ9_645 => ?_)
                have i_646 : fd_InvM σ9_645 := fd_inv_sI eσ9_645 i0 (fd_rng _)
                have f_647 : fd_fr [0, 209, 210] σ σ9_645 := fd_fr_tr f0 (fd_fr_sI eσ9_645 (by decide))
                have t_648 : (σ9_645.1 0).toInt = (1 : Int32).toInt := congrArg Int32.toInt (fd_tI eσ9_645)
                have t_649 : (σ9_645.1 1).toInt = (σ.1 1).toInt := congrArg Int32.toInt (fd_tN eσ9_645 (by decide))
                have t_650 : (σ9_645.1 3).toInt = (σ.1 3).toInt := congrArg Int32.toInt (fd_tN eσ9_645 (by decide))
                have t_651 : (σ9_645.1 5).toInt = (σ.1 5).toInt := congrArg Int32.toInt (fd_tN eσ9_645 (by decide))
                have r_652 := fd_rng (σ9_645.1 0)
                refine fd_ok_itn (Int32.not_le.mpr (Int32.lt_iff_toInt_lt.mpr (by omega))) ?_
                exact fd_ok_some ⟨i_646, f_647, trivial⟩
              ·
                have d_653 := Int32.le_iff_toInt_le.mp (Int32.not_lt.mp c_643)
                have r_654 : (0 : Int) ≤ (σ.1 5).toInt ∧ (σ.1 5).toInt ≤ 40 := i0.1 5
                refine fd_ok_ite (fun c_655 => ?_) (fun c_655 => ?_)
                ·
                  have d_656 := Int32.le_iff_toInt_le.mp c_655
                  refine fd_ok_pb ?_
                  refine fd_ok_itp (by decide) ?_
                  try unfold f_X11_shows_0_J45
                  try unfold f_X11_shows_0_J46
                  refine fd_ok_itp (by decide) ?_
                  try unfold f_X11_shows_0_J69
                  try unfold f_X11_shows_0_J70
                  refine fd_ok_lt (fun σ9_657 eσ9_657 => ?_)
                  have i_658 : fd_InvM σ9_657 := fd_inv_sI eσ9_657 i0 (fd_rng _)
                  have f_659 : fd_fr [0, 209, 210] σ σ9_657 := fd_fr_tr f0 (fd_fr_sI eσ9_657 (by decide))
                  have t_660 : (σ9_657.1 0).toInt = (1 : Int32).toInt := congrArg Int32.toInt (fd_tI eσ9_657)
                  have t_661 : (σ9_657.1 1).toInt = (σ.1 1).toInt := congrArg Int32.toInt (fd_tN eσ9_657 (by decide))
                  have t_662 : (σ9_657.1 3).toInt = (σ.1 3).toInt := congrArg Int32.toInt (fd_tN eσ9_657 (by decide))
                  have t_663 : (σ9_657.1 5).toInt = (σ.1 5).toInt := congrArg Int32.toInt (fd_tN eσ9_657 (by decide))
                  have r_664 := fd_rng (σ9_657.1 0)
                  refine fd_ok_itn (Int32.not_le.mpr (Int32.lt_iff_toInt_lt.mpr (by omega))) ?_
                  exact fd_ok_some ⟨i_658, f_659, trivial⟩
                ·
                  have d_665 := Int32.lt_iff_toInt_lt.mp (Int32.not_le.mp c_655)
                  refine fd_ok_pb ?_
                  refine fd_ok_itn (by decide) ?_
                  try unfold f_X11_shows_0_J41
                  try unfold f_X11_shows_0_J46
                  refine fd_ok_itn (by decide) ?_
                  refine fd_ok_bd ?_
                  try unfold f_X11_isIn
                  refine fd_ok_ite (fun c_666 => ?_) (fun c_666 => ?_)
                  ·
                    have d_667 := Int32.lt_iff_toInt_lt.mp c_666
                    refine fd_ok_pb ?_
                    refine fd_ok_itp (by decide) ?_
                    try unfold f_X11_shows_0_J69
                    try unfold f_X11_shows_0_J70
                    refine fd_ok_lt (fun σ9_668 eσ9_668 => ?_)
                    have i_669 : fd_InvM σ9_668 := fd_inv_sI eσ9_668 i0 (fd_rng _)
                    have f_670 : fd_fr [0, 209, 210] σ σ9_668 := fd_fr_tr f0 (fd_fr_sI eσ9_668 (by decide))
                    have t_671 : (σ9_668.1 0).toInt = (1 : Int32).toInt := congrArg Int32.toInt (fd_tI eσ9_668)
                    have t_672 : (σ9_668.1 1).toInt = (σ.1 1).toInt := congrArg Int32.toInt (fd_tN eσ9_668 (by decide))
                    have t_673 : (σ9_668.1 3).toInt = (σ.1 3).toInt := congrArg Int32.toInt (fd_tN eσ9_668 (by decide))
                    have t_674 : (σ9_668.1 5).toInt = (σ.1 5).toInt := congrArg Int32.toInt (fd_tN eσ9_668 (by decide))
                    have r_675 := fd_rng (σ9_668.1 0)
                    refine fd_ok_itn (Int32.not_le.mpr (Int32.lt_iff_toInt_lt.mpr (by omega))) ?_
                    exact fd_ok_some ⟨i_669, f_670, trivial⟩
                  ·
                    have d_676 := Int32.le_iff_toInt_le.mp (Int32.not_lt.mp c_666)
                    have r_677 : (0 : Int) ≤ (σ.1 3).toInt ∧ (σ.1 3).toInt ≤ 32 := i0.1 3
                    refine fd_ok_ite (fun c_678 => ?_) (fun c_678 => ?_)
                    ·
                      have d_679 := Int32.le_iff_toInt_le.mp c_678
                      refine fd_ok_pb ?_
                      refine fd_ok_itp (by decide) ?_
                      try unfold f_X11_shows_0_J69
                      try unfold f_X11_shows_0_J70
                      refine fd_ok_lt (fun σ9_680 eσ9_680 => ?_)
                      have i_681 : fd_InvM σ9_680 := fd_inv_sI eσ9_680 i0 (fd_rng _)
                      have f_682 : fd_fr [0, 209, 210] σ σ9_680 := fd_fr_tr f0 (fd_fr_sI eσ9_680 (by decide))
                      have t_683 : (σ9_680.1 0).toInt = (1 : Int32).toInt := congrArg Int32.toInt (fd_tI eσ9_680)
                      have t_684 : (σ9_680.1 1).toInt = (σ.1 1).toInt := congrArg Int32.toInt (fd_tN eσ9_680 (by decide))
                      have t_685 : (σ9_680.1 3).toInt = (σ.1 3).toInt := congrArg Int32.toInt (fd_tN eσ9_680 (by decide))
                      have t_686 : (σ9_680.1 5).toInt = (σ.1 5).toInt := congrArg Int32.toInt (fd_tN eσ9_680 (by decide))
                      have r_687 := fd_rng (σ9_680.1 0)
                      refine fd_ok_itn (Int32.not_le.mpr (Int32.lt_iff_toInt_lt.mpr (by omega))) ?_
                      exact fd_ok_some ⟨i_681, f_682, trivial⟩
                    ·
                      have d_688 := Int32.lt_iff_toInt_lt.mp (Int32.not_le.mp c_678)
                      refine fd_ok_pb ?_
                      refine fd_ok_itn (by decide) ?_
                      try unfold f_X11_shows_0_J70
                      refine fd_ok_lt (fun σ9_689 eσ9_689 => ?_)
                      have i_690 : fd_InvM σ9_689 := fd_inv_sI eσ9_689 i0 (fd_rng _)
                      have f_691 : fd_fr [0, 209, 210] σ σ9_689 := fd_fr_tr f0 (fd_fr_sI eσ9_689 (by decide))
                      have t_692 : (σ9_689.1 0).toInt = (0 : Int32).toInt := congrArg Int32.toInt (fd_tI eσ9_689)
                      have t_693 : (σ9_689.1 1).toInt = (σ.1 1).toInt := congrArg Int32.toInt (fd_tN eσ9_689 (by decide))
                      have t_694 : (σ9_689.1 3).toInt = (σ.1 3).toInt := congrArg Int32.toInt (fd_tN eσ9_689 (by decide))
                      have t_695 : (σ9_689.1 5).toInt = (σ.1 5).toInt := congrArg Int32.toInt (fd_tN eσ9_689 (by decide))
                      have r_696 := fd_rng (σ9_689.1 0)
                      refine fd_ok_itp (Int32.le_iff_toInt_le.mpr (by omega)) ?_
                      refine fd_ok_bd ?_
                      try unfold f_X11_workPlain_0
                      refine fd_ok_cl (s_X11_workPlain_0_L2 N hN N _ _ i_690 (by omega) (by omega) (by omega)) ?_
                      rintro v_697 σ_698 ⟨i_699, g_700, x_701⟩
                      have f_702 : fd_fr [0, 209, 210] σ σ_698 := fd_fr_tr f_691 (fd_fr_mono g_700 (by decide))
                      have t_703 : (σ_698.1 0).toInt = (σ9_689.1 0).toInt := congrArg Int32.toInt (g_700.1 0 (by decide))
                      have t_704 : (σ_698.1 1).toInt = (σ9_689.1 1).toInt := congrArg Int32.toInt (g_700.1 1 (by decide))
                      have t_705 : (σ_698.1 3).toInt = (σ9_689.1 3).toInt := congrArg Int32.toInt (g_700.1 3 (by decide))
                      have t_706 : (σ_698.1 5).toInt = (σ9_689.1 5).toInt := congrArg Int32.toInt (g_700.1 5 (by decide))
                      refine fd_ok_bd ?_
                      refine fd_ok_cl (s_X11_workFault_0 N hN _ _ _ i_699 (by omega)) ?_
                      rintro v_707 σ_708 ⟨i_709, g_710, x_711⟩
                      have f_712 : fd_fr [0, 209, 210] σ σ_708 := fd_fr_tr f_702 (fd_fr_mono g_710 (by decide))
                      have t_713 : (σ_708.1 0).toInt = (σ_698.1 0).toInt := congrArg Int32.toInt (g_710.1 0 (by decide))
                      have t_714 : (σ_708.1 1).toInt = (σ_698.1 1).toInt := congrArg Int32.toInt (g_710.1 1 (by decide))
                      have t_715 : (σ_708.1 3).toInt = (σ_698.1 3).toInt := congrArg Int32.toInt (g_710.1 3 (by decide))
                      have t_716 : (σ_708.1 5).toInt = (σ_698.1 5).toInt := congrArg Int32.toInt (g_710.1 5 (by decide))
                      refine fd_ok_gd (vp_in_iff.mpr ⟨by omega, by omega⟩) ?_
                      have r_717 : (0 : Int) ≤ (σ_708.2.1 5 p3.toNatClampNeg).toInt ∧ (σ_708.2.1 5 p3.toNatClampNeg).toInt ≤ 199 := i_709.2.1 5 _
                      refine fd_ok_gd (vp_in_iff.mpr ⟨by omega, by omega⟩) ?_
                      refine fd_ok_gd (vp_in_iff.mpr ⟨by omega, by omega⟩) ?_
                      refine fd_ok_gd (vp_in_iff.mpr ⟨by omega, by omega⟩) ?_
                      exact fd_ok_some ⟨i_709, f_712, trivial⟩
            ·
              have d_718 : ¬ p1.toInt = (3 : Int32).toInt := fun q => c_641 (Int32.toInt_inj.mp q)
              try unfold f_X11_shows_0_J45
              try unfold f_X11_shows_0_J46
              refine fd_ok_itp (by decide) ?_
              try unfold f_X11_shows_0_J69
              try unfold f_X11_shows_0_J70
              refine fd_ok_lt (fun σ9_719 eσ9_719 => ?_)
              have i_720 : fd_InvM σ9_719 := fd_inv_sI eσ9_719 i0 (fd_rng _)
              have f_721 : fd_fr [0, 209, 210] σ σ9_719 := fd_fr_tr f0 (fd_fr_sI eσ9_719 (by decide))
              have t_722 : (σ9_719.1 0).toInt = (1 : Int32).toInt := congrArg Int32.toInt (fd_tI eσ9_719)
              have t_723 : (σ9_719.1 1).toInt = (σ.1 1).toInt := congrArg Int32.toInt (fd_tN eσ9_719 (by decide))
              have t_724 : (σ9_719.1 3).toInt = (σ.1 3).toInt := congrArg Int32.toInt (fd_tN eσ9_719 (by decide))
              have t_725 : (σ9_719.1 5).toInt = (σ.1 5).toInt := congrArg Int32.toInt (fd_tN eσ9_719 (by decide))
              have r_726 := fd_rng (σ9_719.1 0)
              refine fd_ok_itn (Int32.not_le.mpr (Int32.lt_iff_toInt_lt.mpr (by omega))) ?_
              exact fd_ok_some ⟨i_720, f_721, trivial⟩
        ·
          have d_727 := Int32.lt_iff_toInt_lt.mp (Int32.not_le.mp c_561)
          refine fd_ok_pb ?_
          refine fd_ok_itn (by decide) ?_
          try unfold f_X11_shows_0_J41
          try unfold f_X11_shows_0_J46
          refine fd_ok_itn (by decide) ?_
          refine fd_ok_bd ?_
          try unfold f_X11_isIn
          refine fd_ok_ite (fun c_728 => ?_) (fun c_728 => ?_)
          ·
            have d_729 := Int32.lt_iff_toInt_lt.mp c_728
            refine fd_ok_pb ?_
            refine fd_ok_itp (by decide) ?_
            try unfold f_X11_shows_0_J69
            try unfold f_X11_shows_0_J70
            refine fd_ok_lt (fun σ9_730 eσ9_730 => ?_)
            have i_731 : fd_InvM σ9_730 := fd_inv_sI eσ9_730 i0 (fd_rng _)
            have f_732 : fd_fr [0, 209, 210] σ σ9_730 := fd_fr_tr f0 (fd_fr_sI eσ9_730 (by decide))
            have t_733 : (σ9_730.1 0).toInt = (1 : Int32).toInt := congrArg Int32.toInt (fd_tI eσ9_730)
            have t_734 : (σ9_730.1 1).toInt = (σ.1 1).toInt := congrArg Int32.toInt (fd_tN eσ9_730 (by decide))
            have t_735 : (σ9_730.1 3).toInt = (σ.1 3).toInt := congrArg Int32.toInt (fd_tN eσ9_730 (by decide))
            have t_736 : (σ9_730.1 5).toInt = (σ.1 5).toInt := congrArg Int32.toInt (fd_tN eσ9_730 (by decide))
            have r_737 := fd_rng (σ9_730.1 0)
            refine fd_ok_itn (Int32.not_le.mpr (Int32.lt_iff_toInt_lt.mpr (by omega))) ?_
            exact fd_ok_some ⟨i_731, f_732, trivial⟩
          ·
            have d_738 := Int32.le_iff_toInt_le.mp (Int32.not_lt.mp c_728)
            have r_739 : (0 : Int) ≤ (σ.1 3).toInt ∧ (σ.1 3).toInt ≤ 32 := i0.1 3
            refine fd_ok_ite (fun c_740 => ?_) (fun c_740 => ?_)
            ·
              have d_741 := Int32.le_iff_toInt_le.mp c_740
              refine fd_ok_pb ?_
              refine fd_ok_itp (by decide) ?_
              try unfold f_X11_shows_0_J69
              try unfold f_X11_shows_0_J70
              refine fd_ok_lt (fun σ9_742 eσ9_742 => ?_)
              have i_743 : fd_InvM σ9_742 := fd_inv_sI eσ9_742 i0 (fd_rng _)
              have f_744 : fd_fr [0, 209, 210] σ σ9_742 := fd_fr_tr f0 (fd_fr_sI eσ9_742 (by decide))
              have t_745 : (σ9_742.1 0).toInt = (1 : Int32).toInt := congrArg Int32.toInt (fd_tI eσ9_742)
              have t_746 : (σ9_742.1 1).toInt = (σ.1 1).toInt := congrArg Int32.toInt (fd_tN eσ9_742 (by decide))
              have t_747 : (σ9_742.1 3).toInt = (σ.1 3).toInt := congrArg Int32.toInt (fd_tN eσ9_742 (by decide))
              have t_748 : (σ9_742.1 5).toInt = (σ.1 5).toInt := congrArg Int32.toInt (fd_tN eσ9_742 (by decide))
              have r_749 := fd_rng (σ9_742.1 0)
              refine fd_ok_itn (Int32.not_le.mpr (Int32.lt_iff_toInt_lt.mpr (by omega))) ?_
              exact fd_ok_some ⟨i_743, f_744, trivial⟩
            ·
              have d_750 := Int32.lt_iff_toInt_lt.mp (Int32.not_le.mp c_740)
              refine fd_ok_pb ?_
              refine fd_ok_itn (by decide) ?_
              try unfold f_X11_shows_0_J70
              refine fd_ok_lt (fun σ9_751 eσ9_751 => ?_)
              have i_752 : fd_InvM σ9_751 := fd_inv_sI eσ9_751 i0 (fd_rng _)
              have f_753 : fd_fr [0, 209, 210] σ σ9_751 := fd_fr_tr f0 (fd_fr_sI eσ9_751 (by decide))
              have t_754 : (σ9_751.1 0).toInt = (0 : Int32).toInt := congrArg Int32.toInt (fd_tI eσ9_751)
              have t_755 : (σ9_751.1 1).toInt = (σ.1 1).toInt := congrArg Int32.toInt (fd_tN eσ9_751 (by decide))
              have t_756 : (σ9_751.1 3).toInt = (σ.1 3).toInt := congrArg Int32.toInt (fd_tN eσ9_751 (by decide))
              have t_757 : (σ9_751.1 5).toInt = (σ.1 5).toInt := congrArg Int32.toInt (fd_tN eσ9_751 (by decide))
              have r_758 := fd_rng (σ9_751.1 0)
              refine fd_ok_itp (Int32.le_iff_toInt_le.mpr (by omega)) ?_
              refine fd_ok_bd ?_
              try unfold f_X11_workPlain_0
              refine fd_ok_cl (s_X11_workPlain_0_L2 N hN N _ _ i_752 (by omega) (by omega) (by omega)) ?_
              rintro v_759 σ_760 ⟨i_761, g_762, x_763⟩
              have f_764 : fd_fr [0, 209, 210] σ σ_760 := fd_fr_tr f_753 (fd_fr_mono g_762 (by decide))
              have t_765 : (σ_760.1 0).toInt = (σ9_751.1 0).toInt := congrArg Int32.toInt (g_762.1 0 (by decide))
              have t_766 : (σ_760.1 1).toInt = (σ9_751.1 1).toInt := congrArg Int32.toInt (g_762.1 1 (by decide))
              have t_767 : (σ_760.1 3).toInt = (σ9_751.1 3).toInt := congrArg Int32.toInt (g_762.1 3 (by decide))
              have t_768 : (σ_760.1 5).toInt = (σ9_751.1 5).toInt := congrArg Int32.toInt (g_762.1 5 (by decide))
              refine fd_ok_bd ?_
              refine fd_ok_cl (s_X11_workFault_0 N hN _ _ _ i_761 (by omega)) ?_
              rintro v_769 σ_770 ⟨i_771, g_772, x_773⟩
              have f_774 : fd_fr [0, 209, 210] σ σ_770 := fd_fr_tr f_764 (fd_fr_mono g_772 (by decide))
              have t_775 : (σ_770.1 0).toInt = (σ_760.1 0).toInt := congrArg Int32.toInt (g_772.1 0 (by decide))
              have t_776 : (σ_770.1 1).toInt = (σ_760.1 1).toInt := congrArg Int32.toInt (g_772.1 1 (by decide))
              have t_777 : (σ_770.1 3).toInt = (σ_760.1 3).toInt := congrArg Int32.toInt (g_772.1 3 (by decide))
              have t_778 : (σ_770.1 5).toInt = (σ_760.1 5).toInt := congrArg Int32.toInt (g_772.1 5 (by decide))
              refine fd_ok_gd (vp_in_iff.mpr ⟨by omega, by omega⟩) ?_
              have r_779 : (0 : Int) ≤ (σ_770.2.1 5 p3.toNatClampNeg).toInt ∧ (σ_770.2.1 5 p3.toNatClampNeg).toInt ≤ 199 := i_771.2.1 5 _
              refine fd_ok_gd (vp_in_iff.mpr ⟨by omega, by omega⟩) ?_
              refine fd_ok_gd (vp_in_iff.mpr ⟨by omega, by omega⟩) ?_
              refine fd_ok_gd (vp_in_iff.mpr ⟨by omega, by omega⟩) ?_
              exact fd_ok_some ⟨i_771, f_774, trivial⟩
    ·
      have d_780 : ¬ p1.toInt = (1 : Int32).toInt := fun q => c_391 (Int32.toInt_inj.mp q)
      try unfold f_X11_shows_0_J20
      refine fd_ok_ite (fun c_781 => ?_) (fun c_781 => ?_)
      ·
        have d_782 := congrArg Int32.toInt c_781
        try unfold f_X11_shows_0_J30
        refine fd_ok_bd ?_
        try unfold f_X11_isIn
        refine fd_ok_ite (fun c_783 => ?_) (fun c_783 => ?_)
        ·
          have d_784 := Int32.lt_iff_toInt_lt.mp c_783
          refine fd_ok_pb ?_
          refine fd_ok_itp (by decide) ?_
          try unfold f_X11_shows_0_J45
          try unfold f_X11_shows_0_J46
          refine fd_ok_itp (by decide) ?_
          try unfold f_X11_shows_0_J69
          try unfold f_X11_shows_0_J70
          refine fd_ok_lt (fun σ9_785 eσ9_785 => ?_)
          have i_786 : fd_InvM σ9_785 := fd_inv_sI eσ9_785 i0 (fd_rng _)
          have f_787 : fd_fr [0, 209, 210] σ σ9_785 := fd_fr_tr f0 (fd_fr_sI eσ9_785 (by decide))
          have t_788 : (σ9_785.1 0).toInt = (1 : Int32).toInt := congrArg Int32.toInt (fd_tI eσ9_785)
          have t_789 : (σ9_785.1 1).toInt = (σ.1 1).toInt := congrArg Int32.toInt (fd_tN eσ9_785 (by decide))
          have t_790 : (σ9_785.1 3).toInt = (σ.1 3).toInt := congrArg Int32.toInt (fd_tN eσ9_785 (by decide))
          have t_791 : (σ9_785.1 5).toInt = (σ.1 5).toInt := congrArg Int32.toInt (fd_tN eσ9_785 (by decide))
          have r_792 := fd_rng (σ9_785.1 0)
          refine fd_ok_itn (Int32.not_le.mpr (Int32.lt_iff_toInt_lt.mpr (by omega))) ?_
          exact fd_ok_some ⟨i_786, f_787, trivial⟩
        ·
          have d_793 := Int32.le_iff_toInt_le.mp (Int32.not_lt.mp c_783)
          have r_794 : (0 : Int) ≤ (σ.1 5).toInt ∧ (σ.1 5).toInt ≤ 40 := i0.1 5
          refine fd_ok_ite (fun c_795 => ?_) (fun c_795 => ?_)
          ·
            have d_796 := Int32.le_iff_toInt_le.mp c_795
            refine fd_ok_pb ?_
            refine fd_ok_itp (by decide) ?_
            try unfold f_X11_shows_0_J45
            try unfold f_X11_shows_0_J46
            refine fd_ok_itp (by decide) ?_
            try unfold f_X11_shows_0_J69
            try unfold f_X11_shows_0_J70
            refine fd_ok_lt (fun σ9_797 eσ9_797 => ?_)
            have i_798 : fd_InvM σ9_797 := fd_inv_sI eσ9_797 i0 (fd_rng _)
            have f_799 : fd_fr [0, 209, 210] σ σ9_797 := fd_fr_tr f0 (fd_fr_sI eσ9_797 (by decide))
            have t_800 : (σ9_797.1 0).toInt = (1 : Int32).toInt := congrArg Int32.toInt (fd_tI eσ9_797)
            have t_801 : (σ9_797.1 1).toInt = (σ.1 1).toInt := congrArg Int32.toInt (fd_tN eσ9_797 (by decide))
            have t_802 : (σ9_797.1 3).toInt = (σ.1 3).toInt := congrArg Int32.toInt (fd_tN eσ9_797 (by decide))
            have t_803 : (σ9_797.1 5).toInt = (σ.1 5).toInt := congrArg Int32.toInt (fd_tN eσ9_797 (by decide))
            have r_804 := fd_rng (σ9_797.1 0)
            refine fd_ok_itn (Int32.not_le.mpr (Int32.lt_iff_toInt_lt.mpr (by omega))) ?_
            exact fd_ok_some ⟨i_798, f_799, trivial⟩
          ·
            have d_805 := Int32.lt_iff_toInt_lt.mp (Int32.not_le.mp c_795)
            refine fd_ok_pb ?_
            refine fd_ok_itn (by decide) ?_
            try unfold f_X11_shows_0_J41
            try unfold f_X11_shows_0_J46
            refine fd_ok_itn (by decide) ?_
            refine fd_ok_bd ?_
            try unfold f_X11_isIn
            refine fd_ok_ite (fun c_806 => ?_) (fun c_806 => ?_)
            ·
              have d_807 := Int32.lt_iff_toInt_lt.mp c_806
              refine fd_ok_pb ?_
              refine fd_ok_itp (by decide) ?_
              try unfold f_X11_shows_0_J69
              try unfold f_X11_shows_0_J70
              refine fd_ok_lt (fun σ9_808 eσ9_808 => ?_)
              have i_809 : fd_InvM σ9_808 := fd_inv_sI eσ9_808 i0 (fd_rng _)
              have f_810 : fd_fr [0, 209, 210] σ σ9_808 := fd_fr_tr f0 (fd_fr_sI eσ9_808 (by decide))
              have t_811 : (σ9_808.1 0).toInt = (1 : Int32).toInt := congrArg Int32.toInt (fd_tI eσ9_808)
              have t_812 : (σ9_808.1 1).toInt = (σ.1 1).toInt := congrArg Int32.toInt (fd_tN eσ9_808 (by decide))
              have t_813 : (σ9_808.1 3).toInt = (σ.1 3).toInt := congrArg Int32.toInt (fd_tN eσ9_808 (by decide))
              have t_814 : (σ9_808.1 5).toInt = (σ.1 5).toInt := congrArg Int32.toInt (fd_tN eσ9_808 (by decide))
              have r_815 := fd_rng (σ9_808.1 0)
              refine fd_ok_itn (Int32.not_le.mpr (Int32.lt_iff_toInt_lt.mpr (by omega))) ?_
              exact fd_ok_some ⟨i_809, f_810, trivial⟩
            ·
              have d_816 := Int32.le_iff_toInt_le.mp (Int32.not_lt.mp c_806)
              have r_817 : (0 : Int) ≤ (σ.1 3).toInt ∧ (σ.1 3).toInt ≤ 32 := i0.1 3
              refine fd_ok_ite (fun c_818 => ?_) (fun c_818 => ?_)
              ·
                have d_819 := Int32.le_iff_toInt_le.mp c_818
                refine fd_ok_pb ?_
                refine fd_ok_itp (by decide) ?_
                try unfold f_X11_shows_0_J69
                try unfold f_X11_shows_0_J70
                refine fd_ok_lt (fun σ9_820 eσ9_820 => ?_)
                have i_821 : fd_InvM σ9_820 := fd_inv_sI eσ9_820 i0 (fd_rng _)
                have f_822 : fd_fr [0, 209, 210] σ σ9_820 := fd_fr_tr f0 (fd_fr_sI eσ9_820 (by decide))
                have t_823 : (σ9_820.1 0).toInt = (1 : Int32).toInt := congrArg Int32.toInt (fd_tI eσ9_820)
                have t_824 : (σ9_820.1 1).toInt = (σ.1 1).toInt := congrArg Int32.toInt (fd_tN eσ9_820 (by decide))
                have t_825 : (σ9_820.1 3).toInt = (σ.1 3).toInt := congrArg Int32.toInt (fd_tN eσ9_820 (by decide))
                have t_826 : (σ9_820.1 5).toInt = (σ.1 5).toInt := congrArg Int32.toInt (fd_tN eσ9_820 (by decide))
                have r_827 := fd_rng (σ9_820.1 0)
                refine fd_ok_itn (Int32.not_le.mpr (Int32.lt_iff_toInt_lt.mpr (by omega))) ?_
                exact fd_ok_some ⟨i_821, f_822, trivial⟩
              ·
                have d_828 := Int32.lt_iff_toInt_lt.mp (Int32.not_le.mp c_818)
                refine fd_ok_pb ?_
                refine fd_ok_itn (by decide) ?_
                try unfold f_X11_shows_0_J70
                refine fd_ok_lt (fun σ9_829 eσ9_829 => ?_)
                have i_830 : fd_InvM σ9_829 := fd_inv_sI eσ9_829 i0 (fd_rng _)
                have f_831 : fd_fr [0, 209, 210] σ σ9_829 := fd_fr_tr f0 (fd_fr_sI eσ9_829 (by decide))
                have t_832 : (σ9_829.1 0).toInt = (0 : Int32).toInt := congrArg Int32.toInt (fd_tI eσ9_829)
                have t_833 : (σ9_829.1 1).toInt = (σ.1 1).toInt := congrArg Int32.toInt (fd_tN eσ9_829 (by decide))
                have t_834 : (σ9_829.1 3).toInt = (σ.1 3).toInt := congrArg Int32.toInt (fd_tN eσ9_829 (by decide))
                have t_835 : (σ9_829.1 5).toInt = (σ.1 5).toInt := congrArg Int32.toInt (fd_tN eσ9_829 (by decide))
                have r_836 := fd_rng (σ9_829.1 0)
                refine fd_ok_itp (Int32.le_iff_toInt_le.mpr (by omega)) ?_
                refine fd_ok_bd ?_
                try unfold f_X11_workPlain_0
                refine fd_ok_cl (s_X11_workPlain_0_L2 N hN N _ _ i_830 (by omega) (by omega) (by omega)) ?_
                rintro v_837 σ_838 ⟨i_839, g_840, x_841⟩
                have f_842 : fd_fr [0, 209, 210] σ σ_838 := fd_fr_tr f_831 (fd_fr_mono g_840 (by decide))
                have t_843 : (σ_838.1 0).toInt = (σ9_829.1 0).toInt := congrArg Int32.toInt (g_840.1 0 (by decide))
                have t_844 : (σ_838.1 1).toInt = (σ9_829.1 1).toInt := congrArg Int32.toInt (g_840.1 1 (by decide))
                have t_845 : (σ_838.1 3).toInt = (σ9_829.1 3).toInt := congrArg Int32.toInt (g_840.1 3 (by decide))
                have t_846 : (σ_838.1 5).toInt = (σ9_829.1 5).toInt := congrArg Int32.toInt (g_840.1 5 (by decide))
                refine fd_ok_bd ?_
                refine fd_ok_cl (s_X11_workFault_0 N hN _ _ _ i_839 (by omega)) ?_
                rintro v_847 σ_848 ⟨i_849, g_850, x_851⟩
                have f_852 : fd_fr [0, 209, 210] σ σ_848 := fd_fr_tr f_842 (fd_fr_mono g_850 (by decide))
                have t_853 : (σ_848.1 0).toInt = (σ_838.1 0).toInt := congrArg Int32.toInt (g_850.1 0 (by decide))
                have t_854 : (σ_848.1 1).toInt = (σ_838.1 1).toInt := congrArg Int32.toInt (g_850.1 1 (by decide))
                have t_855 : (σ_848.1 3).toInt = (σ_838.1 3).toInt := congrArg Int32.toInt (g_850.1 3 (by decide))
                have t_856 : (σ_848.1 5).toInt = (σ_838.1 5).toInt := congrArg Int32.toInt (g_850.1 5 (by decide))
                refine fd_ok_gd (vp_in_iff.mpr ⟨by omega, by omega⟩) ?_
                have r_857 : (0 : Int) ≤ (σ_848.2.1 5 p3.toNatClampNeg).toInt ∧ (σ_848.2.1 5 p3.toNatClampNeg).toInt ≤ 199 := i_849.2.1 5 _
                refine fd_ok_gd (vp_in_iff.mpr ⟨by omega, by omega⟩) ?_
                refine fd_ok_gd (vp_in_iff.mpr ⟨by omega, by omega⟩) ?_
                refine fd_ok_gd (vp_in_iff.mpr ⟨by omega, by omega⟩) ?_
                exact fd_ok_some ⟨i_849, f_852, trivial⟩
      ·
        have d_858 : ¬ p1.toInt = (2 : Int32).toInt := fun q => c_781 (Int32.toInt_inj.mp q)
        refine fd_ok_ite (fun c_859 => ?_) (fun c_859 => ?_)
        ·
          have d_860 := congrArg Int32.toInt c_859
          try unfold f_X11_shows_0_J30
          refine fd_ok_bd ?_
          try unfold f_X11_isIn
          refine fd_ok_ite (fun c_861 => ?_) (fun c_861 => ?_)
          ·
            have d_862 := Int32.lt_iff_toInt_lt.mp c_861
            refine fd_ok_pb ?_
            refine fd_ok_itp (by decide) ?_
            try unfold f_X11_shows_0_J45
            try unfold f_X11_shows_0_J46
            refine fd_ok_itp (by decide) ?_
            try unfold f_X11_shows_0_J69
            try unfold f_X11_shows_0_J70
            refine fd_ok_lt (fun σ9_863 eσ9_863 => ?_)
            have i_864 : fd_InvM σ9_863 := fd_inv_sI eσ9_863 i0 (fd_rng _)
            have f_865 : fd_fr [0, 209, 210] σ σ9_863 := fd_fr_tr f0 (fd_fr_sI eσ9_863 (by decide))
            have t_866 : (σ9_863.1 0).toInt = (1 : Int32).toInt := congrArg Int32.toInt (fd_tI eσ9_863)
            have t_867 : (σ9_863.1 1).toInt = (σ.1 1).toInt := congrArg Int32.toInt (fd_tN eσ9_863 (by decide))
            have t_868 : (σ9_863.1 3).toInt = (σ.1 3).toInt := congrArg Int32.toInt (fd_tN eσ9_863 (by decide))
            have t_869 : (σ9_863.1 5).toInt = (σ.1 5).toInt := congrArg Int32.toInt (fd_tN eσ9_863 (by decide))
            have r_870 := fd_rng (σ9_863.1 0)
            refine fd_ok_itn (Int32.not_le.mpr (Int32.lt_iff_toInt_lt.mpr (by omega))) ?_
            exact fd_ok_some ⟨i_864, f_865, trivial⟩
          ·
            have d_871 := Int32.le_iff_toInt_le.mp (Int32.not_lt.mp c_861)
            have r_872 : (0 : Int) ≤ (σ.1 5).toInt ∧ (σ.1 5).toInt ≤ 40 := i0.1 5
            refine fd_ok_ite (fun c_873 => ?_) (fun c_873 => ?_)
            ·
              have d_874 := Int32.le_iff_toInt_le.mp c_873
              refine fd_ok_pb ?_
              refine fd_ok_itp (by decide) ?_
              try unfold f_X11_shows_0_J45
              try unfold f_X11_shows_0_J46
              refine fd_ok_itp (by decide) ?_
              try unfold f_X11_shows_0_J69
              try unfold f_X11_shows_0_J70
              refine fd_ok_lt (fun σ9_875 eσ9_875 => ?_)
              have i_876 : fd_InvM σ9_875 := fd_inv_sI eσ9_875 i0 (fd_rng _)
              have f_877 : fd_fr [0, 209, 210] σ σ9_875 := fd_fr_tr f0 (fd_fr_sI eσ9_875 (by decide))
              have t_878 : (σ9_875.1 0).toInt = (1 : Int32).toInt := congrArg Int32.toInt (fd_tI eσ9_875)
              have t_879 : (σ9_875.1 1).toInt = (σ.1 1).toInt := congrArg Int32.toInt (fd_tN eσ9_875 (by decide))
              have t_880 : (σ9_875.1 3).toInt = (σ.1 3).toInt := congrArg Int32.toInt (fd_tN eσ9_875 (by decide))
              have t_881 : (σ9_875.1 5).toInt = (σ.1 5).toInt := congrArg Int32.toInt (fd_tN eσ9_875 (by decide))
              have r_882 := fd_rng (σ9_875.1 0)
              refine fd_ok_itn (Int32.not_le.mpr (Int32.lt_iff_toInt_lt.mpr (by omega))) ?_
              exact fd_ok_some ⟨i_876, f_877, trivial⟩
            ·
              have d_883 := Int32.lt_iff_toInt_lt.mp (Int32.not_le.mp c_873)
              refine fd_ok_pb ?_
              refine fd_ok_itn (by decide) ?_
              try unfold f_X11_shows_0_J41
              try unfold f_X11_shows_0_J46
              refine fd_ok_itn (by decide) ?_
              refine fd_ok_bd ?_
              try unfold f_X11_isIn
              refine fd_ok_ite (fun c_884 => ?_) (fun c_884 => ?_)
              ·
                have d_885 := Int32.lt_iff_toInt_lt.mp c_884
                refine fd_ok_pb ?_
                refine fd_ok_itp (by decide) ?_
                try unfold f_X11_shows_0_J69
                try unfold f_X11_shows_0_J70
                refine fd_ok_lt (fun σ9_886 eσ9_886 => ?_)
                have i_887 : fd_InvM σ9_886 := fd_inv_sI eσ9_886 i0 (fd_rng _)
                have f_888 : fd_fr [0, 209, 210] σ σ9_886 := fd_fr_tr f0 (fd_fr_sI eσ9_886 (by decide))
                have t_889 : (σ9_886.1 0).toInt = (1 : Int32).toInt := congrArg Int32.toInt (fd_tI eσ9_886)
                have t_890 : (σ9_886.1 1).toInt = (σ.1 1).toInt := congrArg Int32.toInt (fd_tN eσ9_886 (by decide))
                have t_891 : (σ9_886.1 3).toInt = (σ.1 3).toInt := congrArg Int32.toInt (fd_tN eσ9_886 (by decide))
                have t_892 : (σ9_886.1 5).toInt = (σ.1 5).toInt := congrArg Int32.toInt (fd_tN eσ9_886 (by decide))
                have r_893 := fd_rng (σ9_886.1 0)
                refine fd_ok_itn (Int32.not_le.mpr (Int32.lt_iff_toInt_lt.mpr (by omega))) ?_
                exact fd_ok_some ⟨i_887, f_888, trivial⟩
              ·
                have d_894 := Int32.le_iff_toInt_le.mp (Int32.not_lt.mp c_884)
                have r_895 : (0 : Int) ≤ (σ.1 3).toInt ∧ (σ.1 3).toInt ≤ 32 := i0.1 3
                refine fd_ok_ite (fun c_896 => ?_) (fun c_896 => ?_)
                ·
                  have d_897 := Int32.le_iff_toInt_le.mp c_896
                  refine fd_ok_pb ?_
                  refine fd_ok_itp (by decide) ?_
                  try unfold f_X11_shows_0_J69
                  try unfold f_X11_shows_0_J70
                  refine fd_ok_lt (fun σ9_898 eσ9_898 => ?_)
                  have i_899 : fd_InvM σ9_898 := fd_inv_sI eσ9_898 i0 (fd_rng _)
                  have f_900 : fd_fr [0, 209, 210] σ σ9_898 := fd_fr_tr f0 (fd_fr_sI eσ9_898 (by decide))
                  have t_901 : (σ9_898.1 0).toInt = (1 : Int32).toInt := congrArg Int32.toInt (fd_tI eσ9_898)
                  have t_902 : (σ9_898.1 1).toInt = (σ.1 1).toInt := congrArg Int32.toInt (fd_tN eσ9_898 (by decide))
                  have t_903 : (σ9_898.1 3).toInt = (σ.1 3).toInt := congrArg Int32.toInt (fd_tN eσ9_898 (by decide))
                  have t_904 : (σ9_898.1 5).toInt = (σ.1 5).toInt := congrArg Int32.toInt (fd_tN eσ9_898 (by decide))
                  have r_905 := fd_rng (σ9_898.1 0)
                  refine fd_ok_itn (Int32.not_le.mpr (Int32.lt_iff_toInt_lt.mpr (by omega))) ?_
                  exact fd_ok_some ⟨i_899, f_900, trivial⟩
                ·
                  have d_906 := Int32.lt_iff_toInt_lt.mp (Int32.not_le.mp c_896)
                  refine fd_ok_pb ?_
                  refine fd_ok_itn (by decide) ?_
                  try unfold f_X11_shows_0_J70
                  refine fd_ok_lt (fun σ9_907 eσ9_907 => ?_)
                  have i_908 : fd_InvM σ9_907 := fd_inv_sI eσ9_907 i0 (fd_rng _)
                  have f_909 : fd_fr [0, 209, 210] σ σ9_907 := fd_fr_tr f0 (fd_fr_sI eσ9_907 (by decide))
                  have t_910 : (σ9_907.1 0).toInt = (0 : Int32).toInt := congrArg Int32.toInt (fd_tI eσ9_907)
                  have t_911 : (σ9_907.1 1).toInt = (σ.1 1).toInt := congrArg Int32.toInt (fd_tN eσ9_907 (by decide))
                  have t_912 : (σ9_907.1 3).toInt = (σ.1 3).toInt := congrArg Int32.toInt (fd_tN eσ9_907 (by decide))
                  have t_913 : (σ9_907.1 5).toInt = (σ.1 5).toInt := congrArg Int32.toInt (fd_tN eσ9_907 (by decide))
                  have r_914 := fd_rng (σ9_907.1 0)
                  refine fd_ok_itp (Int32.le_iff_toInt_le.mpr (by omega)) ?_
                  refine fd_ok_bd ?_
                  try unfold f_X11_workPlain_0
                  refine fd_ok_cl (s_X11_workPlain_0_L2 N hN N _ _ i_908 (by omega) (by omega) (by omega)) ?_
                  rintro v_915 σ_916 ⟨i_917, g_918, x_919⟩
                  have f_920 : fd_fr [0, 209, 210] σ σ_916 := fd_fr_tr f_909 (fd_fr_mono g_918 (by decide))
                  have t_921 : (σ_916.1 0).toInt = (σ9_907.1 0).toInt := congrArg Int32.toInt (g_918.1 0 (by decide))
                  have t_922 : (σ_916.1 1).toInt = (σ9_907.1 1).toInt := congrArg Int32.toInt (g_918.1 1 (by decide))
                  have t_923 : (σ_916.1 3).toInt = (σ9_907.1 3).toInt := congrArg Int32.toInt (g_918.1 3 (by decide))
                  have t_924 : (σ_916.1 5).toInt = (σ9_907.1 5).toInt := congrArg Int32.toInt (g_918.1 5 (by decide))
                  refine fd_ok_bd ?_
                  refine fd_ok_cl (s_X11_workFault_0 N hN _ _ _ i_917 (by omega)) ?_
                  rintro v_925 σ_926 ⟨i_927, g_928, x_929⟩
                  have f_930 : fd_fr [0, 209, 210] σ σ_926 := fd_fr_tr f_920 (fd_fr_mono g_928 (by decide))
                  have t_931 : (σ_926.1 0).toInt = (σ_916.1 0).toInt := congrArg Int32.toInt (g_928.1 0 (by decide))
                  have t_932 : (σ_926.1 1).toInt = (σ_916.1 1).toInt := congrArg Int32.toInt (g_928.1 1 (by decide))
                  have t_933 : (σ_926.1 3).toInt = (σ_916.1 3).toInt := congrArg Int32.toInt (g_928.1 3 (by decide))
                  have t_934 : (σ_926.1 5).toInt = (σ_916.1 5).toInt := congrArg Int32.toInt (g_928.1 5 (by decide))
                  refine fd_ok_gd (vp_in_iff.mpr ⟨by omega, by omega⟩) ?_
                  have r_935 : (0 : Int) ≤ (σ_926.2.1 5 p3.toNatClampNeg).toInt ∧ (σ_926.2.1 5 p3.toNatClampNeg).toInt ≤ 199 := i_927.2.1 5 _
                  refine fd_ok_gd (vp_in_iff.mpr ⟨by omega, by omega⟩) ?_
                  refine fd_ok_gd (vp_in_iff.mpr ⟨by omega, by omega⟩) ?_
                  refine fd_ok_gd (vp_in_iff.mpr ⟨by omega, by omega⟩) ?_
                  exact fd_ok_some ⟨i_927, f_930, trivial⟩
        ·
          have d_936 : ¬ p1.toInt = (3 : Int32).toInt := fun q => c_859 (Int32.toInt_inj.mp q)
          try unfold f_X11_shows_0_J45
          try unfold f_X11_shows_0_J46
          refine fd_ok_itp (by decide) ?_
          try unfold f_X11_shows_0_J69
          try unfold f_X11_shows_0_J70
          refine fd_ok_lt (fun σ9_937 eσ9_937 => ?_)
          have i_938 : fd_InvM σ9_937 := fd_inv_sI eσ9_937 i0 (fd_rng _)
          have f_939 : fd_fr [0, 209, 210] σ σ9_937 := fd_fr_tr f0 (fd_fr_sI eσ9_937 (by decide))
          have t_940 : (σ9_937.1 0).toInt = (1 : Int32).toInt := congrArg Int32.toInt (fd_tI eσ9_937)
          have t_941 : (σ9_937.1 1).toInt = (σ.1 1).toInt := congrArg Int32.toInt (fd_tN eσ9_937 (by decide))
          have t_942 : (σ9_937.1 3).toInt = (σ.1 3).toInt := congrArg Int32.toInt (fd_tN eσ9_937 (by decide))
          have t_943 : (σ9_937.1 5).toInt = (σ.1 5).toInt := congrArg Int32.toInt (fd_tN eσ9_937 (by decide))
          have r_944 := fd_rng (σ9_937.1 0)
          refine fd_ok_itn (Int32.not_le.mpr (Int32.lt_iff_toInt_lt.mpr (by omega))) ?_
          exact fd_ok_some ⟨i_938, f_939, trivial⟩
