set_option maxHeartbeats 4000000 in
theorem s_X11_patterns_0 (N : Nat) (hN : 1000 ≤ N) (p1 : Int32) (σ : fd_St) (i0 : fd_InvM σ) : fd_ok (f_X11_patterns_0 N p1 σ) (fun v s => fd_InvM s ∧ fd_fr [0, 4, 6, 7] σ s ∧ (((p1.toInt < 0 ∨ 64 < p1.toInt) ∧ (s.1 0).toInt = 1 ∧ (s.1 4).toInt = (σ.1 4).toInt) ∨ (¬ (p1.toInt < 0 ∨ 64 < p1.toInt) ∧ (s.1 0).toInt = 0 ∧ (s.1 4).toInt = p1.toInt ∧ v.toInt = (σ.1 4).toInt))) := by
  have lit0 : (0 : Int32).toInt = 0 := by decide
  have lit1 : (1 : Int32).toInt = 1 := by decide
  have lit64 : (64 : Int32).toInt = 64 := by decide
  have f0 : fd_fr [0, 4, 6, 7] σ σ := fd_fr_rf
  unfold f_X11_patterns_0
  refine fd_ok_ite (fun c_1 => ?_) (fun c_1 => ?_)
  ·
    have d_2 := Int32.lt_iff_toInt_lt.mp c_1
    try unfold f_X11_patterns_0_J15
    try unfold f_X11_patterns_0_J16
    refine fd_ok_lt (fun σ2_3 eσ2_3 => ?_)
    have i_4 : fd_InvM σ2_3 := fd_inv_sI eσ2_3 i0 (fd_rng _)
    have f_5 : fd_fr [0, 4, 6, 7] σ σ2_3 := fd_fr_tr f0 (fd_fr_sI eσ2_3 (by decide))
    have t_6 : (σ2_3.1 0).toInt = (1 : Int32).toInt := congrArg Int32.toInt (fd_tI eσ2_3)
    have t_7 : (σ2_3.1 4).toInt = (σ.1 4).toInt := congrArg Int32.toInt (fd_tN eσ2_3 (by decide))
    have r_8 := fd_rng (σ2_3.1 0)
    refine fd_ok_itn (Int32.not_le.mpr (Int32.lt_iff_toInt_lt.mpr (by omega))) ?_
    have x_9 : ((p1.toInt < 0 ∨ 64 < p1.toInt) ∧ (σ2_3.1 0).toInt = 1 ∧ (σ2_3.1 4).toInt = (σ.1 4).toInt) ∨ (¬ (p1.toInt < 0 ∨ 64 < p1.toInt) ∧ (σ2_3.1 0).toInt = 0 ∧ (σ2_3.1 4).toInt = p1.toInt ∧ (0 : Int32).toInt = (σ.1 4).toInt) := by omega
    exact fd_ok_some ⟨i_4, f_5, x_9⟩
  ·
    have d_10 := Int32.le_iff_toInt_le.mp (Int32.not_lt.mp c_1)
    refine fd_ok_ite (fun c_11 => ?_) (fun c_11 => ?_)
    ·
      have d_12 := Int32.lt_iff_toInt_lt.mp c_11
      try unfold f_X11_patterns_0_J15
      try unfold f_X11_patterns_0_J16
      refine fd_ok_lt (fun σ2_13 eσ2_13 => ?_)
      have i_14 : fd_InvM σ2_13 := fd_inv_sI eσ2_13 i0 (fd_rng _)
      have f_15 : fd_fr [0, 4, 6, 7] σ σ2_13 := fd_fr_tr f0 (fd_fr_sI eσ2_13 (by decide))
      have t_16 : (σ2_13.1 0).toInt = (1 : Int32).toInt := congrArg Int32.toInt (fd_tI eσ2_13)
      have t_17 : (σ2_13.1 4).toInt = (σ.1 4).toInt := congrArg Int32.toInt (fd_tN eσ2_13 (by decide))
      have r_18 := fd_rng (σ2_13.1 0)
      refine fd_ok_itn (Int32.not_le.mpr (Int32.lt_iff_toInt_lt.mpr (by omega))) ?_
      have x_19 : ((p1.toInt < 0 ∨ 64 < p1.toInt) ∧ (σ2_13.1 0).toInt = 1 ∧ (σ2_13.1 4).toInt = (σ.1 4).toInt) ∨ (¬ (p1.toInt < 0 ∨ 64 < p1.toInt) ∧ (σ2_13.1 0).toInt = 0 ∧ (σ2_13.1 4).toInt = p1.toInt ∧ (0 : Int32).toInt = (σ.1 4).toInt) := by omega
      exact fd_ok_some ⟨i_14, f_15, x_19⟩
    ·
      have d_20 := Int32.le_iff_toInt_le.mp (Int32.not_lt.mp c_11)
      try unfold f_X11_patterns_0_J16
      refine fd_ok_lt (fun σ2_21 eσ2_21 => ?_)
      have i_22 : fd_InvM σ2_21 := fd_inv_sI eσ2_21 i0 (fd_rng _)
      have f_23 : fd_fr [0, 4, 6, 7] σ σ2_21 := fd_fr_tr f0 (fd_fr_sI eσ2_21 (by decide))
      have t_24 : (σ2_21.1 0).toInt = (0 : Int32).toInt := congrArg Int32.toInt (fd_tI eσ2_21)
      have t_25 : (σ2_21.1 4).toInt = (σ.1 4).toInt := congrArg Int32.toInt (fd_tN eσ2_21 (by decide))
      have r_26 := fd_rng (σ2_21.1 0)
      refine fd_ok_itp (Int32.le_iff_toInt_le.mpr (by omega)) ?_
      have r_28 : (0 : Int) ≤ (σ2_21.1 4).toInt ∧ (σ2_21.1 4).toInt ≤ 64 := i_22.1 4
      refine fd_ok_lt (fun x4_27 ex4_27 => ?_)
      have t_29 : x4_27.toInt = (σ2_21.1 4).toInt := congrArg Int32.toInt ex4_27
      refine fd_ok_lt (fun σ5_30 eσ5_30 => ?_)
      have i_31 : fd_InvM σ5_30 := fd_inv_sI eσ5_30 i_22 ⟨(by omega : (0 : Int) ≤ p1.toInt), (by omega : p1.toInt ≤ 64)⟩
      have f_32 : fd_fr [0, 4, 6, 7] σ σ5_30 := fd_fr_tr f_23 (fd_fr_sI eσ5_30 (by decide))
      have t_33 : (σ5_30.1 0).toInt = (σ2_21.1 0).toInt := congrArg Int32.toInt (fd_tN eσ5_30 (by decide))
      have t_34 : (σ5_30.1 4).toInt = p1.toInt := congrArg Int32.toInt (fd_tI eσ5_30)
      refine fd_ok_bd ?_
      try unfold f_X11_changed_0
      refine fd_ok_lt (fun σ1_35 eσ1_35 => ?_)
      have i_36 : fd_InvM σ1_35 := fd_inv_sI eσ1_35 i_31 ⟨(by omega : (0 : Int) ≤ (0 : Int32).toInt), (by omega : (0 : Int32).toInt ≤ 1)⟩
      have f_37 : fd_fr [0, 4, 6, 7] σ σ1_35 := fd_fr_tr f_32 (fd_fr_sI eσ1_35 (by decide))
      have t_38 : (σ1_35.1 0).toInt = (σ5_30.1 0).toInt := congrArg Int32.toInt (fd_tN eσ1_35 (by decide))
      have t_39 : (σ1_35.1 4).toInt = (σ5_30.1 4).toInt := congrArg Int32.toInt (fd_tN eσ1_35 (by decide))
      refine fd_ok_lt (fun σ2_40 eσ2_40 => ?_)
      have i_41 : fd_InvM σ2_40 := fd_inv_sI eσ2_40 i_36 ⟨(by omega : (0 : Int) ≤ (0 : Int32).toInt), (by omega : (0 : Int32).toInt ≤ 480)⟩
      have f_42 : fd_fr [0, 4, 6, 7] σ σ2_40 := fd_fr_tr f_37 (fd_fr_sI eσ2_40 (by decide))
      have t_43 : (σ2_40.1 0).toInt = (σ1_35.1 0).toInt := congrArg Int32.toInt (fd_tN eσ2_40 (by decide))
      have t_44 : (σ2_40.1 4).toInt = (σ1_35.1 4).toInt := congrArg Int32.toInt (fd_tN eσ2_40 (by decide))
      refine fd_ok_pb ?_
      have x_45 : ((p1.toInt < 0 ∨ 64 < p1.toInt) ∧ (σ2_40.1 0).toInt = 1 ∧ (σ2_40.1 4).toInt = (σ.1 4).toInt) ∨ (¬ (p1.toInt < 0 ∨ 64 < p1.toInt) ∧ (σ2_40.1 0).toInt = 0 ∧ (σ2_40.1 4).toInt = p1.toInt ∧ x4_27.toInt = (σ.1 4).toInt) := by omega
      exact fd_ok_some ⟨i_41, f_42, x_45⟩
set_option maxHeartbeats 4000000 in
theorem s_X11_pattern_0 (N : Nat) (hN : 1000 ≤ N) (p1 : Int32) (p2 : Int64) (σ : fd_St) (i0 : fd_InvM σ) : fd_ok (f_X11_pattern_0 N p1 p2 σ) (fun v s => fd_InvM s ∧ fd_fr [0, 6, 7, 204] σ s ∧ (((¬ (0 ≤ p1.toInt ∧ p1.toInt < (σ.1 1).toInt ∧ (σ.2.1 1 p1.toNatClampNeg).toInt = -1)) ∧ (s.1 0).toInt = 1) ∨ (¬ (¬ (0 ≤ p1.toInt ∧ p1.toInt < (σ.1 1).toInt ∧ (σ.2.1 1 p1.toNatClampNeg).toInt = -1)) ∧ (s.1 0).toInt = 0)) ∧ fd_H (((¬ (s.1 0).toInt = 0 → s.2.2 4 = σ.2.2 4) ∧ ((s.1 0).toInt = 0 → ∃ j : Int32, j.toInt = p1.toInt ∧ s.2.2 4 = vp_updL (σ.2.2 4) j.toNatClampNeg p2))) ∧ fd_H (((s.1 0).toInt = 0 → v = σ.2.2 4 p1.toNatClampNeg))) := by
  have litm1 : (-1 : Int32).toInt = -1 := by decide
  have lit0 : (0 : Int32).toInt = 0 := by decide
  have lit1 : (1 : Int32).toInt = 1 := by decide
  have f0 : fd_fr [0, 6, 7, 204] σ σ := fd_fr_rf
  unfold f_X11_pattern_0
  refine fd_ok_bd ?_
  try unfold f_X11_isIn
  refine fd_ok_ite (fun c_1 => ?_) (fun c_1 => ?_)
  ·
    have d_2 := Int32.lt_iff_toInt_lt.mp c_1
    refine fd_ok_pb ?_
    refine fd_ok_itp (by decide) ?_
    try unfold f_X11_pattern_0_J26
    try unfold f_X11_pattern_0_J27
    refine fd_ok_lt (fun σ7_3 eσ7_3 => ?_)
    have i_4 : fd_InvM σ7_3 := fd_inv_sI eσ7_3 i0 (fd_rng _)
    have f_5 : fd_fr [0, 6, 7, 204] σ σ7_3 := fd_fr_tr f0 (fd_fr_sI eσ7_3 (by decide))
    have t_6 : (σ7_3.1 0).toInt = (1 : Int32).toInt := congrArg Int32.toInt (fd_tI eσ7_3)
    have t_7 : (σ7_3.1 1).toInt = (σ.1 1).toInt := congrArg Int32.toInt (fd_tN eσ7_3 (by decide))
    have y_8 := fd_yIL (d := 4) eσ7_3 (rfl : σ.2.2 4 = _)
    have r_9 := fd_rng (σ7_3.1 0)
    refine fd_ok_itn (Int32.not_le.mpr (Int32.lt_iff_toInt_lt.mpr (by omega))) ?_
    have x_10 : ((¬ (0 ≤ p1.toInt ∧ p1.toInt < (σ.1 1).toInt ∧ (σ.2.1 1 p1.toNatClampNeg).toInt = -1)) ∧ (σ7_3.1 0).toInt = 1) ∨ (¬ (¬ (0 ≤ p1.toInt ∧ p1.toInt < (σ.1 1).toInt ∧ (σ.2.1 1 p1.toNatClampNeg).toInt = -1)) ∧ (σ7_3.1 0).toInt = 0) := by omega
    have w_11 : fd_H (((¬ (σ7_3.1 0).toInt = 0 → σ7_3.2.2 4 = σ.2.2 4) ∧ ((σ7_3.1 0).toInt = 0 → ∃ j : Int32, j.toInt = p1.toInt ∧ σ7_3.2.2 4 = vp_updL (σ.2.2 4) j.toNatClampNeg p2))) := fd_hd (⟨fun _ => y_8, fun h => absurd h (by omega)⟩)
    have w_12 : fd_H (((σ7_3.1 0).toInt = 0 → (0 : Int64) = σ.2.2 4 p1.toNatClampNeg)) := fd_hd (fun h => absurd h (by omega))
    exact fd_ok_some ⟨i_4, f_5, x_10, w_11, w_12⟩
  ·
    have d_13 := Int32.le_iff_toInt_le.mp (Int32.not_lt.mp c_1)
    have r_14 : (0 : Int) ≤ (σ.1 1).toInt ∧ (σ.1 1).toInt ≤ 200 := i0.1 1
    refine fd_ok_ite (fun c_15 => ?_) (fun c_15 => ?_)
    ·
      have d_16 := Int32.le_iff_toInt_le.mp c_15
      refine fd_ok_pb ?_
      refine fd_ok_itp (by decide) ?_
      try unfold f_X11_pattern_0_J26
      try unfold f_X11_pattern_0_J27
      refine fd_ok_lt (fun σ7_17 eσ7_17 => ?_)
      have i_18 : fd_InvM σ7_17 := fd_inv_sI eσ7_17 i0 (fd_rng _)
      have f_19 : fd_fr [0, 6, 7, 204] σ σ7_17 := fd_fr_tr f0 (fd_fr_sI eσ7_17 (by decide))
      have t_20 : (σ7_17.1 0).toInt = (1 : Int32).toInt := congrArg Int32.toInt (fd_tI eσ7_17)
      have t_21 : (σ7_17.1 1).toInt = (σ.1 1).toInt := congrArg Int32.toInt (fd_tN eσ7_17 (by decide))
      have y_22 := fd_yIL (d := 4) eσ7_17 (rfl : σ.2.2 4 = _)
      have r_23 := fd_rng (σ7_17.1 0)
      refine fd_ok_itn (Int32.not_le.mpr (Int32.lt_iff_toInt_lt.mpr (by omega))) ?_
      have x_24 : ((¬ (0 ≤ p1.toInt ∧ p1.toInt < (σ.1 1).toInt ∧ (σ.2.1 1 p1.toNatClampNeg).toInt = -1)) ∧ (σ7_17.1 0).toInt = 1) ∨ (¬ (¬ (0 ≤ p1.toInt ∧ p1.toInt < (σ.1 1).toInt ∧ (σ.2.1 1 p1.toNatClampNeg).toInt = -1)) ∧ (σ7_17.1 0).toInt = 0) := by omega
      have w_25 : fd_H (((¬ (σ7_17.1 0).toInt = 0 → σ7_17.2.2 4 = σ.2.2 4) ∧ ((σ7_17.1 0).toInt = 0 → ∃ j : Int32, j.toInt = p1.toInt ∧ σ7_17.2.2 4 = vp_updL (σ.2.2 4) j.toNatClampNeg p2))) := fd_hd (⟨fun _ => y_22, fun h => absurd h (by omega)⟩)
      have w_26 : fd_H (((σ7_17.1 0).toInt = 0 → (0 : Int64) = σ.2.2 4 p1.toNatClampNeg)) := fd_hd (fun h => absurd h (by omega))
      exact fd_ok_some ⟨i_18, f_19, x_24, w_25, w_26⟩
    ·
      have d_27 := Int32.lt_iff_toInt_lt.mp (Int32.not_le.mp c_15)
      refine fd_ok_pb ?_
      refine fd_ok_itn (by decide) ?_
      refine fd_ok_gd (vp_in_iff.mpr ⟨by omega, by omega⟩) ?_
      refine fd_ok_ite (fun c_28 => ?_) (fun c_28 => ?_)
      ·
        have d_29 := congrArg Int32.toInt c_28
        try unfold f_X11_pattern_0_J27
        refine fd_ok_lt (fun σ7_30 eσ7_30 => ?_)
        have i_31 : fd_InvM σ7_30 := fd_inv_sI eσ7_30 i0 (fd_rng _)
        have f_32 : fd_fr [0, 6, 7, 204] σ σ7_30 := fd_fr_tr f0 (fd_fr_sI eσ7_30 (by decide))
        have t_33 : (σ7_30.1 0).toInt = (0 : Int32).toInt := congrArg Int32.toInt (fd_tI eσ7_30)
        have t_34 : (σ7_30.1 1).toInt = (σ.1 1).toInt := congrArg Int32.toInt (fd_tN eσ7_30 (by decide))
        have y_35 := fd_yIL (d := 4) eσ7_30 (rfl : σ.2.2 4 = _)
        have r_36 := fd_rng (σ7_30.1 0)
        refine fd_ok_itp (Int32.le_iff_toInt_le.mpr (by omega)) ?_
        refine fd_ok_gd (vp_in_iff.mpr ⟨by omega, by omega⟩) ?_
        refine fd_ok_lt (fun x10_37 ex10_37 => ?_)
        refine fd_ok_gd (vp_in_iff.mpr ⟨by omega, by omega⟩) ?_
        refine fd_ok_lt (fun σ12_38 eσ12_38 => ?_)
        have i_39 : fd_InvM σ12_38 := fd_inv_sL eσ12_38 i_31
        have f_40 : fd_fr [0, 6, 7, 204] σ σ12_38 := fd_fr_tr f_32 (fd_fr_sL eσ12_38 (by decide))
        have t_41 : (σ12_38.1 0).toInt = (σ7_30.1 0).toInt := by subst eσ12_38; rfl
        have t_42 : (σ12_38.1 1).toInt = (σ7_30.1 1).toInt := by subst eσ12_38; rfl
        have y_43 := fd_yL eσ12_38 y_35
        refine fd_ok_bd ?_
        try unfold f_X11_changed_0
        refine fd_ok_lt (fun σ1_44 eσ1_44 => ?_)
        have i_45 : fd_InvM σ1_44 := fd_inv_sI eσ1_44 i_39 ⟨(by omega : (0 : Int) ≤ (0 : Int32).toInt), (by omega : (0 : Int32).toInt ≤ 1)⟩
        have f_46 : fd_fr [0, 6, 7, 204] σ σ1_44 := fd_fr_tr f_40 (fd_fr_sI eσ1_44 (by decide))
        have t_47 : (σ1_44.1 0).toInt = (σ12_38.1 0).toInt := congrArg Int32.toInt (fd_tN eσ1_44 (by decide))
        have t_48 : (σ1_44.1 1).toInt = (σ12_38.1 1).toInt := congrArg Int32.toInt (fd_tN eσ1_44 (by decide))
        have y_49 := fd_yIL (d := 4) eσ1_44 y_43
        refine fd_ok_lt (fun σ2_50 eσ2_50 => ?_)
        have i_51 : fd_InvM σ2_50 := fd_inv_sI eσ2_50 i_45 ⟨(by omega : (0 : Int) ≤ (0 : Int32).toInt), (by omega : (0 : Int32).toInt ≤ 480)⟩
        have f_52 : fd_fr [0, 6, 7, 204] σ σ2_50 := fd_fr_tr f_46 (fd_fr_sI eσ2_50 (by decide))
        have t_53 : (σ2_50.1 0).toInt = (σ1_44.1 0).toInt := congrArg Int32.toInt (fd_tN eσ2_50 (by decide))
        have t_54 : (σ2_50.1 1).toInt = (σ1_44.1 1).toInt := congrArg Int32.toInt (fd_tN eσ2_50 (by decide))
        have y_55 := fd_yIL (d := 4) eσ2_50 y_49
        refine fd_ok_pb ?_
        have x_56 : ((¬ (0 ≤ p1.toInt ∧ p1.toInt < (σ.1 1).toInt ∧ (σ.2.1 1 p1.toNatClampNeg).toInt = -1)) ∧ (σ2_50.1 0).toInt = 1) ∨ (¬ (¬ (0 ≤ p1.toInt ∧ p1.toInt < (σ.1 1).toInt ∧ (σ.2.1 1 p1.toNatClampNeg).toInt = -1)) ∧ (σ2_50.1 0).toInt = 0) := by omega
        have w_57 : fd_H (((¬ (σ2_50.1 0).toInt = 0 → σ2_50.2.2 4 = σ.2.2 4) ∧ ((σ2_50.1 0).toInt = 0 → ∃ j : Int32, j.toInt = p1.toInt ∧ σ2_50.2.2 4 = vp_updL (σ.2.2 4) j.toNatClampNeg p2))) := fd_hd (⟨fun h => absurd (by omega) h, fun _ => ⟨_, by omega, y_55⟩⟩)
        have w_58 : fd_H (((σ2_50.1 0).toInt = 0 → x10_37 = σ.2.2 4 p1.toNatClampNeg)) := fd_hd (fun _ => ex10_37.trans (congrFun y_35 _))
        exact fd_ok_some ⟨i_51, f_52, x_56, w_57, w_58⟩
      ·
        have d_59 : ¬ (σ.2.1 1 p1.toNatClampNeg).toInt = (-1 : Int32).toInt := fun q => c_28 (Int32.toInt_inj.mp q)
        try unfold f_X11_pattern_0_J26
        try unfold f_X11_pattern_0_J27
        refine fd_ok_lt (fun σ7_60 eσ7_60 => ?_)
        have i_61 : fd_InvM σ7_60 := fd_inv_sI eσ7_60 i0 (fd_rng _)
        have f_62 : fd_fr [0, 6, 7, 204] σ σ7_60 := fd_fr_tr f0 (fd_fr_sI eσ7_60 (by decide))
        have t_63 : (σ7_60.1 0).toInt = (1 : Int32).toInt := congrArg Int32.toInt (fd_tI eσ7_60)
        have t_64 : (σ7_60.1 1).toInt = (σ.1 1).toInt := congrArg Int32.toInt (fd_tN eσ7_60 (by decide))
        have y_65 := fd_yIL (d := 4) eσ7_60 (rfl : σ.2.2 4 = _)
        have r_66 := fd_rng (σ7_60.1 0)
        refine fd_ok_itn (Int32.not_le.mpr (Int32.lt_iff_toInt_lt.mpr (by omega))) ?_
        have x_67 : ((¬ (0 ≤ p1.toInt ∧ p1.toInt < (σ.1 1).toInt ∧ (σ.2.1 1 p1.toNatClampNeg).toInt = -1)) ∧ (σ7_60.1 0).toInt = 1) ∨ (¬ (¬ (0 ≤ p1.toInt ∧ p1.toInt < (σ.1 1).toInt ∧ (σ.2.1 1 p1.toNatClampNeg).toInt = -1)) ∧ (σ7_60.1 0).toInt = 0) := by omega
        have w_68 : fd_H (((¬ (σ7_60.1 0).toInt = 0 → σ7_60.2.2 4 = σ.2.2 4) ∧ ((σ7_60.1 0).toInt = 0 → ∃ j : Int32, j.toInt = p1.toInt ∧ σ7_60.2.2 4 = vp_updL (σ.2.2 4) j.toNatClampNeg p2))) := fd_hd (⟨fun _ => y_65, fun h => absurd h (by omega)⟩)
        have w_69 : fd_H (((σ7_60.1 0).toInt = 0 → (0 : Int64) = σ.2.2 4 p1.toNatClampNeg)) := fd_hd (fun h => absurd h (by omega))
        exact fd_ok_some ⟨i_61, f_62, x_67, w_68, w_69⟩
set_option maxHeartbeats 4000000 in
theorem s_X11_row_0 (N : Nat) (hN : 1000 ≤ N) (p1 : Int32) (σ : fd_St) (i0 : fd_InvM σ) : fd_ok (f_X11_row_0 N p1 σ) (fun v s => fd_InvM s ∧ fd_fr [0, 209] σ s ∧ (((¬ (0 ≤ p1.toInt ∧ p1.toInt < (σ.1 1).toInt)) ∧ (s.1 0).toInt = 1) ∨ (¬ (¬ (0 ≤ p1.toInt ∧ p1.toInt < (σ.1 1).toInt)) ∧ (s.1 0).toInt = 0)) ∧ fd_H (((s.1 0).toInt = 0 → ∀ r : Nat → Int64, fd_E (σ.2.1 1) (σ.2.1 2) (σ.2.1 3) r (σ.2.2 4) (σ.1 1).toNatClampNeg → v = r p1.toNatClampNeg &&& fd_mk (σ.1 4)))) := by
  have lit0 : (0 : Int32).toInt = 0 := by decide
  have lit1 : (1 : Int32).toInt = 1 := by decide
  have f0 : fd_fr [0, 209] σ σ := fd_fr_rf
  unfold f_X11_row_0
  refine fd_ok_bd ?_
  try unfold f_X11_isIn
  refine fd_ok_ite (fun c_1 => ?_) (fun c_1 => ?_)
  ·
    have d_2 := Int32.lt_iff_toInt_lt.mp c_1
    refine fd_ok_pb ?_
    refine fd_ok_itp (by decide) ?_
    try unfold f_X11_row_0_J17
    refine fd_ok_lt (fun σ7_3 eσ7_3 => ?_)
    have i_4 : fd_InvM σ7_3 := fd_inv_sI eσ7_3 i0 (fd_rng _)
    have f_5 : fd_fr [0, 209] σ σ7_3 := fd_fr_tr f0 (fd_fr_sI eσ7_3 (by decide))
    have t_6 : (σ7_3.1 0).toInt = (1 : Int32).toInt := congrArg Int32.toInt (fd_tI eσ7_3)
    have t_7 : (σ7_3.1 1).toInt = (σ.1 1).toInt := congrArg Int32.toInt (fd_tN eσ7_3 (by decide))
    have t_8 : (σ7_3.1 4).toInt = (σ.1 4).toInt := congrArg Int32.toInt (fd_tN eσ7_3 (by decide))
    have y_9 := fd_yIL (d := 4) eσ7_3 (rfl : σ.2.2 4 = _)
    have r_10 := fd_rng (σ7_3.1 0)
    refine fd_ok_itn (Int32.not_le.mpr (Int32.lt_iff_toInt_lt.mpr (by omega))) ?_
    have x_11 : ((¬ (0 ≤ p1.toInt ∧ p1.toInt < (σ.1 1).toInt)) ∧ (σ7_3.1 0).toInt = 1) ∨ (¬ (¬ (0 ≤ p1.toInt ∧ p1.toInt < (σ.1 1).toInt)) ∧ (σ7_3.1 0).toInt = 0) := by omega
    have w_12 : fd_H (((σ7_3.1 0).toInt = 0 → ∀ r : Nat → Int64, fd_E (σ.2.1 1) (σ.2.1 2) (σ.2.1 3) r (σ.2.2 4) (σ.1 1).toNatClampNeg → (0 : Int64) = r p1.toNatClampNeg &&& fd_mk (σ.1 4))) := fd_hd (fun h => absurd h (by omega))
    exact fd_ok_some ⟨i_4, f_5, x_11, w_12⟩
  ·
    have d_13 := Int32.le_iff_toInt_le.mp (Int32.not_lt.mp c_1)
    have r_14 : (0 : Int) ≤ (σ.1 1).toInt ∧ (σ.1 1).toInt ≤ 200 := i0.1 1
    refine fd_ok_ite (fun c_15 => ?_) (fun c_15 => ?_)
    ·
      have d_16 := Int32.le_iff_toInt_le.mp c_15
      refine fd_ok_pb ?_
      refine fd_ok_itp (by decide) ?_
      try unfold f_X11_row_0_J17
      refine fd_ok_lt (fun σ7_17 eσ7_17 => ?_)
      have i_18 : fd_InvM σ7_17 := fd_inv_sI eσ7_17 i0 (fd_rng _)
      have f_19 : fd_fr [0, 209] σ σ7_17 := fd_fr_tr f0 (fd_fr_sI eσ7_17 (by decide))
      have t_20 : (σ7_17.1 0).toInt = (1 : Int32).toInt := congrArg Int32.toInt (fd_tI eσ7_17)
      have t_21 : (σ7_17.1 1).toInt = (σ.1 1).toInt := congrArg Int32.toInt (fd_tN eσ7_17 (by decide))
      have t_22 : (σ7_17.1 4).toInt = (σ.1 4).toInt := congrArg Int32.toInt (fd_tN eσ7_17 (by decide))
      have y_23 := fd_yIL (d := 4) eσ7_17 (rfl : σ.2.2 4 = _)
      have r_24 := fd_rng (σ7_17.1 0)
      refine fd_ok_itn (Int32.not_le.mpr (Int32.lt_iff_toInt_lt.mpr (by omega))) ?_
      have x_25 : ((¬ (0 ≤ p1.toInt ∧ p1.toInt < (σ.1 1).toInt)) ∧ (σ7_17.1 0).toInt = 1) ∨ (¬ (¬ (0 ≤ p1.toInt ∧ p1.toInt < (σ.1 1).toInt)) ∧ (σ7_17.1 0).toInt = 0) := by omega
      have w_26 : fd_H (((σ7_17.1 0).toInt = 0 → ∀ r : Nat → Int64, fd_E (σ.2.1 1) (σ.2.1 2) (σ.2.1 3) r (σ.2.2 4) (σ.1 1).toNatClampNeg → (0 : Int64) = r p1.toNatClampNeg &&& fd_mk (σ.1 4))) := fd_hd (fun h => absurd h (by omega))
      exact fd_ok_some ⟨i_18, f_19, x_25, w_26⟩
    ·
      have d_27 := Int32.lt_iff_toInt_lt.mp (Int32.not_le.mp c_15)
      refine fd_ok_pb ?_
      refine fd_ok_itn (by decide) ?_
      try unfold f_X11_row_0_J17
      refine fd_ok_lt (fun σ7_28 eσ7_28 => ?_)
      have i_29 : fd_InvM σ7_28 := fd_inv_sI eσ7_28 i0 (fd_rng _)
      have f_30 : fd_fr [0, 209] σ σ7_28 := fd_fr_tr f0 (fd_fr_sI eσ7_28 (by decide))
      have t_31 : (σ7_28.1 0).toInt = (0 : Int32).toInt := congrArg Int32.toInt (fd_tI eσ7_28)
      have t_32 : (σ7_28.1 1).toInt = (σ.1 1).toInt := congrArg Int32.toInt (fd_tN eσ7_28 (by decide))
      have t_33 : (σ7_28.1 4).toInt = (σ.1 4).toInt := congrArg Int32.toInt (fd_tN eσ7_28 (by decide))
      have y_34 := fd_yIL (d := 4) eσ7_28 (rfl : σ.2.2 4 = _)
      have r_35 := fd_rng (σ7_28.1 0)
      refine fd_ok_itp (Int32.le_iff_toInt_le.mpr (by omega)) ?_
      refine fd_ok_bd ?_
      try unfold f_X11_workPlain_0
      refine fd_ok_cl (s_X11_workPlain_0_L2 N hN N _ _ i_29 (by omega) (by omega) (by omega)) ?_
      rintro v_36 σ_37 ⟨i_38, g_39, x_40⟩
      have f_41 : fd_fr [0, 209] σ σ_37 := fd_fr_tr f_30 (fd_fr_mono g_39 (by decide))
      have y_42 := (g_39.2.2 4 (by decide)).trans y_34
      have t_43 : (σ_37.1 0).toInt = (σ7_28.1 0).toInt := congrArg Int32.toInt (g_39.1 0 (by decide))
      have t_44 : (σ_37.1 1).toInt = (σ7_28.1 1).toInt := congrArg Int32.toInt (g_39.1 1 (by decide))
      have t_45 : (σ_37.1 4).toInt = (σ7_28.1 4).toInt := congrArg Int32.toInt (g_39.1 4 (by decide))
      refine fd_ok_gd (vp_in_iff.mpr ⟨by omega, by omega⟩) ?_
      have x_46 : ((¬ (0 ≤ p1.toInt ∧ p1.toInt < (σ.1 1).toInt)) ∧ (σ_37.1 0).toInt = 1) ∨ (¬ (¬ (0 ≤ p1.toInt ∧ p1.toInt < (σ.1 1).toInt)) ∧ (σ_37.1 0).toInt = 0) := by omega
      have E1 : σ7_28.1 1 = σ.1 1 := Int32.toInt_inj.mp (by omega)
      have E4 : σ7_28.1 4 = σ.1 4 := Int32.toInt_inj.mp (by omega)
      have E2 : σ7_28.2.1 = σ.2.1 := by subst eσ7_28; rfl
      have E3 : σ7_28.2.2 4 = σ.2.2 4 := by subst eσ7_28; rfl
      have E0 : (0 : Int32).toNatClampNeg = 0 := by decide
      rw [E2, E3, E1, E4, E0] at x_40
      have w_47 : fd_H (((σ_37.1 0).toInt = 0 → ∀ r : Nat → Int64, fd_E (σ.2.1 1) (σ.2.1 2) (σ.2.1 3) r (σ.2.2 4) (σ.1 1).toNatClampNeg → (σ_37.2.2 9 p1.toNatClampNeg) = r p1.toNatClampNeg &&& fd_mk (σ.1 4))) := fd_hd (fun _ => fun r hE => x_40 (by decide) r hE (fun i hi => absurd hi (Nat.not_lt_zero i)) _ (fd_tl' (by omega) (by omega)))
      exact fd_ok_some ⟨i_38, f_41, x_46, w_47⟩
set_option maxHeartbeats 4000000 in
theorem s_X11_fail_0 (N : Nat) (hN : 1000 ≤ N) (p1 : Int32) (p2 : Int64) (σ : fd_St) (i0 : fd_InvM σ) : fd_ok (f_X11_fail_0 N p1 p2 σ) (fun v s => fd_InvM s ∧ fd_fr [0, 6, 7, 206] σ s ∧ (((¬ (0 ≤ p1.toInt ∧ p1.toInt < (σ.1 3).toInt)) ∧ (s.1 0).toInt = 1) ∨ (¬ (¬ (0 ≤ p1.toInt ∧ p1.toInt < (σ.1 3).toInt)) ∧ (s.1 0).toInt = 0)) ∧ fd_H (((¬ (s.1 0).toInt = 0 → s.2.2 6 = σ.2.2 6) ∧ ((s.1 0).toInt = 0 → ∃ j : Int32, j.toInt = p1.toInt ∧ s.2.2 6 = vp_updL (σ.2.2 6) j.toNatClampNeg p2))) ∧ fd_H (((s.1 0).toInt = 0 → v = σ.2.2 6 p1.toNatClampNeg))) := by
  have lit0 : (0 : Int32).toInt = 0 := by decide
  have lit1 : (1 : Int32).toInt = 1 := by decide
  have f0 : fd_fr [0, 6, 7, 206] σ σ := fd_fr_rf
  unfold f_X11_fail_0
  refine fd_ok_bd ?_
  try unfold f_X11_isIn
  refine fd_ok_ite (fun c_1 => ?_) (fun c_1 => ?_)
  ·
    have d_2 := Int32.lt_iff_toInt_lt.mp c_1
    refine fd_ok_pb ?_
    refine fd_ok_itp (by decide) ?_
    try unfold f_X11_fail_0_J17
    refine fd_ok_lt (fun σ7_3 eσ7_3 => ?_)
    have i_4 : fd_InvM σ7_3 := fd_inv_sI eσ7_3 i0 (fd_rng _)
    have f_5 : fd_fr [0, 6, 7, 206] σ σ7_3 := fd_fr_tr f0 (fd_fr_sI eσ7_3 (by decide))
    have t_6 : (σ7_3.1 0).toInt = (1 : Int32).toInt := congrArg Int32.toInt (fd_tI eσ7_3)
    have t_7 : (σ7_3.1 3).toInt = (σ.1 3).toInt := congrArg Int32.toInt (fd_tN eσ7_3 (by decide))
    have y_8 := fd_yIL (d := 6) eσ7_3 (rfl : σ.2.2 6 = _)
    have r_9 := fd_rng (σ7_3.1 0)
    refine fd_ok_itn (Int32.not_le.mpr (Int32.lt_iff_toInt_lt.mpr (by omega))) ?_
    have x_10 : ((¬ (0 ≤ p1.toInt ∧ p1.toInt < (σ.1 3).toInt)) ∧ (σ7_3.1 0).toInt = 1) ∨ (¬ (¬ (0 ≤ p1.toInt ∧ p1.toInt < (σ.1 3).toInt)) ∧ (σ7_3.1 0).toInt = 0) := by omega
    have w_11 : fd_H (((¬ (σ7_3.1 0).toInt = 0 → σ7_3.2.2 6 = σ.2.2 6) ∧ ((σ7_3.1 0).toInt = 0 → ∃ j : Int32, j.toInt = p1.toInt ∧ σ7_3.2.2 6 = vp_updL (σ.2.2 6) j.toNatClampNeg p2))) := fd_hd (⟨fun _ => y_8, fun h => absurd h (by omega)⟩)
    have w_12 : fd_H (((σ7_3.1 0).toInt = 0 → (0 : Int64) = σ.2.2 6 p1.toNatClampNeg)) := fd_hd (fun h => absurd h (by omega))
    exact fd_ok_some ⟨i_4, f_5, x_10, w_11, w_12⟩
  ·
    have d_13 := Int32.le_iff_toInt_le.mp (Int32.not_lt.mp c_1)
    have r_14 : (0 : Int) ≤ (σ.1 3).toInt ∧ (σ.1 3).toInt ≤ 32 := i0.1 3
    refine fd_ok_ite (fun c_15 => ?_) (fun c_15 => ?_)
    ·
      have d_16 := Int32.le_iff_toInt_le.mp c_15
      refine fd_ok_pb ?_
      refine fd_ok_itp (by decide) ?_
      try unfold f_X11_fail_0_J17
      refine fd_ok_lt (fun σ7_17 eσ7_17 => ?_)
      have i_18 : fd_InvM σ7_17 := fd_inv_sI eσ7_17 i0 (fd_rng _)
      have f_19 : fd_fr [0, 6, 7, 206] σ σ7_17 := fd_fr_tr f0 (fd_fr_sI eσ7_17 (by decide))
      have t_20 : (σ7_17.1 0).toInt = (1 : Int32).toInt := congrArg Int32.toInt (fd_tI eσ7_17)
      have t_21 : (σ7_17.1 3).toInt = (σ.1 3).toInt := congrArg Int32.toInt (fd_tN eσ7_17 (by decide))
      have y_22 := fd_yIL (d := 6) eσ7_17 (rfl : σ.2.2 6 = _)
      have r_23 := fd_rng (σ7_17.1 0)
      refine fd_ok_itn (Int32.not_le.mpr (Int32.lt_iff_toInt_lt.mpr (by omega))) ?_
      have x_24 : ((¬ (0 ≤ p1.toInt ∧ p1.toInt < (σ.1 3).toInt)) ∧ (σ7_17.1 0).toInt = 1) ∨ (¬ (¬ (0 ≤ p1.toInt ∧ p1.toInt < (σ.1 3).toInt)) ∧ (σ7_17.1 0).toInt = 0) := by omega
      have w_25 : fd_H (((¬ (σ7_17.1 0).toInt = 0 → σ7_17.2.2 6 = σ.2.2 6) ∧ ((σ7_17.1 0).toInt = 0 → ∃ j : Int32, j.toInt = p1.toInt ∧ σ7_17.2.2 6 = vp_updL (σ.2.2 6) j.toNatClampNeg p2))) := fd_hd (⟨fun _ => y_22, fun h => absurd h (by omega)⟩)
      have w_26 : fd_H (((σ7_17.1 0).toInt = 0 → (0 : Int64) = σ.2.2 6 p1.toNatClampNeg)) := fd_hd (fun h => absurd h (by omega))
      exact fd_ok_some ⟨i_18, f_19, x_24, w_25, w_26⟩
    ·
      have d_27 := Int32.lt_iff_toInt_lt.mp (Int32.not_le.mp c_15)
      refine fd_ok_pb ?_
      refine fd_ok_itn (by decide) ?_
      try unfold f_X11_fail_0_J17
      refine fd_ok_lt (fun σ7_28 eσ7_28 => ?_)
      have i_29 : fd_InvM σ7_28 := fd_inv_sI eσ7_28 i0 (fd_rng _)
      have f_30 : fd_fr [0, 6, 7, 206] σ σ7_28 := fd_fr_tr f0 (fd_fr_sI eσ7_28 (by decide))
      have t_31 : (σ7_28.1 0).toInt = (0 : Int32).toInt := congrArg Int32.toInt (fd_tI eσ7_28)
      have t_32 : (σ7_28.1 3).toInt = (σ.1 3).toInt := congrArg Int32.toInt (fd_tN eσ7_28 (by decide))
      have y_33 := fd_yIL (d := 6) eσ7_28 (rfl : σ.2.2 6 = _)
      have r_34 := fd_rng (σ7_28.1 0)
      refine fd_ok_itp (Int32.le_iff_toInt_le.mpr (by omega)) ?_
      refine fd_ok_gd (vp_in_iff.mpr ⟨by omega, by omega⟩) ?_
      refine fd_ok_lt (fun x10_35 ex10_35 => ?_)
      refine fd_ok_gd (vp_in_iff.mpr ⟨by omega, by omega⟩) ?_
      refine fd_ok_lt (fun σ12_36 eσ12_36 => ?_)
      have i_37 : fd_InvM σ12_36 := fd_inv_sL eσ12_36 i_29
      have f_38 : fd_fr [0, 6, 7, 206] σ σ12_36 := fd_fr_tr f_30 (fd_fr_sL eσ12_36 (by decide))
      have t_39 : (σ12_36.1 0).toInt = (σ7_28.1 0).toInt := by subst eσ12_36; rfl
      have t_40 : (σ12_36.1 3).toInt = (σ7_28.1 3).toInt := by subst eσ12_36; rfl
      have y_41 := fd_yL eσ12_36 y_33
      refine fd_ok_bd ?_
      try unfold f_X11_changed_0
      refine fd_ok_lt (fun σ1_42 eσ1_42 => ?_)
      have i_43 : fd_InvM σ1_42 := fd_inv_sI eσ1_42 i_37 ⟨(by omega : (0 : Int) ≤ (0 : Int32).toInt), (by omega : (0 : Int32).toInt ≤ 1)⟩
      have f_44 : fd_fr [0, 6, 7, 206] σ σ1_42 := fd_fr_tr f_38 (fd_fr_sI eσ1_42 (by decide))
      have t_45 : (σ1_42.1 0).toInt = (σ12_36.1 0).toInt := congrArg Int32.toInt (fd_tN eσ1_42 (by decide))
      have t_46 : (σ1_42.1 3).toInt = (σ12_36.1 3).toInt := congrArg Int32.toInt (fd_tN eσ1_42 (by decide))
      have y_47 := fd_yIL (d := 6) eσ1_42 y_41
      refine fd_ok_lt (fun σ2_48 eσ2_48 => ?_)
      have i_49 : fd_InvM σ2_48 := fd_inv_sI eσ2_48 i_43 ⟨(by omega : (0 : Int) ≤ (0 : Int32).toInt), (by omega : (0 : Int32).toInt ≤ 480)⟩
      have f_50 : fd_fr [0, 6, 7, 206] σ σ2_48 := fd_fr_tr f_44 (fd_fr_sI eσ2_48 (by decide))
      have t_51 : (σ2_48.1 0).toInt = (σ1_42.1 0).toInt := congrArg Int32.toInt (fd_tN eσ2_48 (by decide))
      have t_52 : (σ2_48.1 3).toInt = (σ1_42.1 3).toInt := congrArg Int32.toInt (fd_tN eσ2_48 (by decide))
      have y_53 := fd_yIL (d := 6) eσ2_48 y_47
      refine fd_ok_pb ?_
      have x_54 : ((¬ (0 ≤ p1.toInt ∧ p1.toInt < (σ.1 3).toInt)) ∧ (σ2_48.1 0).toInt = 1) ∨ (¬ (¬ (0 ≤ p1.toInt ∧ p1.toInt < (σ.1 3).toInt)) ∧ (σ2_48.1 0).toInt = 0) := by omega
      have w_55 : fd_H (((¬ (σ2_48.1 0).toInt = 0 → σ2_48.2.2 6 = σ.2.2 6) ∧ ((σ2_48.1 0).toInt = 0 → ∃ j : Int32, j.toInt = p1.toInt ∧ σ2_48.2.2 6 = vp_updL (σ.2.2 6) j.toNatClampNeg p2))) := fd_hd (⟨fun h => absurd (by omega) h, fun _ => ⟨_, by omega, y_53⟩⟩)
      have w_56 : fd_H (((σ2_48.1 0).toInt = 0 → x10_35 = σ.2.2 6 p1.toNatClampNeg)) := fd_hd (fun _ => ex10_35.trans (congrFun y_33 _))
      exact fd_ok_some ⟨i_49, f_50, x_54, w_55, w_56⟩
set_option maxHeartbeats 4000000 in
theorem s0_X11_near_0 (N : Nat) (hN : 1000 ≤ N) (p1 : Int32) (p2 : Int32) (σ : fd_St) (i0 : fd_InvM σ) : fd_ok (f_X11_near_0 N p1 p2 σ) (fun v s => fd_InvM s ∧ fd_fr [0, 5, 6, 7, 107, 108, 111] σ s ∧ (True)) := by
  have litm1 : (-1 : Int32).toInt = -1 := by decide
  have lit0 : (0 : Int32).toInt = 0 := by decide
  have lit1 : (1 : Int32).toInt = 1 := by decide
  have f0 : fd_fr [0, 5, 6, 7, 107, 108, 111] σ σ := fd_fr_rf
  unfold f_X11_near_0
  refine fd_ok_bd ?_
  try unfold f_X11_isIn
  refine fd_ok_ite (fun c_1 => ?_) (fun c_1 => ?_)
  ·
    have d_2 := Int32.lt_iff_toInt_lt.mp c_1
    refine fd_ok_pb ?_
    refine fd_ok_itp (by decide) ?_
    try unfold f_X11_near_0_J26
    try unfold f_X11_near_0_J27
    refine fd_ok_mono (s_X11_near_0_L34 N hN N _ _ _ _ _ _ i0 (by omega) (by omega) (by omega) (by omega) (by omega) (by omega)) ?_
    rintro v s ⟨hi, hf, hx⟩
    exact ⟨hi, fd_fr_tr f0 (fd_fr_mono hf (by decide)), trivial⟩
  ·
    have d_3 := Int32.le_iff_toInt_le.mp (Int32.not_lt.mp c_1)
    have r_4 : (0 : Int) ≤ (σ.1 1).toInt ∧ (σ.1 1).toInt ≤ 200 := i0.1 1
    refine fd_ok_ite (fun c_5 => ?_) (fun c_5 => ?_)
    ·
      have d_6 := Int32.le_iff_toInt_le.mp c_5
      refine fd_ok_pb ?_
      refine fd_ok_itp (by decide) ?_
      try unfold f_X11_near_0_J26
      try unfold f_X11_near_0_J27
      refine fd_ok_mono (s_X11_near_0_L34 N hN N _ _ _ _ _ _ i0 (by omega) (by omega) (by omega) (by omega) (by omega) (by omega)) ?_
      rintro v s ⟨hi, hf, hx⟩
      exact ⟨hi, fd_fr_tr f0 (fd_fr_mono hf (by decide)), trivial⟩
    ·
      have d_7 := Int32.lt_iff_toInt_lt.mp (Int32.not_le.mp c_5)
      refine fd_ok_pb ?_
      refine fd_ok_itn (by decide) ?_
      refine fd_ok_bd ?_
      try unfold f_X11_isIn
      refine fd_ok_ite (fun c_8 => ?_) (fun c_8 => ?_)
      ·
        have d_9 := Int32.lt_iff_toInt_lt.mp c_8
        refine fd_ok_pb ?_
        refine fd_ok_itp (by decide) ?_
        try unfold f_X11_near_0_J26
        try unfold f_X11_near_0_J27
        refine fd_ok_mono (s_X11_near_0_L34 N hN N _ _ _ _ _ _ i0 (by omega) (by omega) (by omega) (by omega) (by omega) (by omega)) ?_
        rintro v s ⟨hi, hf, hx⟩
        exact ⟨hi, fd_fr_tr f0 (fd_fr_mono hf (by decide)), trivial⟩
      ·
        have d_10 := Int32.le_iff_toInt_le.mp (Int32.not_lt.mp c_8)
        refine fd_ok_ite (fun c_11 => ?_) (fun c_11 => ?_)
        ·
          have d_12 := Int32.le_iff_toInt_le.mp c_11
          refine fd_ok_pb ?_
          refine fd_ok_itp (by decide) ?_
          try unfold f_X11_near_0_J26
          try unfold f_X11_near_0_J27
          refine fd_ok_mono (s_X11_near_0_L34 N hN N _ _ _ _ _ _ i0 (by omega) (by omega) (by omega) (by omega) (by omega) (by omega)) ?_
          rintro v s ⟨hi, hf, hx⟩
          exact ⟨hi, fd_fr_tr f0 (fd_fr_mono hf (by decide)), trivial⟩
        ·
          have d_13 := Int32.lt_iff_toInt_lt.mp (Int32.not_le.mp c_11)
          refine fd_ok_pb ?_
          refine fd_ok_itn (by decide) ?_
          try unfold f_X11_near_0_J27
          refine fd_ok_mono (s_X11_near_0_L34 N hN N _ _ _ _ _ _ i0 (by omega) (by omega) (by omega) (by omega) (by omega) (by omega)) ?_
          rintro v s ⟨hi, hf, hx⟩
          exact ⟨hi, fd_fr_tr f0 (fd_fr_mono hf (by decide)), trivial⟩
theorem s_X11_near_0 (N : Nat) (hN : 1000 ≤ N) (p1 : Int32) (p2 : Int32) (σ : fd_St) (i0 : fd_InvM σ) : fd_ok (f_X11_near_0 N p1 p2 σ) (fun v s => fd_InvM s ∧ fd_fr [0, 5, 6, 7, 107, 108, 111] σ s ∧ (0 ≤ (σ.1 5).toInt → fd_Go (σ.2.1 1) (σ.2.1 2) (σ.2.1 3) (σ.1 1).toNatClampNeg → ∀ q, fd_Rx (σ.2.1 1) (σ.2.1 2) (σ.2.1 3) (fd_mn p1 p2).toNatClampNeg q (σ.1 1).toNatClampNeg → fd_Nr (σ.1 1) (σ.1 5) p1 p2 (σ.2.1 7) (σ.2.1 8) (q (fd_mx p1 p2).toNatClampNeg ≠ 0) (s.1 5) (s.2.1 7) (s.2.1 8))) := fd_ok_x (s0_X11_near_0 N hN p1 p2 σ i0 ) (fun v s h => q_X11_near_0 h)
set_option maxHeartbeats 4000000 in
theorem s_X11_shows_0 (N : Nat) (hN : 1000 ≤ N) (p1 : Int32) (p2 : Int32) (p3 : Int32) (σ : fd_St) (i0 : fd_InvM σ) : fd_ok (f_X11_shows_0 N p1 p2 p3 σ) (fun v s => fd_InvM s ∧ fd_fr [0, 209, 210] σ s ∧ ((¬ (0 ≤ p1.toInt ∧ p1.toInt ≤ 3 ∧ 0 ≤ p2.toInt ∧ (1 < p1.toInt ∨ p2.toInt < (σ.1 1).toInt) ∧ (p1.toInt ≤ 1 ∨ p2.toInt < (σ.1 5).toInt) ∧ 0 ≤ p3.toInt ∧ p3.toInt < (σ.1 3).toInt) ∧ (s.1 0).toInt = 1) ∨ ((0 ≤ p1.toInt ∧ p1.toInt ≤ 3 ∧ 0 ≤ p2.toInt ∧ (1 < p1.toInt ∨ p2.toInt < (σ.1 1).toInt) ∧ (p1.toInt ≤ 1 ∨ p2.toInt < (σ.1 5).toInt) ∧ 0 ≤ p3.toInt ∧ p3.toInt < (σ.1 3).toInt) ∧ (s.1 0).toInt = 0)) ∧ fd_H (((s.1 0).toInt = 0 → ∀ r w : Nat → Int64, fd_E (σ.2.1 1) (σ.2.1 2) (σ.2.1 3) r (σ.2.2 4) (σ.1 1).toNatClampNeg → (0 ≤ (fd_qa p1 p2 (σ.2.1 7)).toInt ∧ (fd_qa p1 p2 (σ.2.1 7)).toInt < (σ.1 1).toInt) → (0 ≤ (fd_qa p1 p2 (σ.2.1 8)).toInt ∧ (fd_qa p1 p2 (σ.2.1 8)).toInt < (σ.1 1).toInt) → fd_F (σ.2.1 1) (σ.2.1 2) (σ.2.1 3) (σ.2.2 4) (fd_qa p1 p2 (σ.2.1 7)).toNatClampNeg (fd_qr p1 (r (fd_qa p1 p2 (σ.2.1 7)).toNatClampNeg) (r (fd_qa p1 p2 (σ.2.1 8)).toNatClampNeg)) (fd_qa p1 p2 (σ.2.1 8)).toNatClampNeg (fd_qr p1 (r (fd_qa p1 p2 (σ.2.1 7)).toNatClampNeg) (r (fd_qa p1 p2 (σ.2.1 8)).toNatClampNeg)) w (σ.1 1).toNatClampNeg → (σ.2.1 5 p3.toNatClampNeg).toNatClampNeg < (σ.1 1).toNatClampNeg → v = (r (σ.2.1 5 p3.toNatClampNeg).toNatClampNeg ^^^ w (σ.2.1 5 p3.toNatClampNeg).toNatClampNeg) &&& fd_mk (σ.1 4)))) := by
  have lit0 : (0 : Int32).toInt = 0 := by decide
  have lit1 : (1 : Int32).toInt = 1 := by decide
  have lit2 : (2 : Int32).toInt = 2 := by decide
  have lit3 : (3 : Int32).toInt = 3 := by decide
  have f0 : fd_fr [0, 209, 210] σ σ := fd_fr_rf
  unfold f_X11_shows_0
  refine fd_ok_ite (fun c_1 => ?_) (fun c_1 => ?_)
  ·
    have d_2 := congrArg Int32.toInt c_1
    try unfold f_X11_shows_0_J9
    refine fd_ok_bd ?_
    try unfold f_X11_isIn
    refine fd_ok_ite (fun c_3 => ?_) (fun c_3 => ?_)
    ·
      have d_4 := Int32.lt_iff_toInt_lt.mp c_3
      refine fd_ok_pb ?_
      refine fd_ok_itp (by decide) ?_
      try unfold f_X11_shows_0_J20
      refine fd_ok_ite (fun c_5 => ?_) (fun c_5 => ?_)
      ·
        have d_6 := congrArg Int32.toInt c_5
        try unfold f_X11_shows_0_J30
        refine fd_ok_bd ?_
        try unfold f_X11_isIn
        refine fd_ok_ite (fun c_7 => ?_) (fun c_7 => ?_)
        ·
          have d_8 := Int32.lt_iff_toInt_lt.mp c_7
          refine fd_ok_pb ?_
          refine fd_ok_itp (by decide) ?_
          try unfold f_X11_shows_0_J45
          try unfold f_X11_shows_0_J46
          refine fd_ok_itp (by decide) ?_
          try unfold f_X11_shows_0_J69
          try unfold f_X11_shows_0_J70
          refine fd_ok_lt (fun σ9_9 eσ9_9 => ?_)
          have i_10 : fd_InvM σ9_9 := fd_inv_sI eσ9_9 i0 (fd_rng _)
          have f_11 : fd_fr [0, 209, 210] σ σ9_9 := fd_fr_tr f0 (fd_fr_sI eσ9_9 (by decide))
          have t_12 : (σ9_9.1 0).toInt = (1 : Int32).toInt := congrArg Int32.toInt (fd_tI eσ9_9)
          have t_13 : (σ9_9.1 1).toInt = (σ.1 1).toInt := congrArg Int32.toInt (fd_tN eσ9_9 (by decide))
          have t_14 : (σ9_9.1 3).toInt = (σ.1 3).toInt := congrArg Int32.toInt (fd_tN eσ9_9 (by decide))
          have t_15 : (σ9_9.1 5).toInt = (σ.1 5).toInt := congrArg Int32.toInt (fd_tN eσ9_9 (by decide))
          have y_16 := fd_yIL (d := 10) eσ9_9 (rfl : σ.2.2 10 = _)
          have r_17 := fd_rng (σ9_9.1 0)
          refine fd_ok_itn (Int32.not_le.mpr (Int32.lt_iff_toInt_lt.mpr (by omega))) ?_
          have x_18 : (¬ (0 ≤ p1.toInt ∧ p1.toInt ≤ 3 ∧ 0 ≤ p2.toInt ∧ (1 < p1.toInt ∨ p2.toInt < (σ.1 1).toInt) ∧ (p1.toInt ≤ 1 ∨ p2.toInt < (σ.1 5).toInt) ∧ 0 ≤ p3.toInt ∧ p3.toInt < (σ.1 3).toInt) ∧ (σ9_9.1 0).toInt = 1) ∨ ((0 ≤ p1.toInt ∧ p1.toInt ≤ 3 ∧ 0 ≤ p2.toInt ∧ (1 < p1.toInt ∨ p2.toInt < (σ.1 1).toInt) ∧ (p1.toInt ≤ 1 ∨ p2.toInt < (σ.1 5).toInt) ∧ 0 ≤ p3.toInt ∧ p3.toInt < (σ.1 3).toInt) ∧ (σ9_9.1 0).toInt = 0) := by omega
          have w_19 : fd_H (((σ9_9.1 0).toInt = 0 → ∀ r w : Nat → Int64, fd_E (σ.2.1 1) (σ.2.1 2) (σ.2.1 3) r (σ.2.2 4) (σ.1 1).toNatClampNeg → (0 ≤ (fd_qa p1 p2 (σ.2.1 7)).toInt ∧ (fd_qa p1 p2 (σ.2.1 7)).toInt < (σ.1 1).toInt) → (0 ≤ (fd_qa p1 p2 (σ.2.1 8)).toInt ∧ (fd_qa p1 p2 (σ.2.1 8)).toInt < (σ.1 1).toInt) → fd_F (σ.2.1 1) (σ.2.1 2) (σ.2.1 3) (σ.2.2 4) (fd_qa p1 p2 (σ.2.1 7)).toNatClampNeg (fd_qr p1 (r (fd_qa p1 p2 (σ.2.1 7)).toNatClampNeg) (r (fd_qa p1 p2 (σ.2.1 8)).toNatClampNeg)) (fd_qa p1 p2 (σ.2.1 8)).toNatClampNeg (fd_qr p1 (r (fd_qa p1 p2 (σ.2.1 7)).toNatClampNeg) (r (fd_qa p1 p2 (σ.2.1 8)).toNatClampNeg)) w (σ.1 1).toNatClampNeg → (σ.2.1 5 p3.toNatClampNeg).toNatClampNeg < (σ.1 1).toNatClampNeg → (0 : Int64) = (r (σ.2.1 5 p3.toNatClampNeg).toNatClampNeg ^^^ w (σ.2.1 5 p3.toNatClampNeg).toNatClampNeg) &&& fd_mk (σ.1 4))) := fd_hd (fun h => absurd h (by omega))
          exact fd_ok_some ⟨i_10, f_11, x_18, w_19⟩
        ·
          have d_20 := Int32.le_iff_toInt_le.mp (Int32.not_lt.mp c_7)
          have r_21 : (0 : Int) ≤ (σ.1 5).toInt ∧ (σ.1 5).toInt ≤ 40 := i0.1 5
          refine fd_ok_ite (fun c_22 => ?_) (fun c_22 => ?_)
          ·
            have d_23 := Int32.le_iff_toInt_le.mp c_22
            refine fd_ok_pb ?_
            refine fd_ok_itp (by decide) ?_
            try unfold f_X11_shows_0_J45
            try unfold f_X11_shows_0_J46
            refine fd_ok_itp (by decide) ?_
            try unfold f_X11_shows_0_J69
            try unfold f_X11_shows_0_J70
            refine fd_ok_lt (fun σ9_24 eσ9_24 => ?_)
            have i_25 : fd_InvM σ9_24 := fd_inv_sI eσ9_24 i0 (fd_rng _)
            have f_26 : fd_fr [0, 209, 210] σ σ9_24 := fd_fr_tr f0 (fd_fr_sI eσ9_24 (by decide))
            have t_27 : (σ9_24.1 0).toInt = (1 : Int32).toInt := congrArg Int32.toInt (fd_tI eσ9_24)
            have t_28 : (σ9_24.1 1).toInt = (σ.1 1).toInt := congrArg Int32.toInt (fd_tN eσ9_24 (by decide))
            have t_29 : (σ9_24.1 3).toInt = (σ.1 3).toInt := congrArg Int32.toInt (fd_tN eσ9_24 (by decide))
            have t_30 : (σ9_24.1 5).toInt = (σ.1 5).toInt := congrArg Int32.toInt (fd_tN eσ9_24 (by decide))
            have y_31 := fd_yIL (d := 10) eσ9_24 (rfl : σ.2.2 10 = _)
            have r_32 := fd_rng (σ9_24.1 0)
            refine fd_ok_itn (Int32.not_le.mpr (Int32.lt_iff_toInt_lt.mpr (by omega))) ?_
            have x_33 : (¬ (0 ≤ p1.toInt ∧ p1.toInt ≤ 3 ∧ 0 ≤ p2.toInt ∧ (1 < p1.toInt ∨ p2.toInt < (σ.1 1).toInt) ∧ (p1.toInt ≤ 1 ∨ p2.toInt < (σ.1 5).toInt) ∧ 0 ≤ p3.toInt ∧ p3.toInt < (σ.1 3).toInt) ∧ (σ9_24.1 0).toInt = 1) ∨ ((0 ≤ p1.toInt ∧ p1.toInt ≤ 3 ∧ 0 ≤ p2.toInt ∧ (1 < p1.toInt ∨ p2.toInt < (σ.1 1).toInt) ∧ (p1.toInt ≤ 1 ∨ p2.toInt < (σ.1 5).toInt) ∧ 0 ≤ p3.toInt ∧ p3.toInt < (σ.1 3).toInt) ∧ (σ9_24.1 0).toInt = 0) := by omega
            have w_34 : fd_H (((σ9_24.1 0).toInt = 0 → ∀ r w : Nat → Int64, fd_E (σ.2.1 1) (σ.2.1 2) (σ.2.1 3) r (σ.2.2 4) (σ.1 1).toNatClampNeg → (0 ≤ (fd_qa p1 p2 (σ.2.1 7)).toInt ∧ (fd_qa p1 p2 (σ.2.1 7)).toInt < (σ.1 1).toInt) → (0 ≤ (fd_qa p1 p2 (σ.2.1 8)).toInt ∧ (fd_qa p1 p2 (σ.2.1 8)).toInt < (σ.1 1).toInt) → fd_F (σ.2.1 1) (σ.2.1 2) (σ.2.1 3) (σ.2.2 4) (fd_qa p1 p2 (σ.2.1 7)).toNatClampNeg (fd_qr p1 (r (fd_qa p1 p2 (σ.2.1 7)).toNatClampNeg) (r (fd_qa p1 p2 (σ.2.1 8)).toNatClampNeg)) (fd_qa p1 p2 (σ.2.1 8)).toNatClampNeg (fd_qr p1 (r (fd_qa p1 p2 (σ.2.1 7)).toNatClampNeg) (r (fd_qa p1 p2 (σ.2.1 8)).toNatClampNeg)) w (σ.1 1).toNatClampNeg → (σ.2.1 5 p3.toNatClampNeg).toNatClampNeg < (σ.1 1).toNatClampNeg → (0 : Int64) = (r (σ.2.1 5 p3.toNatClampNeg).toNatClampNeg ^^^ w (σ.2.1 5 p3.toNatClampNeg).toNatClampNeg) &&& fd_mk (σ.1 4))) := fd_hd (fun h => absurd h (by omega))
            exact fd_ok_some ⟨i_25, f_26, x_33, w_34⟩
          ·
            have d_35 := Int32.lt_iff_toInt_lt.mp (Int32.not_le.mp c_22)
            refine fd_ok_pb ?_
            refine fd_ok_itn (by decide) ?_
            try unfold f_X11_shows_0_J41
            try unfold f_X11_shows_0_J46
            refine fd_ok_itn (by decide) ?_
            refine fd_ok_bd ?_
            try unfold f_X11_isIn
            refine fd_ok_ite (fun c_36 => ?_) (fun c_36 => ?_)
            ·
              have d_37 := Int32.lt_iff_toInt_lt.mp c_36
              refine fd_ok_pb ?_
              refine fd_ok_itp (by decide) ?_
              try unfold f_X11_shows_0_J69
              try unfold f_X11_shows_0_J70
              refine fd_ok_lt (fun σ9_38 eσ9_38 => ?_)
              have i_39 : fd_InvM σ9_38 := fd_inv_sI eσ9_38 i0 (fd_rng _)
              have f_40 : fd_fr [0, 209, 210] σ σ9_38 := fd_fr_tr f0 (fd_fr_sI eσ9_38 (by decide))
              have t_41 : (σ9_38.1 0).toInt = (1 : Int32).toInt := congrArg Int32.toInt (fd_tI eσ9_38)
              have t_42 : (σ9_38.1 1).toInt = (σ.1 1).toInt := congrArg Int32.toInt (fd_tN eσ9_38 (by decide))
              have t_43 : (σ9_38.1 3).toInt = (σ.1 3).toInt := congrArg Int32.toInt (fd_tN eσ9_38 (by decide))
              have t_44 : (σ9_38.1 5).toInt = (σ.1 5).toInt := congrArg Int32.toInt (fd_tN eσ9_38 (by decide))
              have y_45 := fd_yIL (d := 10) eσ9_38 (rfl : σ.2.2 10 = _)
              have r_46 := fd_rng (σ9_38.1 0)
              refine fd_ok_itn (Int32.not_le.mpr (Int32.lt_iff_toInt_lt.mpr (by omega))) ?_
              have x_47 : (¬ (0 ≤ p1.toInt ∧ p1.toInt ≤ 3 ∧ 0 ≤ p2.toInt ∧ (1 < p1.toInt ∨ p2.toInt < (σ.1 1).toInt) ∧ (p1.toInt ≤ 1 ∨ p2.toInt < (σ.1 5).toInt) ∧ 0 ≤ p3.toInt ∧ p3.toInt < (σ.1 3).toInt) ∧ (σ9_38.1 0).toInt = 1) ∨ ((0 ≤ p1.toInt ∧ p1.toInt ≤ 3 ∧ 0 ≤ p2.toInt ∧ (1 < p1.toInt ∨ p2.toInt < (σ.1 1).toInt) ∧ (p1.toInt ≤ 1 ∨ p2.toInt < (σ.1 5).toInt) ∧ 0 ≤ p3.toInt ∧ p3.toInt < (σ.1 3).toInt) ∧ (σ9_38.1 0).toInt = 0) := by omega
              have w_48 : fd_H (((σ9_38.1 0).toInt = 0 → ∀ r w : Nat → Int64, fd_E (σ.2.1 1) (σ.2.1 2) (σ.2.1 3) r (σ.2.2 4) (σ.1 1).toNatClampNeg → (0 ≤ (fd_qa p1 p2 (σ.2.1 7)).toInt ∧ (fd_qa p1 p2 (σ.2.1 7)).toInt < (σ.1 1).toInt) → (0 ≤ (fd_qa p1 p2 (σ.2.1 8)).toInt ∧ (fd_qa p1 p2 (σ.2.1 8)).toInt < (σ.1 1).toInt) → fd_F (σ.2.1 1) (σ.2.1 2) (σ.2.1 3) (σ.2.2 4) (fd_qa p1 p2 (σ.2.1 7)).toNatClampNeg (fd_qr p1 (r (fd_qa p1 p2 (σ.2.1 7)).toNatClampNeg) (r (fd_qa p1 p2 (σ.2.1 8)).toNatClampNeg)) (fd_qa p1 p2 (σ.2.1 8)).toNatClampNeg (fd_qr p1 (r (fd_qa p1 p2 (σ.2.1 7)).toNatClampNeg) (r (fd_qa p1 p2 (σ.2.1 8)).toNatClampNeg)) w (σ.1 1).toNatClampNeg → (σ.2.1 5 p3.toNatClampNeg).toNatClampNeg < (σ.1 1).toNatClampNeg → (0 : Int64) = (r (σ.2.1 5 p3.toNatClampNeg).toNatClampNeg ^^^ w (σ.2.1 5 p3.toNatClampNeg).toNatClampNeg) &&& fd_mk (σ.1 4))) := fd_hd (fun h => absurd h (by omega))
              exact fd_ok_some ⟨i_39, f_40, x_47, w_48⟩
            ·
              have d_49 := Int32.le_iff_toInt_le.mp (Int32.not_lt.mp c_36)
              have r_50 : (0 : Int) ≤ (σ.1 3).toInt ∧ (σ.1 3).toInt ≤ 32 := i0.1 3
              refine fd_ok_ite (fun c_51 => ?_) (fun c_51 => ?_)
              ·
                have d_52 := Int32.le_iff_toInt_le.mp c_51
                refine fd_ok_pb ?_
                refine fd_ok_itp (by decide) ?_
                try unfold f_X11_shows_0_J69
                try unfold f_X11_shows_0_J70
                refine fd_ok_lt (fun σ9_53 eσ9_53 => ?_)
                have i_54 : fd_InvM σ9_53 := fd_inv_sI eσ9_53 i0 (fd_rng _)
                have f_55 : fd_fr [0, 209, 210] σ σ9_53 := fd_fr_tr f0 (fd_fr_sI eσ9_53 (by decide))
                have t_56 : (σ9_53.1 0).toInt = (1 : Int32).toInt := congrArg Int32.toInt (fd_tI eσ9_53)
                have t_57 : (σ9_53.1 1).toInt = (σ.1 1).toInt := congrArg Int32.toInt (fd_tN eσ9_53 (by decide))
                have t_58 : (σ9_53.1 3).toInt = (σ.1 3).toInt := congrArg Int32.toInt (fd_tN eσ9_53 (by decide))
                have t_59 : (σ9_53.1 5).toInt = (σ.1 5).toInt := congrArg Int32.toInt (fd_tN eσ9_53 (by decide))
                have y_60 := fd_yIL (d := 10) eσ9_53 (rfl : σ.2.2 10 = _)
                have r_61 := fd_rng (σ9_53.1 0)
                refine fd_ok_itn (Int32.not_le.mpr (Int32.lt_iff_toInt_lt.mpr (by omega))) ?_
                have x_62 : (¬ (0 ≤ p1.toInt ∧ p1.toInt ≤ 3 ∧ 0 ≤ p2.toInt ∧ (1 < p1.toInt ∨ p2.toInt < (σ.1 1).toInt) ∧ (p1.toInt ≤ 1 ∨ p2.toInt < (σ.1 5).toInt) ∧ 0 ≤ p3.toInt ∧ p3.toInt < (σ.1 3).toInt) ∧ (σ9_53.1 0).toInt = 1) ∨ ((0 ≤ p1.toInt ∧ p1.toInt ≤ 3 ∧ 0 ≤ p2.toInt ∧ (1 < p1.toInt ∨ p2.toInt < (σ.1 1).toInt) ∧ (p1.toInt ≤ 1 ∨ p2.toInt < (σ.1 5).toInt) ∧ 0 ≤ p3.toInt ∧ p3.toInt < (σ.1 3).toInt) ∧ (σ9_53.1 0).toInt = 0) := by omega
                have w_63 : fd_H (((σ9_53.1 0).toInt = 0 → ∀ r w : Nat → Int64, fd_E (σ.2.1 1) (σ.2.1 2) (σ.2.1 3) r (σ.2.2 4) (σ.1 1).toNatClampNeg → (0 ≤ (fd_qa p1 p2 (σ.2.1 7)).toInt ∧ (fd_qa p1 p2 (σ.2.1 7)).toInt < (σ.1 1).toInt) → (0 ≤ (fd_qa p1 p2 (σ.2.1 8)).toInt ∧ (fd_qa p1 p2 (σ.2.1 8)).toInt < (σ.1 1).toInt) → fd_F (σ.2.1 1) (σ.2.1 2) (σ.2.1 3) (σ.2.2 4) (fd_qa p1 p2 (σ.2.1 7)).toNatClampNeg (fd_qr p1 (r (fd_qa p1 p2 (σ.2.1 7)).toNatClampNeg) (r (fd_qa p1 p2 (σ.2.1 8)).toNatClampNeg)) (fd_qa p1 p2 (σ.2.1 8)).toNatClampNeg (fd_qr p1 (r (fd_qa p1 p2 (σ.2.1 7)).toNatClampNeg) (r (fd_qa p1 p2 (σ.2.1 8)).toNatClampNeg)) w (σ.1 1).toNatClampNeg → (σ.2.1 5 p3.toNatClampNeg).toNatClampNeg < (σ.1 1).toNatClampNeg → (0 : Int64) = (r (σ.2.1 5 p3.toNatClampNeg).toNatClampNeg ^^^ w (σ.2.1 5 p3.toNatClampNeg).toNatClampNeg) &&& fd_mk (σ.1 4))) := fd_hd (fun h => absurd h (by omega))
                exact fd_ok_some ⟨i_54, f_55, x_62, w_63⟩
              ·
                have d_64 := Int32.lt_iff_toInt_lt.mp (Int32.not_le.mp c_51)
                refine fd_ok_pb ?_
                refine fd_ok_itn (by decide) ?_
                try unfold f_X11_shows_0_J70
                refine fd_ok_lt (fun σ9_65 eσ9_65 => ?_)
                have i_66 : fd_InvM σ9_65 := fd_inv_sI eσ9_65 i0 (fd_rng _)
                have f_67 : fd_fr [0, 209, 210] σ σ9_65 := fd_fr_tr f0 (fd_fr_sI eσ9_65 (by decide))
                have t_68 : (σ9_65.1 0).toInt = (0 : Int32).toInt := congrArg Int32.toInt (fd_tI eσ9_65)
                have t_69 : (σ9_65.1 1).toInt = (σ.1 1).toInt := congrArg Int32.toInt (fd_tN eσ9_65 (by decide))
                have t_70 : (σ9_65.1 3).toInt = (σ.1 3).toInt := congrArg Int32.toInt (fd_tN eσ9_65 (by decide))
                have t_71 : (σ9_65.1 5).toInt = (σ.1 5).toInt := congrArg Int32.toInt (fd_tN eσ9_65 (by decide))
                have y_72 := fd_yIL (d := 10) eσ9_65 (rfl : σ.2.2 10 = _)
                have r_73 := fd_rng (σ9_65.1 0)
                refine fd_ok_itp (Int32.le_iff_toInt_le.mpr (by omega)) ?_
                refine fd_ok_bd ?_
                try unfold f_X11_workPlain_0
                refine fd_ok_cl (s_X11_workPlain_0_L2 N hN N _ _ i_66 (by omega) (by omega) (by omega)) ?_
                rintro v_74 σ_75 ⟨i_76, g_77, x_78⟩
                have f_79 : fd_fr [0, 209, 210] σ σ_75 := fd_fr_tr f_67 (fd_fr_mono g_77 (by decide))
                have y_80 := (g_77.2.2 10 (by decide)).trans y_72
                have t_81 : (σ_75.1 0).toInt = (σ9_65.1 0).toInt := congrArg Int32.toInt (g_77.1 0 (by decide))
                have t_82 : (σ_75.1 1).toInt = (σ9_65.1 1).toInt := congrArg Int32.toInt (g_77.1 1 (by decide))
                have t_83 : (σ_75.1 3).toInt = (σ9_65.1 3).toInt := congrArg Int32.toInt (g_77.1 3 (by decide))
                have t_84 : (σ_75.1 5).toInt = (σ9_65.1 5).toInt := congrArg Int32.toInt (g_77.1 5 (by decide))
                refine fd_ok_bd ?_
                refine fd_ok_cl (s_X11_workFault_0 N hN _ _ _ i_76 (by omega)) ?_
                rintro v_85 σ_86 ⟨i_87, g_88, x_89⟩
                have f_90 : fd_fr [0, 209, 210] σ σ_86 := fd_fr_tr f_79 (fd_fr_mono g_88 (by decide))
                have t_91 : (σ_86.1 0).toInt = (σ_75.1 0).toInt := congrArg Int32.toInt (g_88.1 0 (by decide))
                have t_92 : (σ_86.1 1).toInt = (σ_75.1 1).toInt := congrArg Int32.toInt (g_88.1 1 (by decide))
                have t_93 : (σ_86.1 3).toInt = (σ_75.1 3).toInt := congrArg Int32.toInt (g_88.1 3 (by decide))
                have t_94 : (σ_86.1 5).toInt = (σ_75.1 5).toInt := congrArg Int32.toInt (g_88.1 5 (by decide))
                refine fd_ok_gd (vp_in_iff.mpr ⟨by omega, by omega⟩) ?_
                have r_95 : (0 : Int) ≤ (σ_86.2.1 5 p3.toNatClampNeg).toInt ∧ (σ_86.2.1 5 p3.toNatClampNeg).toInt ≤ 199 := i_87.2.1 5 _
                refine fd_ok_gd (vp_in_iff.mpr ⟨by omega, by omega⟩) ?_
                refine fd_ok_gd (vp_in_iff.mpr ⟨by omega, by omega⟩) ?_
                refine fd_ok_gd (vp_in_iff.mpr ⟨by omega, by omega⟩) ?_
                have x_96 : (¬ (0 ≤ p1.toInt ∧ p1.toInt ≤ 3 ∧ 0 ≤ p2.toInt ∧ (1 < p1.toInt ∨ p2.toInt < (σ.1 1).toInt) ∧ (p1.toInt ≤ 1 ∨ p2.toInt < (σ.1 5).toInt) ∧ 0 ≤ p3.toInt ∧ p3.toInt < (σ.1 3).toInt) ∧ (σ_86.1 0).toInt = 1) ∨ ((0 ≤ p1.toInt ∧ p1.toInt ≤ 3 ∧ 0 ≤ p2.toInt ∧ (1 < p1.toInt ∨ p2.toInt < (σ.1 1).toInt) ∧ (p1.toInt ≤ 1 ∨ p2.toInt < (σ.1 5).toInt) ∧ 0 ≤ p3.toInt ∧ p3.toInt < (σ.1 3).toInt) ∧ (σ_86.1 0).toInt = 0) := by omega
                have E1 : σ9_65.1 1 = σ.1 1 := fd_tN eσ9_65 (by decide)
                have E4 : σ9_65.1 4 = σ.1 4 := fd_tN eσ9_65 (by decide)
                have E2 : σ9_65.2.1 = σ.2.1 := by subst eσ9_65; rfl
                have E3 : σ9_65.2.2 4 = σ.2.2 4 := by subst eσ9_65; rfl
                have E0 : (0 : Int32).toNatClampNeg = 0 := by decide
                rw [E2, E3, E1, E4, E0] at x_78
                have G1 : σ_75.1 1 = σ.1 1 := (g_77.1 1 (by decide)).trans E1
                have G4 : σ_75.1 4 = σ.1 4 := (g_77.1 4 (by decide)).trans E4
                have H1 : σ_75.2.1 1 = σ.2.1 1 := (g_77.2.1 1 (by decide)).trans (congrFun E2 1)
                have H2 : σ_75.2.1 2 = σ.2.1 2 := (g_77.2.1 2 (by decide)).trans (congrFun E2 2)
                have H3 : σ_75.2.1 3 = σ.2.1 3 := (g_77.2.1 3 (by decide)).trans (congrFun E2 3)
                have H5 : σ_75.2.1 5 = σ.2.1 5 := (g_77.2.1 5 (by decide)).trans (congrFun E2 5)
                have H7 : σ_75.2.1 7 = σ.2.1 7 := (g_77.2.1 7 (by decide)).trans (congrFun E2 7)
                have H8 : σ_75.2.1 8 = σ.2.1 8 := (g_77.2.1 8 (by decide)).trans (congrFun E2 8)
                have K4 : σ_75.2.2 4 = σ.2.2 4 := (g_77.2.2 4 (by decide)).trans E3
                rw [G1, G4, H1, H2, H3, H7, H8, K4] at x_89
                have w_97 : fd_H (((σ_86.1 0).toInt = 0 → ∀ r w : Nat → Int64, fd_E (σ.2.1 1) (σ.2.1 2) (σ.2.1 3) r (σ.2.2 4) (σ.1 1).toNatClampNeg → (0 ≤ (fd_qa p1 p2 (σ.2.1 7)).toInt ∧ (fd_qa p1 p2 (σ.2.1 7)).toInt < (σ.1 1).toInt) → (0 ≤ (fd_qa p1 p2 (σ.2.1 8)).toInt ∧ (fd_qa p1 p2 (σ.2.1 8)).toInt < (σ.1 1).toInt) → fd_F (σ.2.1 1) (σ.2.1 2) (σ.2.1 3) (σ.2.2 4) (fd_qa p1 p2 (σ.2.1 7)).toNatClampNeg (fd_qr p1 (r (fd_qa p1 p2 (σ.2.1 7)).toNatClampNeg) (r (fd_qa p1 p2 (σ.2.1 8)).toNatClampNeg)) (fd_qa p1 p2 (σ.2.1 8)).toNatClampNeg (fd_qr p1 (r (fd_qa p1 p2 (σ.2.1 7)).toNatClampNeg) (r (fd_qa p1 p2 (σ.2.1 8)).toNatClampNeg)) w (σ.1 1).toNatClampNeg → (σ.2.1 5 p3.toNatClampNeg).toNatClampNeg < (σ.1 1).toNatClampNeg → ((σ_86.2.2 9 (σ_86.2.1 5 p3.toNatClampNeg).toNatClampNeg) ^^^ (σ_86.2.2 10 (σ_86.2.1 5 p3.toNatClampNeg).toNatClampNeg)) = (r (σ.2.1 5 p3.toNatClampNeg).toNatClampNeg ^^^ w (σ.2.1 5 p3.toNatClampNeg).toNatClampNeg) &&& fd_mk (σ.1 4))) := fd_hd (fun _ => fun r w hE ha hb hF ho => by
                                                              obtain ⟨u1, u2, u3⟩ := x_89 (by omega) r w (x_78 (by decide) r hE (fun i hi => absurd hi (Nat.not_lt_zero i))) ha hb hE.2.1 hF
                                                              rw [u3, H5, u1 _ ho, u2, x_78 (by decide) r hE (fun i hi => absurd hi (Nat.not_lt_zero i)) _ ho, fd_xm])
                exact fd_ok_some ⟨i_87, f_90, x_96, w_97⟩
      ·
        have d_98 : ¬ p1.toInt = (2 : Int32).toInt := fun q => c_5 (Int32.toInt_inj.mp q)
        refine fd_ok_ite (fun c_99 => ?_) (fun c_99 => ?_)
        ·
          have d_100 := congrArg Int32.toInt c_99
          try unfold f_X11_shows_0_J30
          refine fd_ok_bd ?_
          try unfold f_X11_isIn
          refine fd_ok_ite (fun c_101 => ?_) (fun c_101 => ?_)
          ·
            have d_102 := Int32.lt_iff_toInt_lt.mp c_101
            refine fd_ok_pb ?_
            refine fd_ok_itp (by decide) ?_
            try unfold f_X11_shows_0_J45
            try unfold f_X11_shows_0_J46
            refine fd_ok_itp (by decide) ?_
            try unfold f_X11_shows_0_J69
            try unfold f_X11_shows_0_J70
            refine fd_ok_lt (fun σ9_103 eσ9_103 => ?_)
            have i_104 : fd_InvM σ9_103 := fd_inv_sI eσ9_103 i0 (fd_rng _)
            have f_105 : fd_fr [0, 209, 210] σ σ9_103 := fd_fr_tr f0 (fd_fr_sI eσ9_103 (by decide))
            have t_106 : (σ9_103.1 0).toInt = (1 : Int32).toInt := congrArg Int32.toInt (fd_tI eσ9_103)
            have t_107 : (σ9_103.1 1).toInt = (σ.1 1).toInt := congrArg Int32.toInt (fd_tN eσ9_103 (by decide))
            have t_108 : (σ9_103.1 3).toInt = (σ.1 3).toInt := congrArg Int32.toInt (fd_tN eσ9_103 (by decide))
            have t_109 : (σ9_103.1 5).toInt = (σ.1 5).toInt := congrArg Int32.toInt (fd_tN eσ9_103 (by decide))
            have y_110 := fd_yIL (d := 10) eσ9_103 (rfl : σ.2.2 10 = _)
            have r_111 := fd_rng (σ9_103.1 0)
            refine fd_ok_itn (Int32.not_le.mpr (Int32.lt_iff_toInt_lt.mpr (by omega))) ?_
            have x_112 : (¬ (0 ≤ p1.toInt ∧ p1.toInt ≤ 3 ∧ 0 ≤ p2.toInt ∧ (1 < p1.toInt ∨ p2.toInt < (σ.1 1).toInt) ∧ (p1.toInt ≤ 1 ∨ p2.toInt < (σ.1 5).toInt) ∧ 0 ≤ p3.toInt ∧ p3.toInt < (σ.1 3).toInt) ∧ (σ9_103.1 0).toInt = 1) ∨ ((0 ≤ p1.toInt ∧ p1.toInt ≤ 3 ∧ 0 ≤ p2.toInt ∧ (1 < p1.toInt ∨ p2.toInt < (σ.1 1).toInt) ∧ (p1.toInt ≤ 1 ∨ p2.toInt < (σ.1 5).toInt) ∧ 0 ≤ p3.toInt ∧ p3.toInt < (σ.1 3).toInt) ∧ (σ9_103.1 0).toInt = 0) := by omega
            have w_113 : fd_H (((σ9_103.1 0).toInt = 0 → ∀ r w : Nat → Int64, fd_E (σ.2.1 1) (σ.2.1 2) (σ.2.1 3) r (σ.2.2 4) (σ.1 1).toNatClampNeg → (0 ≤ (fd_qa p1 p2 (σ.2.1 7)).toInt ∧ (fd_qa p1 p2 (σ.2.1 7)).toInt < (σ.1 1).toInt) → (0 ≤ (fd_qa p1 p2 (σ.2.1 8)).toInt ∧ (fd_qa p1 p2 (σ.2.1 8)).toInt < (σ.1 1).toInt) → fd_F (σ.2.1 1) (σ.2.1 2) (σ.2.1 3) (σ.2.2 4) (fd_qa p1 p2 (σ.2.1 7)).toNatClampNeg (fd_qr p1 (r (fd_qa p1 p2 (σ.2.1 7)).toNatClampNeg) (r (fd_qa p1 p2 (σ.2.1 8)).toNatClampNeg)) (fd_qa p1 p2 (σ.2.1 8)).toNatClampNeg (fd_qr p1 (r (fd_qa p1 p2 (σ.2.1 7)).toNatClampNeg) (r (fd_qa p1 p2 (σ.2.1 8)).toNatClampNeg)) w (σ.1 1).toNatClampNeg → (σ.2.1 5 p3.toNatClampNeg).toNatClampNeg < (σ.1 1).toNatClampNeg → (0 : Int64) = (r (σ.2.1 5 p3.toNatClampNeg).toNatClampNeg ^^^ w (σ.2.1 5 p3.toNatClampNeg).toNatClampNeg) &&& fd_mk (σ.1 4))) := fd_hd (fun h => absurd h (by omega))
            exact fd_ok_some ⟨i_104, f_105, x_112, w_113⟩
          ·
            have d_114 := Int32.le_iff_toInt_le.mp (Int32.not_lt.mp c_101)
            have r_115 : (0 : Int) ≤ (σ.1 5).toInt ∧ (σ.1 5).toInt ≤ 40 := i0.1 5
            refine fd_ok_ite (fun c_116 => ?_) (fun c_116 => ?_)
            ·
              have d_117 := Int32.le_iff_toInt_le.mp c_116
              refine fd_ok_pb ?_
              refine fd_ok_itp (by decide) ?_
              try unfold f_X11_shows_0_J45
              try unfold f_X11_shows_0_J46
              refine fd_ok_itp (by decide) ?_
              try unfold f_X11_shows_0_J69
              try unfold f_X11_shows_0_J70
              refine fd_ok_lt (fun σ9_118 eσ9_118 => ?_)
              have i_119 : fd_InvM σ9_118 := fd_inv_sI eσ9_118 i0 (fd_rng _)
              have f_120 : fd_fr [0, 209, 210] σ σ9_118 := fd_fr_tr f0 (fd_fr_sI eσ9_118 (by decide))
              have t_121 : (σ9_118.1 0).toInt = (1 : Int32).toInt := congrArg Int32.toInt (fd_tI eσ9_118)
              have t_122 : (σ9_118.1 1).toInt = (σ.1 1).toInt := congrArg Int32.toInt (fd_tN eσ9_118 (by decide))
              have t_123 : (σ9_118.1 3).toInt = (σ.1 3).toInt := congrArg Int32.toInt (fd_tN eσ9_118 (by decide))
              have t_124 : (σ9_118.1 5).toInt = (σ.1 5).toInt := congrArg Int32.toInt (fd_tN eσ9_118 (by decide))
              have y_125 := fd_yIL (d := 10) eσ9_118 (rfl : σ.2.2 10 = _)
              have r_126 := fd_rng (σ9_118.1 0)
              refine fd_ok_itn (Int32.not_le.mpr (Int32.lt_iff_toInt_lt.mpr (by omega))) ?_
              have x_127 : (¬ (0 ≤ p1.toInt ∧ p1.toInt ≤ 3 ∧ 0 ≤ p2.toInt ∧ (1 < p1.toInt ∨ p2.toInt < (σ.1 1).toInt) ∧ (p1.toInt ≤ 1 ∨ p2.toInt < (σ.1 5).toInt) ∧ 0 ≤ p3.toInt ∧ p3.toInt < (σ.1 3).toInt) ∧ (σ9_118.1 0).toInt = 1) ∨ ((0 ≤ p1.toInt ∧ p1.toInt ≤ 3 ∧ 0 ≤ p2.toInt ∧ (1 < p1.toInt ∨ p2.toInt < (σ.1 1).toInt) ∧ (p1.toInt ≤ 1 ∨ p2.toInt < (σ.1 5).toInt) ∧ 0 ≤ p3.toInt ∧ p3.toInt < (σ.1 3).toInt) ∧ (σ9_118.1 0).toInt = 0) := by omega
              have w_128 : fd_H (((σ9_118.1 0).toInt = 0 → ∀ r w : Nat → Int64, fd_E (σ.2.1 1) (σ.2.1 2) (σ.2.1 3) r (σ.2.2 4) (σ.1 1).toNatClampNeg → (0 ≤ (fd_qa p1 p2 (σ.2.1 7)).toInt ∧ (fd_qa p1 p2 (σ.2.1 7)).toInt < (σ.1 1).toInt) → (0 ≤ (fd_qa p1 p2 (σ.2.1 8)).toInt ∧ (fd_qa p1 p2 (σ.2.1 8)).toInt < (σ.1 1).toInt) → fd_F (σ.2.1 1) (σ.2.1 2) (σ.2.1 3) (σ.2.2 4) (fd_qa p1 p2 (σ.2.1 7)).toNatClampNeg (fd_qr p1 (r (fd_qa p1 p2 (σ.2.1 7)).toNatClampNeg) (r (fd_qa p1 p2 (σ.2.1 8)).toNatClampNeg)) (fd_qa p1 p2 (σ.2.1 8)).toNatClampNeg (fd_qr p1 (r (fd_qa p1 p2 (σ.2.1 7)).toNatClampNeg) (r (fd_qa p1 p2 (σ.2.1 8)).toNatClampNeg)) w (σ.1 1).toNatClampNeg → (σ.2.1 5 p3.toNatClampNeg).toNatClampNeg < (σ.1 1).toNatClampNeg → (0 : Int64) = (r (σ.2.1 5 p3.toNatClampNeg).toNatClampNeg ^^^ w (σ.2.1 5 p3.toNatClampNeg).toNatClampNeg) &&& fd_mk (σ.1 4))) := fd_hd (fun h => absurd h (by omega))
              exact fd_ok_some ⟨i_119, f_120, x_127, w_128⟩
            ·
              have d_129 := Int32.lt_iff_toInt_lt.mp (Int32.not_le.mp c_116)
              refine fd_ok_pb ?_
              refine fd_ok_itn (by decide) ?_
              try unfold f_X11_shows_0_J41
              try unfold f_X11_shows_0_J46
              refine fd_ok_itn (by decide) ?_
              refine fd_ok_bd ?_
              try unfold f_X11_isIn
              refine fd_ok_ite (fun c_130 => ?_) (fun c_130 => ?_)
              ·
                have d_131 := Int32.lt_iff_toInt_lt.mp c_130
                refine fd_ok_pb ?_
                refine fd_ok_itp (by decide) ?_
                try unfold f_X11_shows_0_J69
                try unfold f_X11_shows_0_J70
                refine fd_ok_lt (fun σ9_132 eσ9_132 => ?_)
                have i_133 : fd_InvM σ9_132 := fd_inv_sI eσ9_132 i0 (fd_rng _)
                have f_134 : fd_fr [0, 209, 210] σ σ9_132 := fd_fr_tr f0 (fd_fr_sI eσ9_132 (by decide))
                have t_135 : (σ9_132.1 0).toInt = (1 : Int32).toInt := congrArg Int32.toInt (fd_tI eσ9_132)
                have t_136 : (σ9_132.1 1).toInt = (σ.1 1).toInt := congrArg Int32.toInt (fd_tN eσ9_132 (by decide))
                have t_137 : (σ9_132.1 3).toInt = (σ.1 3).toInt := congrArg Int32.toInt (fd_tN eσ9_132 (by decide))
                have t_138 : (σ9_132.1 5).toInt = (σ.1 5).toInt := congrArg Int32.toInt (fd_tN eσ9_132 (by decide))
                have y_139 := fd_yIL (d := 10) eσ9_132 (rfl : σ.2.2 10 = _)
                have r_140 := fd_rng (σ9_132.1 0)
                refine fd_ok_itn (Int32.not_le.mpr (Int32.lt_iff_toInt_lt.mpr (by omega))) ?_
                have x_141 : (¬ (0 ≤ p1.toInt ∧ p1.toInt ≤ 3 ∧ 0 ≤ p2.toInt ∧ (1 < p1.toInt ∨ p2.toInt < (σ.1 1).toInt) ∧ (p1.toInt ≤ 1 ∨ p2.toInt < (σ.1 5).toInt) ∧ 0 ≤ p3.toInt ∧ p3.toInt < (σ.1 3).toInt) ∧ (σ9_132.1 0).toInt = 1) ∨ ((0 ≤ p1.toInt ∧ p1.toInt ≤ 3 ∧ 0 ≤ p2.toInt ∧ (1 < p1.toInt ∨ p2.toInt < (σ.1 1).toInt) ∧ (p1.toInt ≤ 1 ∨ p2.toInt < (σ.1 5).toInt) ∧ 0 ≤ p3.toInt ∧ p3.toInt < (σ.1 3).toInt) ∧ (σ9_132.1 0).toInt = 0) := by omega
                have w_142 : fd_H (((σ9_132.1 0).toInt = 0 → ∀ r w : Nat → Int64, fd_E (σ.2.1 1) (σ.2.1 2) (σ.2.1 3) r (σ.2.2 4) (σ.1 1).toNatClampNeg → (0 ≤ (fd_qa p1 p2 (σ.2.1 7)).toInt ∧ (fd_qa p1 p2 (σ.2.1 7)).toInt < (σ.1 1).toInt) → (0 ≤ (fd_qa p1 p2 (σ.2.1 8)).toInt ∧ (fd_qa p1 p2 (σ.2.1 8)).toInt < (σ.1 1).toInt) → fd_F (σ.2.1 1) (σ.2.1 2) (σ.2.1 3) (σ.2.2 4) (fd_qa p1 p2 (σ.2.1 7)).toNatClampNeg (fd_qr p1 (r (fd_qa p1 p2 (σ.2.1 7)).toNatClampNeg) (r (fd_qa p1 p2 (σ.2.1 8)).toNatClampNeg)) (fd_qa p1 p2 (σ.2.1 8)).toNatClampNeg (fd_qr p1 (r (fd_qa p1 p2 (σ.2.1 7)).toNatClampNeg) (r (fd_qa p1 p2 (σ.2.1 8)).toNatClampNeg)) w (σ.1 1).toNatClampNeg → (σ.2.1 5 p3.toNatClampNeg).toNatClampNeg < (σ.1 1).toNatClampNeg → (0 : Int64) = (r (σ.2.1 5 p3.toNatClampNeg).toNatClampNeg ^^^ w (σ.2.1 5 p3.toNatClampNeg).toNatClampNeg) &&& fd_mk (σ.1 4))) := fd_hd (fun h => absurd h (by omega))
                exact fd_ok_some ⟨i_133, f_134, x_141, w_142⟩
              ·
                have d_143 := Int32.le_iff_toInt_le.mp (Int32.not_lt.mp c_130)
                have r_144 : (0 : Int) ≤ (σ.1 3).toInt ∧ (σ.1 3).toInt ≤ 32 := i0.1 3
                refine fd_ok_ite (fun c_145 => ?_) (fun c_145 => ?_)
                ·
                  have d_146 := Int32.le_iff_toInt_le.mp c_145
                  refine fd_ok_pb ?_
                  refine fd_ok_itp (by decide) ?_
                  try unfold f_X11_shows_0_J69
                  try unfold f_X11_shows_0_J70
                  refine fd_ok_lt (fun σ9_147 eσ9_147 => ?_)
                  have i_148 : fd_InvM σ9_147 := fd_inv_sI eσ9_147 i0 (fd_rng _)
                  have f_149 : fd_fr [0, 209, 210] σ σ9_147 := fd_fr_tr f0 (fd_fr_sI eσ9_147 (by decide))
                  have t_150 : (σ9_147.1 0).toInt = (1 : Int32).toInt := congrArg Int32.toInt (fd_tI eσ9_147)
                  have t_151 : (σ9_147.1 1).toInt = (σ.1 1).toInt := congrArg Int32.toInt (fd_tN eσ9_147 (by decide))
                  have t_152 : (σ9_147.1 3).toInt = (σ.1 3).toInt := congrArg Int32.toInt (fd_tN eσ9_147 (by decide))
                  have t_153 : (σ9_147.1 5).toInt = (σ.1 5).toInt := congrArg Int32.toInt (fd_tN eσ9_147 (by decide))
                  have y_154 := fd_yIL (d := 10) eσ9_147 (rfl : σ.2.2 10 = _)
                  have r_155 := fd_rng (σ9_147.1 0)
                  refine fd_ok_itn (Int32.not_le.mpr (Int32.lt_iff_toInt_lt.mpr (by omega))) ?_
                  have x_156 : (¬ (0 ≤ p1.toInt ∧ p1.toInt ≤ 3 ∧ 0 ≤ p2.toInt ∧ (1 < p1.toInt ∨ p2.toInt < (σ.1 1).toInt) ∧ (p1.toInt ≤ 1 ∨ p2.toInt < (σ.1 5).toInt) ∧ 0 ≤ p3.toInt ∧ p3.toInt < (σ.1 3).toInt) ∧ (σ9_147.1 0).toInt = 1) ∨ ((0 ≤ p1.toInt ∧ p1.toInt ≤ 3 ∧ 0 ≤ p2.toInt ∧ (1 < p1.toInt ∨ p2.toInt < (σ.1 1).toInt) ∧ (p1.toInt ≤ 1 ∨ p2.toInt < (σ.1 5).toInt) ∧ 0 ≤ p3.toInt ∧ p3.toInt < (σ.1 3).toInt) ∧ (σ9_147.1 0).toInt = 0) := by omega
                  have w_157 : fd_H (((σ9_147.1 0).toInt = 0 → ∀ r w : Nat → Int64, fd_E (σ.2.1 1) (σ.2.1 2) (σ.2.1 3) r (σ.2.2 4) (σ.1 1).toNatClampNeg → (0 ≤ (fd_qa p1 p2 (σ.2.1 7)).toInt ∧ (fd_qa p1 p2 (σ.2.1 7)).toInt < (σ.1 1).toInt) → (0 ≤ (fd_qa p1 p2 (σ.2.1 8)).toInt ∧ (fd_qa p1 p2 (σ.2.1 8)).toInt < (σ.1 1).toInt) → fd_F (σ.2.1 1) (σ.2.1 2) (σ.2.1 3) (σ.2.2 4) (fd_qa p1 p2 (σ.2.1 7)).toNatClampNeg (fd_qr p1 (r (fd_qa p1 p2 (σ.2.1 7)).toNatClampNeg) (r (fd_qa p1 p2 (σ.2.1 8)).toNatClampNeg)) (fd_qa p1 p2 (σ.2.1 8)).toNatClampNeg (fd_qr p1 (r (fd_qa p1 p2 (σ.2.1 7)).toNatClampNeg) (r (fd_qa p1 p2 (σ.2.1 8)).toNatClampNeg)) w (σ.1 1).toNatClampNeg → (σ.2.1 5 p3.toNatClampNeg).toNatClampNeg < (σ.1 1).toNatClampNeg → (0 : Int64) = (r (σ.2.1 5 p3.toNatClampNeg).toNatClampNeg ^^^ w (σ.2.1 5 p3.toNatClampNeg).toNatClampNeg) &&& fd_mk (σ.1 4))) := fd_hd (fun h => absurd h (by omega))
                  exact fd_ok_some ⟨i_148, f_149, x_156, w_157⟩
                ·
                  have d_158 := Int32.lt_iff_toInt_lt.mp (Int32.not_le.mp c_145)
                  refine fd_ok_pb ?_
                  refine fd_ok_itn (by decide) ?_
                  try unfold f_X11_shows_0_J70
                  refine fd_ok_lt (fun σ9_159 eσ9_159 => ?_)
                  have i_160 : fd_InvM σ9_159 := fd_inv_sI eσ9_159 i0 (fd_rng _)
                  have f_161 : fd_fr [0, 209, 210] σ σ9_159 := fd_fr_tr f0 (fd_fr_sI eσ9_159 (by decide))
                  have t_162 : (σ9_159.1 0).toInt = (0 : Int32).toInt := congrArg Int32.toInt (fd_tI eσ9_159)
                  have t_163 : (σ9_159.1 1).toInt = (σ.1 1).toInt := congrArg Int32.toInt (fd_tN eσ9_159 (by decide))
                  have t_164 : (σ9_159.1 3).toInt = (σ.1 3).toInt := congrArg Int32.toInt (fd_tN eσ9_159 (by decide))
                  have t_165 : (σ9_159.1 5).toInt = (σ.1 5).toInt := congrArg Int32.toInt (fd_tN eσ9_159 (by decide))
                  have y_166 := fd_yIL (d := 10) eσ9_159 (rfl : σ.2.2 10 = _)
                  have r_167 := fd_rng (σ9_159.1 0)
                  refine fd_ok_itp (Int32.le_iff_toInt_le.mpr (by omega)) ?_
                  refine fd_ok_bd ?_
                  try unfold f_X11_workPlain_0
                  refine fd_ok_cl (s_X11_workPlain_0_L2 N hN N _ _ i_160 (by omega) (by omega) (by omega)) ?_
                  rintro v_168 σ_169 ⟨i_170, g_171, x_172⟩
                  have f_173 : fd_fr [0, 209, 210] σ σ_169 := fd_fr_tr f_161 (fd_fr_mono g_171 (by decide))
                  have y_174 := (g_171.2.2 10 (by decide)).trans y_166
                  have t_175 : (σ_169.1 0).toInt = (σ9_159.1 0).toInt := congrArg Int32.toInt (g_171.1 0 (by decide))
                  have t_176 : (σ_169.1 1).toInt = (σ9_159.1 1).toInt := congrArg Int32.toInt (g_171.1 1 (by decide))
                  have t_177 : (σ_169.1 3).toInt = (σ9_159.1 3).toInt := congrArg Int32.toInt (g_171.1 3 (by decide))
                  have t_178 : (σ_169.1 5).toInt = (σ9_159.1 5).toInt := congrArg Int32.toInt (g_171.1 5 (by decide))
                  refine fd_ok_bd ?_
                  refine fd_ok_cl (s_X11_workFault_0 N hN _ _ _ i_170 (by omega)) ?_
                  rintro v_179 σ_180 ⟨i_181, g_182, x_183⟩
                  have f_184 : fd_fr [0, 209, 210] σ σ_180 := fd_fr_tr f_173 (fd_fr_mono g_182 (by decide))
                  have t_185 : (σ_180.1 0).toInt = (σ_169.1 0).toInt := congrArg Int32.toInt (g_182.1 0 (by decide))
                  have t_186 : (σ_180.1 1).toInt = (σ_169.1 1).toInt := congrArg Int32.toInt (g_182.1 1 (by decide))
                  have t_187 : (σ_180.1 3).toInt = (σ_169.1 3).toInt := congrArg Int32.toInt (g_182.1 3 (by decide))
                  have t_188 : (σ_180.1 5).toInt = (σ_169.1 5).toInt := congrArg Int32.toInt (g_182.1 5 (by decide))
                  refine fd_ok_gd (vp_in_iff.mpr ⟨by omega, by omega⟩) ?_
                  have r_189 : (0 : Int) ≤ (σ_180.2.1 5 p3.toNatClampNeg).toInt ∧ (σ_180.2.1 5 p3.toNatClampNeg).toInt ≤ 199 := i_181.2.1 5 _
                  refine fd_ok_gd (vp_in_iff.mpr ⟨by omega, by omega⟩) ?_
                  refine fd_ok_gd (vp_in_iff.mpr ⟨by omega, by omega⟩) ?_
                  refine fd_ok_gd (vp_in_iff.mpr ⟨by omega, by omega⟩) ?_
                  have x_190 : (¬ (0 ≤ p1.toInt ∧ p1.toInt ≤ 3 ∧ 0 ≤ p2.toInt ∧ (1 < p1.toInt ∨ p2.toInt < (σ.1 1).toInt) ∧ (p1.toInt ≤ 1 ∨ p2.toInt < (σ.1 5).toInt) ∧ 0 ≤ p3.toInt ∧ p3.toInt < (σ.1 3).toInt) ∧ (σ_180.1 0).toInt = 1) ∨ ((0 ≤ p1.toInt ∧ p1.toInt ≤ 3 ∧ 0 ≤ p2.toInt ∧ (1 < p1.toInt ∨ p2.toInt < (σ.1 1).toInt) ∧ (p1.toInt ≤ 1 ∨ p2.toInt < (σ.1 5).toInt) ∧ 0 ≤ p3.toInt ∧ p3.toInt < (σ.1 3).toInt) ∧ (σ_180.1 0).toInt = 0) := by omega
                  have E1 : σ9_159.1 1 = σ.1 1 := fd_tN eσ9_159 (by decide)
                  have E4 : σ9_159.1 4 = σ.1 4 := fd_tN eσ9_159 (by decide)
                  have E2 : σ9_159.2.1 = σ.2.1 := by subst eσ9_159; rfl
                  have E3 : σ9_159.2.2 4 = σ.2.2 4 := by subst eσ9_159; rfl
                  have E0 : (0 : Int32).toNatClampNeg = 0 := by decide
                  rw [E2, E3, E1, E4, E0] at x_172
                  have G1 : σ_169.1 1 = σ.1 1 := (g_171.1 1 (by decide)).trans E1
                  have G4 : σ_169.1 4 = σ.1 4 := (g_171.1 4 (by decide)).trans E4
                  have H1 : σ_169.2.1 1 = σ.2.1 1 := (g_171.2.1 1 (by decide)).trans (congrFun E2 1)
                  have H2 : σ_169.2.1 2 = σ.2.1 2 := (g_171.2.1 2 (by decide)).trans (congrFun E2 2)
                  have H3 : σ_169.2.1 3 = σ.2.1 3 := (g_171.2.1 3 (by decide)).trans (congrFun E2 3)
                  have H5 : σ_169.2.1 5 = σ.2.1 5 := (g_171.2.1 5 (by decide)).trans (congrFun E2 5)
                  have H7 : σ_169.2.1 7 = σ.2.1 7 := (g_171.2.1 7 (by decide)).trans (congrFun E2 7)
                  have H8 : σ_169.2.1 8 = σ.2.1 8 := (g_171.2.1 8 (by decide)).trans (congrFun E2 8)
                  have K4 : σ_169.2.2 4 = σ.2.2 4 := (g_171.2.2 4 (by decide)).trans E3
                  rw [G1, G4, H1, H2, H3, H7, H8, K4] at x_183
                  have w_191 : fd_H (((σ_180.1 0).toInt = 0 → ∀ r w : Nat → Int64, fd_E (σ.2.1 1) (σ.2.1 2) (σ.2.1 3) r (σ.2.2 4) (σ.1 1).toNatClampNeg → (0 ≤ (fd_qa p1 p2 (σ.2.1 7)).toInt ∧ (fd_qa p1 p2 (σ.2.1 7)).toInt < (σ.1 1).toInt) → (0 ≤ (fd_qa p1 p2 (σ.2.1 8)).toInt ∧ (fd_qa p1 p2 (σ.2.1 8)).toInt < (σ.1 1).toInt) → fd_F (σ.2.1 1) (σ.2.1 2) (σ.2.1 3) (σ.2.2 4) (fd_qa p1 p2 (σ.2.1 7)).toNatClampNeg (fd_qr p1 (r (fd_qa p1 p2 (σ.2.1 7)).toNatClampNeg) (r (fd_qa p1 p2 (σ.2.1 8)).toNatClampNeg)) (fd_qa p1 p2 (σ.2.1 8)).toNatClampNeg (fd_qr p1 (r (fd_qa p1 p2 (σ.2.1 7)).toNatClampNeg) (r (fd_qa p1 p2 (σ.2.1 8)).toNatClampNeg)) w (σ.1 1).toNatClampNeg → (σ.2.1 5 p3.toNatClampNeg).toNatClampNeg < (σ.1 1).toNatClampNeg → ((σ_180.2.2 9 (σ_180.2.1 5 p3.toNatClampNeg).toNatClampNeg) ^^^ (σ_180.2.2 10 (σ_180.2.1 5 p3.toNatClampNeg).toNatClampNeg)) = (r (σ.2.1 5 p3.toNatClampNeg).toNatClampNeg ^^^ w (σ.2.1 5 p3.toNatClampNeg).toNatClampNeg) &&& fd_mk (σ.1 4))) := fd_hd (fun _ => fun r w hE ha hb hF ho => by
                                                              obtain ⟨u1, u2, u3⟩ := x_183 (by omega) r w (x_172 (by decide) r hE (fun i hi => absurd hi (Nat.not_lt_zero i))) ha hb hE.2.1 hF
                                                              rw [u3, H5, u1 _ ho, u2, x_172 (by decide) r hE (fun i hi => absurd hi (Nat.not_lt_zero i)) _ ho, fd_xm])
                  exact fd_ok_some ⟨i_181, f_184, x_190, w_191⟩
        ·
          have d_192 : ¬ p1.toInt = (3 : Int32).toInt := fun q => c_99 (Int32.toInt_inj.mp q)
          try unfold f_X11_shows_0_J45
          try unfold f_X11_shows_0_J46
          refine fd_ok_itp (by decide) ?_
          try unfold f_X11_shows_0_J69
          try unfold f_X11_shows_0_J70
          refine fd_ok_lt (fun σ9_193 eσ9_193 => ?_)
          have i_194 : fd_InvM σ9_193 := fd_inv_sI eσ9_193 i0 (fd_rng _)
          have f_195 : fd_fr [0, 209, 210] σ σ9_193 := fd_fr_tr f0 (fd_fr_sI eσ9_193 (by decide))
          have t_196 : (σ9_193.1 0).toInt = (1 : Int32).toInt := congrArg Int32.toInt (fd_tI eσ9_193)
          have t_197 : (σ9_193.1 1).toInt = (σ.1 1).toInt := congrArg Int32.toInt (fd_tN eσ9_193 (by decide))
          have t_198 : (σ9_193.1 3).toInt = (σ.1 3).toInt := congrArg Int32.toInt (fd_tN eσ9_193 (by decide))
          have t_199 : (σ9_193.1 5).toInt = (σ.1 5).toInt := congrArg Int32.toInt (fd_tN eσ9_193 (by decide))
          have y_200 := fd_yIL (d := 10) eσ9_193 (rfl : σ.2.2 10 = _)
          have r_201 := fd_rng (σ9_193.1 0)
          refine fd_ok_itn (Int32.not_le.mpr (Int32.lt_iff_toInt_lt.mpr (by omega))) ?_
          have x_202 : (¬ (0 ≤ p1.toInt ∧ p1.toInt ≤ 3 ∧ 0 ≤ p2.toInt ∧ (1 < p1.toInt ∨ p2.toInt < (σ.1 1).toInt) ∧ (p1.toInt ≤ 1 ∨ p2.toInt < (σ.1 5).toInt) ∧ 0 ≤ p3.toInt ∧ p3.toInt < (σ.1 3).toInt) ∧ (σ9_193.1 0).toInt = 1) ∨ ((0 ≤ p1.toInt ∧ p1.toInt ≤ 3 ∧ 0 ≤ p2.toInt ∧ (1 < p1.toInt ∨ p2.toInt < (σ.1 1).toInt) ∧ (p1.toInt ≤ 1 ∨ p2.toInt < (σ.1 5).toInt) ∧ 0 ≤ p3.toInt ∧ p3.toInt < (σ.1 3).toInt) ∧ (σ9_193.1 0).toInt = 0) := by omega
          have w_203 : fd_H (((σ9_193.1 0).toInt = 0 → ∀ r w : Nat → Int64, fd_E (σ.2.1 1) (σ.2.1 2) (σ.2.1 3) r (σ.2.2 4) (σ.1 1).toNatClampNeg → (0 ≤ (fd_qa p1 p2 (σ.2.1 7)).toInt ∧ (fd_qa p1 p2 (σ.2.1 7)).toInt < (σ.1 1).toInt) → (0 ≤ (fd_qa p1 p2 (σ.2.1 8)).toInt ∧ (fd_qa p1 p2 (σ.2.1 8)).toInt < (σ.1 1).toInt) → fd_F (σ.2.1 1) (σ.2.1 2) (σ.2.1 3) (σ.2.2 4) (fd_qa p1 p2 (σ.2.1 7)).toNatClampNeg (fd_qr p1 (r (fd_qa p1 p2 (σ.2.1 7)).toNatClampNeg) (r (fd_qa p1 p2 (σ.2.1 8)).toNatClampNeg)) (fd_qa p1 p2 (σ.2.1 8)).toNatClampNeg (fd_qr p1 (r (fd_qa p1 p2 (σ.2.1 7)).toNatClampNeg) (r (fd_qa p1 p2 (σ.2.1 8)).toNatClampNeg)) w (σ.1 1).toNatClampNeg → (σ.2.1 5 p3.toNatClampNeg).toNatClampNeg < (σ.1 1).toNatClampNeg → (0 : Int64) = (r (σ.2.1 5 p3.toNatClampNeg).toNatClampNeg ^^^ w (σ.2.1 5 p3.toNatClampNeg).toNatClampNeg) &&& fd_mk (σ.1 4))) := fd_hd (fun h => absurd h (by omega))
          exact fd_ok_some ⟨i_194, f_195, x_202, w_203⟩
    ·
      have d_204 := Int32.le_iff_toInt_le.mp (Int32.not_lt.mp c_3)
      have r_205 : (0 : Int) ≤ (σ.1 1).toInt ∧ (σ.1 1).toInt ≤ 200 := i0.1 1
      refine fd_ok_ite (fun c_206 => ?_) (fun c_206 => ?_)
      ·
        have d_207 := Int32.le_iff_toInt_le.mp c_206
        refine fd_ok_pb ?_
        refine fd_ok_itp (by decide) ?_
        try unfold f_X11_shows_0_J20
        refine fd_ok_ite (fun c_208 => ?_) (fun c_208 => ?_)
        ·
          have d_209 := congrArg Int32.toInt c_208
          try unfold f_X11_shows_0_J30
          refine fd_ok_bd ?_
          try unfold f_X11_isIn
          refine fd_ok_ite (fun c_210 => ?_) (fun c_210 => ?_)
          ·
            have d_211 := Int32.lt_iff_toInt_lt.mp c_210
            refine fd_ok_pb ?_
            refine fd_ok_itp (by decide) ?_
            try unfold f_X11_shows_0_J45
            try unfold f_X11_shows_0_J46
            refine fd_ok_itp (by decide) ?_
            try unfold f_X11_shows_0_J69
            try unfold f_X11_shows_0_J70
            refine fd_ok_lt (fun σ9_212 eσ9_212 => ?_)
            have i_213 : fd_InvM σ9_212 := fd_inv_sI eσ9_212 i0 (fd_rng _)
            have f_214 : fd_fr [0, 209, 210] σ σ9_212 := fd_fr_tr f0 (fd_fr_sI eσ9_212 (by decide))
            have t_215 : (σ9_212.1 0).toInt = (1 : Int32).toInt := congrArg Int32.toInt (fd_tI eσ9_212)
            have t_216 : (σ9_212.1 1).toInt = (σ.1 1).toInt := congrArg Int32.toInt (fd_tN eσ9_212 (by decide))
            have t_217 : (σ9_212.1 3).toInt = (σ.1 3).toInt := congrArg Int32.toInt (fd_tN eσ9_212 (by decide))
            have t_218 : (σ9_212.1 5).toInt = (σ.1 5).toInt := congrArg Int32.toInt (fd_tN eσ9_212 (by decide))
            have y_219 := fd_yIL (d := 10) eσ9_212 (rfl : σ.2.2 10 = _)
            have r_220 := fd_rng (σ9_212.1 0)
            refine fd_ok_itn (Int32.not_le.mpr (Int32.lt_iff_toInt_lt.mpr (by omega))) ?_
            have x_221 : (¬ (0 ≤ p1.toInt ∧ p1.toInt ≤ 3 ∧ 0 ≤ p2.toInt ∧ (1 < p1.toInt ∨ p2.toInt < (σ.1 1).toInt) ∧ (p1.toInt ≤ 1 ∨ p2.toInt < (σ.1 5).toInt) ∧ 0 ≤ p3.toInt ∧ p3.toInt < (σ.1 3).toInt) ∧ (σ9_212.1 0).toInt = 1) ∨ ((0 ≤ p1.toInt ∧ p1.toInt ≤ 3 ∧ 0 ≤ p2.toInt ∧ (1 < p1.toInt ∨ p2.toInt < (σ.1 1).toInt) ∧ (p1.toInt ≤ 1 ∨ p2.toInt < (σ.1 5).toInt) ∧ 0 ≤ p3.toInt ∧ p3.toInt < (σ.1 3).toInt) ∧ (σ9_212.1 0).toInt = 0) := by omega
            have w_222 : fd_H (((σ9_212.1 0).toInt = 0 → ∀ r w : Nat → Int64, fd_E (σ.2.1 1) (σ.2.1 2) (σ.2.1 3) r (σ.2.2 4) (σ.1 1).toNatClampNeg → (0 ≤ (fd_qa p1 p2 (σ.2.1 7)).toInt ∧ (fd_qa p1 p2 (σ.2.1 7)).toInt < (σ.1 1).toInt) → (0 ≤ (fd_qa p1 p2 (σ.2.1 8)).toInt ∧ (fd_qa p1 p2 (σ.2.1 8)).toInt < (σ.1 1).toInt) → fd_F (σ.2.1 1) (σ.2.1 2) (σ.2.1 3) (σ.2.2 4) (fd_qa p1 p2 (σ.2.1 7)).toNatClampNeg (fd_qr p1 (r (fd_qa p1 p2 (σ.2.1 7)).toNatClampNeg) (r (fd_qa p1 p2 (σ.2.1 8)).toNatClampNeg)) (fd_qa p1 p2 (σ.2.1 8)).toNatClampNeg (fd_qr p1 (r (fd_qa p1 p2 (σ.2.1 7)).toNatClampNeg) (r (fd_qa p1 p2 (σ.2.1 8)).toNatClampNeg)) w (σ.1 1).toNatClampNeg → (σ.2.1 5 p3.toNatClampNeg).toNatClampNeg < (σ.1 1).toNatClampNeg → (0 : Int64) = (r (σ.2.1 5 p3.toNatClampNeg).toNatClampNeg ^^^ w (σ.2.1 5 p3.toNatClampNeg).toNatClampNeg) &&& fd_mk (σ.1 4))) := fd_hd (fun h => absurd h (by omega))
            exact fd_ok_some ⟨i_213, f_214, x_221, w_222⟩
          ·
            have d_223 := Int32.le_iff_toInt_le.mp (Int32.not_lt.mp c_210)
            have r_224 : (0 : Int) ≤ (σ.1 5).toInt ∧ (σ.1 5).toInt ≤ 40 := i0.1 5
            refine fd_ok_ite (fun c_225 => ?_) (fun c_225 => ?_)
            ·
              have d_226 := Int32.le_iff_toInt_le.mp c_225
              refine fd_ok_pb ?_
              refine fd_ok_itp (by decide) ?_
              try unfold f_X11_shows_0_J45
              try unfold f_X11_shows_0_J46
              refine fd_ok_itp (by decide) ?_
              try unfold f_X11_shows_0_J69
              try unfold f_X11_shows_0_J70
              refine fd_ok_lt (fun σ9_227 eσ9_227 => ?_)
              have i_228 : fd_InvM σ9_227 := fd_inv_sI eσ9_227 i0 (fd_rng _)
              have f_229 : fd_fr [0, 209, 210] σ σ9_227 := fd_fr_tr f0 (fd_fr_sI eσ9_227 (by decide))
              have t_230 : (σ9_227.1 0).toInt = (1 : Int32).toInt := congrArg Int32.toInt (fd_tI eσ9_227)
              have t_231 : (σ9_227.1 1).toInt = (σ.1 1).toInt := congrArg Int32.toInt (fd_tN eσ9_227 (by decide))
              have t_232 : (σ9_227.1 3).toInt = (σ.1 3).toInt := congrArg Int32.toInt (fd_tN eσ9_227 (by decide))
              have t_233 : (σ9_227.1 5).toInt = (σ.1 5).toInt := congrArg Int32.toInt (fd_tN eσ9_227 (by decide))
              have y_234 := fd_yIL (d := 10) eσ9_227 (rfl : σ.2.2 10 = _)
              have r_235 := fd_rng (σ9_227.1 0)
              refine fd_ok_itn (Int32.not_le.mpr (Int32.lt_iff_toInt_lt.mpr (by omega))) ?_
              have x_236 : (¬ (0 ≤ p1.toInt ∧ p1.toInt ≤ 3 ∧ 0 ≤ p2.toInt ∧ (1 < p1.toInt ∨ p2.toInt < (σ.1 1).toInt) ∧ (p1.toInt ≤ 1 ∨ p2.toInt < (σ.1 5).toInt) ∧ 0 ≤ p3.toInt ∧ p3.toInt < (σ.1 3).toInt) ∧ (σ9_227.1 0).toInt = 1) ∨ ((0 ≤ p1.toInt ∧ p1.toInt ≤ 3 ∧ 0 ≤ p2.toInt ∧ (1 < p1.toInt ∨ p2.toInt < (σ.1 1).toInt) ∧ (p1.toInt ≤ 1 ∨ p2.toInt < (σ.1 5).toInt) ∧ 0 ≤ p3.toInt ∧ p3.toInt < (σ.1 3).toInt) ∧ (σ9_227.1 0).toInt = 0) := by omega
              have w_237 : fd_H (((σ9_227.1 0).toInt = 0 → ∀ r w : Nat → Int64, fd_E (σ.2.1 1) (σ.2.1 2) (σ.2.1 3) r (σ.2.2 4) (σ.1 1).toNatClampNeg → (0 ≤ (fd_qa p1 p2 (σ.2.1 7)).toInt ∧ (fd_qa p1 p2 (σ.2.1 7)).toInt < (σ.1 1).toInt) → (0 ≤ (fd_qa p1 p2 (σ.2.1 8)).toInt ∧ (fd_qa p1 p2 (σ.2.1 8)).toInt < (σ.1 1).toInt) → fd_F (σ.2.1 1) (σ.2.1 2) (σ.2.1 3) (σ.2.2 4) (fd_qa p1 p2 (σ.2.1 7)).toNatClampNeg (fd_qr p1 (r (fd_qa p1 p2 (σ.2.1 7)).toNatClampNeg) (r (fd_qa p1 p2 (σ.2.1 8)).toNatClampNeg)) (fd_qa p1 p2 (σ.2.1 8)).toNatClampNeg (fd_qr p1 (r (fd_qa p1 p2 (σ.2.1 7)).toNatClampNeg) (r (fd_qa p1 p2 (σ.2.1 8)).toNatClampNeg)) w (σ.1 1).toNatClampNeg → (σ.2.1 5 p3.toNatClampNeg).toNatClampNeg < (σ.1 1).toNatClampNeg → (0 : Int64) = (r (σ.2.1 5 p3.toNatClampNeg).toNatClampNeg ^^^ w (σ.2.1 5 p3.toNatClampNeg).toNatClampNeg) &&& fd_mk (σ.1 4))) := fd_hd (fun h => absurd h (by omega))
              exact fd_ok_some ⟨i_228, f_229, x_236, w_237⟩
            ·
              have d_238 := Int32.lt_iff_toInt_lt.mp (Int32.not_le.mp c_225)
              refine fd_ok_pb ?_
              refine fd_ok_itn (by decide) ?_
              try unfold f_X11_shows_0_J41
              try unfold f_X11_shows_0_J46
              refine fd_ok_itn (by decide) ?_
              refine fd_ok_bd ?_
              try unfold f_X11_isIn
              refine fd_ok_ite (fun c_239 => ?_) (fun c_239 => ?_)
              ·
                have d_240 := Int32.lt_iff_toInt_lt.mp c_239
                refine fd_ok_pb ?_
                refine fd_ok_itp (by decide) ?_
                try unfold f_X11_shows_0_J69
                try unfold f_X11_shows_0_J70
                refine fd_ok_lt (fun σ9_241 eσ9_241 => ?_)
                have i_242 : fd_InvM σ9_241 := fd_inv_sI eσ9_241 i0 (fd_rng _)
                have f_243 : fd_fr [0, 209, 210] σ σ9_241 := fd_fr_tr f0 (fd_fr_sI eσ9_241 (by decide))
                have t_244 : (σ9_241.1 0).toInt = (1 : Int32).toInt := congrArg Int32.toInt (fd_tI eσ9_241)
                have t_245 : (σ9_241.1 1).toInt = (σ.1 1).toInt := congrArg Int32.toInt (fd_tN eσ9_241 (by decide))
                have t_246 : (σ9_241.1 3).toInt = (σ.1 3).toInt := congrArg Int32.toInt (fd_tN eσ9_241 (by decide))
                have t_247 : (σ9_241.1 5).toInt = (σ.1 5).toInt := congrArg Int32.toInt (fd_tN eσ9_241 (by decide))
                have y_248 := fd_yIL (d := 10) eσ9_241 (rfl : σ.2.2 10 = _)
                have r_249 := fd_rng (σ9_241.1 0)
                refine fd_ok_itn (Int32.not_le.mpr (Int32.lt_iff_toInt_lt.mpr (by omega))) ?_
                have x_250 : (¬ (0 ≤ p1.toInt ∧ p1.toInt ≤ 3 ∧ 0 ≤ p2.toInt ∧ (1 < p1.toInt ∨ p2.toInt < (σ.1 1).toInt) ∧ (p1.toInt ≤ 1 ∨ p2.toInt < (σ.1 5).toInt) ∧ 0 ≤ p3.toInt ∧ p3.toInt < (σ.1 3).toInt) ∧ (σ9_241.1 0).toInt = 1) ∨ ((0 ≤ p1.toInt ∧ p1.toInt ≤ 3 ∧ 0 ≤ p2.toInt ∧ (1 < p1.toInt ∨ p2.toInt < (σ.1 1).toInt) ∧ (p1.toInt ≤ 1 ∨ p2.toInt < (σ.1 5).toInt) ∧ 0 ≤ p3.toInt ∧ p3.toInt < (σ.1 3).toInt) ∧ (σ9_241.1 0).toInt = 0) := by omega
                have w_251 : fd_H (((σ9_241.1 0).toInt = 0 → ∀ r w : Nat → Int64, fd_E (σ.2.1 1) (σ.2.1 2) (σ.2.1 3) r (σ.2.2 4) (σ.1 1).toNatClampNeg → (0 ≤ (fd_qa p1 p2 (σ.2.1 7)).toInt ∧ (fd_qa p1 p2 (σ.2.1 7)).toInt < (σ.1 1).toInt) → (0 ≤ (fd_qa p1 p2 (σ.2.1 8)).toInt ∧ (fd_qa p1 p2 (σ.2.1 8)).toInt < (σ.1 1).toInt) → fd_F (σ.2.1 1) (σ.2.1 2) (σ.2.1 3) (σ.2.2 4) (fd_qa p1 p2 (σ.2.1 7)).toNatClampNeg (fd_qr p1 (r (fd_qa p1 p2 (σ.2.1 7)).toNatClampNeg) (r (fd_qa p1 p2 (σ.2.1 8)).toNatClampNeg)) (fd_qa p1 p2 (σ.2.1 8)).toNatClampNeg (fd_qr p1 (r (fd_qa p1 p2 (σ.2.1 7)).toNatClampNeg) (r (fd_qa p1 p2 (σ.2.1 8)).toNatClampNeg)) w (σ.1 1).toNatClampNeg → (σ.2.1 5 p3.toNatClampNeg).toNatClampNeg < (σ.1 1).toNatClampNeg → (0 : Int64) = (r (σ.2.1 5 p3.toNatClampNeg).toNatClampNeg ^^^ w (σ.2.1 5 p3.toNatClampNeg).toNatClampNeg) &&& fd_mk (σ.1 4))) := fd_hd (fun h => absurd h (by omega))
                exact fd_ok_some ⟨i_242, f_243, x_250, w_251⟩
              ·
                have d_252 := Int32.le_iff_toInt_le.mp (Int32.not_lt.mp c_239)
                have r_253 : (0 : Int) ≤ (σ.1 3).toInt ∧ (σ.1 3).toInt ≤ 32 := i0.1 3
                refine fd_ok_ite (fun c_254 => ?_) (fun c_254 => ?_)
                ·
                  have d_255 := Int32.le_iff_toInt_le.mp c_254
                  refine fd_ok_pb ?_
                  refine fd_ok_itp (by decide) ?_
                  try unfold f_X11_shows_0_J69
                  try unfold f_X11_shows_0_J70
                  refine fd_ok_lt (fun σ9_256 eσ9_256 => ?_)
                  have i_257 : fd_InvM σ9_256 := fd_inv_sI eσ9_256 i0 (fd_rng _)
                  have f_258 : fd_fr [0, 209, 210] σ σ9_256 := fd_fr_tr f0 (fd_fr_sI eσ9_256 (by decide))
                  have t_259 : (σ9_256.1 0).toInt = (1 : Int32).toInt := congrArg Int32.toInt (fd_tI eσ9_256)
                  have t_260 : (σ9_256.1 1).toInt = (σ.1 1).toInt := congrArg Int32.toInt (fd_tN eσ9_256 (by decide))
                  have t_261 : (σ9_256.1 3).toInt = (σ.1 3).toInt := congrArg Int32.toInt (fd_tN eσ9_256 (by decide))
                  have t_262 : (σ9_256.1 5).toInt = (σ.1 5).toInt := congrArg Int32.toInt (fd_tN eσ9_256 (by decide))
                  have y_263 := fd_yIL (d := 10) eσ9_256 (rfl : σ.2.2 10 = _)
                  have r_264 := fd_rng (σ9_256.1 0)
                  refine fd_ok_itn (Int32.not_le.mpr (Int32.lt_iff_toInt_lt.mpr (by omega))) ?_
                  have x_265 : (¬ (0 ≤ p1.toInt ∧ p1.toInt ≤ 3 ∧ 0 ≤ p2.toInt ∧ (1 < p1.toInt ∨ p2.toInt < (σ.1 1).toInt) ∧ (p1.toInt ≤ 1 ∨ p2.toInt < (σ.1 5).toInt) ∧ 0 ≤ p3.toInt ∧ p3.toInt < (σ.1 3).toInt) ∧ (σ9_256.1 0).toInt = 1) ∨ ((0 ≤ p1.toInt ∧ p1.toInt ≤ 3 ∧ 0 ≤ p2.toInt ∧ (1 < p1.toInt ∨ p2.toInt < (σ.1 1).toInt) ∧ (p1.toInt ≤ 1 ∨ p2.toInt < (σ.1 5).toInt) ∧ 0 ≤ p3.toInt ∧ p3.toInt < (σ.1 3).toInt) ∧ (σ9_256.1 0).toInt = 0) := by omega
                  have w_266 : fd_H (((σ9_256.1 0).toInt = 0 → ∀ r w : Nat → Int64, fd_E (σ.2.1 1) (σ.2.1 2) (σ.2.1 3) r (σ.2.2 4) (σ.1 1).toNatClampNeg → (0 ≤ (fd_qa p1 p2 (σ.2.1 7)).toInt ∧ (fd_qa p1 p2 (σ.2.1 7)).toInt < (σ.1 1).toInt) → (0 ≤ (fd_qa p1 p2 (σ.2.1 8)).toInt ∧ (fd_qa p1 p2 (σ.2.1 8)).toInt < (σ.1 1).toInt) → fd_F (σ.2.1 1) (σ.2.1 2) (σ.2.1 3) (σ.2.2 4) (fd_qa p1 p2 (σ.2.1 7)).toNatClampNeg (fd_qr p1 (r (fd_qa p1 p2 (σ.2.1 7)).toNatClampNeg) (r (fd_qa p1 p2 (σ.2.1 8)).toNatClampNeg)) (fd_qa p1 p2 (σ.2.1 8)).toNatClampNeg (fd_qr p1 (r (fd_qa p1 p2 (σ.2.1 7)).toNatClampNeg) (r (fd_qa p1 p2 (σ.2.1 8)).toNatClampNeg)) w (σ.1 1).toNatClampNeg → (σ.2.1 5 p3.toNatClampNeg).toNatClampNeg < (σ.1 1).toNatClampNeg → (0 : Int64) = (r (σ.2.1 5 p3.toNatClampNeg).toNatClampNeg ^^^ w (σ.2.1 5 p3.toNatClampNeg).toNatClampNeg) &&& fd_mk (σ.1 4))) := fd_hd (fun h => absurd h (by omega))
                  exact fd_ok_some ⟨i_257, f_258, x_265, w_266⟩
                ·
                  have d_267 := Int32.lt_iff_toInt_lt.mp (Int32.not_le.mp c_254)
                  refine fd_ok_pb ?_
                  refine fd_ok_itn (by decide) ?_
                  try unfold f_X11_shows_0_J70
                  refine fd_ok_lt (fun σ9_268 eσ9_268 => ?_)
                  have i_269 : fd_InvM σ9_268 := fd_inv_sI eσ9_268 i0 (fd_rng _)
                  have f_270 : fd_fr [0, 209, 210] σ σ9_268 := fd_fr_tr f0 (fd_fr_sI eσ9_268 (by decide))
                  have t_271 : (σ9_268.1 0).toInt = (0 : Int32).toInt := congrArg Int32.toInt (fd_tI eσ9_268)
                  have t_272 : (σ9_268.1 1).toInt = (σ.1 1).toInt := congrArg Int32.toInt (fd_tN eσ9_268 (by decide))
                  have t_273 : (σ9_268.1 3).toInt = (σ.1 3).toInt := congrArg Int32.toInt (fd_tN eσ9_268 (by decide))
                  have t_274 : (σ9_268.1 5).toInt = (σ.1 5).toInt := congrArg Int32.toInt (fd_tN eσ9_268 (by decide))
                  have y_275 := fd_yIL (d := 10) eσ9_268 (rfl : σ.2.2 10 = _)
                  have r_276 := fd_rng (σ9_268.1 0)
                  refine fd_ok_itp (Int32.le_iff_toInt_le.mpr (by omega)) ?_
                  refine fd_ok_bd ?_
                  try unfold f_X11_workPlain_0
                  refine fd_ok_cl (s_X11_workPlain_0_L2 N hN N _ _ i_269 (by omega) (by omega) (by omega)) ?_
                  rintro v_277 σ_278 ⟨i_279, g_280, x_281⟩
                  have f_282 : fd_fr [0, 209, 210] σ σ_278 := fd_fr_tr f_270 (fd_fr_mono g_280 (by decide))
                  have y_283 := (g_280.2.2 10 (by decide)).trans y_275
                  have t_284 : (σ_278.1 0).toInt = (σ9_268.1 0).toInt := congrArg Int32.toInt (g_280.1 0 (by decide))
                  have t_285 : (σ_278.1 1).toInt = (σ9_268.1 1).toInt := congrArg Int32.toInt (g_280.1 1 (by decide))
                  have t_286 : (σ_278.1 3).toInt = (σ9_268.1 3).toInt := congrArg Int32.toInt (g_280.1 3 (by decide))
                  have t_287 : (σ_278.1 5).toInt = (σ9_268.1 5).toInt := congrArg Int32.toInt (g_280.1 5 (by decide))
                  refine fd_ok_bd ?_
                  refine fd_ok_cl (s_X11_workFault_0 N hN _ _ _ i_279 (by omega)) ?_
                  rintro v_288 σ_289 ⟨i_290, g_291, x_292⟩
                  have f_293 : fd_fr [0, 209, 210] σ σ_289 := fd_fr_tr f_282 (fd_fr_mono g_291 (by decide))
                  have t_294 : (σ_289.1 0).toInt = (σ_278.1 0).toInt := congrArg Int32.toInt (g_291.1 0 (by decide))
                  have t_295 : (σ_289.1 1).toInt = (σ_278.1 1).toInt := congrArg Int32.toInt (g_291.1 1 (by decide))
                  have t_296 : (σ_289.1 3).toInt = (σ_278.1 3).toInt := congrArg Int32.toInt (g_291.1 3 (by decide))
                  have t_297 : (σ_289.1 5).toInt = (σ_278.1 5).toInt := congrArg Int32.toInt (g_291.1 5 (by decide))
                  refine fd_ok_gd (vp_in_iff.mpr ⟨by omega, by omega⟩) ?_
                  have r_298 : (0 : Int) ≤ (σ_289.2.1 5 p3.toNatClampNeg).toInt ∧ (σ_289.2.1 5 p3.toNatClampNeg).toInt ≤ 199 := i_290.2.1 5 _
                  refine fd_ok_gd (vp_in_iff.mpr ⟨by omega, by omega⟩) ?_
                  refine fd_ok_gd (vp_in_iff.mpr ⟨by omega, by omega⟩) ?_
                  refine fd_ok_gd (vp_in_iff.mpr ⟨by omega, by omega⟩) ?_
                  have x_299 : (¬ (0 ≤ p1.toInt ∧ p1.toInt ≤ 3 ∧ 0 ≤ p2.toInt ∧ (1 < p1.toInt ∨ p2.toInt < (σ.1 1).toInt) ∧ (p1.toInt ≤ 1 ∨ p2.toInt < (σ.1 5).toInt) ∧ 0 ≤ p3.toInt ∧ p3.toInt < (σ.1 3).toInt) ∧ (σ_289.1 0).toInt = 1) ∨ ((0 ≤ p1.toInt ∧ p1.toInt ≤ 3 ∧ 0 ≤ p2.toInt ∧ (1 < p1.toInt ∨ p2.toInt < (σ.1 1).toInt) ∧ (p1.toInt ≤ 1 ∨ p2.toInt < (σ.1 5).toInt) ∧ 0 ≤ p3.toInt ∧ p3.toInt < (σ.1 3).toInt) ∧ (σ_289.1 0).toInt = 0) := by omega
                  have E1 : σ9_268.1 1 = σ.1 1 := fd_tN eσ9_268 (by decide)
                  have E4 : σ9_268.1 4 = σ.1 4 := fd_tN eσ9_268 (by decide)
                  have E2 : σ9_268.2.1 = σ.2.1 := by subst eσ9_268; rfl
                  have E3 : σ9_268.2.2 4 = σ.2.2 4 := by subst eσ9_268; rfl
                  have E0 : (0 : Int32).toNatClampNeg = 0 := by decide
                  rw [E2, E3, E1, E4, E0] at x_281
                  have G1 : σ_278.1 1 = σ.1 1 := (g_280.1 1 (by decide)).trans E1
                  have G4 : σ_278.1 4 = σ.1 4 := (g_280.1 4 (by decide)).trans E4
                  have H1 : σ_278.2.1 1 = σ.2.1 1 := (g_280.2.1 1 (by decide)).trans (congrFun E2 1)
                  have H2 : σ_278.2.1 2 = σ.2.1 2 := (g_280.2.1 2 (by decide)).trans (congrFun E2 2)
                  have H3 : σ_278.2.1 3 = σ.2.1 3 := (g_280.2.1 3 (by decide)).trans (congrFun E2 3)
                  have H5 : σ_278.2.1 5 = σ.2.1 5 := (g_280.2.1 5 (by decide)).trans (congrFun E2 5)
                  have H7 : σ_278.2.1 7 = σ.2.1 7 := (g_280.2.1 7 (by decide)).trans (congrFun E2 7)
                  have H8 : σ_278.2.1 8 = σ.2.1 8 := (g_280.2.1 8 (by decide)).trans (congrFun E2 8)
                  have K4 : σ_278.2.2 4 = σ.2.2 4 := (g_280.2.2 4 (by decide)).trans E3
                  rw [G1, G4, H1, H2, H3, H7, H8, K4] at x_292
                  have w_300 : fd_H (((σ_289.1 0).toInt = 0 → ∀ r w : Nat → Int64, fd_E (σ.2.1 1) (σ.2.1 2) (σ.2.1 3) r (σ.2.2 4) (σ.1 1).toNatClampNeg → (0 ≤ (fd_qa p1 p2 (σ.2.1 7)).toInt ∧ (fd_qa p1 p2 (σ.2.1 7)).toInt < (σ.1 1).toInt) → (0 ≤ (fd_qa p1 p2 (σ.2.1 8)).toInt ∧ (fd_qa p1 p2 (σ.2.1 8)).toInt < (σ.1 1).toInt) → fd_F (σ.2.1 1) (σ.2.1 2) (σ.2.1 3) (σ.2.2 4) (fd_qa p1 p2 (σ.2.1 7)).toNatClampNeg (fd_qr p1 (r (fd_qa p1 p2 (σ.2.1 7)).toNatClampNeg) (r (fd_qa p1 p2 (σ.2.1 8)).toNatClampNeg)) (fd_qa p1 p2 (σ.2.1 8)).toNatClampNeg (fd_qr p1 (r (fd_qa p1 p2 (σ.2.1 7)).toNatClampNeg) (r (fd_qa p1 p2 (σ.2.1 8)).toNatClampNeg)) w (σ.1 1).toNatClampNeg → (σ.2.1 5 p3.toNatClampNeg).toNatClampNeg < (σ.1 1).toNatClampNeg → ((σ_289.2.2 9 (σ_289.2.1 5 p3.toNatClampNeg).toNatClampNeg) ^^^ (σ_289.2.2 10 (σ_289.2.1 5 p3.toNatClampNeg).toNatClampNeg)) = (r (σ.2.1 5 p3.toNatClampNeg).toNatClampNeg ^^^ w (σ.2.1 5 p3.toNatClampNeg).toNatClampNeg) &&& fd_mk (σ.1 4))) := fd_hd (fun _ => fun r w hE ha hb hF ho => by
                                                              obtain ⟨u1, u2, u3⟩ := x_292 (by omega) r w (x_281 (by decide) r hE (fun i hi => absurd hi (Nat.not_lt_zero i))) ha hb hE.2.1 hF
                                                              rw [u3, H5, u1 _ ho, u2, x_281 (by decide) r hE (fun i hi => absurd hi (Nat.not_lt_zero i)) _ ho, fd_xm])
                  exact fd_ok_some ⟨i_290, f_293, x_299, w_300⟩
        ·
          have d_301 : ¬ p1.toInt = (2 : Int32).toInt := fun q => c_208 (Int32.toInt_inj.mp q)
          refine fd_ok_ite (fun c_302 => ?_) (fun c_302 => ?_)
          ·
            have d_303 := congrArg Int32.toInt c_302
            try unfold f_X11_shows_0_J30
            refine fd_ok_bd ?_
            try unfold f_X11_isIn
            refine fd_ok_ite (fun c_304 => ?_) (fun c_304 => ?_)
            ·
              have d_305 := Int32.lt_iff_toInt_lt.mp c_304
              refine fd_ok_pb ?_
              refine fd_ok_itp (by decide) ?_
              try unfold f_X11_shows_0_J45
              try unfold f_X11_shows_0_J46
              refine fd_ok_itp (by decide) ?_
              try unfold f_X11_shows_0_J69
              try unfold f_X11_shows_0_J70
              refine fd_ok_lt (fun σ9_306 eσ9_306 => ?_)
              have i_307 : fd_InvM σ9_306 := fd_inv_sI eσ9_306 i0 (fd_rng _)
              have f_308 : fd_fr [0, 209, 210] σ σ9_306 := fd_fr_tr f0 (fd_fr_sI eσ9_306 (by decide))
              have t_309 : (σ9_306.1 0).toInt = (1 : Int32).toInt := congrArg Int32.toInt (fd_tI eσ9_306)
              have t_310 : (σ9_306.1 1).toInt = (σ.1 1).toInt := congrArg Int32.toInt (fd_tN eσ9_306 (by decide))
              have t_311 : (σ9_306.1 3).toInt = (σ.1 3).toInt := congrArg Int32.toInt (fd_tN eσ9_306 (by decide))
              have t_312 : (σ9_306.1 5).toInt = (σ.1 5).toInt := congrArg Int32.toInt (fd_tN eσ9_306 (by decide))
              have y_313 := fd_yIL (d := 10) eσ9_306 (rfl : σ.2.2 10 = _)
              have r_314 := fd_rng (σ9_306.1 0)
              refine fd_ok_itn (Int32.not_le.mpr (Int32.lt_iff_toInt_lt.mpr (by omega))) ?_
              have x_315 : (¬ (0 ≤ p1.toInt ∧ p1.toInt ≤ 3 ∧ 0 ≤ p2.toInt ∧ (1 < p1.toInt ∨ p2.toInt < (σ.1 1).toInt) ∧ (p1.toInt ≤ 1 ∨ p2.toInt < (σ.1 5).toInt) ∧ 0 ≤ p3.toInt ∧ p3.toInt < (σ.1 3).toInt) ∧ (σ9_306.1 0).toInt = 1) ∨ ((0 ≤ p1.toInt ∧ p1.toInt ≤ 3 ∧ 0 ≤ p2.toInt ∧ (1 < p1.toInt ∨ p2.toInt < (σ.1 1).toInt) ∧ (p1.toInt ≤ 1 ∨ p2.toInt < (σ.1 5).toInt) ∧ 0 ≤ p3.toInt ∧ p3.toInt < (σ.1 3).toInt) ∧ (σ9_306.1 0).toInt = 0) := by omega
              have w_316 : fd_H (((σ9_306.1 0).toInt = 0 → ∀ r w : Nat → Int64, fd_E (σ.2.1 1) (σ.2.1 2) (σ.2.1 3) r (σ.2.2 4) (σ.1 1).toNatClampNeg → (0 ≤ (fd_qa p1 p2 (σ.2.1 7)).toInt ∧ (fd_qa p1 p2 (σ.2.1 7)).toInt < (σ.1 1).toInt) → (0 ≤ (fd_qa p1 p2 (σ.2.1 8)).toInt ∧ (fd_qa p1 p2 (σ.2.1 8)).toInt < (σ.1 1).toInt) → fd_F (σ.2.1 1) (σ.2.1 2) (σ.2.1 3) (σ.2.2 4) (fd_qa p1 p2 (σ.2.1 7)).toNatClampNeg (fd_qr p1 (r (fd_qa p1 p2 (σ.2.1 7)).toNatClampNeg) (r (fd_qa p1 p2 (σ.2.1 8)).toNatClampNeg)) (fd_qa p1 p2 (σ.2.1 8)).toNatClampNeg (fd_qr p1 (r (fd_qa p1 p2 (σ.2.1 7)).toNatClampNeg) (r (fd_qa p1 p2 (σ.2.1 8)).toNatClampNeg)) w (σ.1 1).toNatClampNeg → (σ.2.1 5 p3.toNatClampNeg).toNatClampNeg < (σ.1 1).toNatClampNeg → (0 : Int64) = (r (σ.2.1 5 p3.toNatClampNeg).toNatClampNeg ^^^ w (σ.2.1 5 p3.toNatClampNeg).toNatClampNeg) &&& fd_mk (σ.1 4))) := fd_hd (fun h => absurd h (by omega))
              exact fd_ok_some ⟨i_307, f_308, x_315, w_316⟩
            ·
              have d_317 := Int32.le_iff_toInt_le.mp (Int32.not_lt.mp c_304)
              have r_318 : (0 : Int) ≤ (σ.1 5).toInt ∧ (σ.1 5).toInt ≤ 40 := i0.1 5
              refine fd_ok_ite (fun c_319 => ?_) (fun c_319 => ?_)
              ·
                have d_320 := Int32.le_iff_toInt_le.mp c_319
                refine fd_ok_pb ?_
                refine fd_ok_itp (by decide) ?_
                try unfold f_X11_shows_0_J45
                try unfold f_X11_shows_0_J46
                refine fd_ok_itp (by decide) ?_
                try unfold f_X11_shows_0_J69
                try unfold f_X11_shows_0_J70
                refine fd_ok_lt (fun σ9_321 eσ9_321 => ?_)
                have i_322 : fd_InvM σ9_321 := fd_inv_sI eσ9_321 i0 (fd_rng _)
                have f_323 : fd_fr [0, 209, 210] σ σ9_321 := fd_fr_tr f0 (fd_fr_sI eσ9_321 (by decide))
                have t_324 : (σ9_321.1 0).toInt = (1 : Int32).toInt := congrArg Int32.toInt (fd_tI eσ9_321)
                have t_325 : (σ9_321.1 1).toInt = (σ.1 1).toInt := congrArg Int32.toInt (fd_tN eσ9_321 (by decide))
                have t_326 : (σ9_321.1 3).toInt = (σ.1 3).toInt := congrArg Int32.toInt (fd_tN eσ9_321 (by decide))
                have t_327 : (σ9_321.1 5).toInt = (σ.1 5).toInt := congrArg Int32.toInt (fd_tN eσ9_321 (by decide))
                have y_328 := fd_yIL (d := 10) eσ9_321 (rfl : σ.2.2 10 = _)
                have r_329 := fd_rng (σ9_321.1 0)
                refine fd_ok_itn (Int32.not_le.mpr (Int32.lt_iff_toInt_lt.mpr (by omega))) ?_
                have x_330 : (¬ (0 ≤ p1.toInt ∧ p1.toInt ≤ 3 ∧ 0 ≤ p2.toInt ∧ (1 < p1.toInt ∨ p2.toInt < (σ.1 1).toInt) ∧ (p1.toInt ≤ 1 ∨ p2.toInt < (σ.1 5).toInt) ∧ 0 ≤ p3.toInt ∧ p3.toInt < (σ.1 3).toInt) ∧ (σ9_321.1 0).toInt = 1) ∨ ((0 ≤ p1.toInt ∧ p1.toInt ≤ 3 ∧ 0 ≤ p2.toInt ∧ (1 < p1.toInt ∨ p2.toInt < (σ.1 1).toInt) ∧ (p1.toInt ≤ 1 ∨ p2.toInt < (σ.1 5).toInt) ∧ 0 ≤ p3.toInt ∧ p3.toInt < (σ.1 3).toInt) ∧ (σ9_321.1 0).toInt = 0) := by omega
                have w_331 : fd_H (((σ9_321.1 0).toInt = 0 → ∀ r w : Nat → Int64, fd_E (σ.2.1 1) (σ.2.1 2) (σ.2.1 3) r (σ.2.2 4) (σ.1 1).toNatClampNeg → (0 ≤ (fd_qa p1 p2 (σ.2.1 7)).toInt ∧ (fd_qa p1 p2 (σ.2.1 7)).toInt < (σ.1 1).toInt) → (0 ≤ (fd_qa p1 p2 (σ.2.1 8)).toInt ∧ (fd_qa p1 p2 (σ.2.1 8)).toInt < (σ.1 1).toInt) → fd_F (σ.2.1 1) (σ.2.1 2) (σ.2.1 3) (σ.2.2 4) (fd_qa p1 p2 (σ.2.1 7)).toNatClampNeg (fd_qr p1 (r (fd_qa p1 p2 (σ.2.1 7)).toNatClampNeg) (r (fd_qa p1 p2 (σ.2.1 8)).toNatClampNeg)) (fd_qa p1 p2 (σ.2.1 8)).toNatClampNeg (fd_qr p1 (r (fd_qa p1 p2 (σ.2.1 7)).toNatClampNeg) (r (fd_qa p1 p2 (σ.2.1 8)).toNatClampNeg)) w (σ.1 1).toNatClampNeg → (σ.2.1 5 p3.toNatClampNeg).toNatClampNeg < (σ.1 1).toNatClampNeg → (0 : Int64) = (r (σ.2.1 5 p3.toNatClampNeg).toNatClampNeg ^^^ w (σ.2.1 5 p3.toNatClampNeg).toNatClampNeg) &&& fd_mk (σ.1 4))) := fd_hd (fun h => absurd h (by omega))
                exact fd_ok_some ⟨i_322, f_323, x_330, w_331⟩
              ·
                have d_332 := Int32.lt_iff_toInt_lt.mp (Int32.not_le.mp c_319)
                refine fd_ok_pb ?_
                refine fd_ok_itn (by decide) ?_
                try unfold f_X11_shows_0_J41
                try unfold f_X11_shows_0_J46
                refine fd_ok_itn (by decide) ?_
                refine fd_ok_bd ?_
                try unfold f_X11_isIn
                refine fd_ok_ite (fun c_333 => ?_) (fun c_333 => ?_)
                ·
                  have d_334 := Int32.lt_iff_toInt_lt.mp c_333
                  refine fd_ok_pb ?_
                  refine fd_ok_itp (by decide) ?_
                  try unfold f_X11_shows_0_J69
                  try unfold f_X11_shows_0_J70
                  refine fd_ok_lt (fun σ9_335 eσ9_335 => ?_)
                  have i_336 : fd_InvM σ9_335 := fd_inv_sI eσ9_335 i0 (fd_rng _)
                  have f_337 : fd_fr [0, 209, 210] σ σ9_335 := fd_fr_tr f0 (fd_fr_sI eσ9_335 (by decide))
                  have t_338 : (σ9_335.1 0).toInt = (1 : Int32).toInt := congrArg Int32.toInt (fd_tI eσ9_335)
                  have t_339 : (σ9_335.1 1).toInt = (σ.1 1).toInt := congrArg Int32.toInt (fd_tN eσ9_335 (by decide))
                  have t_340 : (σ9_335.1 3).toInt = (σ.1 3).toInt := congrArg Int32.toInt (fd_tN eσ9_335 (by decide))
                  have t_341 : (σ9_335.1 5).toInt = (σ.1 5).toInt := congrArg Int32.toInt (fd_tN eσ9_335 (by decide))
                  have y_342 := fd_yIL (d := 10) eσ9_335 (rfl : σ.2.2 10 = _)
                  have r_343 := fd_rng (σ9_335.1 0)
                  refine fd_ok_itn (Int32.not_le.mpr (Int32.lt_iff_toInt_lt.mpr (by omega))) ?_
                  have x_344 : (¬ (0 ≤ p1.toInt ∧ p1.toInt ≤ 3 ∧ 0 ≤ p2.toInt ∧ (1 < p1.toInt ∨ p2.toInt < (σ.1 1).toInt) ∧ (p1.toInt ≤ 1 ∨ p2.toInt < (σ.1 5).toInt) ∧ 0 ≤ p3.toInt ∧ p3.toInt < (σ.1 3).toInt) ∧ (σ9_335.1 0).toInt = 1) ∨ ((0 ≤ p1.toInt ∧ p1.toInt ≤ 3 ∧ 0 ≤ p2.toInt ∧ (1 < p1.toInt ∨ p2.toInt < (σ.1 1).toInt) ∧ (p1.toInt ≤ 1 ∨ p2.toInt < (σ.1 5).toInt) ∧ 0 ≤ p3.toInt ∧ p3.toInt < (σ.1 3).toInt) ∧ (σ9_335.1 0).toInt = 0) := by omega
                  have w_345 : fd_H (((σ9_335.1 0).toInt = 0 → ∀ r w : Nat → Int64, fd_E (σ.2.1 1) (σ.2.1 2) (σ.2.1 3) r (σ.2.2 4) (σ.1 1).toNatClampNeg → (0 ≤ (fd_qa p1 p2 (σ.2.1 7)).toInt ∧ (fd_qa p1 p2 (σ.2.1 7)).toInt < (σ.1 1).toInt) → (0 ≤ (fd_qa p1 p2 (σ.2.1 8)).toInt ∧ (fd_qa p1 p2 (σ.2.1 8)).toInt < (σ.1 1).toInt) → fd_F (σ.2.1 1) (σ.2.1 2) (σ.2.1 3) (σ.2.2 4) (fd_qa p1 p2 (σ.2.1 7)).toNatClampNeg (fd_qr p1 (r (fd_qa p1 p2 (σ.2.1 7)).toNatClampNeg) (r (fd_qa p1 p2 (σ.2.1 8)).toNatClampNeg)) (fd_qa p1 p2 (σ.2.1 8)).toNatClampNeg (fd_qr p1 (r (fd_qa p1 p2 (σ.2.1 7)).toNatClampNeg) (r (fd_qa p1 p2 (σ.2.1 8)).toNatClampNeg)) w (σ.1 1).toNatClampNeg → (σ.2.1 5 p3.toNatClampNeg).toNatClampNeg < (σ.1 1).toNatClampNeg → (0 : Int64) = (r (σ.2.1 5 p3.toNatClampNeg).toNatClampNeg ^^^ w (σ.2.1 5 p3.toNatClampNeg).toNatClampNeg) &&& fd_mk (σ.1 4))) := fd_hd (fun h => absurd h (by omega))
                  exact fd_ok_some ⟨i_336, f_337, x_344, w_345⟩
                ·
                  have d_346 := Int32.le_iff_toInt_le.mp (Int32.not_lt.mp c_333)
                  have r_347 : (0 : Int) ≤ (σ.1 3).toInt ∧ (σ.1 3).toInt ≤ 32 := i0.1 3
                  refine fd_ok_ite (fun c_348 => ?_) (fun c_348 => ?_)
                  ·
                    have d_349 := Int32.le_iff_toInt_le.mp c_348
                    refine fd_ok_pb ?_
                    refine fd_ok_itp (by decide) ?_
                    try unfold f_X11_shows_0_J69
                    try unfold f_X11_shows_0_J70
                    refine fd_ok_lt (fun σ9_350 eσ9_350 => ?_)
                    have i_351 : fd_InvM σ9_350 := fd_inv_sI eσ9_350 i0 (fd_rng _)
                    have f_352 : fd_fr [0, 209, 210] σ σ9_350 := fd_fr_tr f0 (fd_fr_sI eσ9_350 (by decide))
                    have t_353 : (σ9_350.1 0).toInt = (1 : Int32).toInt := congrArg Int32.toInt (fd_tI eσ9_350)
                    have t_354 : (σ9_350.1 1).toInt = (σ.1 1).toInt := congrArg Int32.toInt (fd_tN eσ9_350 (by decide))
                    have t_355 : (σ9_350.1 3).toInt = (σ.1 3).toInt := congrArg Int32.toInt (fd_tN eσ9_350 (by decide))
                    have t_356 : (σ9_350.1 5).toInt = (σ.1 5).toInt := congrArg Int32.toInt (fd_tN eσ9_350 (by decide))
                    have y_357 := fd_yIL (d := 10) eσ9_350 (rfl : σ.2.2 10 = _)
                    have r_358 := fd_rng (σ9_350.1 0)
                    refine fd_ok_itn (Int32.not_le.mpr (Int32.lt_iff_toInt_lt.mpr (by omega))) ?_
                    have x_359 : (¬ (0 ≤ p1.toInt ∧ p1.toInt ≤ 3 ∧ 0 ≤ p2.toInt ∧ (1 < p1.toInt ∨ p2.toInt < (σ.1 1).toInt) ∧ (p1.toInt ≤ 1 ∨ p2.toInt < (σ.1 5).toInt) ∧ 0 ≤ p3.toInt ∧ p3.toInt < (σ.1 3).toInt) ∧ (σ9_350.1 0).toInt = 1) ∨ ((0 ≤ p1.toInt ∧ p1.toInt ≤ 3 ∧ 0 ≤ p2.toInt ∧ (1 < p1.toInt ∨ p2.toInt < (σ.1 1).toInt) ∧ (p1.toInt ≤ 1 ∨ p2.toInt < (σ.1 5).toInt) ∧ 0 ≤ p3.toInt ∧ p3.toInt < (σ.1 3).toInt) ∧ (σ9_350.1 0).toInt = 0) := by omega
                    have w_360 : fd_H (((σ9_350.1 0).toInt = 0 → ∀ r w : Nat → Int64, fd_E (σ.2.1 1) (σ.2.1 2) (σ.2.1 3) r (σ.2.2 4) (σ.1 1).toNatClampNeg → (0 ≤ (fd_qa p1 p2 (σ.2.1 7)).toInt ∧ (fd_qa p1 p2 (σ.2.1 7)).toInt < (σ.1 1).toInt) → (0 ≤ (fd_qa p1 p2 (σ.2.1 8)).toInt ∧ (fd_qa p1 p2 (σ.2.1 8)).toInt < (σ.1 1).toInt) → fd_F (σ.2.1 1) (σ.2.1 2) (σ.2.1 3) (σ.2.2 4) (fd_qa p1 p2 (σ.2.1 7)).toNatClampNeg (fd_qr p1 (r (fd_qa p1 p2 (σ.2.1 7)).toNatClampNeg) (r (fd_qa p1 p2 (σ.2.1 8)).toNatClampNeg)) (fd_qa p1 p2 (σ.2.1 8)).toNatClampNeg (fd_qr p1 (r (fd_qa p1 p2 (σ.2.1 7)).toNatClampNeg) (r (fd_qa p1 p2 (σ.2.1 8)).toNatClampNeg)) w (σ.1 1).toNatClampNeg → (σ.2.1 5 p3.toNatClampNeg).toNatClampNeg < (σ.1 1).toNatClampNeg → (0 : Int64) = (r (σ.2.1 5 p3.toNatClampNeg).toNatClampNeg ^^^ w (σ.2.1 5 p3.toNatClampNeg).toNatClampNeg) &&& fd_mk (σ.1 4))) := fd_hd (fun h => absurd h (by omega))
                    exact fd_ok_some ⟨i_351, f_352, x_359, w_360⟩
                  ·
                    have d_361 := Int32.lt_iff_toInt_lt.mp (Int32.not_le.mp c_348)
                    refine fd_ok_pb ?_
                    refine fd_ok_itn (by decide) ?_
                    try unfold f_X11_shows_0_J70
                    refine fd_ok_lt (fun σ9_362 eσ9_362 => ?_)
                    have i_363 : fd_InvM σ9_362 := fd_inv_sI eσ9_362 i0 (fd_rng _)
                    have f_364 : fd_fr [0, 209, 210] σ σ9_362 := fd_fr_tr f0 (fd_fr_sI eσ9_362 (by decide))
                    have t_365 : (σ9_362.1 0).toInt = (0 : Int32).toInt := congrArg Int32.toInt (fd_tI eσ9_362)
                    have t_366 : (σ9_362.1 1).toInt = (σ.1 1).toInt := congrArg Int32.toInt (fd_tN eσ9_362 (by decide))
                    have t_367 : (σ9_362.1 3).toInt = (σ.1 3).toInt := congrArg Int32.toInt (fd_tN eσ9_362 (by decide))
                    have t_368 : (σ9_362.1 5).toInt = (σ.1 5).toInt := congrArg Int32.toInt (fd_tN eσ9_362 (by decide))
                    have y_369 := fd_yIL (d := 10) eσ9_362 (rfl : σ.2.2 10 = _)
                    have r_370 := fd_rng (σ9_362.1 0)
                    refine fd_ok_itp (Int32.le_iff_toInt_le.mpr (by omega)) ?_
                    refine fd_ok_bd ?_
                    try unfold f_X11_workPlain_0
                    refine fd_ok_cl (s_X11_workPlain_0_L2 N hN N _ _ i_363 (by omega) (by omega) (by omega)) ?_
                    rintro v_371 σ_372 ⟨i_373, g_374, x_375⟩
                    have f_376 : fd_fr [0, 209, 210] σ σ_372 := fd_fr_tr f_364 (fd_fr_mono g_374 (by decide))
                    have y_377 := (g_374.2.2 10 (by decide)).trans y_369
                    have t_378 : (σ_372.1 0).toInt = (σ9_362.1 0).toInt := congrArg Int32.toInt (g_374.1 0 (by decide))
                    have t_379 : (σ_372.1 1).toInt = (σ9_362.1 1).toInt := congrArg Int32.toInt (g_374.1 1 (by decide))
                    have t_380 : (σ_372.1 3).toInt = (σ9_362.1 3).toInt := congrArg Int32.toInt (g_374.1 3 (by decide))
                    have t_381 : (σ_372.1 5).toInt = (σ9_362.1 5).toInt := congrArg Int32.toInt (g_374.1 5 (by decide))
                    refine fd_ok_bd ?_
                    refine fd_ok_cl (s_X11_workFault_0 N hN _ _ _ i_373 (by omega)) ?_
                    rintro v_382 σ_383 ⟨i_384, g_385, x_386⟩
                    have f_387 : fd_fr [0, 209, 210] σ σ_383 := fd_fr_tr f_376 (fd_fr_mono g_385 (by decide))
                    have t_388 : (σ_383.1 0).toInt = (σ_372.1 0).toInt := congrArg Int32.toInt (g_385.1 0 (by decide))
                    have t_389 : (σ_383.1 1).toInt = (σ_372.1 1).toInt := congrArg Int32.toInt (g_385.1 1 (by decide))
                    have t_390 : (σ_383.1 3).toInt = (σ_372.1 3).toInt := congrArg Int32.toInt (g_385.1 3 (by decide))
                    have t_391 : (σ_383.1 5).toInt = (σ_372.1 5).toInt := congrArg Int32.toInt (g_385.1 5 (by decide))
                    refine fd_ok_gd (vp_in_iff.mpr ⟨by omega, by omega⟩) ?_
                    have r_392 : (0 : Int) ≤ (σ_383.2.1 5 p3.toNatClampNeg).toInt ∧ (σ_383.2.1 5 p3.toNatClampNeg).toInt ≤ 199 := i_384.2.1 5 _
                    refine fd_ok_gd (vp_in_iff.mpr ⟨by omega, by omega⟩) ?_
                    refine fd_ok_gd (vp_in_iff.mpr ⟨by omega, by omega⟩) ?_
                    refine fd_ok_gd (vp_in_iff.mpr ⟨by omega, by omega⟩) ?_
                    have x_393 : (¬ (0 ≤ p1.toInt ∧ p1.toInt ≤ 3 ∧ 0 ≤ p2.toInt ∧ (1 < p1.toInt ∨ p2.toInt < (σ.1 1).toInt) ∧ (p1.toInt ≤ 1 ∨ p2.toInt < (σ.1 5).toInt) ∧ 0 ≤ p3.toInt ∧ p3.toInt < (σ.1 3).toInt) ∧ (σ_383.1 0).toInt = 1) ∨ ((0 ≤ p1.toInt ∧ p1.toInt ≤ 3 ∧ 0 ≤ p2.toInt ∧ (1 < p1.toInt ∨ p2.toInt < (σ.1 1).toInt) ∧ (p1.toInt ≤ 1 ∨ p2.toInt < (σ.1 5).toInt) ∧ 0 ≤ p3.toInt ∧ p3.toInt < (σ.1 3).toInt) ∧ (σ_383.1 0).toInt = 0) := by omega
                    have E1 : σ9_362.1 1 = σ.1 1 := fd_tN eσ9_362 (by decide)
                    have E4 : σ9_362.1 4 = σ.1 4 := fd_tN eσ9_362 (by decide)
                    have E2 : σ9_362.2.1 = σ.2.1 := by subst eσ9_362; rfl
                    have E3 : σ9_362.2.2 4 = σ.2.2 4 := by subst eσ9_362; rfl
                    have E0 : (0 : Int32).toNatClampNeg = 0 := by decide
                    rw [E2, E3, E1, E4, E0] at x_375
                    have G1 : σ_372.1 1 = σ.1 1 := (g_374.1 1 (by decide)).trans E1
                    have G4 : σ_372.1 4 = σ.1 4 := (g_374.1 4 (by decide)).trans E4
                    have H1 : σ_372.2.1 1 = σ.2.1 1 := (g_374.2.1 1 (by decide)).trans (congrFun E2 1)
                    have H2 : σ_372.2.1 2 = σ.2.1 2 := (g_374.2.1 2 (by decide)).trans (congrFun E2 2)
                    have H3 : σ_372.2.1 3 = σ.2.1 3 := (g_374.2.1 3 (by decide)).trans (congrFun E2 3)
                    have H5 : σ_372.2.1 5 = σ.2.1 5 := (g_374.2.1 5 (by decide)).trans (congrFun E2 5)
                    have H7 : σ_372.2.1 7 = σ.2.1 7 := (g_374.2.1 7 (by decide)).trans (congrFun E2 7)
                    have H8 : σ_372.2.1 8 = σ.2.1 8 := (g_374.2.1 8 (by decide)).trans (congrFun E2 8)
                    have K4 : σ_372.2.2 4 = σ.2.2 4 := (g_374.2.2 4 (by decide)).trans E3
                    rw [G1, G4, H1, H2, H3, H7, H8, K4] at x_386
                    have w_394 : fd_H (((σ_383.1 0).toInt = 0 → ∀ r w : Nat → Int64, fd_E (σ.2.1 1) (σ.2.1 2) (σ.2.1 3) r (σ.2.2 4) (σ.1 1).toNatClampNeg → (0 ≤ (fd_qa p1 p2 (σ.2.1 7)).toInt ∧ (fd_qa p1 p2 (σ.2.1 7)).toInt < (σ.1 1).toInt) → (0 ≤ (fd_qa p1 p2 (σ.2.1 8)).toInt ∧ (fd_qa p1 p2 (σ.2.1 8)).toInt < (σ.1 1).toInt) → fd_F (σ.2.1 1) (σ.2.1 2) (σ.2.1 3) (σ.2.2 4) (fd_qa p1 p2 (σ.2.1 7)).toNatClampNeg (fd_qr p1 (r (fd_qa p1 p2 (σ.2.1 7)).toNatClampNeg) (r (fd_qa p1 p2 (σ.2.1 8)).toNatClampNeg)) (fd_qa p1 p2 (σ.2.1 8)).toNatClampNeg (fd_qr p1 (r (fd_qa p1 p2 (σ.2.1 7)).toNatClampNeg) (r (fd_qa p1 p2 (σ.2.1 8)).toNatClampNeg)) w (σ.1 1).toNatClampNeg → (σ.2.1 5 p3.toNatClampNeg).toNatClampNeg < (σ.1 1).toNatClampNeg → ((σ_383.2.2 9 (σ_383.2.1 5 p3.toNatClampNeg).toNatClampNeg) ^^^ (σ_383.2.2 10 (σ_383.2.1 5 p3.toNatClampNeg).toNatClampNeg)) = (r (σ.2.1 5 p3.toNatClampNeg).toNatClampNeg ^^^ w (σ.2.1 5 p3.toNatClampNeg).toNatClampNeg) &&& fd_mk (σ.1 4))) := fd_hd (fun _ => fun r w hE ha hb hF ho => by
                                                              obtain ⟨u1, u2, u3⟩ := x_386 (by omega) r w (x_375 (by decide) r hE (fun i hi => absurd hi (Nat.not_lt_zero i))) ha hb hE.2.1 hF
                                                              rw [u3, H5, u1 _ ho, u2, x_375 (by decide) r hE (fun i hi => absurd hi (Nat.not_lt_zero i)) _ ho, fd_xm])
                    exact fd_ok_some ⟨i_384, f_387, x_393, w_394⟩
          ·
            have d_395 : ¬ p1.toInt = (3 : Int32).toInt := fun q => c_302 (Int32.toInt_inj.mp q)
            try unfold f_X11_shows_0_J45
            try unfold f_X11_shows_0_J46
            refine fd_ok_itp (by decide) ?_
            try unfold f_X11_shows_0_J69
            try unfold f_X11_shows_0_J70
            refine fd_ok_lt (fun σ9_396 eσ9_396 => ?_)
            have i_397 : fd_InvM σ9_396 := fd_inv_sI eσ9_396 i0 (fd_rng _)
            have f_398 : fd_fr [0, 209, 210] σ σ9_396 := fd_fr_tr f0 (fd_fr_sI eσ9_396 (by decide))
            have t_399 : (σ9_396.1 0).toInt = (1 : Int32).toInt := congrArg Int32.toInt (fd_tI eσ9_396)
            have t_400 : (σ9_396.1 1).toInt = (σ.1 1).toInt := congrArg Int32.toInt (fd_tN eσ9_396 (by decide))
            have t_401 : (σ9_396.1 3).toInt = (σ.1 3).toInt := congrArg Int32.toInt (fd_tN eσ9_396 (by decide))
            have t_402 : (σ9_396.1 5).toInt = (σ.1 5).toInt := congrArg Int32.toInt (fd_tN eσ9_396 (by decide))
            have y_403 := fd_yIL (d := 10) eσ9_396 (rfl : σ.2.2 10 = _)
            have r_404 := fd_rng (σ9_396.1 0)
            refine fd_ok_itn (Int32.not_le.mpr (Int32.lt_iff_toInt_lt.mpr (by omega))) ?_
            have x_405 : (¬ (0 ≤ p1.toInt ∧ p1.toInt ≤ 3 ∧ 0 ≤ p2.toInt ∧ (1 < p1.toInt ∨ p2.toInt < (σ.1 1).toInt) ∧ (p1.toInt ≤ 1 ∨ p2.toInt < (σ.1 5).toInt) ∧ 0 ≤ p3.toInt ∧ p3.toInt < (σ.1 3).toInt) ∧ (σ9_396.1 0).toInt = 1) ∨ ((0 ≤ p1.toInt ∧ p1.toInt ≤ 3 ∧ 0 ≤ p2.toInt ∧ (1 < p1.toInt ∨ p2.toInt < (σ.1 1).toInt) ∧ (p1.toInt ≤ 1 ∨ p2.toInt < (σ.1 5).toInt) ∧ 0 ≤ p3.toInt ∧ p3.toInt < (σ.1 3).toInt) ∧ (σ9_396.1 0).toInt = 0) := by omega
            have w_406 : fd_H (((σ9_396.1 0).toInt = 0 → ∀ r w : Nat → Int64, fd_E (σ.2.1 1) (σ.2.1 2) (σ.2.1 3) r (σ.2.2 4) (σ.1 1).toNatClampNeg → (0 ≤ (fd_qa p1 p2 (σ.2.1 7)).toInt ∧ (fd_qa p1 p2 (σ.2.1 7)).toInt < (σ.1 1).toInt) → (0 ≤ (fd_qa p1 p2 (σ.2.1 8)).toInt ∧ (fd_qa p1 p2 (σ.2.1 8)).toInt < (σ.1 1).toInt) → fd_F (σ.2.1 1) (σ.2.1 2) (σ.2.1 3) (σ.2.2 4) (fd_qa p1 p2 (σ.2.1 7)).toNatClampNeg (fd_qr p1 (r (fd_qa p1 p2 (σ.2.1 7)).toNatClampNeg) (r (fd_qa p1 p2 (σ.2.1 8)).toNatClampNeg)) (fd_qa p1 p2 (σ.2.1 8)).toNatClampNeg (fd_qr p1 (r (fd_qa p1 p2 (σ.2.1 7)).toNatClampNeg) (r (fd_qa p1 p2 (σ.2.1 8)).toNatClampNeg)) w (σ.1 1).toNatClampNeg → (σ.2.1 5 p3.toNatClampNeg).toNatClampNeg < (σ.1 1).toNatClampNeg → (0 : Int64) = (r (σ.2.1 5 p3.toNatClampNeg).toNatClampNeg ^^^ w (σ.2.1 5 p3.toNatClampNeg).toNatClampNeg) &&& fd_mk (σ.1 4))) := fd_hd (fun h => absurd h (by omega))
            exact fd_ok_some ⟨i_397, f_398, x_405, w_406⟩
      ·
        have d_407 := Int32.lt_iff_toInt_lt.mp (Int32.not_le.mp c_206)
        refine fd_ok_pb ?_
        refine fd_ok_itn (by decide) ?_
        try unfold f_X11_shows_0_J41
        try unfold f_X11_shows_0_J46
        refine fd_ok_itn (by decide) ?_
        refine fd_ok_bd ?_
        try unfold f_X11_isIn
        refine fd_ok_ite (fun c_408 => ?_) (fun c_408 => ?_)
        ·
          have d_409 := Int32.lt_iff_toInt_lt.mp c_408
          refine fd_ok_pb ?_
          refine fd_ok_itp (by decide) ?_
          try unfold f_X11_shows_0_J69
          try unfold f_X11_shows_0_J70
          refine fd_ok_lt (fun σ9_410 eσ9_410 => ?_)
          have i_411 : fd_InvM σ9_410 := fd_inv_sI eσ9_410 i0 (fd_rng _)
          have f_412 : fd_fr [0, 209, 210] σ σ9_410 := fd_fr_tr f0 (fd_fr_sI eσ9_410 (by decide))
          have t_413 : (σ9_410.1 0).toInt = (1 : Int32).toInt := congrArg Int32.toInt (fd_tI eσ9_410)
          have t_414 : (σ9_410.1 1).toInt = (σ.1 1).toInt := congrArg Int32.toInt (fd_tN eσ9_410 (by decide))
          have t_415 : (σ9_410.1 3).toInt = (σ.1 3).toInt := congrArg Int32.toInt (fd_tN eσ9_410 (by decide))
          have t_416 : (σ9_410.1 5).toInt = (σ.1 5).toInt := congrArg Int32.toInt (fd_tN eσ9_410 (by decide))
          have y_417 := fd_yIL (d := 10) eσ9_410 (rfl : σ.2.2 10 = _)
          have r_418 := fd_rng (σ9_410.1 0)
          refine fd_ok_itn (Int32.not_le.mpr (Int32.lt_iff_toInt_lt.mpr (by omega))) ?_
          have x_419 : (¬ (0 ≤ p1.toInt ∧ p1.toInt ≤ 3 ∧ 0 ≤ p2.toInt ∧ (1 < p1.toInt ∨ p2.toInt < (σ.1 1).toInt) ∧ (p1.toInt ≤ 1 ∨ p2.toInt < (σ.1 5).toInt) ∧ 0 ≤ p3.toInt ∧ p3.toInt < (σ.1 3).toInt) ∧ (σ9_410.1 0).toInt = 1) ∨ ((0 ≤ p1.toInt ∧ p1.toInt ≤ 3 ∧ 0 ≤ p2.toInt ∧ (1 < p1.toInt ∨ p2.toInt < (σ.1 1).toInt) ∧ (p1.toInt ≤ 1 ∨ p2.toInt < (σ.1 5).toInt) ∧ 0 ≤ p3.toInt ∧ p3.toInt < (σ.1 3).toInt) ∧ (σ9_410.1 0).toInt = 0) := by omega
          have w_420 : fd_H (((σ9_410.1 0).toInt = 0 → ∀ r w : Nat → Int64, fd_E (σ.2.1 1) (σ.2.1 2) (σ.2.1 3) r (σ.2.2 4) (σ.1 1).toNatClampNeg → (0 ≤ (fd_qa p1 p2 (σ.2.1 7)).toInt ∧ (fd_qa p1 p2 (σ.2.1 7)).toInt < (σ.1 1).toInt) → (0 ≤ (fd_qa p1 p2 (σ.2.1 8)).toInt ∧ (fd_qa p1 p2 (σ.2.1 8)).toInt < (σ.1 1).toInt) → fd_F (σ.2.1 1) (σ.2.1 2) (σ.2.1 3) (σ.2.2 4) (fd_qa p1 p2 (σ.2.1 7)).toNatClampNeg (fd_qr p1 (r (fd_qa p1 p2 (σ.2.1 7)).toNatClampNeg) (r (fd_qa p1 p2 (σ.2.1 8)).toNatClampNeg)) (fd_qa p1 p2 (σ.2.1 8)).toNatClampNeg (fd_qr p1 (r (fd_qa p1 p2 (σ.2.1 7)).toNatClampNeg) (r (fd_qa p1 p2 (σ.2.1 8)).toNatClampNeg)) w (σ.1 1).toNatClampNeg → (σ.2.1 5 p3.toNatClampNeg).toNatClampNeg < (σ.1 1).toNatClampNeg → (0 : Int64) = (r (σ.2.1 5 p3.toNatClampNeg).toNatClampNeg ^^^ w (σ.2.1 5 p3.toNatClampNeg).toNatClampNeg) &&& fd_mk (σ.1 4))) := fd_hd (fun h => absurd h (by omega))
          exact fd_ok_some ⟨i_411, f_412, x_419, w_420⟩
        ·
          have d_421 := Int32.le_iff_toInt_le.mp (Int32.not_lt.mp c_408)
          have r_422 : (0 : Int) ≤ (σ.1 3).toInt ∧ (σ.1 3).toInt ≤ 32 := i0.1 3
          refine fd_ok_ite (fun c_423 => ?_) (fun c_423 => ?_)
          ·
            have d_424 := Int32.le_iff_toInt_le.mp c_423
            refine fd_ok_pb ?_
            refine fd_ok_itp (by decide) ?_
            try unfold f_X11_shows_0_J69
            try unfold f_X11_shows_0_J70
            refine fd_ok_lt (fun σ9_425 eσ9_425 => ?_)
            have i_426 : fd_InvM σ9_425 := fd_inv_sI eσ9_425 i0 (fd_rng _)
            have f_427 : fd_fr [0, 209, 210] σ σ9_425 := fd_fr_tr f0 (fd_fr_sI eσ9_425 (by decide))
            have t_428 : (σ9_425.1 0).toInt = (1 : Int32).toInt := congrArg Int32.toInt (fd_tI eσ9_425)
            have t_429 : (σ9_425.1 1).toInt = (σ.1 1).toInt := congrArg Int32.toInt (fd_tN eσ9_425 (by decide))
            have t_430 : (σ9_425.1 3).toInt = (σ.1 3).toInt := congrArg Int32.toInt (fd_tN eσ9_425 (by decide))
            have t_431 : (σ9_425.1 5).toInt = (σ.1 5).toInt := congrArg Int32.toInt (fd_tN eσ9_425 (by decide))
            have y_432 := fd_yIL (d := 10) eσ9_425 (rfl : σ.2.2 10 = _)
            have r_433 := fd_rng (σ9_425.1 0)
            refine fd_ok_itn (Int32.not_le.mpr (Int32.lt_iff_toInt_lt.mpr (by omega))) ?_
            have x_434 : (¬ (0 ≤ p1.toInt ∧ p1.toInt ≤ 3 ∧ 0 ≤ p2.toInt ∧ (1 < p1.toInt ∨ p2.toInt < (σ.1 1).toInt) ∧ (p1.toInt ≤ 1 ∨ p2.toInt < (σ.1 5).toInt) ∧ 0 ≤ p3.toInt ∧ p3.toInt < (σ.1 3).toInt) ∧ (σ9_425.1 0).toInt = 1) ∨ ((0 ≤ p1.toInt ∧ p1.toInt ≤ 3 ∧ 0 ≤ p2.toInt ∧ (1 < p1.toInt ∨ p2.toInt < (σ.1 1).toInt) ∧ (p1.toInt ≤ 1 ∨ p2.toInt < (σ.1 5).toInt) ∧ 0 ≤ p3.toInt ∧ p3.toInt < (σ.1 3).toInt) ∧ (σ9_425.1 0).toInt = 0) := by omega
            have w_435 : fd_H (((σ9_425.1 0).toInt = 0 → ∀ r w : Nat → Int64, fd_E (σ.2.1 1) (σ.2.1 2) (σ.2.1 3) r (σ.2.2 4) (σ.1 1).toNatClampNeg → (0 ≤ (fd_qa p1 p2 (σ.2.1 7)).toInt ∧ (fd_qa p1 p2 (σ.2.1 7)).toInt < (σ.1 1).toInt) → (0 ≤ (fd_qa p1 p2 (σ.2.1 8)).toInt ∧ (fd_qa p1 p2 (σ.2.1 8)).toInt < (σ.1 1).toInt) → fd_F (σ.2.1 1) (σ.2.1 2) (σ.2.1 3) (σ.2.2 4) (fd_qa p1 p2 (σ.2.1 7)).toNatClampNeg (fd_qr p1 (r (fd_qa p1 p2 (σ.2.1 7)).toNatClampNeg) (r (fd_qa p1 p2 (σ.2.1 8)).toNatClampNeg)) (fd_qa p1 p2 (σ.2.1 8)).toNatClampNeg (fd_qr p1 (r (fd_qa p1 p2 (σ.2.1 7)).toNatClampNeg) (r (fd_qa p1 p2 (σ.2.1 8)).toNatClampNeg)) w (σ.1 1).toNatClampNeg → (σ.2.1 5 p3.toNatClampNeg).toNatClampNeg < (σ.1 1).toNatClampNeg → (0 : Int64) = (r (σ.2.1 5 p3.toNatClampNeg).toNatClampNeg ^^^ w (σ.2.1 5 p3.toNatClampNeg).toNatClampNeg) &&& fd_mk (σ.1 4))) := fd_hd (fun h => absurd h (by omega))
            exact fd_ok_some ⟨i_426, f_427, x_434, w_435⟩
          ·
            have d_436 := Int32.lt_iff_toInt_lt.mp (Int32.not_le.mp c_423)
            refine fd_ok_pb ?_
            refine fd_ok_itn (by decide) ?_
            try unfold f_X11_shows_0_J70
            refine fd_ok_lt (fun σ9_437 eσ9_437 => ?_)
            have i_438 : fd_InvM σ9_437 := fd_inv_sI eσ9_437 i0 (fd_rng _)
            have f_439 : fd_fr [0, 209, 210] σ σ9_437 := fd_fr_tr f0 (fd_fr_sI eσ9_437 (by decide))
            have t_440 : (σ9_437.1 0).toInt = (0 : Int32).toInt := congrArg Int32.toInt (fd_tI eσ9_437)
            have t_441 : (σ9_437.1 1).toInt = (σ.1 1).toInt := congrArg Int32.toInt (fd_tN eσ9_437 (by decide))
            have t_442 : (σ9_437.1 3).toInt = (σ.1 3).toInt := congrArg Int32.toInt (fd_tN eσ9_437 (by decide))
            have t_443 : (σ9_437.1 5).toInt = (σ.1 5).toInt := congrArg Int32.toInt (fd_tN eσ9_437 (by decide))
            have y_444 := fd_yIL (d := 10) eσ9_437 (rfl : σ.2.2 10 = _)
            have r_445 := fd_rng (σ9_437.1 0)
            refine fd_ok_itp (Int32.le_iff_toInt_le.mpr (by omega)) ?_
            refine fd_ok_bd ?_
            try unfold f_X11_workPlain_0
            refine fd_ok_cl (s_X11_workPlain_0_L2 N hN N _ _ i_438 (by omega) (by omega) (by omega)) ?_
            rintro v_446 σ_447 ⟨i_448, g_449, x_450⟩
            have f_451 : fd_fr [0, 209, 210] σ σ_447 := fd_fr_tr f_439 (fd_fr_mono g_449 (by decide))
            have y_452 := (g_449.2.2 10 (by decide)).trans y_444
            have t_453 : (σ_447.1 0).toInt = (σ9_437.1 0).toInt := congrArg Int32.toInt (g_449.1 0 (by decide))
            have t_454 : (σ_447.1 1).toInt = (σ9_437.1 1).toInt := congrArg Int32.toInt (g_449.1 1 (by decide))
            have t_455 : (σ_447.1 3).toInt = (σ9_437.1 3).toInt := congrArg Int32.toInt (g_449.1 3 (by decide))
            have t_456 : (σ_447.1 5).toInt = (σ9_437.1 5).toInt := congrArg Int32.toInt (g_449.1 5 (by decide))
            refine fd_ok_bd ?_
            refine fd_ok_cl (s_X11_workFault_0 N hN _ _ _ i_448 (by omega)) ?_
            rintro v_457 σ_458 ⟨i_459, g_460, x_461⟩
            have f_462 : fd_fr [0, 209, 210] σ σ_458 := fd_fr_tr f_451 (fd_fr_mono g_460 (by decide))
            have t_463 : (σ_458.1 0).toInt = (σ_447.1 0).toInt := congrArg Int32.toInt (g_460.1 0 (by decide))
            have t_464 : (σ_458.1 1).toInt = (σ_447.1 1).toInt := congrArg Int32.toInt (g_460.1 1 (by decide))
            have t_465 : (σ_458.1 3).toInt = (σ_447.1 3).toInt := congrArg Int32.toInt (g_460.1 3 (by decide))
            have t_466 : (σ_458.1 5).toInt = (σ_447.1 5).toInt := congrArg Int32.toInt (g_460.1 5 (by decide))
            refine fd_ok_gd (vp_in_iff.mpr ⟨by omega, by omega⟩) ?_
            have r_467 : (0 : Int) ≤ (σ_458.2.1 5 p3.toNatClampNeg).toInt ∧ (σ_458.2.1 5 p3.toNatClampNeg).toInt ≤ 199 := i_459.2.1 5 _
            refine fd_ok_gd (vp_in_iff.mpr ⟨by omega, by omega⟩) ?_
            refine fd_ok_gd (vp_in_iff.mpr ⟨by omega, by omega⟩) ?_
            refine fd_ok_gd (vp_in_iff.mpr ⟨by omega, by omega⟩) ?_
            have x_468 : (¬ (0 ≤ p1.toInt ∧ p1.toInt ≤ 3 ∧ 0 ≤ p2.toInt ∧ (1 < p1.toInt ∨ p2.toInt < (σ.1 1).toInt) ∧ (p1.toInt ≤ 1 ∨ p2.toInt < (σ.1 5).toInt) ∧ 0 ≤ p3.toInt ∧ p3.toInt < (σ.1 3).toInt) ∧ (σ_458.1 0).toInt = 1) ∨ ((0 ≤ p1.toInt ∧ p1.toInt ≤ 3 ∧ 0 ≤ p2.toInt ∧ (1 < p1.toInt ∨ p2.toInt < (σ.1 1).toInt) ∧ (p1.toInt ≤ 1 ∨ p2.toInt < (σ.1 5).toInt) ∧ 0 ≤ p3.toInt ∧ p3.toInt < (σ.1 3).toInt) ∧ (σ_458.1 0).toInt = 0) := by omega
            have E1 : σ9_437.1 1 = σ.1 1 := fd_tN eσ9_437 (by decide)
            have E4 : σ9_437.1 4 = σ.1 4 := fd_tN eσ9_437 (by decide)
            have E2 : σ9_437.2.1 = σ.2.1 := by subst eσ9_437; rfl
            have E3 : σ9_437.2.2 4 = σ.2.2 4 := by subst eσ9_437; rfl
            have E0 : (0 : Int32).toNatClampNeg = 0 := by decide
            rw [E2, E3, E1, E4, E0] at x_450
            have G1 : σ_447.1 1 = σ.1 1 := (g_449.1 1 (by decide)).trans E1
            have G4 : σ_447.1 4 = σ.1 4 := (g_449.1 4 (by decide)).trans E4
            have H1 : σ_447.2.1 1 = σ.2.1 1 := (g_449.2.1 1 (by decide)).trans (congrFun E2 1)
            have H2 : σ_447.2.1 2 = σ.2.1 2 := (g_449.2.1 2 (by decide)).trans (congrFun E2 2)
            have H3 : σ_447.2.1 3 = σ.2.1 3 := (g_449.2.1 3 (by decide)).trans (congrFun E2 3)
            have H5 : σ_447.2.1 5 = σ.2.1 5 := (g_449.2.1 5 (by decide)).trans (congrFun E2 5)
            have H7 : σ_447.2.1 7 = σ.2.1 7 := (g_449.2.1 7 (by decide)).trans (congrFun E2 7)
            have H8 : σ_447.2.1 8 = σ.2.1 8 := (g_449.2.1 8 (by decide)).trans (congrFun E2 8)
            have K4 : σ_447.2.2 4 = σ.2.2 4 := (g_449.2.2 4 (by decide)).trans E3
            rw [G1, G4, H1, H2, H3, H7, H8, K4] at x_461
            have w_469 : fd_H (((σ_458.1 0).toInt = 0 → ∀ r w : Nat → Int64, fd_E (σ.2.1 1) (σ.2.1 2) (σ.2.1 3) r (σ.2.2 4) (σ.1 1).toNatClampNeg → (0 ≤ (fd_qa p1 p2 (σ.2.1 7)).toInt ∧ (fd_qa p1 p2 (σ.2.1 7)).toInt < (σ.1 1).toInt) → (0 ≤ (fd_qa p1 p2 (σ.2.1 8)).toInt ∧ (fd_qa p1 p2 (σ.2.1 8)).toInt < (σ.1 1).toInt) → fd_F (σ.2.1 1) (σ.2.1 2) (σ.2.1 3) (σ.2.2 4) (fd_qa p1 p2 (σ.2.1 7)).toNatClampNeg (fd_qr p1 (r (fd_qa p1 p2 (σ.2.1 7)).toNatClampNeg) (r (fd_qa p1 p2 (σ.2.1 8)).toNatClampNeg)) (fd_qa p1 p2 (σ.2.1 8)).toNatClampNeg (fd_qr p1 (r (fd_qa p1 p2 (σ.2.1 7)).toNatClampNeg) (r (fd_qa p1 p2 (σ.2.1 8)).toNatClampNeg)) w (σ.1 1).toNatClampNeg → (σ.2.1 5 p3.toNatClampNeg).toNatClampNeg < (σ.1 1).toNatClampNeg → ((σ_458.2.2 9 (σ_458.2.1 5 p3.toNatClampNeg).toNatClampNeg) ^^^ (σ_458.2.2 10 (σ_458.2.1 5 p3.toNatClampNeg).toNatClampNeg)) = (r (σ.2.1 5 p3.toNatClampNeg).toNatClampNeg ^^^ w (σ.2.1 5 p3.toNatClampNeg).toNatClampNeg) &&& fd_mk (σ.1 4))) := fd_hd (fun _ => fun r w hE ha hb hF ho => by
                                                              obtain ⟨u1, u2, u3⟩ := x_461 (by omega) r w (x_450 (by decide) r hE (fun i hi => absurd hi (Nat.not_lt_zero i))) ha hb hE.2.1 hF
                                                              rw [u3, H5, u1 _ ho, u2, x_450 (by decide) r hE (fun i hi => absurd hi (Nat.not_lt_zero i)) _ ho, fd_xm])
            exact fd_ok_some ⟨i_459, f_462, x_468, w_469⟩
  ·
    have d_470 : ¬ p1.toInt = (0 : Int32).toInt := fun q => c_1 (Int32.toInt_inj.mp q)
    refine fd_ok_ite (fun c_471 => ?_) (fun c_471 => ?_)
    ·
      have d_472 := congrArg Int32.toInt c_471
      try unfold f_X11_shows_0_J9
      refine fd_ok_bd ?_
      try unfold f_X11_isIn
      refine fd_ok_ite (fun c_473 => ?_) (fun c_473 => ?_)
      ·
        have d_474 := Int32.lt_iff_toInt_lt.mp c_473
        refine fd_ok_pb ?_
        refine fd_ok_itp (by decide) ?_
        try unfold f_X11_shows_0_J20
        refine fd_ok_ite (fun c_475 => ?_) (fun c_475 => ?_)
        ·
          have d_476 := congrArg Int32.toInt c_475
          try unfold f_X11_shows_0_J30
          refine fd_ok_bd ?_
          try unfold f_X11_isIn
          refine fd_ok_ite (fun c_477 => ?_) (fun c_477 => ?_)
          ·
            have d_478 := Int32.lt_iff_toInt_lt.mp c_477
            refine fd_ok_pb ?_
            refine fd_ok_itp (by decide) ?_
            try unfold f_X11_shows_0_J45
            try unfold f_X11_shows_0_J46
            refine fd_ok_itp (by decide) ?_
            try unfold f_X11_shows_0_J69
            try unfold f_X11_shows_0_J70
            refine fd_ok_lt (fun σ9_479 eσ9_479 => ?_)
            have i_480 : fd_InvM σ9_479 := fd_inv_sI eσ9_479 i0 (fd_rng _)
            have f_481 : fd_fr [0, 209, 210] σ σ9_479 := fd_fr_tr f0 (fd_fr_sI eσ9_479 (by decide))
            have t_482 : (σ9_479.1 0).toInt = (1 : Int32).toInt := congrArg Int32.toInt (fd_tI eσ9_479)
            have t_483 : (σ9_479.1 1).toInt = (σ.1 1).toInt := congrArg Int32.toInt (fd_tN eσ9_479 (by decide))
            have t_484 : (σ9_479.1 3).toInt = (σ.1 3).toInt := congrArg Int32.toInt (fd_tN eσ9_479 (by decide))
            have t_485 : (σ9_479.1 5).toInt = (σ.1 5).toInt := congrArg Int32.toInt (fd_tN eσ9_479 (by decide))
            have y_486 := fd_yIL (d := 10) eσ9_479 (rfl : σ.2.2 10 = _)
            have r_487 := fd_rng (σ9_479.1 0)
            refine fd_ok_itn (Int32.not_le.mpr (Int32.lt_iff_toInt_lt.mpr (by omega))) ?_
            have x_488 : (¬ (0 ≤ p1.toInt ∧ p1.toInt ≤ 3 ∧ 0 ≤ p2.toInt ∧ (1 < p1.toInt ∨ p2.toInt < (σ.1 1).toInt) ∧ (p1.toInt ≤ 1 ∨ p2.toInt < (σ.1 5).toInt) ∧ 0 ≤ p3.toInt ∧ p3.toInt < (σ.1 3).toInt) ∧ (σ9_479.1 0).toInt = 1) ∨ ((0 ≤ p1.toInt ∧ p1.toInt ≤ 3 ∧ 0 ≤ p2.toInt ∧ (1 < p1.toInt ∨ p2.toInt < (σ.1 1).toInt) ∧ (p1.toInt ≤ 1 ∨ p2.toInt < (σ.1 5).toInt) ∧ 0 ≤ p3.toInt ∧ p3.toInt < (σ.1 3).toInt) ∧ (σ9_479.1 0).toInt = 0) := by omega
            have w_489 : fd_H (((σ9_479.1 0).toInt = 0 → ∀ r w : Nat → Int64, fd_E (σ.2.1 1) (σ.2.1 2) (σ.2.1 3) r (σ.2.2 4) (σ.1 1).toNatClampNeg → (0 ≤ (fd_qa p1 p2 (σ.2.1 7)).toInt ∧ (fd_qa p1 p2 (σ.2.1 7)).toInt < (σ.1 1).toInt) → (0 ≤ (fd_qa p1 p2 (σ.2.1 8)).toInt ∧ (fd_qa p1 p2 (σ.2.1 8)).toInt < (σ.1 1).toInt) → fd_F (σ.2.1 1) (σ.2.1 2) (σ.2.1 3) (σ.2.2 4) (fd_qa p1 p2 (σ.2.1 7)).toNatClampNeg (fd_qr p1 (r (fd_qa p1 p2 (σ.2.1 7)).toNatClampNeg) (r (fd_qa p1 p2 (σ.2.1 8)).toNatClampNeg)) (fd_qa p1 p2 (σ.2.1 8)).toNatClampNeg (fd_qr p1 (r (fd_qa p1 p2 (σ.2.1 7)).toNatClampNeg) (r (fd_qa p1 p2 (σ.2.1 8)).toNatClampNeg)) w (σ.1 1).toNatClampNeg → (σ.2.1 5 p3.toNatClampNeg).toNatClampNeg < (σ.1 1).toNatClampNeg → (0 : Int64) = (r (σ.2.1 5 p3.toNatClampNeg).toNatClampNeg ^^^ w (σ.2.1 5 p3.toNatClampNeg).toNatClampNeg) &&& fd_mk (σ.1 4))) := fd_hd (fun h => absurd h (by omega))
            exact fd_ok_some ⟨i_480, f_481, x_488, w_489⟩
          ·
            have d_490 := Int32.le_iff_toInt_le.mp (Int32.not_lt.mp c_477)
            have r_491 : (0 : Int) ≤ (σ.1 5).toInt ∧ (σ.1 5).toInt ≤ 40 := i0.1 5
            refine fd_ok_ite (fun c_492 => ?_) (fun c_492 => ?_)
            ·
              have d_493 := Int32.le_iff_toInt_le.mp c_492
              refine fd_ok_pb ?_
              refine fd_ok_itp (by decide) ?_
              try unfold f_X11_shows_0_J45
              try unfold f_X11_shows_0_J46
              refine fd_ok_itp (by decide) ?_
              try unfold f_X11_shows_0_J69
              try unfold f_X11_shows_0_J70
              refine fd_ok_lt (fun σ9_494 eσ9_494 => ?_)
              have i_495 : fd_InvM σ9_494 := fd_inv_sI eσ9_494 i0 (fd_rng _)
              have f_496 : fd_fr [0, 209, 210] σ σ9_494 := fd_fr_tr f0 (fd_fr_sI eσ9_494 (by decide))
              have t_497 : (σ9_494.1 0).toInt = (1 : Int32).toInt := congrArg Int32.toInt (fd_tI eσ9_494)
              have t_498 : (σ9_494.1 1).toInt = (σ.1 1).toInt := congrArg Int32.toInt (fd_tN eσ9_494 (by decide))
              have t_499 : (σ9_494.1 3).toInt = (σ.1 3).toInt := congrArg Int32.toInt (fd_tN eσ9_494 (by decide))
              have t_500 : (σ9_494.1 5).toInt = (σ.1 5).toInt := congrArg Int32.toInt (fd_tN eσ9_494 (by decide))
              have y_501 := fd_yIL (d := 10) eσ9_494 (rfl : σ.2.2 10 = _)
              have r_502 := fd_rng (σ9_494.1 0)
              refine fd_ok_itn (Int32.not_le.mpr (Int32.lt_iff_toInt_lt.mpr (by omega))) ?_
              have x_503 : (¬ (0 ≤ p1.toInt ∧ p1.toInt ≤ 3 ∧ 0 ≤ p2.toInt ∧ (1 < p1.toInt ∨ p2.toInt < (σ.1 1).toInt) ∧ (p1.toInt ≤ 1 ∨ p2.toInt < (σ.1 5).toInt) ∧ 0 ≤ p3.toInt ∧ p3.toInt < (σ.1 3).toInt) ∧ (σ9_494.1 0).toInt = 1) ∨ ((0 ≤ p1.toInt ∧ p1.toInt ≤ 3 ∧ 0 ≤ p2.toInt ∧ (1 < p1.toInt ∨ p2.toInt < (σ.1 1).toInt) ∧ (p1.toInt ≤ 1 ∨ p2.toInt < (σ.1 5).toInt) ∧ 0 ≤ p3.toInt ∧ p3.toInt < (σ.1 3).toInt) ∧ (σ9_494.1 0).toInt = 0) := by omega
              have w_504 : fd_H (((σ9_494.1 0).toInt = 0 → ∀ r w : Nat → Int64, fd_E (σ.2.1 1) (σ.2.1 2) (σ.2.1 3) r (σ.2.2 4) (σ.1 1).toNatClampNeg → (0 ≤ (fd_qa p1 p2 (σ.2.1 7)).toInt ∧ (fd_qa p1 p2 (σ.2.1 7)).toInt < (σ.1 1).toInt) → (0 ≤ (fd_qa p1 p2 (σ.2.1 8)).toInt ∧ (fd_qa p1 p2 (σ.2.1 8)).toInt < (σ.1 1).toInt) → fd_F (σ.2.1 1) (σ.2.1 2) (σ.2.1 3) (σ.2.2 4) (fd_qa p1 p2 (σ.2.1 7)).toNatClampNeg (fd_qr p1 (r (fd_qa p1 p2 (σ.2.1 7)).toNatClampNeg) (r (fd_qa p1 p2 (σ.2.1 8)).toNatClampNeg)) (fd_qa p1 p2 (σ.2.1 8)).toNatClampNeg (fd_qr p1 (r (fd_qa p1 p2 (σ.2.1 7)).toNatClampNeg) (r (fd_qa p1 p2 (σ.2.1 8)).toNatClampNeg)) w (σ.1 1).toNatClampNeg → (σ.2.1 5 p3.toNatClampNeg).toNatClampNeg < (σ.1 1).toNatClampNeg → (0 : Int64) = (r (σ.2.1 5 p3.toNatClampNeg).toNatClampNeg ^^^ w (σ.2.1 5 p3.toNatClampNeg).toNatClampNeg) &&& fd_mk (σ.1 4))) := fd_hd (fun h => absurd h (by omega))
              exact fd_ok_some ⟨i_495, f_496, x_503, w_504⟩
            ·
              have d_505 := Int32.lt_iff_toInt_lt.mp (Int32.not_le.mp c_492)
              refine fd_ok_pb ?_
              refine fd_ok_itn (by decide) ?_
              try unfold f_X11_shows_0_J41
              try unfold f_X11_shows_0_J46
              refine fd_ok_itn (by decide) ?_
              refine fd_ok_bd ?_
              try unfold f_X11_isIn
              refine fd_ok_ite (fun c_506 => ?_) (fun c_506 => ?_)
              ·
                have d_507 := Int32.lt_iff_toInt_lt.mp c_506
                refine fd_ok_pb ?_
                refine fd_ok_itp (by decide) ?_
                try unfold f_X11_shows_0_J69
                try unfold f_X11_shows_0_J70
                refine fd_ok_lt (fun σ9_508 eσ9_508 => ?_)
                have i_509 : fd_InvM σ9_508 := fd_inv_sI eσ9_508 i0 (fd_rng _)
                have f_510 : fd_fr [0, 209, 210] σ σ9_508 := fd_fr_tr f0 (fd_fr_sI eσ9_508 (by decide))
                have t_511 : (σ9_508.1 0).toInt = (1 : Int32).toInt := congrArg Int32.toInt (fd_tI eσ9_508)
                have t_512 : (σ9_508.1 1).toInt = (σ.1 1).toInt := congrArg Int32.toInt (fd_tN eσ9_508 (by decide))
                have t_513 : (σ9_508.1 3).toInt = (σ.1 3).toInt := congrArg Int32.toInt (fd_tN eσ9_508 (by decide))
                have t_514 : (σ9_508.1 5).toInt = (σ.1 5).toInt := congrArg Int32.toInt (fd_tN eσ9_508 (by decide))
                have y_515 := fd_yIL (d := 10) eσ9_508 (rfl : σ.2.2 10 = _)
                have r_516 := fd_rng (σ9_508.1 0)
                refine fd_ok_itn (Int32.not_le.mpr (Int32.lt_iff_toInt_lt.mpr (by omega))) ?_
                have x_517 : (¬ (0 ≤ p1.toInt ∧ p1.toInt ≤ 3 ∧ 0 ≤ p2.toInt ∧ (1 < p1.toInt ∨ p2.toInt < (σ.1 1).toInt) ∧ (p1.toInt ≤ 1 ∨ p2.toInt < (σ.1 5).toInt) ∧ 0 ≤ p3.toInt ∧ p3.toInt < (σ.1 3).toInt) ∧ (σ9_508.1 0).toInt = 1) ∨ ((0 ≤ p1.toInt ∧ p1.toInt ≤ 3 ∧ 0 ≤ p2.toInt ∧ (1 < p1.toInt ∨ p2.toInt < (σ.1 1).toInt) ∧ (p1.toInt ≤ 1 ∨ p2.toInt < (σ.1 5).toInt) ∧ 0 ≤ p3.toInt ∧ p3.toInt < (σ.1 3).toInt) ∧ (σ9_508.1 0).toInt = 0) := by omega
                have w_518 : fd_H (((σ9_508.1 0).toInt = 0 → ∀ r w : Nat → Int64, fd_E (σ.2.1 1) (σ.2.1 2) (σ.2.1 3) r (σ.2.2 4) (σ.1 1).toNatClampNeg → (0 ≤ (fd_qa p1 p2 (σ.2.1 7)).toInt ∧ (fd_qa p1 p2 (σ.2.1 7)).toInt < (σ.1 1).toInt) → (0 ≤ (fd_qa p1 p2 (σ.2.1 8)).toInt ∧ (fd_qa p1 p2 (σ.2.1 8)).toInt < (σ.1 1).toInt) → fd_F (σ.2.1 1) (σ.2.1 2) (σ.2.1 3) (σ.2.2 4) (fd_qa p1 p2 (σ.2.1 7)).toNatClampNeg (fd_qr p1 (r (fd_qa p1 p2 (σ.2.1 7)).toNatClampNeg) (r (fd_qa p1 p2 (σ.2.1 8)).toNatClampNeg)) (fd_qa p1 p2 (σ.2.1 8)).toNatClampNeg (fd_qr p1 (r (fd_qa p1 p2 (σ.2.1 7)).toNatClampNeg) (r (fd_qa p1 p2 (σ.2.1 8)).toNatClampNeg)) w (σ.1 1).toNatClampNeg → (σ.2.1 5 p3.toNatClampNeg).toNatClampNeg < (σ.1 1).toNatClampNeg → (0 : Int64) = (r (σ.2.1 5 p3.toNatClampNeg).toNatClampNeg ^^^ w (σ.2.1 5 p3.toNatClampNeg).toNatClampNeg) &&& fd_mk (σ.1 4))) := fd_hd (fun h => absurd h (by omega))
                exact fd_ok_some ⟨i_509, f_510, x_517, w_518⟩
              ·
                have d_519 := Int32.le_iff_toInt_le.mp (Int32.not_lt.mp c_506)
                have r_520 : (0 : Int) ≤ (σ.1 3).toInt ∧ (σ.1 3).toInt ≤ 32 := i0.1 3
                refine fd_ok_ite (fun c_521 => ?_) (fun c_521 => ?_)
                ·
                  have d_522 := Int32.le_iff_toInt_le.mp c_521
                  refine fd_ok_pb ?_
                  refine fd_ok_itp (by decide) ?_
                  try unfold f_X11_shows_0_J69
                  try unfold f_X11_shows_0_J70
                  refine fd_ok_lt (fun σ9_523 eσ9_523 => ?_)
                  have i_524 : fd_InvM σ9_523 := fd_inv_sI eσ9_523 i0 (fd_rng _)
                  have f_525 : fd_fr [0, 209, 210] σ σ9_523 := fd_fr_tr f0 (fd_fr_sI eσ9_523 (by decide))
                  have t_526 : (σ9_523.1 0).toInt = (1 : Int32).toInt := congrArg Int32.toInt (fd_tI eσ9_523)
                  have t_527 : (σ9_523.1 1).toInt = (σ.1 1).toInt := congrArg Int32.toInt (fd_tN eσ9_523 (by decide))
                  have t_528 : (σ9_523.1 3).toInt = (σ.1 3).toInt := congrArg Int32.toInt (fd_tN eσ9_523 (by decide))
                  have t_529 : (σ9_523.1 5).toInt = (σ.1 5).toInt := congrArg Int32.toInt (fd_tN eσ9_523 (by decide))
                  have y_530 := fd_yIL (d := 10) eσ9_523 (rfl : σ.2.2 10 = _)
                  have r_531 := fd_rng (σ9_523.1 0)
                  refine fd_ok_itn (Int32.not_le.mpr (Int32.lt_iff_toInt_lt.mpr (by omega))) ?_
                  have x_532 : (¬ (0 ≤ p1.toInt ∧ p1.toInt ≤ 3 ∧ 0 ≤ p2.toInt ∧ (1 < p1.toInt ∨ p2.toInt < (σ.1 1).toInt) ∧ (p1.toInt ≤ 1 ∨ p2.toInt < (σ.1 5).toInt) ∧ 0 ≤ p3.toInt ∧ p3.toInt < (σ.1 3).toInt) ∧ (σ9_523.1 0).toInt = 1) ∨ ((0 ≤ p1.toInt ∧ p1.toInt ≤ 3 ∧ 0 ≤ p2.toInt ∧ (1 < p1.toInt ∨ p2.toInt < (σ.1 1).toInt) ∧ (p1.toInt ≤ 1 ∨ p2.toInt < (σ.1 5).toInt) ∧ 0 ≤ p3.toInt ∧ p3.toInt < (σ.1 3).toInt) ∧ (σ9_523.1 0).toInt = 0) := by omega
                  have w_533 : fd_H (((σ9_523.1 0).toInt = 0 → ∀ r w : Nat → Int64, fd_E (σ.2.1 1) (σ.2.1 2) (σ.2.1 3) r (σ.2.2 4) (σ.1 1).toNatClampNeg → (0 ≤ (fd_qa p1 p2 (σ.2.1 7)).toInt ∧ (fd_qa p1 p2 (σ.2.1 7)).toInt < (σ.1 1).toInt) → (0 ≤ (fd_qa p1 p2 (σ.2.1 8)).toInt ∧ (fd_qa p1 p2 (σ.2.1 8)).toInt < (σ.1 1).toInt) → fd_F (σ.2.1 1) (σ.2.1 2) (σ.2.1 3) (σ.2.2 4) (fd_qa p1 p2 (σ.2.1 7)).toNatClampNeg (fd_qr p1 (r (fd_qa p1 p2 (σ.2.1 7)).toNatClampNeg) (r (fd_qa p1 p2 (σ.2.1 8)).toNatClampNeg)) (fd_qa p1 p2 (σ.2.1 8)).toNatClampNeg (fd_qr p1 (r (fd_qa p1 p2 (σ.2.1 7)).toNatClampNeg) (r (fd_qa p1 p2 (σ.2.1 8)).toNatClampNeg)) w (σ.1 1).toNatClampNeg → (σ.2.1 5 p3.toNatClampNeg).toNatClampNeg < (σ.1 1).toNatClampNeg → (0 : Int64) = (r (σ.2.1 5 p3.toNatClampNeg).toNatClampNeg ^^^ w (σ.2.1 5 p3.toNatClampNeg).toNatClampNeg) &&& fd_mk (σ.1 4))) := fd_hd (fun h => absurd h (by omega))
                  exact fd_ok_some ⟨i_524, f_525, x_532, w_533⟩
                ·
                  have d_534 := Int32.lt_iff_toInt_lt.mp (Int32.not_le.mp c_521)
                  refine fd_ok_pb ?_
                  refine fd_ok_itn (by decide) ?_
                  try unfold f_X11_shows_0_J70
                  refine fd_ok_lt (fun σ9_535 eσ9_535 => ?_)
                  have i_536 : fd_InvM σ9_535 := fd_inv_sI eσ9_535 i0 (fd_rng _)
                  have f_537 : fd_fr [0, 209, 210] σ σ9_535 := fd_fr_tr f0 (fd_fr_sI eσ9_535 (by decide))
                  have t_538 : (σ9_535.1 0).toInt = (0 : Int32).toInt := congrArg Int32.toInt (fd_tI eσ9_535)
                  have t_539 : (σ9_535.1 1).toInt = (σ.1 1).toInt := congrArg Int32.toInt (fd_tN eσ9_535 (by decide))
                  have t_540 : (σ9_535.1 3).toInt = (σ.1 3).toInt := congrArg Int32.toInt (fd_tN eσ9_535 (by decide))
                  have t_541 : (σ9_535.1 5).toInt = (σ.1 5).toInt := congrArg Int32.toInt (fd_tN eσ9_535 (by decide))
                  have y_542 := fd_yIL (d := 10) eσ9_535 (rfl : σ.2.2 10 = _)
                  have r_543 := fd_rng (σ9_535.1 0)
                  refine fd_ok_itp (Int32.le_iff_toInt_le.mpr (by omega)) ?_
                  refine fd_ok_bd ?_
                  try unfold f_X11_workPlain_0
                  refine fd_ok_cl (s_X11_workPlain_0_L2 N hN N _ _ i_536 (by omega) (by omega) (by omega)) ?_
                  rintro v_544 σ_545 ⟨i_546, g_547, x_548⟩
                  have f_549 : fd_fr [0, 209, 210] σ σ_545 := fd_fr_tr f_537 (fd_fr_mono g_547 (by decide))
                  have y_550 := (g_547.2.2 10 (by decide)).trans y_542
                  have t_551 : (σ_545.1 0).toInt = (σ9_535.1 0).toInt := congrArg Int32.toInt (g_547.1 0 (by decide))
                  have t_552 : (σ_545.1 1).toInt = (σ9_535.1 1).toInt := congrArg Int32.toInt (g_547.1 1 (by decide))
                  have t_553 : (σ_545.1 3).toInt = (σ9_535.1 3).toInt := congrArg Int32.toInt (g_547.1 3 (by decide))
                  have t_554 : (σ_545.1 5).toInt = (σ9_535.1 5).toInt := congrArg Int32.toInt (g_547.1 5 (by decide))
                  refine fd_ok_bd ?_
                  refine fd_ok_cl (s_X11_workFault_0 N hN _ _ _ i_546 (by omega)) ?_
                  rintro v_555 σ_556 ⟨i_557, g_558, x_559⟩
                  have f_560 : fd_fr [0, 209, 210] σ σ_556 := fd_fr_tr f_549 (fd_fr_mono g_558 (by decide))
                  have t_561 : (σ_556.1 0).toInt = (σ_545.1 0).toInt := congrArg Int32.toInt (g_558.1 0 (by decide))
                  have t_562 : (σ_556.1 1).toInt = (σ_545.1 1).toInt := congrArg Int32.toInt (g_558.1 1 (by decide))
                  have t_563 : (σ_556.1 3).toInt = (σ_545.1 3).toInt := congrArg Int32.toInt (g_558.1 3 (by decide))
                  have t_564 : (σ_556.1 5).toInt = (σ_545.1 5).toInt := congrArg Int32.toInt (g_558.1 5 (by decide))
                  refine fd_ok_gd (vp_in_iff.mpr ⟨by omega, by omega⟩) ?_
                  have r_565 : (0 : Int) ≤ (σ_556.2.1 5 p3.toNatClampNeg).toInt ∧ (σ_556.2.1 5 p3.toNatClampNeg).toInt ≤ 199 := i_557.2.1 5 _
                  refine fd_ok_gd (vp_in_iff.mpr ⟨by omega, by omega⟩) ?_
                  refine fd_ok_gd (vp_in_iff.mpr ⟨by omega, by omega⟩) ?_
                  refine fd_ok_gd (vp_in_iff.mpr ⟨by omega, by omega⟩) ?_
                  have x_566 : (¬ (0 ≤ p1.toInt ∧ p1.toInt ≤ 3 ∧ 0 ≤ p2.toInt ∧ (1 < p1.toInt ∨ p2.toInt < (σ.1 1).toInt) ∧ (p1.toInt ≤ 1 ∨ p2.toInt < (σ.1 5).toInt) ∧ 0 ≤ p3.toInt ∧ p3.toInt < (σ.1 3).toInt) ∧ (σ_556.1 0).toInt = 1) ∨ ((0 ≤ p1.toInt ∧ p1.toInt ≤ 3 ∧ 0 ≤ p2.toInt ∧ (1 < p1.toInt ∨ p2.toInt < (σ.1 1).toInt) ∧ (p1.toInt ≤ 1 ∨ p2.toInt < (σ.1 5).toInt) ∧ 0 ≤ p3.toInt ∧ p3.toInt < (σ.1 3).toInt) ∧ (σ_556.1 0).toInt = 0) := by omega
                  have E1 : σ9_535.1 1 = σ.1 1 := fd_tN eσ9_535 (by decide)
                  have E4 : σ9_535.1 4 = σ.1 4 := fd_tN eσ9_535 (by decide)
                  have E2 : σ9_535.2.1 = σ.2.1 := by subst eσ9_535; rfl
                  have E3 : σ9_535.2.2 4 = σ.2.2 4 := by subst eσ9_535; rfl
                  have E0 : (0 : Int32).toNatClampNeg = 0 := by decide
                  rw [E2, E3, E1, E4, E0] at x_548
                  have G1 : σ_545.1 1 = σ.1 1 := (g_547.1 1 (by decide)).trans E1
                  have G4 : σ_545.1 4 = σ.1 4 := (g_547.1 4 (by decide)).trans E4
                  have H1 : σ_545.2.1 1 = σ.2.1 1 := (g_547.2.1 1 (by decide)).trans (congrFun E2 1)
                  have H2 : σ_545.2.1 2 = σ.2.1 2 := (g_547.2.1 2 (by decide)).trans (congrFun E2 2)
                  have H3 : σ_545.2.1 3 = σ.2.1 3 := (g_547.2.1 3 (by decide)).trans (congrFun E2 3)
                  have H5 : σ_545.2.1 5 = σ.2.1 5 := (g_547.2.1 5 (by decide)).trans (congrFun E2 5)
                  have H7 : σ_545.2.1 7 = σ.2.1 7 := (g_547.2.1 7 (by decide)).trans (congrFun E2 7)
                  have H8 : σ_545.2.1 8 = σ.2.1 8 := (g_547.2.1 8 (by decide)).trans (congrFun E2 8)
                  have K4 : σ_545.2.2 4 = σ.2.2 4 := (g_547.2.2 4 (by decide)).trans E3
                  rw [G1, G4, H1, H2, H3, H7, H8, K4] at x_559
                  have w_567 : fd_H (((σ_556.1 0).toInt = 0 → ∀ r w : Nat → Int64, fd_E (σ.2.1 1) (σ.2.1 2) (σ.2.1 3) r (σ.2.2 4) (σ.1 1).toNatClampNeg → (0 ≤ (fd_qa p1 p2 (σ.2.1 7)).toInt ∧ (fd_qa p1 p2 (σ.2.1 7)).toInt < (σ.1 1).toInt) → (0 ≤ (fd_qa p1 p2 (σ.2.1 8)).toInt ∧ (fd_qa p1 p2 (σ.2.1 8)).toInt < (σ.1 1).toInt) → fd_F (σ.2.1 1) (σ.2.1 2) (σ.2.1 3) (σ.2.2 4) (fd_qa p1 p2 (σ.2.1 7)).toNatClampNeg (fd_qr p1 (r (fd_qa p1 p2 (σ.2.1 7)).toNatClampNeg) (r (fd_qa p1 p2 (σ.2.1 8)).toNatClampNeg)) (fd_qa p1 p2 (σ.2.1 8)).toNatClampNeg (fd_qr p1 (r (fd_qa p1 p2 (σ.2.1 7)).toNatClampNeg) (r (fd_qa p1 p2 (σ.2.1 8)).toNatClampNeg)) w (σ.1 1).toNatClampNeg → (σ.2.1 5 p3.toNatClampNeg).toNatClampNeg < (σ.1 1).toNatClampNeg → ((σ_556.2.2 9 (σ_556.2.1 5 p3.toNatClampNeg).toNatClampNeg) ^^^ (σ_556.2.2 10 (σ_556.2.1 5 p3.toNatClampNeg).toNatClampNeg)) = (r (σ.2.1 5 p3.toNatClampNeg).toNatClampNeg ^^^ w (σ.2.1 5 p3.toNatClampNeg).toNatClampNeg) &&& fd_mk (σ.1 4))) := fd_hd (fun _ => fun r w hE ha hb hF ho => by
                                                              obtain ⟨u1, u2, u3⟩ := x_559 (by omega) r w (x_548 (by decide) r hE (fun i hi => absurd hi (Nat.not_lt_zero i))) ha hb hE.2.1 hF
                                                              rw [u3, H5, u1 _ ho, u2, x_548 (by decide) r hE (fun i hi => absurd hi (Nat.not_lt_zero i)) _ ho, fd_xm])
                  exact fd_ok_some ⟨i_557, f_560, x_566, w_567⟩
        ·
          have d_568 : ¬ p1.toInt = (2 : Int32).toInt := fun q => c_475 (Int32.toInt_inj.mp q)
          refine fd_ok_ite (fun c_569 => ?_) (fun c_569 => ?_)
          ·
            have d_570 := congrArg Int32.toInt c_569
            try unfold f_X11_shows_0_J30
            refine fd_ok_bd ?_
            try unfold f_X11_isIn
            refine fd_ok_ite (fun c_571 => ?_) (fun c_571 => ?_)
            ·
              have d_572 := Int32.lt_iff_toInt_lt.mp c_571
              refine fd_ok_pb ?_
              refine fd_ok_itp (by decide) ?_
              try unfold f_X11_shows_0_J45
              try unfold f_X11_shows_0_J46
              refine fd_ok_itp (by decide) ?_
              try unfold f_X11_shows_0_J69
              try unfold f_X11_shows_0_J70
              refine fd_ok_lt (fun σ9_573 eσ9_573 => ?_)
              have i_574 : fd_InvM σ9_573 := fd_inv_sI eσ9_573 i0 (fd_rng _)
              have f_575 : fd_fr [0, 209, 210] σ σ9_573 := fd_fr_tr f0 (fd_fr_sI eσ9_573 (by decide))
              have t_576 : (σ9_573.1 0).toInt = (1 : Int32).toInt := congrArg Int32.toInt (fd_tI eσ9_573)
              have t_577 : (σ9_573.1 1).toInt = (σ.1 1).toInt := congrArg Int32.toInt (fd_tN eσ9_573 (by decide))
              have t_578 : (σ9_573.1 3).toInt = (σ.1 3).toInt := congrArg Int32.toInt (fd_tN eσ9_573 (by decide))
              have t_579 : (σ9_573.1 5).toInt = (σ.1 5).toInt := congrArg Int32.toInt (fd_tN eσ9_573 (by decide))
              have y_580 := fd_yIL (d := 10) eσ9_573 (rfl : σ.2.2 10 = _)
              have r_581 := fd_rng (σ9_573.1 0)
              refine fd_ok_itn (Int32.not_le.mpr (Int32.lt_iff_toInt_lt.mpr (by omega))) ?_
              have x_582 : (¬ (0 ≤ p1.toInt ∧ p1.toInt ≤ 3 ∧ 0 ≤ p2.toInt ∧ (1 < p1.toInt ∨ p2.toInt < (σ.1 1).toInt) ∧ (p1.toInt ≤ 1 ∨ p2.toInt < (σ.1 5).toInt) ∧ 0 ≤ p3.toInt ∧ p3.toInt < (σ.1 3).toInt) ∧ (σ9_573.1 0).toInt = 1) ∨ ((0 ≤ p1.toInt ∧ p1.toInt ≤ 3 ∧ 0 ≤ p2.toInt ∧ (1 < p1.toInt ∨ p2.toInt < (σ.1 1).toInt) ∧ (p1.toInt ≤ 1 ∨ p2.toInt < (σ.1 5).toInt) ∧ 0 ≤ p3.toInt ∧ p3.toInt < (σ.1 3).toInt) ∧ (σ9_573.1 0).toInt = 0) := by omega
              have w_583 : fd_H (((σ9_573.1 0).toInt = 0 → ∀ r w : Nat → Int64, fd_E (σ.2.1 1) (σ.2.1 2) (σ.2.1 3) r (σ.2.2 4) (σ.1 1).toNatClampNeg → (0 ≤ (fd_qa p1 p2 (σ.2.1 7)).toInt ∧ (fd_qa p1 p2 (σ.2.1 7)).toInt < (σ.1 1).toInt) → (0 ≤ (fd_qa p1 p2 (σ.2.1 8)).toInt ∧ (fd_qa p1 p2 (σ.2.1 8)).toInt < (σ.1 1).toInt) → fd_F (σ.2.1 1) (σ.2.1 2) (σ.2.1 3) (σ.2.2 4) (fd_qa p1 p2 (σ.2.1 7)).toNatClampNeg (fd_qr p1 (r (fd_qa p1 p2 (σ.2.1 7)).toNatClampNeg) (r (fd_qa p1 p2 (σ.2.1 8)).toNatClampNeg)) (fd_qa p1 p2 (σ.2.1 8)).toNatClampNeg (fd_qr p1 (r (fd_qa p1 p2 (σ.2.1 7)).toNatClampNeg) (r (fd_qa p1 p2 (σ.2.1 8)).toNatClampNeg)) w (σ.1 1).toNatClampNeg → (σ.2.1 5 p3.toNatClampNeg).toNatClampNeg < (σ.1 1).toNatClampNeg → (0 : Int64) = (r (σ.2.1 5 p3.toNatClampNeg).toNatClampNeg ^^^ w (σ.2.1 5 p3.toNatClampNeg).toNatClampNeg) &&& fd_mk (σ.1 4))) := fd_hd (fun h => absurd h (by omega))
              exact fd_ok_some ⟨i_574, f_575, x_582, w_583⟩
            ·
              have d_584 := Int32.le_iff_toInt_le.mp (Int32.not_lt.mp c_571)
              have r_585 : (0 : Int) ≤ (σ.1 5).toInt ∧ (σ.1 5).toInt ≤ 40 := i0.1 5
              refine fd_ok_ite (fun c_586 => ?_) (fun c_586 => ?_)
              ·
                have d_587 := Int32.le_iff_toInt_le.mp c_586
                refine fd_ok_pb ?_
                refine fd_ok_itp (by decide) ?_
                try unfold f_X11_shows_0_J45
                try unfold f_X11_shows_0_J46
                refine fd_ok_itp (by decide) ?_
                try unfold f_X11_shows_0_J69
                try unfold f_X11_shows_0_J70
                refine fd_ok_lt (fun σ9_588 eσ9_588 => ?_)
                have i_589 : fd_InvM σ9_588 := fd_inv_sI eσ9_588 i0 (fd_rng _)
                have f_590 : fd_fr [0, 209, 210] σ σ9_588 := fd_fr_tr f0 (fd_fr_sI eσ9_588 (by decide))
                have t_591 : (σ9_588.1 0).toInt = (1 : Int32).toInt := congrArg Int32.toInt (fd_tI eσ9_588)
                have t_592 : (σ9_588.1 1).toInt = (σ.1 1).toInt := congrArg Int32.toInt (fd_tN eσ9_588 (by decide))
                have t_593 : (σ9_588.1 3).toInt = (σ.1 3).toInt := congrArg Int32.toInt (fd_tN eσ9_588 (by decide))
                have t_594 : (σ9_588.1 5).toInt = (σ.1 5).toInt := congrArg Int32.toInt (fd_tN eσ9_588 (by decide))
                have y_595 := fd_yIL (d := 10) eσ9_588 (rfl : σ.2.2 10 = _)
                have r_596 := fd_rng (σ9_588.1 0)
                refine fd_ok_itn (Int32.not_le.mpr (Int32.lt_iff_toInt_lt.mpr (by omega))) ?_
                have x_597 : (¬ (0 ≤ p1.toInt ∧ p1.toInt ≤ 3 ∧ 0 ≤ p2.toInt ∧ (1 < p1.toInt ∨ p2.toInt < (σ.1 1).toInt) ∧ (p1.toInt ≤ 1 ∨ p2.toInt < (σ.1 5).toInt) ∧ 0 ≤ p3.toInt ∧ p3.toInt < (σ.1 3).toInt) ∧ (σ9_588.1 0).toInt = 1) ∨ ((0 ≤ p1.toInt ∧ p1.toInt ≤ 3 ∧ 0 ≤ p2.toInt ∧ (1 < p1.toInt ∨ p2.toInt < (σ.1 1).toInt) ∧ (p1.toInt ≤ 1 ∨ p2.toInt < (σ.1 5).toInt) ∧ 0 ≤ p3.toInt ∧ p3.toInt < (σ.1 3).toInt) ∧ (σ9_588.1 0).toInt = 0) := by omega
                have w_598 : fd_H (((σ9_588.1 0).toInt = 0 → ∀ r w : Nat → Int64, fd_E (σ.2.1 1) (σ.2.1 2) (σ.2.1 3) r (σ.2.2 4) (σ.1 1).toNatClampNeg → (0 ≤ (fd_qa p1 p2 (σ.2.1 7)).toInt ∧ (fd_qa p1 p2 (σ.2.1 7)).toInt < (σ.1 1).toInt) → (0 ≤ (fd_qa p1 p2 (σ.2.1 8)).toInt ∧ (fd_qa p1 p2 (σ.2.1 8)).toInt < (σ.1 1).toInt) → fd_F (σ.2.1 1) (σ.2.1 2) (σ.2.1 3) (σ.2.2 4) (fd_qa p1 p2 (σ.2.1 7)).toNatClampNeg (fd_qr p1 (r (fd_qa p1 p2 (σ.2.1 7)).toNatClampNeg) (r (fd_qa p1 p2 (σ.2.1 8)).toNatClampNeg)) (fd_qa p1 p2 (σ.2.1 8)).toNatClampNeg (fd_qr p1 (r (fd_qa p1 p2 (σ.2.1 7)).toNatClampNeg) (r (fd_qa p1 p2 (σ.2.1 8)).toNatClampNeg)) w (σ.1 1).toNatClampNeg → (σ.2.1 5 p3.toNatClampNeg).toNatClampNeg < (σ.1 1).toNatClampNeg → (0 : Int64) = (r (σ.2.1 5 p3.toNatClampNeg).toNatClampNeg ^^^ w (σ.2.1 5 p3.toNatClampNeg).toNatClampNeg) &&& fd_mk (σ.1 4))) := fd_hd (fun h => absurd h (by omega))
                exact fd_ok_some ⟨i_589, f_590, x_597, w_598⟩
              ·
                have d_599 := Int32.lt_iff_toInt_lt.mp (Int32.not_le.mp c_586)
                refine fd_ok_pb ?_
                refine fd_ok_itn (by decide) ?_
                try unfold f_X11_shows_0_J41
                try unfold f_X11_shows_0_J46
                refine fd_ok_itn (by decide) ?_
                refine fd_ok_bd ?_
                try unfold f_X11_isIn
                refine fd_ok_ite (fun c_600 => ?_) (fun c_600 => ?_)
                ·
                  have d_601 := Int32.lt_iff_toInt_lt.mp c_600
                  refine fd_ok_pb ?_
                  refine fd_ok_itp (by decide) ?_
                  try unfold f_X11_shows_0_J69
                  try unfold f_X11_shows_0_J70
                  refine fd_ok_lt (fun σ9_602 eσ9_602 => ?_)
                  have i_603 : fd_InvM σ9_602 := fd_inv_sI eσ9_602 i0 (fd_rng _)
                  have f_604 : fd_fr [0, 209, 210] σ σ9_602 := fd_fr_tr f0 (fd_fr_sI eσ9_602 (by decide))
                  have t_605 : (σ9_602.1 0).toInt = (1 : Int32).toInt := congrArg Int32.toInt (fd_tI eσ9_602)
                  have t_606 : (σ9_602.1 1).toInt = (σ.1 1).toInt := congrArg Int32.toInt (fd_tN eσ9_602 (by decide))
                  have t_607 : (σ9_602.1 3).toInt = (σ.1 3).toInt := congrArg Int32.toInt (fd_tN eσ9_602 (by decide))
                  have t_608 : (σ9_602.1 5).toInt = (σ.1 5).toInt := congrArg Int32.toInt (fd_tN eσ9_602 (by decide))
                  have y_609 := fd_yIL (d := 10) eσ9_602 (rfl : σ.2.2 10 = _)
                  have r_610 := fd_rng (σ9_602.1 0)
                  refine fd_ok_itn (Int32.not_le.mpr (Int32.lt_iff_toInt_lt.mpr (by omega))) ?_
                  have x_611 : (¬ (0 ≤ p1.toInt ∧ p1.toInt ≤ 3 ∧ 0 ≤ p2.toInt ∧ (1 < p1.toInt ∨ p2.toInt < (σ.1 1).toInt) ∧ (p1.toInt ≤ 1 ∨ p2.toInt < (σ.1 5).toInt) ∧ 0 ≤ p3.toInt ∧ p3.toInt < (σ.1 3).toInt) ∧ (σ9_602.1 0).toInt = 1) ∨ ((0 ≤ p1.toInt ∧ p1.toInt ≤ 3 ∧ 0 ≤ p2.toInt ∧ (1 < p1.toInt ∨ p2.toInt < (σ.1 1).toInt) ∧ (p1.toInt ≤ 1 ∨ p2.toInt < (σ.1 5).toInt) ∧ 0 ≤ p3.toInt ∧ p3.toInt < (σ.1 3).toInt) ∧ (σ9_602.1 0).toInt = 0) := by omega
                  have w_612 : fd_H (((σ9_602.1 0).toInt = 0 → ∀ r w : Nat → Int64, fd_E (σ.2.1 1) (σ.2.1 2) (σ.2.1 3) r (σ.2.2 4) (σ.1 1).toNatClampNeg → (0 ≤ (fd_qa p1 p2 (σ.2.1 7)).toInt ∧ (fd_qa p1 p2 (σ.2.1 7)).toInt < (σ.1 1).toInt) → (0 ≤ (fd_qa p1 p2 (σ.2.1 8)).toInt ∧ (fd_qa p1 p2 (σ.2.1 8)).toInt < (σ.1 1).toInt) → fd_F (σ.2.1 1) (σ.2.1 2) (σ.2.1 3) (σ.2.2 4) (fd_qa p1 p2 (σ.2.1 7)).toNatClampNeg (fd_qr p1 (r (fd_qa p1 p2 (σ.2.1 7)).toNatClampNeg) (r (fd_qa p1 p2 (σ.2.1 8)).toNatClampNeg)) (fd_qa p1 p2 (σ.2.1 8)).toNatClampNeg (fd_qr p1 (r (fd_qa p1 p2 (σ.2.1 7)).toNatClampNeg) (r (fd_qa p1 p2 (σ.2.1 8)).toNatClampNeg)) w (σ.1 1).toNatClampNeg → (σ.2.1 5 p3.toNatClampNeg).toNatClampNeg < (σ.1 1).toNatClampNeg → (0 : Int64) = (r (σ.2.1 5 p3.toNatClampNeg).toNatClampNeg ^^^ w (σ.2.1 5 p3.toNatClampNeg).toNatClampNeg) &&& fd_mk (σ.1 4))) := fd_hd (fun h => absurd h (by omega))
                  exact fd_ok_some ⟨i_603, f_604, x_611, w_612⟩
                ·
                  have d_613 := Int32.le_iff_toInt_le.mp (Int32.not_lt.mp c_600)
                  have r_614 : (0 : Int) ≤ (σ.1 3).toInt ∧ (σ.1 3).toInt ≤ 32 := i0.1 3
                  refine fd_ok_ite (fun c_615 => ?_) (fun c_615 => ?_)
                  ·
                    have d_616 := Int32.le_iff_toInt_le.mp c_615
                    refine fd_ok_pb ?_
                    refine fd_ok_itp (by decide) ?_
                    try unfold f_X11_shows_0_J69
                    try unfold f_X11_shows_0_J70
                    refine fd_ok_lt (fun σ9_617 eσ9_617 => ?_)
                    have i_618 : fd_InvM σ9_617 := fd_inv_sI eσ9_617 i0 (fd_rng _)
                    have f_619 : fd_fr [0, 209, 210] σ σ9_617 := fd_fr_tr f0 (fd_fr_sI eσ9_617 (by decide))
                    have t_620 : (σ9_617.1 0).toInt = (1 : Int32).toInt := congrArg Int32.toInt (fd_tI eσ9_617)
                    have t_621 : (σ9_617.1 1).toInt = (σ.1 1).toInt := congrArg Int32.toInt (fd_tN eσ9_617 (by decide))
                    have t_622 : (σ9_617.1 3).toInt = (σ.1 3).toInt := congrArg Int32.toInt (fd_tN eσ9_617 (by decide))
                    have t_623 : (σ9_617.1 5).toInt = (σ.1 5).toInt := congrArg Int32.toInt (fd_tN eσ9_617 (by decide))
                    have y_624 := fd_yIL (d := 10) eσ9_617 (rfl : σ.2.2 10 = _)
                    have r_625 := fd_rng (σ9_617.1 0)
                    refine fd_ok_itn (Int32.not_le.mpr (Int32.lt_iff_toInt_lt.mpr (by omega))) ?_
                    have x_626 : (¬ (0 ≤ p1.toInt ∧ p1.toInt ≤ 3 ∧ 0 ≤ p2.toInt ∧ (1 < p1.toInt ∨ p2.toInt < (σ.1 1).toInt) ∧ (p1.toInt ≤ 1 ∨ p2.toInt < (σ.1 5).toInt) ∧ 0 ≤ p3.toInt ∧ p3.toInt < (σ.1 3).toInt) ∧ (σ9_617.1 0).toInt = 1) ∨ ((0 ≤ p1.toInt ∧ p1.toInt ≤ 3 ∧ 0 ≤ p2.toInt ∧ (1 < p1.toInt ∨ p2.toInt < (σ.1 1).toInt) ∧ (p1.toInt ≤ 1 ∨ p2.toInt < (σ.1 5).toInt) ∧ 0 ≤ p3.toInt ∧ p3.toInt < (σ.1 3).toInt) ∧ (σ9_617.1 0).toInt = 0) := by omega
                    have w_627 : fd_H (((σ9_617.1 0).toInt = 0 → ∀ r w : Nat → Int64, fd_E (σ.2.1 1) (σ.2.1 2) (σ.2.1 3) r (σ.2.2 4) (σ.1 1).toNatClampNeg → (0 ≤ (fd_qa p1 p2 (σ.2.1 7)).toInt ∧ (fd_qa p1 p2 (σ.2.1 7)).toInt < (σ.1 1).toInt) → (0 ≤ (fd_qa p1 p2 (σ.2.1 8)).toInt ∧ (fd_qa p1 p2 (σ.2.1 8)).toInt < (σ.1 1).toInt) → fd_F (σ.2.1 1) (σ.2.1 2) (σ.2.1 3) (σ.2.2 4) (fd_qa p1 p2 (σ.2.1 7)).toNatClampNeg (fd_qr p1 (r (fd_qa p1 p2 (σ.2.1 7)).toNatClampNeg) (r (fd_qa p1 p2 (σ.2.1 8)).toNatClampNeg)) (fd_qa p1 p2 (σ.2.1 8)).toNatClampNeg (fd_qr p1 (r (fd_qa p1 p2 (σ.2.1 7)).toNatClampNeg) (r (fd_qa p1 p2 (σ.2.1 8)).toNatClampNeg)) w (σ.1 1).toNatClampNeg → (σ.2.1 5 p3.toNatClampNeg).toNatClampNeg < (σ.1 1).toNatClampNeg → (0 : Int64) = (r (σ.2.1 5 p3.toNatClampNeg).toNatClampNeg ^^^ w (σ.2.1 5 p3.toNatClampNeg).toNatClampNeg) &&& fd_mk (σ.1 4))) := fd_hd (fun h => absurd h (by omega))
                    exact fd_ok_some ⟨i_618, f_619, x_626, w_627⟩
                  ·
                    have d_628 := Int32.lt_iff_toInt_lt.mp (Int32.not_le.mp c_615)
                    refine fd_ok_pb ?_
                    refine fd_ok_itn (by decide) ?_
                    try unfold f_X11_shows_0_J70
                    refine fd_ok_lt (fun σ9_629 eσ9_629 => ?_)
                    have i_630 : fd_InvM σ9_629 := fd_inv_sI eσ9_629 i0 (fd_rng _)
                    have f_631 : fd_fr [0, 209, 210] σ σ9_629 := fd_fr_tr f0 (fd_fr_sI eσ9_629 (by decide))
                    have t_632 : (σ9_629.1 0).toInt = (0 : Int32).toInt := congrArg Int32.toInt (fd_tI eσ9_629)
                    have t_633 : (σ9_629.1 1).toInt = (σ.1 1).toInt := congrArg Int32.toInt (fd_tN eσ9_629 (by decide))
                    have t_634 : (σ9_629.1 3).toInt = (σ.1 3).toInt := congrArg Int32.toInt (fd_tN eσ9_629 (by decide))
                    have t_635 : (σ9_629.1 5).toInt = (σ.1 5).toInt := congrArg Int32.toInt (fd_tN eσ9_629 (by decide))
                    have y_636 := fd_yIL (d := 10) eσ9_629 (rfl : σ.2.2 10 = _)
                    have r_637 := fd_rng (σ9_629.1 0)
                    refine fd_ok_itp (Int32.le_iff_toInt_le.mpr (by omega)) ?_
                    refine fd_ok_bd ?_
                    try unfold f_X11_workPlain_0
                    refine fd_ok_cl (s_X11_workPlain_0_L2 N hN N _ _ i_630 (by omega) (by omega) (by omega)) ?_
                    rintro v_638 σ_639 ⟨i_640, g_641, x_642⟩
                    have f_643 : fd_fr [0, 209, 210] σ σ_639 := fd_fr_tr f_631 (fd_fr_mono g_641 (by decide))
                    have y_644 := (g_641.2.2 10 (by decide)).trans y_636
                    have t_645 : (σ_639.1 0).toInt = (σ9_629.1 0).toInt := congrArg Int32.toInt (g_641.1 0 (by decide))
                    have t_646 : (σ_639.1 1).toInt = (σ9_629.1 1).toInt := congrArg Int32.toInt (g_641.1 1 (by decide))
                    have t_647 : (σ_639.1 3).toInt = (σ9_629.1 3).toInt := congrArg Int32.toInt (g_641.1 3 (by decide))
                    have t_648 : (σ_639.1 5).toInt = (σ9_629.1 5).toInt := congrArg Int32.toInt (g_641.1 5 (by decide))
                    refine fd_ok_bd ?_
                    refine fd_ok_cl (s_X11_workFault_0 N hN _ _ _ i_640 (by omega)) ?_
                    rintro v_649 σ_650 ⟨i_651, g_652, x_653⟩
                    have f_654 : fd_fr [0, 209, 210] σ σ_650 := fd_fr_tr f_643 (fd_fr_mono g_652 (by decide))
                    have t_655 : (σ_650.1 0).toInt = (σ_639.1 0).toInt := congrArg Int32.toInt (g_652.1 0 (by decide))
                    have t_656 : (σ_650.1 1).toInt = (σ_639.1 1).toInt := congrArg Int32.toInt (g_652.1 1 (by decide))
                    have t_657 : (σ_650.1 3).toInt = (σ_639.1 3).toInt := congrArg Int32.toInt (g_652.1 3 (by decide))
                    have t_658 : (σ_650.1 5).toInt = (σ_639.1 5).toInt := congrArg Int32.toInt (g_652.1 5 (by decide))
                    refine fd_ok_gd (vp_in_iff.mpr ⟨by omega, by omega⟩) ?_
                    have r_659 : (0 : Int) ≤ (σ_650.2.1 5 p3.toNatClampNeg).toInt ∧ (σ_650.2.1 5 p3.toNatClampNeg).toInt ≤ 199 := i_651.2.1 5 _
                    refine fd_ok_gd (vp_in_iff.mpr ⟨by omega, by omega⟩) ?_
                    refine fd_ok_gd (vp_in_iff.mpr ⟨by omega, by omega⟩) ?_
                    refine fd_ok_gd (vp_in_iff.mpr ⟨by omega, by omega⟩) ?_
                    have x_660 : (¬ (0 ≤ p1.toInt ∧ p1.toInt ≤ 3 ∧ 0 ≤ p2.toInt ∧ (1 < p1.toInt ∨ p2.toInt < (σ.1 1).toInt) ∧ (p1.toInt ≤ 1 ∨ p2.toInt < (σ.1 5).toInt) ∧ 0 ≤ p3.toInt ∧ p3.toInt < (σ.1 3).toInt) ∧ (σ_650.1 0).toInt = 1) ∨ ((0 ≤ p1.toInt ∧ p1.toInt ≤ 3 ∧ 0 ≤ p2.toInt ∧ (1 < p1.toInt ∨ p2.toInt < (σ.1 1).toInt) ∧ (p1.toInt ≤ 1 ∨ p2.toInt < (σ.1 5).toInt) ∧ 0 ≤ p3.toInt ∧ p3.toInt < (σ.1 3).toInt) ∧ (σ_650.1 0).toInt = 0) := by omega
                    have E1 : σ9_629.1 1 = σ.1 1 := fd_tN eσ9_629 (by decide)
                    have E4 : σ9_629.1 4 = σ.1 4 := fd_tN eσ9_629 (by decide)
                    have E2 : σ9_629.2.1 = σ.2.1 := by subst eσ9_629; rfl
                    have E3 : σ9_629.2.2 4 = σ.2.2 4 := by subst eσ9_629; rfl
                    have E0 : (0 : Int32).toNatClampNeg = 0 := by decide
                    rw [E2, E3, E1, E4, E0] at x_642
                    have G1 : σ_639.1 1 = σ.1 1 := (g_641.1 1 (by decide)).trans E1
                    have G4 : σ_639.1 4 = σ.1 4 := (g_641.1 4 (by decide)).trans E4
                    have H1 : σ_639.2.1 1 = σ.2.1 1 := (g_641.2.1 1 (by decide)).trans (congrFun E2 1)
                    have H2 : σ_639.2.1 2 = σ.2.1 2 := (g_641.2.1 2 (by decide)).trans (congrFun E2 2)
                    have H3 : σ_639.2.1 3 = σ.2.1 3 := (g_641.2.1 3 (by decide)).trans (congrFun E2 3)
                    have H5 : σ_639.2.1 5 = σ.2.1 5 := (g_641.2.1 5 (by decide)).trans (congrFun E2 5)
                    have H7 : σ_639.2.1 7 = σ.2.1 7 := (g_641.2.1 7 (by decide)).trans (congrFun E2 7)
                    have H8 : σ_639.2.1 8 = σ.2.1 8 := (g_641.2.1 8 (by decide)).trans (congrFun E2 8)
                    have K4 : σ_639.2.2 4 = σ.2.2 4 := (g_641.2.2 4 (by decide)).trans E3
                    rw [G1, G4, H1, H2, H3, H7, H8, K4] at x_653
                    have w_661 : fd_H (((σ_650.1 0).toInt = 0 → ∀ r w : Nat → Int64, fd_E (σ.2.1 1) (σ.2.1 2) (σ.2.1 3) r (σ.2.2 4) (σ.1 1).toNatClampNeg → (0 ≤ (fd_qa p1 p2 (σ.2.1 7)).toInt ∧ (fd_qa p1 p2 (σ.2.1 7)).toInt < (σ.1 1).toInt) → (0 ≤ (fd_qa p1 p2 (σ.2.1 8)).toInt ∧ (fd_qa p1 p2 (σ.2.1 8)).toInt < (σ.1 1).toInt) → fd_F (σ.2.1 1) (σ.2.1 2) (σ.2.1 3) (σ.2.2 4) (fd_qa p1 p2 (σ.2.1 7)).toNatClampNeg (fd_qr p1 (r (fd_qa p1 p2 (σ.2.1 7)).toNatClampNeg) (r (fd_qa p1 p2 (σ.2.1 8)).toNatClampNeg)) (fd_qa p1 p2 (σ.2.1 8)).toNatClampNeg (fd_qr p1 (r (fd_qa p1 p2 (σ.2.1 7)).toNatClampNeg) (r (fd_qa p1 p2 (σ.2.1 8)).toNatClampNeg)) w (σ.1 1).toNatClampNeg → (σ.2.1 5 p3.toNatClampNeg).toNatClampNeg < (σ.1 1).toNatClampNeg → ((σ_650.2.2 9 (σ_650.2.1 5 p3.toNatClampNeg).toNatClampNeg) ^^^ (σ_650.2.2 10 (σ_650.2.1 5 p3.toNatClampNeg).toNatClampNeg)) = (r (σ.2.1 5 p3.toNatClampNeg).toNatClampNeg ^^^ w (σ.2.1 5 p3.toNatClampNeg).toNatClampNeg) &&& fd_mk (σ.1 4))) := fd_hd (fun _ => fun r w hE ha hb hF ho => by
                                                              obtain ⟨u1, u2, u3⟩ := x_653 (by omega) r w (x_642 (by decide) r hE (fun i hi => absurd hi (Nat.not_lt_zero i))) ha hb hE.2.1 hF
                                                              rw [u3, H5, u1 _ ho, u2, x_642 (by decide) r hE (fun i hi => absurd hi (Nat.not_lt_zero i)) _ ho, fd_xm])
                    exact fd_ok_some ⟨i_651, f_654, x_660, w_661⟩
          ·
            have d_662 : ¬ p1.toInt = (3 : Int32).toInt := fun q => c_569 (Int32.toInt_inj.mp q)
            try unfold f_X11_shows_0_J45
            try unfold f_X11_shows_0_J46
            refine fd_ok_itp (by decide) ?_
            try unfold f_X11_shows_0_J69
            try unfold f_X11_shows_0_J70
            refine fd_ok_lt (fun σ9_663 eσ9_663 => ?_)
            have i_664 : fd_InvM σ9_663 := fd_inv_sI eσ9_663 i0 (fd_rng _)
            have f_665 : fd_fr [0, 209, 210] σ σ9_663 := fd_fr_tr f0 (fd_fr_sI eσ9_663 (by decide))
            have t_666 : (σ9_663.1 0).toInt = (1 : Int32).toInt := congrArg Int32.toInt (fd_tI eσ9_663)
            have t_667 : (σ9_663.1 1).toInt = (σ.1 1).toInt := congrArg Int32.toInt (fd_tN eσ9_663 (by decide))
            have t_668 : (σ9_663.1 3).toInt = (σ.1 3).toInt := congrArg Int32.toInt (fd_tN eσ9_663 (by decide))
            have t_669 : (σ9_663.1 5).toInt = (σ.1 5).toInt := congrArg Int32.toInt (fd_tN eσ9_663 (by decide))
            have y_670 := fd_yIL (d := 10) eσ9_663 (rfl : σ.2.2 10 = _)
            have r_671 := fd_rng (σ9_663.1 0)
            refine fd_ok_itn (Int32.not_le.mpr (Int32.lt_iff_toInt_lt.mpr (by omega))) ?_
            have x_672 : (¬ (0 ≤ p1.toInt ∧ p1.toInt ≤ 3 ∧ 0 ≤ p2.toInt ∧ (1 < p1.toInt ∨ p2.toInt < (σ.1 1).toInt) ∧ (p1.toInt ≤ 1 ∨ p2.toInt < (σ.1 5).toInt) ∧ 0 ≤ p3.toInt ∧ p3.toInt < (σ.1 3).toInt) ∧ (σ9_663.1 0).toInt = 1) ∨ ((0 ≤ p1.toInt ∧ p1.toInt ≤ 3 ∧ 0 ≤ p2.toInt ∧ (1 < p1.toInt ∨ p2.toInt < (σ.1 1).toInt) ∧ (p1.toInt ≤ 1 ∨ p2.toInt < (σ.1 5).toInt) ∧ 0 ≤ p3.toInt ∧ p3.toInt < (σ.1 3).toInt) ∧ (σ9_663.1 0).toInt = 0) := by omega
            have w_673 : fd_H (((σ9_663.1 0).toInt = 0 → ∀ r w : Nat → Int64, fd_E (σ.2.1 1) (σ.2.1 2) (σ.2.1 3) r (σ.2.2 4) (σ.1 1).toNatClampNeg → (0 ≤ (fd_qa p1 p2 (σ.2.1 7)).toInt ∧ (fd_qa p1 p2 (σ.2.1 7)).toInt < (σ.1 1).toInt) → (0 ≤ (fd_qa p1 p2 (σ.2.1 8)).toInt ∧ (fd_qa p1 p2 (σ.2.1 8)).toInt < (σ.1 1).toInt) → fd_F (σ.2.1 1) (σ.2.1 2) (σ.2.1 3) (σ.2.2 4) (fd_qa p1 p2 (σ.2.1 7)).toNatClampNeg (fd_qr p1 (r (fd_qa p1 p2 (σ.2.1 7)).toNatClampNeg) (r (fd_qa p1 p2 (σ.2.1 8)).toNatClampNeg)) (fd_qa p1 p2 (σ.2.1 8)).toNatClampNeg (fd_qr p1 (r (fd_qa p1 p2 (σ.2.1 7)).toNatClampNeg) (r (fd_qa p1 p2 (σ.2.1 8)).toNatClampNeg)) w (σ.1 1).toNatClampNeg → (σ.2.1 5 p3.toNatClampNeg).toNatClampNeg < (σ.1 1).toNatClampNeg → (0 : Int64) = (r (σ.2.1 5 p3.toNatClampNeg).toNatClampNeg ^^^ w (σ.2.1 5 p3.toNatClampNeg).toNatClampNeg) &&& fd_mk (σ.1 4))) := fd_hd (fun h => absurd h (by omega))
            exact fd_ok_some ⟨i_664, f_665, x_672, w_673⟩
      ·
        have d_674 := Int32.le_iff_toInt_le.mp (Int32.not_lt.mp c_473)
        have r_675 : (0 : Int) ≤ (σ.1 1).toInt ∧ (σ.1 1).toInt ≤ 200 := i0.1 1
        refine fd_ok_ite (fun c_676 => ?_) (fun c_676 => ?_)
        ·
          have d_677 := Int32.le_iff_toInt_le.mp c_676
          refine fd_ok_pb ?_
          refine fd_ok_itp (by decide) ?_
          try unfold f_X11_shows_0_J20
          refine fd_ok_ite (fun c_678 => ?_) (fun c_678 => ?_)
          ·
            have d_679 := congrArg Int32.toInt c_678
            try unfold f_X11_shows_0_J30
            refine fd_ok_bd ?_
            try unfold f_X11_isIn
            refine fd_ok_ite (fun c_680 => ?_) (fun c_680 => ?_)
            ·
              have d_681 := Int32.lt_iff_toInt_lt.mp c_680
              refine fd_ok_pb ?_
              refine fd_ok_itp (by decide) ?_
              try unfold f_X11_shows_0_J45
              try unfold f_X11_shows_0_J46
              refine fd_ok_itp (by decide) ?_
              try unfold f_X11_shows_0_J69
              try unfold f_X11_shows_0_J70
              refine fd_ok_lt (fun σ9_682 eσ9_682 => ?_)
              have i_683 : fd_InvM σ9_682 := fd_inv_sI eσ9_682 i0 (fd_rng _)
              have f_684 : fd_fr [0, 209, 210] σ σ9_682 := fd_fr_tr f0 (fd_fr_sI eσ9_682 (by decide))
              have t_685 : (σ9_682.1 0).toInt = (1 : Int32).toInt := congrArg Int32.toInt (fd_tI eσ9_682)
              have t_686 : (σ9_682.1 1).toInt = (σ.1 1).toInt := congrArg Int32.toInt (fd_tN eσ9_682 (by decide))
              have t_687 : (σ9_682.1 3).toInt = (σ.1 3).toInt := congrArg Int32.toInt (fd_tN eσ9_682 (by decide))
              have t_688 : (σ9_682.1 5).toInt = (σ.1 5).toInt := congrArg Int32.toInt (fd_tN eσ9_682 (by decide))
              have y_689 := fd_yIL (d := 10) eσ9_682 (rfl : σ.2.2 10 = _)
              have r_690 := fd_rng (σ9_682.1 0)
              refine fd_ok_itn (Int32.not_le.mpr (Int32.lt_iff_toInt_lt.mpr (by omega))) ?_
              have x_691 : (¬ (0 ≤ p1.toInt ∧ p1.toInt ≤ 3 ∧ 0 ≤ p2.toInt ∧ (1 < p1.toInt ∨ p2.toInt < (σ.1 1).toInt) ∧ (p1.toInt ≤ 1 ∨ p2.toInt < (σ.1 5).toInt) ∧ 0 ≤ p3.toInt ∧ p3.toInt < (σ.1 3).toInt) ∧ (σ9_682.1 0).toInt = 1) ∨ ((0 ≤ p1.toInt ∧ p1.toInt ≤ 3 ∧ 0 ≤ p2.toInt ∧ (1 < p1.toInt ∨ p2.toInt < (σ.1 1).toInt) ∧ (p1.toInt ≤ 1 ∨ p2.toInt < (σ.1 5).toInt) ∧ 0 ≤ p3.toInt ∧ p3.toInt < (σ.1 3).toInt) ∧ (σ9_682.1 0).toInt = 0) := by omega
              have w_692 : fd_H (((σ9_682.1 0).toInt = 0 → ∀ r w : Nat → Int64, fd_E (σ.2.1 1) (σ.2.1 2) (σ.2.1 3) r (σ.2.2 4) (σ.1 1).toNatClampNeg → (0 ≤ (fd_qa p1 p2 (σ.2.1 7)).toInt ∧ (fd_qa p1 p2 (σ.2.1 7)).toInt < (σ.1 1).toInt) → (0 ≤ (fd_qa p1 p2 (σ.2.1 8)).toInt ∧ (fd_qa p1 p2 (σ.2.1 8)).toInt < (σ.1 1).toInt) → fd_F (σ.2.1 1) (σ.2.1 2) (σ.2.1 3) (σ.2.2 4) (fd_qa p1 p2 (σ.2.1 7)).toNatClampNeg (fd_qr p1 (r (fd_qa p1 p2 (σ.2.1 7)).toNatClampNeg) (r (fd_qa p1 p2 (σ.2.1 8)).toNatClampNeg)) (fd_qa p1 p2 (σ.2.1 8)).toNatClampNeg (fd_qr p1 (r (fd_qa p1 p2 (σ.2.1 7)).toNatClampNeg) (r (fd_qa p1 p2 (σ.2.1 8)).toNatClampNeg)) w (σ.1 1).toNatClampNeg → (σ.2.1 5 p3.toNatClampNeg).toNatClampNeg < (σ.1 1).toNatClampNeg → (0 : Int64) = (r (σ.2.1 5 p3.toNatClampNeg).toNatClampNeg ^^^ w (σ.2.1 5 p3.toNatClampNeg).toNatClampNeg) &&& fd_mk (σ.1 4))) := fd_hd (fun h => absurd h (by omega))
              exact fd_ok_some ⟨i_683, f_684, x_691, w_692⟩
            ·
              have d_693 := Int32.le_iff_toInt_le.mp (Int32.not_lt.mp c_680)
              have r_694 : (0 : Int) ≤ (σ.1 5).toInt ∧ (σ.1 5).toInt ≤ 40 := i0.1 5
              refine fd_ok_ite (fun c_695 => ?_) (fun c_695 => ?_)
              ·
                have d_696 := Int32.le_iff_toInt_le.mp c_695
                refine fd_ok_pb ?_
                refine fd_ok_itp (by decide) ?_
                try unfold f_X11_shows_0_J45
                try unfold f_X11_shows_0_J46
                refine fd_ok_itp (by decide) ?_
                try unfold f_X11_shows_0_J69
                try unfold f_X11_shows_0_J70
                refine fd_ok_lt (fun σ9_697 eσ9_697 => ?_)
                have i_698 : fd_InvM σ9_697 := fd_inv_sI eσ9_697 i0 (fd_rng _)
                have f_699 : fd_fr [0, 209, 210] σ σ9_697 := fd_fr_tr f0 (fd_fr_sI eσ9_697 (by decide))
                have t_700 : (σ9_697.1 0).toInt = (1 : Int32).toInt := congrArg Int32.toInt (fd_tI eσ9_697)
                have t_701 : (σ9_697.1 1).toInt = (σ.1 1).toInt := congrArg Int32.toInt (fd_tN eσ9_697 (by decide))
                have t_702 : (σ9_697.1 3).toInt = (σ.1 3).toInt := congrArg Int32.toInt (fd_tN eσ9_697 (by decide))
                have t_703 : (σ9_697.1 5).toInt = (σ.1 5).toInt := congrArg Int32.toInt (fd_tN eσ9_697 (by decide))
                have y_704 := fd_yIL (d := 10) eσ9_697 (rfl : σ.2.2 10 = _)
                have r_705 := fd_rng (σ9_697.1 0)
                refine fd_ok_itn (Int32.not_le.mpr (Int32.lt_iff_toInt_lt.mpr (by omega))) ?_
                have x_706 : (¬ (0 ≤ p1.toInt ∧ p1.toInt ≤ 3 ∧ 0 ≤ p2.toInt ∧ (1 < p1.toInt ∨ p2.toInt < (σ.1 1).toInt) ∧ (p1.toInt ≤ 1 ∨ p2.toInt < (σ.1 5).toInt) ∧ 0 ≤ p3.toInt ∧ p3.toInt < (σ.1 3).toInt) ∧ (σ9_697.1 0).toInt = 1) ∨ ((0 ≤ p1.toInt ∧ p1.toInt ≤ 3 ∧ 0 ≤ p2.toInt ∧ (1 < p1.toInt ∨ p2.toInt < (σ.1 1).toInt) ∧ (p1.toInt ≤ 1 ∨ p2.toInt < (σ.1 5).toInt) ∧ 0 ≤ p3.toInt ∧ p3.toInt < (σ.1 3).toInt) ∧ (σ9_697.1 0).toInt = 0) := by omega
                have w_707 : fd_H (((σ9_697.1 0).toInt = 0 → ∀ r w : Nat → Int64, fd_E (σ.2.1 1) (σ.2.1 2) (σ.2.1 3) r (σ.2.2 4) (σ.1 1).toNatClampNeg → (0 ≤ (fd_qa p1 p2 (σ.2.1 7)).toInt ∧ (fd_qa p1 p2 (σ.2.1 7)).toInt < (σ.1 1).toInt) → (0 ≤ (fd_qa p1 p2 (σ.2.1 8)).toInt ∧ (fd_qa p1 p2 (σ.2.1 8)).toInt < (σ.1 1).toInt) → fd_F (σ.2.1 1) (σ.2.1 2) (σ.2.1 3) (σ.2.2 4) (fd_qa p1 p2 (σ.2.1 7)).toNatClampNeg (fd_qr p1 (r (fd_qa p1 p2 (σ.2.1 7)).toNatClampNeg) (r (fd_qa p1 p2 (σ.2.1 8)).toNatClampNeg)) (fd_qa p1 p2 (σ.2.1 8)).toNatClampNeg (fd_qr p1 (r (fd_qa p1 p2 (σ.2.1 7)).toNatClampNeg) (r (fd_qa p1 p2 (σ.2.1 8)).toNatClampNeg)) w (σ.1 1).toNatClampNeg → (σ.2.1 5 p3.toNatClampNeg).toNatClampNeg < (σ.1 1).toNatClampNeg → (0 : Int64) = (r (σ.2.1 5 p3.toNatClampNeg).toNatClampNeg ^^^ w (σ.2.1 5 p3.toNatClampNeg).toNatClampNeg) &&& fd_mk (σ.1 4))) := fd_hd (fun h => absurd h (by omega))
                exact fd_ok_some ⟨i_698, f_699, x_706, w_707⟩
              ·
                have d_708 := Int32.lt_iff_toInt_lt.mp (Int32.not_le.mp c_695)
                refine fd_ok_pb ?_
                refine fd_ok_itn (by decide) ?_
                try unfold f_X11_shows_0_J41
                try unfold f_X11_shows_0_J46
                refine fd_ok_itn (by decide) ?_
                refine fd_ok_bd ?_
                try unfold f_X11_isIn
                refine fd_ok_ite (fun c_709 => ?_) (fun c_709 => ?_)
                ·
                  have d_710 := Int32.lt_iff_toInt_lt.mp c_709
                  refine fd_ok_pb ?_
                  refine fd_ok_itp (by decide) ?_
                  try unfold f_X11_shows_0_J69
                  try unfold f_X11_shows_0_J70
                  refine fd_ok_lt (fun σ9_711 eσ9_711 => ?_)
                  have i_712 : fd_InvM σ9_711 := fd_inv_sI eσ9_711 i0 (fd_rng _)
                  have f_713 : fd_fr [0, 209, 210] σ σ9_711 := fd_fr_tr f0 (fd_fr_sI eσ9_711 (by decide))
                  have t_714 : (σ9_711.1 0).toInt = (1 : Int32).toInt := congrArg Int32.toInt (fd_tI eσ9_711)
                  have t_715 : (σ9_711.1 1).toInt = (σ.1 1).toInt := congrArg Int32.toInt (fd_tN eσ9_711 (by decide))
                  have t_716 : (σ9_711.1 3).toInt = (σ.1 3).toInt := congrArg Int32.toInt (fd_tN eσ9_711 (by decide))
                  have t_717 : (σ9_711.1 5).toInt = (σ.1 5).toInt := congrArg Int32.toInt (fd_tN eσ9_711 (by decide))
                  have y_718 := fd_yIL (d := 10) eσ9_711 (rfl : σ.2.2 10 = _)
                  have r_719 := fd_rng (σ9_711.1 0)
                  refine fd_ok_itn (Int32.not_le.mpr (Int32.lt_iff_toInt_lt.mpr (by omega))) ?_
                  have x_720 : (¬ (0 ≤ p1.toInt ∧ p1.toInt ≤ 3 ∧ 0 ≤ p2.toInt ∧ (1 < p1.toInt ∨ p2.toInt < (σ.1 1).toInt) ∧ (p1.toInt ≤ 1 ∨ p2.toInt < (σ.1 5).toInt) ∧ 0 ≤ p3.toInt ∧ p3.toInt < (σ.1 3).toInt) ∧ (σ9_711.1 0).toInt = 1) ∨ ((0 ≤ p1.toInt ∧ p1.toInt ≤ 3 ∧ 0 ≤ p2.toInt ∧ (1 < p1.toInt ∨ p2.toInt < (σ.1 1).toInt) ∧ (p1.toInt ≤ 1 ∨ p2.toInt < (σ.1 5).toInt) ∧ 0 ≤ p3.toInt ∧ p3.toInt < (σ.1 3).toInt) ∧ (σ9_711.1 0).toInt = 0) := by omega
                  have w_721 : fd_H (((σ9_711.1 0).toInt = 0 → ∀ r w : Nat → Int64, fd_E (σ.2.1 1) (σ.2.1 2) (σ.2.1 3) r (σ.2.2 4) (σ.1 1).toNatClampNeg → (0 ≤ (fd_qa p1 p2 (σ.2.1 7)).toInt ∧ (fd_qa p1 p2 (σ.2.1 7)).toInt < (σ.1 1).toInt) → (0 ≤ (fd_qa p1 p2 (σ.2.1 8)).toInt ∧ (fd_qa p1 p2 (σ.2.1 8)).toInt < (σ.1 1).toInt) → fd_F (σ.2.1 1) (σ.2.1 2) (σ.2.1 3) (σ.2.2 4) (fd_qa p1 p2 (σ.2.1 7)).toNatClampNeg (fd_qr p1 (r (fd_qa p1 p2 (σ.2.1 7)).toNatClampNeg) (r (fd_qa p1 p2 (σ.2.1 8)).toNatClampNeg)) (fd_qa p1 p2 (σ.2.1 8)).toNatClampNeg (fd_qr p1 (r (fd_qa p1 p2 (σ.2.1 7)).toNatClampNeg) (r (fd_qa p1 p2 (σ.2.1 8)).toNatClampNeg)) w (σ.1 1).toNatClampNeg → (σ.2.1 5 p3.toNatClampNeg).toNatClampNeg < (σ.1 1).toNatClampNeg → (0 : Int64) = (r (σ.2.1 5 p3.toNatClampNeg).toNatClampNeg ^^^ w (σ.2.1 5 p3.toNatClampNeg).toNatClampNeg) &&& fd_mk (σ.1 4))) := fd_hd (fun h => absurd h (by omega))
                  exact fd_ok_some ⟨i_712, f_713, x_720, w_721⟩
                ·
                  have d_722 := Int32.le_iff_toInt_le.mp (Int32.not_lt.mp c_709)
                  have r_723 : (0 : Int) ≤ (σ.1 3).toInt ∧ (σ.1 3).toInt ≤ 32 := i0.1 3
                  refine fd_ok_ite (fun c_724 => ?_) (fun c_724 => ?_)
                  ·
                    have d_725 := Int32.le_iff_toInt_le.mp c_724
                    refine fd_ok_pb ?_
                    refine fd_ok_itp (by decide) ?_
                    try unfold f_X11_shows_0_J69
                    try unfold f_X11_shows_0_J70
                    refine fd_ok_lt (fun σ9_726 eσ9_726 => ?_)
                    have i_727 : fd_InvM σ9_726 := fd_inv_sI eσ9_726 i0 (fd_rng _)
                    have f_728 : fd_fr [0, 209, 210] σ σ9_726 := fd_fr_tr f0 (fd_fr_sI eσ9_726 (by decide))
                    have t_729 : (σ9_726.1 0).toInt = (1 : Int32).toInt := congrArg Int32.toInt (fd_tI eσ9_726)
                    have t_730 : (σ9_726.1 1).toInt = (σ.1 1).toInt := congrArg Int32.toInt (fd_tN eσ9_726 (by decide))
                    have t_731 : (σ9_726.1 3).toInt = (σ.1 3).toInt := congrArg Int32.toInt (fd_tN eσ9_726 (by decide))
                    have t_732 : (σ9_726.1 5).toInt = (σ.1 5).toInt := congrArg Int32.toInt (fd_tN eσ9_726 (by decide))
                    have y_733 := fd_yIL (d := 10) eσ9_726 (rfl : σ.2.2 10 = _)
                    have r_734 := fd_rng (σ9_726.1 0)
                    refine fd_ok_itn (Int32.not_le.mpr (Int32.lt_iff_toInt_lt.mpr (by omega))) ?_
                    have x_735 : (¬ (0 ≤ p1.toInt ∧ p1.toInt ≤ 3 ∧ 0 ≤ p2.toInt ∧ (1 < p1.toInt ∨ p2.toInt < (σ.1 1).toInt) ∧ (p1.toInt ≤ 1 ∨ p2.toInt < (σ.1 5).toInt) ∧ 0 ≤ p3.toInt ∧ p3.toInt < (σ.1 3).toInt) ∧ (σ9_726.1 0).toInt = 1) ∨ ((0 ≤ p1.toInt ∧ p1.toInt ≤ 3 ∧ 0 ≤ p2.toInt ∧ (1 < p1.toInt ∨ p2.toInt < (σ.1 1).toInt) ∧ (p1.toInt ≤ 1 ∨ p2.toInt < (σ.1 5).toInt) ∧ 0 ≤ p3.toInt ∧ p3.toInt < (σ.1 3).toInt) ∧ (σ9_726.1 0).toInt = 0) := by omega
                    have w_736 : fd_H (((σ9_726.1 0).toInt = 0 → ∀ r w : Nat → Int64, fd_E (σ.2.1 1) (σ.2.1 2) (σ.2.1 3) r (σ.2.2 4) (σ.1 1).toNatClampNeg → (0 ≤ (fd_qa p1 p2 (σ.2.1 7)).toInt ∧ (fd_qa p1 p2 (σ.2.1 7)).toInt < (σ.1 1).toInt) → (0 ≤ (fd_qa p1 p2 (σ.2.1 8)).toInt ∧ (fd_qa p1 p2 (σ.2.1 8)).toInt < (σ.1 1).toInt) → fd_F (σ.2.1 1) (σ.2.1 2) (σ.2.1 3) (σ.2.2 4) (fd_qa p1 p2 (σ.2.1 7)).toNatClampNeg (fd_qr p1 (r (fd_qa p1 p2 (σ.2.1 7)).toNatClampNeg) (r (fd_qa p1 p2 (σ.2.1 8)).toNatClampNeg)) (fd_qa p1 p2 (σ.2.1 8)).toNatClampNeg (fd_qr p1 (r (fd_qa p1 p2 (σ.2.1 7)).toNatClampNeg) (r (fd_qa p1 p2 (σ.2.1 8)).toNatClampNeg)) w (σ.1 1).toNatClampNeg → (σ.2.1 5 p3.toNatClampNeg).toNatClampNeg < (σ.1 1).toNatClampNeg → (0 : Int64) = (r (σ.2.1 5 p3.toNatClampNeg).toNatClampNeg ^^^ w (σ.2.1 5 p3.toNatClampNeg).toNatClampNeg) &&& fd_mk (σ.1 4))) := fd_hd (fun h => absurd h (by omega))
                    exact fd_ok_some ⟨i_727, f_728, x_735, w_736⟩
                  ·
                    have d_737 := Int32.lt_iff_toInt_lt.mp (Int32.not_le.mp c_724)
                    refine fd_ok_pb ?_
                    refine fd_ok_itn (by decide) ?_
                    try unfold f_X11_shows_0_J70
                    refine fd_ok_lt (fun σ9_738 eσ9_738 => ?_)
                    have i_739 : fd_InvM σ9_738 := fd_inv_sI eσ9_738 i0 (fd_rng _)
                    have f_740 : fd_fr [0, 209, 210] σ σ9_738 := fd_fr_tr f0 (fd_fr_sI eσ9_738 (by decide))
                    have t_741 : (σ9_738.1 0).toInt = (0 : Int32).toInt := congrArg Int32.toInt (fd_tI eσ9_738)
                    have t_742 : (σ9_738.1 1).toInt = (σ.1 1).toInt := congrArg Int32.toInt (fd_tN eσ9_738 (by decide))
                    have t_743 : (σ9_738.1 3).toInt = (σ.1 3).toInt := congrArg Int32.toInt (fd_tN eσ9_738 (by decide))
                    have t_744 : (σ9_738.1 5).toInt = (σ.1 5).toInt := congrArg Int32.toInt (fd_tN eσ9_738 (by decide))
                    have y_745 := fd_yIL (d := 10) eσ9_738 (rfl : σ.2.2 10 = _)
                    have r_746 := fd_rng (σ9_738.1 0)
                    refine fd_ok_itp (Int32.le_iff_toInt_le.mpr (by omega)) ?_
                    refine fd_ok_bd ?_
                    try unfold f_X11_workPlain_0
                    refine fd_ok_cl (s_X11_workPlain_0_L2 N hN N _ _ i_739 (by omega) (by omega) (by omega)) ?_
                    rintro v_747 σ_748 ⟨i_749, g_750, x_751⟩
                    have f_752 : fd_fr [0, 209, 210] σ σ_748 := fd_fr_tr f_740 (fd_fr_mono g_750 (by decide))
                    have y_753 := (g_750.2.2 10 (by decide)).trans y_745
                    have t_754 : (σ_748.1 0).toInt = (σ9_738.1 0).toInt := congrArg Int32.toInt (g_750.1 0 (by decide))
                    have t_755 : (σ_748.1 1).toInt = (σ9_738.1 1).toInt := congrArg Int32.toInt (g_750.1 1 (by decide))
                    have t_756 : (σ_748.1 3).toInt = (σ9_738.1 3).toInt := congrArg Int32.toInt (g_750.1 3 (by decide))
                    have t_757 : (σ_748.1 5).toInt = (σ9_738.1 5).toInt := congrArg Int32.toInt (g_750.1 5 (by decide))
                    refine fd_ok_bd ?_
                    refine fd_ok_cl (s_X11_workFault_0 N hN _ _ _ i_749 (by omega)) ?_
                    rintro v_758 σ_759 ⟨i_760, g_761, x_762⟩
                    have f_763 : fd_fr [0, 209, 210] σ σ_759 := fd_fr_tr f_752 (fd_fr_mono g_761 (by decide))
                    have t_764 : (σ_759.1 0).toInt = (σ_748.1 0).toInt := congrArg Int32.toInt (g_761.1 0 (by decide))
                    have t_765 : (σ_759.1 1).toInt = (σ_748.1 1).toInt := congrArg Int32.toInt (g_761.1 1 (by decide))
                    have t_766 : (σ_759.1 3).toInt = (σ_748.1 3).toInt := congrArg Int32.toInt (g_761.1 3 (by decide))
                    have t_767 : (σ_759.1 5).toInt = (σ_748.1 5).toInt := congrArg Int32.toInt (g_761.1 5 (by decide))
                    refine fd_ok_gd (vp_in_iff.mpr ⟨by omega, by omega⟩) ?_
                    have r_768 : (0 : Int) ≤ (σ_759.2.1 5 p3.toNatClampNeg).toInt ∧ (σ_759.2.1 5 p3.toNatClampNeg).toInt ≤ 199 := i_760.2.1 5 _
                    refine fd_ok_gd (vp_in_iff.mpr ⟨by omega, by omega⟩) ?_
                    refine fd_ok_gd (vp_in_iff.mpr ⟨by omega, by omega⟩) ?_
                    refine fd_ok_gd (vp_in_iff.mpr ⟨by omega, by omega⟩) ?_
                    have x_769 : (¬ (0 ≤ p1.toInt ∧ p1.toInt ≤ 3 ∧ 0 ≤ p2.toInt ∧ (1 < p1.toInt ∨ p2.toInt < (σ.1 1).toInt) ∧ (p1.toInt ≤ 1 ∨ p2.toInt < (σ.1 5).toInt) ∧ 0 ≤ p3.toInt ∧ p3.toInt < (σ.1 3).toInt) ∧ (σ_759.1 0).toInt = 1) ∨ ((0 ≤ p1.toInt ∧ p1.toInt ≤ 3 ∧ 0 ≤ p2.toInt ∧ (1 < p1.toInt ∨ p2.toInt < (σ.1 1).toInt) ∧ (p1.toInt ≤ 1 ∨ p2.toInt < (σ.1 5).toInt) ∧ 0 ≤ p3.toInt ∧ p3.toInt < (σ.1 3).toInt) ∧ (σ_759.1 0).toInt = 0) := by omega
                    have E1 : σ9_738.1 1 = σ.1 1 := fd_tN eσ9_738 (by decide)
                    have E4 : σ9_738.1 4 = σ.1 4 := fd_tN eσ9_738 (by decide)
                    have E2 : σ9_738.2.1 = σ.2.1 := by subst eσ9_738; rfl
                    have E3 : σ9_738.2.2 4 = σ.2.2 4 := by subst eσ9_738; rfl
                    have E0 : (0 : Int32).toNatClampNeg = 0 := by decide
                    rw [E2, E3, E1, E4, E0] at x_751
                    have G1 : σ_748.1 1 = σ.1 1 := (g_750.1 1 (by decide)).trans E1
                    have G4 : σ_748.1 4 = σ.1 4 := (g_750.1 4 (by decide)).trans E4
                    have H1 : σ_748.2.1 1 = σ.2.1 1 := (g_750.2.1 1 (by decide)).trans (congrFun E2 1)
                    have H2 : σ_748.2.1 2 = σ.2.1 2 := (g_750.2.1 2 (by decide)).trans (congrFun E2 2)
                    have H3 : σ_748.2.1 3 = σ.2.1 3 := (g_750.2.1 3 (by decide)).trans (congrFun E2 3)
                    have H5 : σ_748.2.1 5 = σ.2.1 5 := (g_750.2.1 5 (by decide)).trans (congrFun E2 5)
                    have H7 : σ_748.2.1 7 = σ.2.1 7 := (g_750.2.1 7 (by decide)).trans (congrFun E2 7)
                    have H8 : σ_748.2.1 8 = σ.2.1 8 := (g_750.2.1 8 (by decide)).trans (congrFun E2 8)
                    have K4 : σ_748.2.2 4 = σ.2.2 4 := (g_750.2.2 4 (by decide)).trans E3
                    rw [G1, G4, H1, H2, H3, H7, H8, K4] at x_762
                    have w_770 : fd_H (((σ_759.1 0).toInt = 0 → ∀ r w : Nat → Int64, fd_E (σ.2.1 1) (σ.2.1 2) (σ.2.1 3) r (σ.2.2 4) (σ.1 1).toNatClampNeg → (0 ≤ (fd_qa p1 p2 (σ.2.1 7)).toInt ∧ (fd_qa p1 p2 (σ.2.1 7)).toInt < (σ.1 1).toInt) → (0 ≤ (fd_qa p1 p2 (σ.2.1 8)).toInt ∧ (fd_qa p1 p2 (σ.2.1 8)).toInt < (σ.1 1).toInt) → fd_F (σ.2.1 1) (σ.2.1 2) (σ.2.1 3) (σ.2.2 4) (fd_qa p1 p2 (σ.2.1 7)).toNatClampNeg (fd_qr p1 (r (fd_qa p1 p2 (σ.2.1 7)).toNatClampNeg) (r (fd_qa p1 p2 (σ.2.1 8)).toNatClampNeg)) (fd_qa p1 p2 (σ.2.1 8)).toNatClampNeg (fd_qr p1 (r (fd_qa p1 p2 (σ.2.1 7)).toNatClampNeg) (r (fd_qa p1 p2 (σ.2.1 8)).toNatClampNeg)) w (σ.1 1).toNatClampNeg → (σ.2.1 5 p3.toNatClampNeg).toNatClampNeg < (σ.1 1).toNatClampNeg → ((σ_759.2.2 9 (σ_759.2.1 5 p3.toNatClampNeg).toNatClampNeg) ^^^ (σ_759.2.2 10 (σ_759.2.1 5 p3.toNatClampNeg).toNatClampNeg)) = (r (σ.2.1 5 p3.toNatClampNeg).toNatClampNeg ^^^ w (σ.2.1 5 p3.toNatClampNeg).toNatClampNeg) &&& fd_mk (σ.1 4))) := fd_hd (fun _ => fun r w hE ha hb hF ho => by
                                                              obtain ⟨u1, u2, u3⟩ := x_762 (by omega) r w (x_751 (by decide) r hE (fun i hi => absurd hi (Nat.not_lt_zero i))) ha hb hE.2.1 hF
                                                              rw [u3, H5, u1 _ ho, u2, x_751 (by decide) r hE (fun i hi => absurd hi (Nat.not_lt_zero i)) _ ho, fd_xm])
                    exact fd_ok_some ⟨i_760, f_763, x_769, w_770⟩
          ·
            have d_771 : ¬ p1.toInt = (2 : Int32).toInt := fun q => c_678 (Int32.toInt_inj.mp q)
            refine fd_ok_ite (fun c_772 => ?_) (fun c_772 => ?_)
            ·
              have d_773 := congrArg Int32.toInt c_772
              try unfold f_X11_shows_0_J30
              refine fd_ok_bd ?_
              try unfold f_X11_isIn
              refine fd_ok_ite (fun c_774 => ?_) (fun c_774 => ?_)
              ·
                have d_775 := Int32.lt_iff_toInt_lt.mp c_774
                refine fd_ok_pb ?_
                refine fd_ok_itp (by decide) ?_
                try unfold f_X11_shows_0_J45
                try unfold f_X11_shows_0_J46
                refine fd_ok_itp (by decide) ?_
                try unfold f_X11_shows_0_J69
                try unfold f_X11_shows_0_J70
                refine fd_ok_lt (fun σ9_776 eσ9_776 => ?_)
                have i_777 : fd_InvM σ9_776 := fd_inv_sI eσ9_776 i0 (fd_rng _)
                have f_778 : fd_fr [0, 209, 210] σ σ9_776 := fd_fr_tr f0 (fd_fr_sI eσ9_776 (by decide))
                have t_779 : (σ9_776.1 0).toInt = (1 : Int32).toInt := congrArg Int32.toInt (fd_tI eσ9_776)
                have t_780 : (σ9_776.1 1).toInt = (σ.1 1).toInt := congrArg Int32.toInt (fd_tN eσ9_776 (by decide))
                have t_781 : (σ9_776.1 3).toInt = (σ.1 3).toInt := congrArg Int32.toInt (fd_tN eσ9_776 (by decide))
                have t_782 : (σ9_776.1 5).toInt = (σ.1 5).toInt := congrArg Int32.toInt (fd_tN eσ9_776 (by decide))
                have y_783 := fd_yIL (d := 10) eσ9_776 (rfl : σ.2.2 10 = _)
                have r_784 := fd_rng (σ9_776.1 0)
                refine fd_ok_itn (Int32.not_le.mpr (Int32.lt_iff_toInt_lt.mpr (by omega))) ?_
                have x_785 : (¬ (0 ≤ p1.toInt ∧ p1.toInt ≤ 3 ∧ 0 ≤ p2.toInt ∧ (1 < p1.toInt ∨ p2.toInt < (σ.1 1).toInt) ∧ (p1.toInt ≤ 1 ∨ p2.toInt < (σ.1 5).toInt) ∧ 0 ≤ p3.toInt ∧ p3.toInt < (σ.1 3).toInt) ∧ (σ9_776.1 0).toInt = 1) ∨ ((0 ≤ p1.toInt ∧ p1.toInt ≤ 3 ∧ 0 ≤ p2.toInt ∧ (1 < p1.toInt ∨ p2.toInt < (σ.1 1).toInt) ∧ (p1.toInt ≤ 1 ∨ p2.toInt < (σ.1 5).toInt) ∧ 0 ≤ p3.toInt ∧ p3.toInt < (σ.1 3).toInt) ∧ (σ9_776.1 0).toInt = 0) := by omega
                have w_786 : fd_H (((σ9_776.1 0).toInt = 0 → ∀ r w : Nat → Int64, fd_E (σ.2.1 1) (σ.2.1 2) (σ.2.1 3) r (σ.2.2 4) (σ.1 1).toNatClampNeg → (0 ≤ (fd_qa p1 p2 (σ.2.1 7)).toInt ∧ (fd_qa p1 p2 (σ.2.1 7)).toInt < (σ.1 1).toInt) → (0 ≤ (fd_qa p1 p2 (σ.2.1 8)).toInt ∧ (fd_qa p1 p2 (σ.2.1 8)).toInt < (σ.1 1).toInt) → fd_F (σ.2.1 1) (σ.2.1 2) (σ.2.1 3) (σ.2.2 4) (fd_qa p1 p2 (σ.2.1 7)).toNatClampNeg (fd_qr p1 (r (fd_qa p1 p2 (σ.2.1 7)).toNatClampNeg) (r (fd_qa p1 p2 (σ.2.1 8)).toNatClampNeg)) (fd_qa p1 p2 (σ.2.1 8)).toNatClampNeg (fd_qr p1 (r (fd_qa p1 p2 (σ.2.1 7)).toNatClampNeg) (r (fd_qa p1 p2 (σ.2.1 8)).toNatClampNeg)) w (σ.1 1).toNatClampNeg → (σ.2.1 5 p3.toNatClampNeg).toNatClampNeg < (σ.1 1).toNatClampNeg → (0 : Int64) = (r (σ.2.1 5 p3.toNatClampNeg).toNatClampNeg ^^^ w (σ.2.1 5 p3.toNatClampNeg).toNatClampNeg) &&& fd_mk (σ.1 4))) := fd_hd (fun h => absurd h (by omega))
                exact fd_ok_some ⟨i_777, f_778, x_785, w_786⟩
              ·
                have d_787 := Int32.le_iff_toInt_le.mp (Int32.not_lt.mp c_774)
                have r_788 : (0 : Int) ≤ (σ.1 5).toInt ∧ (σ.1 5).toInt ≤ 40 := i0.1 5
                refine fd_ok_ite (fun c_789 => ?_) (fun c_789 => ?_)
                ·
                  have d_790 := Int32.le_iff_toInt_le.mp c_789
                  refine fd_ok_pb ?_
                  refine fd_ok_itp (by decide) ?_
                  try unfold f_X11_shows_0_J45
                  try unfold f_X11_shows_0_J46
                  refine fd_ok_itp (by decide) ?_
                  try unfold f_X11_shows_0_J69
                  try unfold f_X11_shows_0_J70
                  refine fd_ok_lt (fun σ9_791 eσ9_791 => ?_)
                  have i_792 : fd_InvM σ9_791 := fd_inv_sI eσ9_791 i0 (fd_rng _)
                  have f_793 : fd_fr [0, 209, 210] σ σ9_791 := fd_fr_tr f0 (fd_fr_sI eσ9_791 (by decide))
                  have t_794 : (σ9_791.1 0).toInt = (1 : Int32).toInt := congrArg Int32.toInt (fd_tI eσ9_791)
                  have t_795 : (σ9_791.1 1).toInt = (σ.1 1).toInt := congrArg Int32.toInt (fd_tN eσ9_791 (by decide))
                  have t_796 : (σ9_791.1 3).toInt = (σ.1 3).toInt := congrArg Int32.toInt (fd_tN eσ9_791 (by decide))
                  have t_797 : (σ9_791.1 5).toInt = (σ.1 5).toInt := congrArg Int32.toInt (fd_tN eσ9_791 (by decide))
                  have y_798 := fd_yIL (d := 10) eσ9_791 (rfl : σ.2.2 10 = _)
                  have r_799 := fd_rng (σ9_791.1 0)
                  refine fd_ok_itn (Int32.not_le.mpr (Int32.lt_iff_toInt_lt.mpr (by omega))) ?_
                  have x_800 : (¬ (0 ≤ p1.toInt ∧ p1.toInt ≤ 3 ∧ 0 ≤ p2.toInt ∧ (1 < p1.toInt ∨ p2.toInt < (σ.1 1).toInt) ∧ (p1.toInt ≤ 1 ∨ p2.toInt < (σ.1 5).toInt) ∧ 0 ≤ p3.toInt ∧ p3.toInt < (σ.1 3).toInt) ∧ (σ9_791.1 0).toInt = 1) ∨ ((0 ≤ p1.toInt ∧ p1.toInt ≤ 3 ∧ 0 ≤ p2.toInt ∧ (1 < p1.toInt ∨ p2.toInt < (σ.1 1).toInt) ∧ (p1.toInt ≤ 1 ∨ p2.toInt < (σ.1 5).toInt) ∧ 0 ≤ p3.toInt ∧ p3.toInt < (σ.1 3).toInt) ∧ (σ9_791.1 0).toInt = 0) := by omega
                  have w_801 : fd_H (((σ9_791.1 0).toInt = 0 → ∀ r w : Nat → Int64, fd_E (σ.2.1 1) (σ.2.1 2) (σ.2.1 3) r (σ.2.2 4) (σ.1 1).toNatClampNeg → (0 ≤ (fd_qa p1 p2 (σ.2.1 7)).toInt ∧ (fd_qa p1 p2 (σ.2.1 7)).toInt < (σ.1 1).toInt) → (0 ≤ (fd_qa p1 p2 (σ.2.1 8)).toInt ∧ (fd_qa p1 p2 (σ.2.1 8)).toInt < (σ.1 1).toInt) → fd_F (σ.2.1 1) (σ.2.1 2) (σ.2.1 3) (σ.2.2 4) (fd_qa p1 p2 (σ.2.1 7)).toNatClampNeg (fd_qr p1 (r (fd_qa p1 p2 (σ.2.1 7)).toNatClampNeg) (r (fd_qa p1 p2 (σ.2.1 8)).toNatClampNeg)) (fd_qa p1 p2 (σ.2.1 8)).toNatClampNeg (fd_qr p1 (r (fd_qa p1 p2 (σ.2.1 7)).toNatClampNeg) (r (fd_qa p1 p2 (σ.2.1 8)).toNatClampNeg)) w (σ.1 1).toNatClampNeg → (σ.2.1 5 p3.toNatClampNeg).toNatClampNeg < (σ.1 1).toNatClampNeg → (0 : Int64) = (r (σ.2.1 5 p3.toNatClampNeg).toNatClampNeg ^^^ w (σ.2.1 5 p3.toNatClampNeg).toNatClampNeg) &&& fd_mk (σ.1 4))) := fd_hd (fun h => absurd h (by omega))
                  exact fd_ok_some ⟨i_792, f_793, x_800, w_801⟩
                ·
                  have d_802 := Int32.lt_iff_toInt_lt.mp (Int32.not_le.mp c_789)
                  refine fd_ok_pb ?_
                  refine fd_ok_itn (by decide) ?_
                  try unfold f_X11_shows_0_J41
                  try unfold f_X11_shows_0_J46
                  refine fd_ok_itn (by decide) ?_
                  refine fd_ok_bd ?_
                  try unfold f_X11_isIn
                  refine fd_ok_ite (fun c_803 => ?_) (fun c_803 => ?_)
                  ·
                    have d_804 := Int32.lt_iff_toInt_lt.mp c_803
                    refine fd_ok_pb ?_
                    refine fd_ok_itp (by decide) ?_
                    try unfold f_X11_shows_0_J69
                    try unfold f_X11_shows_0_J70
                    refine fd_ok_lt (fun σ9_805 eσ9_805 => ?_)
                    have i_806 : fd_InvM σ9_805 := fd_inv_sI eσ9_805 i0 (fd_rng _)
                    have f_807 : fd_fr [0, 209, 210] σ σ9_805 := fd_fr_tr f0 (fd_fr_sI eσ9_805 (by decide))
                    have t_808 : (σ9_805.1 0).toInt = (1 : Int32).toInt := congrArg Int32.toInt (fd_tI eσ9_805)
                    have t_809 : (σ9_805.1 1).toInt = (σ.1 1).toInt := congrArg Int32.toInt (fd_tN eσ9_805 (by decide))
                    have t_810 : (σ9_805.1 3).toInt = (σ.1 3).toInt := congrArg Int32.toInt (fd_tN eσ9_805 (by decide))
                    have t_811 : (σ9_805.1 5).toInt = (σ.1 5).toInt := congrArg Int32.toInt (fd_tN eσ9_805 (by decide))
                    have y_812 := fd_yIL (d := 10) eσ9_805 (rfl : σ.2.2 10 = _)
                    have r_813 := fd_rng (σ9_805.1 0)
                    refine fd_ok_itn (Int32.not_le.mpr (Int32.lt_iff_toInt_lt.mpr (by omega))) ?_
                    have x_814 : (¬ (0 ≤ p1.toInt ∧ p1.toInt ≤ 3 ∧ 0 ≤ p2.toInt ∧ (1 < p1.toInt ∨ p2.toInt < (σ.1 1).toInt) ∧ (p1.toInt ≤ 1 ∨ p2.toInt < (σ.1 5).toInt) ∧ 0 ≤ p3.toInt ∧ p3.toInt < (σ.1 3).toInt) ∧ (σ9_805.1 0).toInt = 1) ∨ ((0 ≤ p1.toInt ∧ p1.toInt ≤ 3 ∧ 0 ≤ p2.toInt ∧ (1 < p1.toInt ∨ p2.toInt < (σ.1 1).toInt) ∧ (p1.toInt ≤ 1 ∨ p2.toInt < (σ.1 5).toInt) ∧ 0 ≤ p3.toInt ∧ p3.toInt < (σ.1 3).toInt) ∧ (σ9_805.1 0).toInt = 0) := by omega
                    have w_815 : fd_H (((σ9_805.1 0).toInt = 0 → ∀ r w : Nat → Int64, fd_E (σ.2.1 1) (σ.2.1 2) (σ.2.1 3) r (σ.2.2 4) (σ.1 1).toNatClampNeg → (0 ≤ (fd_qa p1 p2 (σ.2.1 7)).toInt ∧ (fd_qa p1 p2 (σ.2.1 7)).toInt < (σ.1 1).toInt) → (0 ≤ (fd_qa p1 p2 (σ.2.1 8)).toInt ∧ (fd_qa p1 p2 (σ.2.1 8)).toInt < (σ.1 1).toInt) → fd_F (σ.2.1 1) (σ.2.1 2) (σ.2.1 3) (σ.2.2 4) (fd_qa p1 p2 (σ.2.1 7)).toNatClampNeg (fd_qr p1 (r (fd_qa p1 p2 (σ.2.1 7)).toNatClampNeg) (r (fd_qa p1 p2 (σ.2.1 8)).toNatClampNeg)) (fd_qa p1 p2 (σ.2.1 8)).toNatClampNeg (fd_qr p1 (r (fd_qa p1 p2 (σ.2.1 7)).toNatClampNeg) (r (fd_qa p1 p2 (σ.2.1 8)).toNatClampNeg)) w (σ.1 1).toNatClampNeg → (σ.2.1 5 p3.toNatClampNeg).toNatClampNeg < (σ.1 1).toNatClampNeg → (0 : Int64) = (r (σ.2.1 5 p3.toNatClampNeg).toNatClampNeg ^^^ w (σ.2.1 5 p3.toNatClampNeg).toNatClampNeg) &&& fd_mk (σ.1 4))) := fd_hd (fun h => absurd h (by omega))
                    exact fd_ok_some ⟨i_806, f_807, x_814, w_815⟩
                  ·
                    have d_816 := Int32.le_iff_toInt_le.mp (Int32.not_lt.mp c_803)
                    have r_817 : (0 : Int) ≤ (σ.1 3).toInt ∧ (σ.1 3).toInt ≤ 32 := i0.1 3
                    refine fd_ok_ite (fun c_818 => ?_) (fun c_818 => ?_)
                    ·
                      have d_819 := Int32.le_iff_toInt_le.mp c_818
                      refine fd_ok_pb ?_
                      refine fd_ok_itp (by decide) ?_
                      try unfold f_X11_shows_0_J69
                      try unfold f_X11_shows_0_J70
                      refine fd_ok_lt (fun σ9_820 eσ9_820 => ?_)
                      have i_821 : fd_InvM σ9_820 := fd_inv_sI eσ9_820 i0 (fd_rng _)
                      have f_822 : fd_fr [0, 209, 210] σ σ9_820 := fd_fr_tr f0 (fd_fr_sI eσ9_820 (by decide))
                      have t_823 : (σ9_820.1 0).toInt = (1 : Int32).toInt := congrArg Int32.toInt (fd_tI eσ9_820)
                      have t_824 : (σ9_820.1 1).toInt = (σ.1 1).toInt := congrArg Int32.toInt (fd_tN eσ9_820 (by decide))
                      have t_825 : (σ9_820.1 3).toInt = (σ.1 3).toInt := congrArg Int32.toInt (fd_tN eσ9_820 (by decide))
                      have t_826 : (σ9_820.1 5).toInt = (σ.1 5).toInt := congrArg Int32.toInt (fd_tN eσ9_820 (by decide))
                      have y_827 := fd_yIL (d := 10) eσ9_820 (rfl : σ.2.2 10 = _)
                      have r_828 := fd_rng (σ9_820.1 0)
                      refine fd_ok_itn (Int32.not_le.mpr (Int32.lt_iff_toInt_lt.mpr (by omega))) ?_
                      have x_829 : (¬ (0 ≤ p1.toInt ∧ p1.toInt ≤ 3 ∧ 0 ≤ p2.toInt ∧ (1 < p1.toInt ∨ p2.toInt < (σ.1 1).toInt) ∧ (p1.toInt ≤ 1 ∨ p2.toInt < (σ.1 5).toInt) ∧ 0 ≤ p3.toInt ∧ p3.toInt < (σ.1 3).toInt) ∧ (σ9_820.1 0).toInt = 1) ∨ ((0 ≤ p1.toInt ∧ p1.toInt ≤ 3 ∧ 0 ≤ p2.toInt ∧ (1 < p1.toInt ∨ p2.toInt < (σ.1 1).toInt) ∧ (p1.toInt ≤ 1 ∨ p2.toInt < (σ.1 5).toInt) ∧ 0 ≤ p3.toInt ∧ p3.toInt < (σ.1 3).toInt) ∧ (σ9_820.1 0).toInt = 0) := by omega
                      have w_830 : fd_H (((σ9_820.1 0).toInt = 0 → ∀ r w : Nat → Int64, fd_E (σ.2.1 1) (σ.2.1 2) (σ.2.1 3) r (σ.2.2 4) (σ.1 1).toNatClampNeg → (0 ≤ (fd_qa p1 p2 (σ.2.1 7)).toInt ∧ (fd_qa p1 p2 (σ.2.1 7)).toInt < (σ.1 1).toInt) → (0 ≤ (fd_qa p1 p2 (σ.2.1 8)).toInt ∧ (fd_qa p1 p2 (σ.2.1 8)).toInt < (σ.1 1).toInt) → fd_F (σ.2.1 1) (σ.2.1 2) (σ.2.1 3) (σ.2.2 4) (fd_qa p1 p2 (σ.2.1 7)).toNatClampNeg (fd_qr p1 (r (fd_qa p1 p2 (σ.2.1 7)).toNatClampNeg) (r (fd_qa p1 p2 (σ.2.1 8)).toNatClampNeg)) (fd_qa p1 p2 (σ.2.1 8)).toNatClampNeg (fd_qr p1 (r (fd_qa p1 p2 (σ.2.1 7)).toNatClampNeg) (r (fd_qa p1 p2 (σ.2.1 8)).toNatClampNeg)) w (σ.1 1).toNatClampNeg → (σ.2.1 5 p3.toNatClampNeg).toNatClampNeg < (σ.1 1).toNatClampNeg → (0 : Int64) = (r (σ.2.1 5 p3.toNatClampNeg).toNatClampNeg ^^^ w (σ.2.1 5 p3.toNatClampNeg).toNatClampNeg) &&& fd_mk (σ.1 4))) := fd_hd (fun h => absurd h (by omega))
                      exact fd_ok_some ⟨i_821, f_822, x_829, w_830⟩
                    ·
                      have d_831 := Int32.lt_iff_toInt_lt.mp (Int32.not_le.mp c_818)
                      refine fd_ok_pb ?_
                      refine fd_ok_itn (by decide) ?_
                      try unfold f_X11_shows_0_J70
                      refine fd_ok_lt (fun σ9_832 eσ9_832 => ?_)
                      have i_833 : fd_InvM σ9_832 := fd_inv_sI eσ9_832 i0 (fd_rng _)
                      have f_834 : fd_fr [0, 209, 210] σ σ9_832 := fd_fr_tr f0 (fd_fr_sI eσ9_832 (by decide))
                      have t_835 : (σ9_832.1 0).toInt = (0 : Int32).toInt := congrArg Int32.toInt (fd_tI eσ9_832)
                      have t_836 : (σ9_832.1 1).toInt = (σ.1 1).toInt := congrArg Int32.toInt (fd_tN eσ9_832 (by decide))
                      have t_837 : (σ9_832.1 3).toInt = (σ.1 3).toInt := congrArg Int32.toInt (fd_tN eσ9_832 (by decide))
                      have t_838 : (σ9_832.1 5).toInt = (σ.1 5).toInt := congrArg Int32.toInt (fd_tN eσ9_832 (by decide))
                      have y_839 := fd_yIL (d := 10) eσ9_832 (rfl : σ.2.2 10 = _)
                      have r_840 := fd_rng (σ9_832.1 0)
                      refine fd_ok_itp (Int32.le_iff_toInt_le.mpr (by omega)) ?_
                      refine fd_ok_bd ?_
                      try unfold f_X11_workPlain_0
                      refine fd_ok_cl (s_X11_workPlain_0_L2 N hN N _ _ i_833 (by omega) (by omega) (by omega)) ?_
                      rintro v_841 σ_842 ⟨i_843, g_844, x_845⟩
                      have f_846 : fd_fr [0, 209, 210] σ σ_842 := fd_fr_tr f_834 (fd_fr_mono g_844 (by decide))
                      have y_847 := (g_844.2.2 10 (by decide)).trans y_839
                      have t_848 : (σ_842.1 0).toInt = (σ9_832.1 0).toInt := congrArg Int32.toInt (g_844.1 0 (by decide))
                      have t_849 : (σ_842.1 1).toInt = (σ9_832.1 1).toInt := congrArg Int32.toInt (g_844.1 1 (by decide))
                      have t_850 : (σ_842.1 3).toInt = (σ9_832.1 3).toInt := congrArg Int32.toInt (g_844.1 3 (by decide))
                      have t_851 : (σ_842.1 5).toInt = (σ9_832.1 5).toInt := congrArg Int32.toInt (g_844.1 5 (by decide))
                      refine fd_ok_bd ?_
                      refine fd_ok_cl (s_X11_workFault_0 N hN _ _ _ i_843 (by omega)) ?_
                      rintro v_852 σ_853 ⟨i_854, g_855, x_856⟩
                      have f_857 : fd_fr [0, 209, 210] σ σ_853 := fd_fr_tr f_846 (fd_fr_mono g_855 (by decide))
                      have t_858 : (σ_853.1 0).toInt = (σ_842.1 0).toInt := congrArg Int32.toInt (g_855.1 0 (by decide))
                      have t_859 : (σ_853.1 1).toInt = (σ_842.1 1).toInt := congrArg Int32.toInt (g_855.1 1 (by decide))
                      have t_860 : (σ_853.1 3).toInt = (σ_842.1 3).toInt := congrArg Int32.toInt (g_855.1 3 (by decide))
                      have t_861 : (σ_853.1 5).toInt = (σ_842.1 5).toInt := congrArg Int32.toInt (g_855.1 5 (by decide))
                      refine fd_ok_gd (vp_in_iff.mpr ⟨by omega, by omega⟩) ?_
                      have r_862 : (0 : Int) ≤ (σ_853.2.1 5 p3.toNatClampNeg).toInt ∧ (σ_853.2.1 5 p3.toNatClampNeg).toInt ≤ 199 := i_854.2.1 5 _
                      refine fd_ok_gd (vp_in_iff.mpr ⟨by omega, by omega⟩) ?_
                      refine fd_ok_gd (vp_in_iff.mpr ⟨by omega, by omega⟩) ?_
                      refine fd_ok_gd (vp_in_iff.mpr ⟨by omega, by omega⟩) ?_
                      have x_863 : (¬ (0 ≤ p1.toInt ∧ p1.toInt ≤ 3 ∧ 0 ≤ p2.toInt ∧ (1 < p1.toInt ∨ p2.toInt < (σ.1 1).toInt) ∧ (p1.toInt ≤ 1 ∨ p2.toInt < (σ.1 5).toInt) ∧ 0 ≤ p3.toInt ∧ p3.toInt < (σ.1 3).toInt) ∧ (σ_853.1 0).toInt = 1) ∨ ((0 ≤ p1.toInt ∧ p1.toInt ≤ 3 ∧ 0 ≤ p2.toInt ∧ (1 < p1.toInt ∨ p2.toInt < (σ.1 1).toInt) ∧ (p1.toInt ≤ 1 ∨ p2.toInt < (σ.1 5).toInt) ∧ 0 ≤ p3.toInt ∧ p3.toInt < (σ.1 3).toInt) ∧ (σ_853.1 0).toInt = 0) := by omega
                      have E1 : σ9_832.1 1 = σ.1 1 := fd_tN eσ9_832 (by decide)
                      have E4 : σ9_832.1 4 = σ.1 4 := fd_tN eσ9_832 (by decide)
                      have E2 : σ9_832.2.1 = σ.2.1 := by subst eσ9_832; rfl
                      have E3 : σ9_832.2.2 4 = σ.2.2 4 := by subst eσ9_832; rfl
                      have E0 : (0 : Int32).toNatClampNeg = 0 := by decide
                      rw [E2, E3, E1, E4, E0] at x_845
                      have G1 : σ_842.1 1 = σ.1 1 := (g_844.1 1 (by decide)).trans E1
                      have G4 : σ_842.1 4 = σ.1 4 := (g_844.1 4 (by decide)).trans E4
                      have H1 : σ_842.2.1 1 = σ.2.1 1 := (g_844.2.1 1 (by decide)).trans (congrFun E2 1)
                      have H2 : σ_842.2.1 2 = σ.2.1 2 := (g_844.2.1 2 (by decide)).trans (congrFun E2 2)
                      have H3 : σ_842.2.1 3 = σ.2.1 3 := (g_844.2.1 3 (by decide)).trans (congrFun E2 3)
                      have H5 : σ_842.2.1 5 = σ.2.1 5 := (g_844.2.1 5 (by decide)).trans (congrFun E2 5)
                      have H7 : σ_842.2.1 7 = σ.2.1 7 := (g_844.2.1 7 (by decide)).trans (congrFun E2 7)
                      have H8 : σ_842.2.1 8 = σ.2.1 8 := (g_844.2.1 8 (by decide)).trans (congrFun E2 8)
                      have K4 : σ_842.2.2 4 = σ.2.2 4 := (g_844.2.2 4 (by decide)).trans E3
                      rw [G1, G4, H1, H2, H3, H7, H8, K4] at x_856
                      have w_864 : fd_H (((σ_853.1 0).toInt = 0 → ∀ r w : Nat → Int64, fd_E (σ.2.1 1) (σ.2.1 2) (σ.2.1 3) r (σ.2.2 4) (σ.1 1).toNatClampNeg → (0 ≤ (fd_qa p1 p2 (σ.2.1 7)).toInt ∧ (fd_qa p1 p2 (σ.2.1 7)).toInt < (σ.1 1).toInt) → (0 ≤ (fd_qa p1 p2 (σ.2.1 8)).toInt ∧ (fd_qa p1 p2 (σ.2.1 8)).toInt < (σ.1 1).toInt) → fd_F (σ.2.1 1) (σ.2.1 2) (σ.2.1 3) (σ.2.2 4) (fd_qa p1 p2 (σ.2.1 7)).toNatClampNeg (fd_qr p1 (r (fd_qa p1 p2 (σ.2.1 7)).toNatClampNeg) (r (fd_qa p1 p2 (σ.2.1 8)).toNatClampNeg)) (fd_qa p1 p2 (σ.2.1 8)).toNatClampNeg (fd_qr p1 (r (fd_qa p1 p2 (σ.2.1 7)).toNatClampNeg) (r (fd_qa p1 p2 (σ.2.1 8)).toNatClampNeg)) w (σ.1 1).toNatClampNeg → (σ.2.1 5 p3.toNatClampNeg).toNatClampNeg < (σ.1 1).toNatClampNeg → ((σ_853.2.2 9 (σ_853.2.1 5 p3.toNatClampNeg).toNatClampNeg) ^^^ (σ_853.2.2 10 (σ_853.2.1 5 p3.toNatClampNeg).toNatClampNeg)) = (r (σ.2.1 5 p3.toNatClampNeg).toNatClampNeg ^^^ w (σ.2.1 5 p3.toNatClampNeg).toNatClampNeg) &&& fd_mk (σ.1 4))) := fd_hd (fun _ => fun r w hE ha hb hF ho => by
                                                              obtain ⟨u1, u2, u3⟩ := x_856 (by omega) r w (x_845 (by decide) r hE (fun i hi => absurd hi (Nat.not_lt_zero i))) ha hb hE.2.1 hF
                                                              rw [u3, H5, u1 _ ho, u2, x_845 (by decide) r hE (fun i hi => absurd hi (Nat.not_lt_zero i)) _ ho, fd_xm])
                      exact fd_ok_some ⟨i_854, f_857, x_863, w_864⟩
            ·
              have d_865 : ¬ p1.toInt = (3 : Int32).toInt := fun q => c_772 (Int32.toInt_inj.mp q)
              try unfold f_X11_shows_0_J45
              try unfold f_X11_shows_0_J46
              refine fd_ok_itp (by decide) ?_
              try unfold f_X11_shows_0_J69
              try unfold f_X11_shows_0_J70
              refine fd_ok_lt (fun σ9_866 eσ9_866 => ?_)
              have i_867 : fd_InvM σ9_866 := fd_inv_sI eσ9_866 i0 (fd_rng _)
              have f_868 : fd_fr [0, 209, 210] σ σ9_866 := fd_fr_tr f0 (fd_fr_sI eσ9_866 (by decide))
              have t_869 : (σ9_866.1 0).toInt = (1 : Int32).toInt := congrArg Int32.toInt (fd_tI eσ9_866)
              have t_870 : (σ9_866.1 1).toInt = (σ.1 1).toInt := congrArg Int32.toInt (fd_tN eσ9_866 (by decide))
              have t_871 : (σ9_866.1 3).toInt = (σ.1 3).toInt := congrArg Int32.toInt (fd_tN eσ9_866 (by decide))
              have t_872 : (σ9_866.1 5).toInt = (σ.1 5).toInt := congrArg Int32.toInt (fd_tN eσ9_866 (by decide))
              have y_873 := fd_yIL (d := 10) eσ9_866 (rfl : σ.2.2 10 = _)
              have r_874 := fd_rng (σ9_866.1 0)
              refine fd_ok_itn (Int32.not_le.mpr (Int32.lt_iff_toInt_lt.mpr (by omega))) ?_
              have x_875 : (¬ (0 ≤ p1.toInt ∧ p1.toInt ≤ 3 ∧ 0 ≤ p2.toInt ∧ (1 < p1.toInt ∨ p2.toInt < (σ.1 1).toInt) ∧ (p1.toInt ≤ 1 ∨ p2.toInt < (σ.1 5).toInt) ∧ 0 ≤ p3.toInt ∧ p3.toInt < (σ.1 3).toInt) ∧ (σ9_866.1 0).toInt = 1) ∨ ((0 ≤ p1.toInt ∧ p1.toInt ≤ 3 ∧ 0 ≤ p2.toInt ∧ (1 < p1.toInt ∨ p2.toInt < (σ.1 1).toInt) ∧ (p1.toInt ≤ 1 ∨ p2.toInt < (σ.1 5).toInt) ∧ 0 ≤ p3.toInt ∧ p3.toInt < (σ.1 3).toInt) ∧ (σ9_866.1 0).toInt = 0) := by omega
              have w_876 : fd_H (((σ9_866.1 0).toInt = 0 → ∀ r w : Nat → Int64, fd_E (σ.2.1 1) (σ.2.1 2) (σ.2.1 3) r (σ.2.2 4) (σ.1 1).toNatClampNeg → (0 ≤ (fd_qa p1 p2 (σ.2.1 7)).toInt ∧ (fd_qa p1 p2 (σ.2.1 7)).toInt < (σ.1 1).toInt) → (0 ≤ (fd_qa p1 p2 (σ.2.1 8)).toInt ∧ (fd_qa p1 p2 (σ.2.1 8)).toInt < (σ.1 1).toInt) → fd_F (σ.2.1 1) (σ.2.1 2) (σ.2.1 3) (σ.2.2 4) (fd_qa p1 p2 (σ.2.1 7)).toNatClampNeg (fd_qr p1 (r (fd_qa p1 p2 (σ.2.1 7)).toNatClampNeg) (r (fd_qa p1 p2 (σ.2.1 8)).toNatClampNeg)) (fd_qa p1 p2 (σ.2.1 8)).toNatClampNeg (fd_qr p1 (r (fd_qa p1 p2 (σ.2.1 7)).toNatClampNeg) (r (fd_qa p1 p2 (σ.2.1 8)).toNatClampNeg)) w (σ.1 1).toNatClampNeg → (σ.2.1 5 p3.toNatClampNeg).toNatClampNeg < (σ.1 1).toNatClampNeg → (0 : Int64) = (r (σ.2.1 5 p3.toNatClampNeg).toNatClampNeg ^^^ w (σ.2.1 5 p3.toNatClampNeg).toNatClampNeg) &&& fd_mk (σ.1 4))) := fd_hd (fun h => absurd h (by omega))
              exact fd_ok_some ⟨i_867, f_868, x_875, w_876⟩
        ·
          have d_877 := Int32.lt_iff_toInt_lt.mp (Int32.not_le.mp c_676)
          refine fd_ok_pb ?_
          refine fd_ok_itn (by decide) ?_
          try unfold f_X11_shows_0_J41
          try unfold f_X11_shows_0_J46
          refine fd_ok_itn (by decide) ?_
          refine fd_ok_bd ?_
          try unfold f_X11_isIn
          refine fd_ok_ite (fun c_878 => ?_) (fun c_878 => ?_)
          ·
            have d_879 := Int32.lt_iff_toInt_lt.mp c_878
            refine fd_ok_pb ?_
            refine fd_ok_itp (by decide) ?_
            try unfold f_X11_shows_0_J69
            try unfold f_X11_shows_0_J70
            refine fd_ok_lt (fun σ9_880 eσ9_880 => ?_)
            have i_881 : fd_InvM σ9_880 := fd_inv_sI eσ9_880 i0 (fd_rng _)
            have f_882 : fd_fr [0, 209, 210] σ σ9_880 := fd_fr_tr f0 (fd_fr_sI eσ9_880 (by decide))
            have t_883 : (σ9_880.1 0).toInt = (1 : Int32).toInt := congrArg Int32.toInt (fd_tI eσ9_880)
            have t_884 : (σ9_880.1 1).toInt = (σ.1 1).toInt := congrArg Int32.toInt (fd_tN eσ9_880 (by decide))
            have t_885 : (σ9_880.1 3).toInt = (σ.1 3).toInt := congrArg Int32.toInt (fd_tN eσ9_880 (by decide))
            have t_886 : (σ9_880.1 5).toInt = (σ.1 5).toInt := congrArg Int32.toInt (fd_tN eσ9_880 (by decide))
            have y_887 := fd_yIL (d := 10) eσ9_880 (rfl : σ.2.2 10 = _)
            have r_888 := fd_rng (σ9_880.1 0)
            refine fd_ok_itn (Int32.not_le.mpr (Int32.lt_iff_toInt_lt.mpr (by omega))) ?_
            have x_889 : (¬ (0 ≤ p1.toInt ∧ p1.toInt ≤ 3 ∧ 0 ≤ p2.toInt ∧ (1 < p1.toInt ∨ p2.toInt < (σ.1 1).toInt) ∧ (p1.toInt ≤ 1 ∨ p2.toInt < (σ.1 5).toInt) ∧ 0 ≤ p3.toInt ∧ p3.toInt < (σ.1 3).toInt) ∧ (σ9_880.1 0).toInt = 1) ∨ ((0 ≤ p1.toInt ∧ p1.toInt ≤ 3 ∧ 0 ≤ p2.toInt ∧ (1 < p1.toInt ∨ p2.toInt < (σ.1 1).toInt) ∧ (p1.toInt ≤ 1 ∨ p2.toInt < (σ.1 5).toInt) ∧ 0 ≤ p3.toInt ∧ p3.toInt < (σ.1 3).toInt) ∧ (σ9_880.1 0).toInt = 0) := by omega
            have w_890 : fd_H (((σ9_880.1 0).toInt = 0 → ∀ r w : Nat → Int64, fd_E (σ.2.1 1) (σ.2.1 2) (σ.2.1 3) r (σ.2.2 4) (σ.1 1).toNatClampNeg → (0 ≤ (fd_qa p1 p2 (σ.2.1 7)).toInt ∧ (fd_qa p1 p2 (σ.2.1 7)).toInt < (σ.1 1).toInt) → (0 ≤ (fd_qa p1 p2 (σ.2.1 8)).toInt ∧ (fd_qa p1 p2 (σ.2.1 8)).toInt < (σ.1 1).toInt) → fd_F (σ.2.1 1) (σ.2.1 2) (σ.2.1 3) (σ.2.2 4) (fd_qa p1 p2 (σ.2.1 7)).toNatClampNeg (fd_qr p1 (r (fd_qa p1 p2 (σ.2.1 7)).toNatClampNeg) (r (fd_qa p1 p2 (σ.2.1 8)).toNatClampNeg)) (fd_qa p1 p2 (σ.2.1 8)).toNatClampNeg (fd_qr p1 (r (fd_qa p1 p2 (σ.2.1 7)).toNatClampNeg) (r (fd_qa p1 p2 (σ.2.1 8)).toNatClampNeg)) w (σ.1 1).toNatClampNeg → (σ.2.1 5 p3.toNatClampNeg).toNatClampNeg < (σ.1 1).toNatClampNeg → (0 : Int64) = (r (σ.2.1 5 p3.toNatClampNeg).toNatClampNeg ^^^ w (σ.2.1 5 p3.toNatClampNeg).toNatClampNeg) &&& fd_mk (σ.1 4))) := fd_hd (fun h => absurd h (by omega))
            exact fd_ok_some ⟨i_881, f_882, x_889, w_890⟩
          ·
            have d_891 := Int32.le_iff_toInt_le.mp (Int32.not_lt.mp c_878)
            have r_892 : (0 : Int) ≤ (σ.1 3).toInt ∧ (σ.1 3).toInt ≤ 32 := i0.1 3
            refine fd_ok_ite (fun c_893 => ?_) (fun c_893 => ?_)
            ·
              have d_894 := Int32.le_iff_toInt_le.mp c_893
              refine fd_ok_pb ?_
              refine fd_ok_itp (by decide) ?_
              try unfold f_X11_shows_0_J69
              try unfold f_X11_shows_0_J70
              refine fd_ok_lt (fun σ9_895 eσ9_895 => ?_)
              have i_896 : fd_InvM σ9_895 := fd_inv_sI eσ9_895 i0 (fd_rng _)
              have f_897 : fd_fr [0, 209, 210] σ σ9_895 := fd_fr_tr f0 (fd_fr_sI eσ9_895 (by decide))
              have t_898 : (σ9_895.1 0).toInt = (1 : Int32).toInt := congrArg Int32.toInt (fd_tI eσ9_895)
              have t_899 : (σ9_895.1 1).toInt = (σ.1 1).toInt := congrArg Int32.toInt (fd_tN eσ9_895 (by decide))
              have t_900 : (σ9_895.1 3).toInt = (σ.1 3).toInt := congrArg Int32.toInt (fd_tN eσ9_895 (by decide))
              have t_901 : (σ9_895.1 5).toInt = (σ.1 5).toInt := congrArg Int32.toInt (fd_tN eσ9_895 (by decide))
              have y_902 := fd_yIL (d := 10) eσ9_895 (rfl : σ.2.2 10 = _)
              have r_903 := fd_rng (σ9_895.1 0)
              refine fd_ok_itn (Int32.not_le.mpr (Int32.lt_iff_toInt_lt.mpr (by omega))) ?_
              have x_904 : (¬ (0 ≤ p1.toInt ∧ p1.toInt ≤ 3 ∧ 0 ≤ p2.toInt ∧ (1 < p1.toInt ∨ p2.toInt < (σ.1 1).toInt) ∧ (p1.toInt ≤ 1 ∨ p2.toInt < (σ.1 5).toInt) ∧ 0 ≤ p3.toInt ∧ p3.toInt < (σ.1 3).toInt) ∧ (σ9_895.1 0).toInt = 1) ∨ ((0 ≤ p1.toInt ∧ p1.toInt ≤ 3 ∧ 0 ≤ p2.toInt ∧ (1 < p1.toInt ∨ p2.toInt < (σ.1 1).toInt) ∧ (p1.toInt ≤ 1 ∨ p2.toInt < (σ.1 5).toInt) ∧ 0 ≤ p3.toInt ∧ p3.toInt < (σ.1 3).toInt) ∧ (σ9_895.1 0).toInt = 0) := by omega
              have w_905 : fd_H (((σ9_895.1 0).toInt = 0 → ∀ r w : Nat → Int64, fd_E (σ.2.1 1) (σ.2.1 2) (σ.2.1 3) r (σ.2.2 4) (σ.1 1).toNatClampNeg → (0 ≤ (fd_qa p1 p2 (σ.2.1 7)).toInt ∧ (fd_qa p1 p2 (σ.2.1 7)).toInt < (σ.1 1).toInt) → (0 ≤ (fd_qa p1 p2 (σ.2.1 8)).toInt ∧ (fd_qa p1 p2 (σ.2.1 8)).toInt < (σ.1 1).toInt) → fd_F (σ.2.1 1) (σ.2.1 2) (σ.2.1 3) (σ.2.2 4) (fd_qa p1 p2 (σ.2.1 7)).toNatClampNeg (fd_qr p1 (r (fd_qa p1 p2 (σ.2.1 7)).toNatClampNeg) (r (fd_qa p1 p2 (σ.2.1 8)).toNatClampNeg)) (fd_qa p1 p2 (σ.2.1 8)).toNatClampNeg (fd_qr p1 (r (fd_qa p1 p2 (σ.2.1 7)).toNatClampNeg) (r (fd_qa p1 p2 (σ.2.1 8)).toNatClampNeg)) w (σ.1 1).toNatClampNeg → (σ.2.1 5 p3.toNatClampNeg).toNatClampNeg < (σ.1 1).toNatClampNeg → (0 : Int64) = (r (σ.2.1 5 p3.toNatClampNeg).toNatClampNeg ^^^ w (σ.2.1 5 p3.toNatClampNeg).toNatClampNeg) &&& fd_mk (σ.1 4))) := fd_hd (fun h => absurd h (by omega))
              exact fd_ok_some ⟨i_896, f_897, x_904, w_905⟩
            ·
              have d_906 := Int32.lt_iff_toInt_lt.mp (Int32.not_le.mp c_893)
              refine fd_ok_pb ?_
              refine fd_ok_itn (by decide) ?_
              try unfold f_X11_shows_0_J70
              refine fd_ok_lt (fun σ9_907 eσ9_907 => ?_)
              have i_908 : fd_InvM σ9_907 := fd_inv_sI eσ9_907 i0 (fd_rng _)
              have f_909 : fd_fr [0, 209, 210] σ σ9_907 := fd_fr_tr f0 (fd_fr_sI eσ9_907 (by decide))
              have t_910 : (σ9_907.1 0).toInt = (0 : Int32).toInt := congrArg Int32.toInt (fd_tI eσ9_907)
              have t_911 : (σ9_907.1 1).toInt = (σ.1 1).toInt := congrArg Int32.toInt (fd_tN eσ9_907 (by decide))
              have t_912 : (σ9_907.1 3).toInt = (σ.1 3).toInt := congrArg Int32.toInt (fd_tN eσ9_907 (by decide))
              have t_913 : (σ9_907.1 5).toInt = (σ.1 5).toInt := congrArg Int32.toInt (fd_tN eσ9_907 (by decide))
              have y_914 := fd_yIL (d := 10) eσ9_907 (rfl : σ.2.2 10 = _)
              have r_915 := fd_rng (σ9_907.1 0)
              refine fd_ok_itp (Int32.le_iff_toInt_le.mpr (by omega)) ?_
              refine fd_ok_bd ?_
              try unfold f_X11_workPlain_0
              refine fd_ok_cl (s_X11_workPlain_0_L2 N hN N _ _ i_908 (by omega) (by omega) (by omega)) ?_
              rintro v_916 σ_917 ⟨i_918, g_919, x_920⟩
              have f_921 : fd_fr [0, 209, 210] σ σ_917 := fd_fr_tr f_909 (fd_fr_mono g_919 (by decide))
              have y_922 := (g_919.2.2 10 (by decide)).trans y_914
              have t_923 : (σ_917.1 0).toInt = (σ9_907.1 0).toInt := congrArg Int32.toInt (g_919.1 0 (by decide))
              have t_924 : (σ_917.1 1).toInt = (σ9_907.1 1).toInt := congrArg Int32.toInt (g_919.1 1 (by decide))
              have t_925 : (σ_917.1 3).toInt = (σ9_907.1 3).toInt := congrArg Int32.toInt (g_919.1 3 (by decide))
              have t_926 : (σ_917.1 5).toInt = (σ9_907.1 5).toInt := congrArg Int32.toInt (g_919.1 5 (by decide))
              refine fd_ok_bd ?_
              refine fd_ok_cl (s_X11_workFault_0 N hN _ _ _ i_918 (by omega)) ?_
              rintro v_927 σ_928 ⟨i_929, g_930, x_931⟩
              have f_932 : fd_fr [0, 209, 210] σ σ_928 := fd_fr_tr f_921 (fd_fr_mono g_930 (by decide))
              have t_933 : (σ_928.1 0).toInt = (σ_917.1 0).toInt := congrArg Int32.toInt (g_930.1 0 (by decide))
              have t_934 : (σ_928.1 1).toInt = (σ_917.1 1).toInt := congrArg Int32.toInt (g_930.1 1 (by decide))
              have t_935 : (σ_928.1 3).toInt = (σ_917.1 3).toInt := congrArg Int32.toInt (g_930.1 3 (by decide))
              have t_936 : (σ_928.1 5).toInt = (σ_917.1 5).toInt := congrArg Int32.toInt (g_930.1 5 (by decide))
              refine fd_ok_gd (vp_in_iff.mpr ⟨by omega, by omega⟩) ?_
              have r_937 : (0 : Int) ≤ (σ_928.2.1 5 p3.toNatClampNeg).toInt ∧ (σ_928.2.1 5 p3.toNatClampNeg).toInt ≤ 199 := i_929.2.1 5 _
              refine fd_ok_gd (vp_in_iff.mpr ⟨by omega, by omega⟩) ?_
              refine fd_ok_gd (vp_in_iff.mpr ⟨by omega, by omega⟩) ?_
              refine fd_ok_gd (vp_in_iff.mpr ⟨by omega, by omega⟩) ?_
              have x_938 : (¬ (0 ≤ p1.toInt ∧ p1.toInt ≤ 3 ∧ 0 ≤ p2.toInt ∧ (1 < p1.toInt ∨ p2.toInt < (σ.1 1).toInt) ∧ (p1.toInt ≤ 1 ∨ p2.toInt < (σ.1 5).toInt) ∧ 0 ≤ p3.toInt ∧ p3.toInt < (σ.1 3).toInt) ∧ (σ_928.1 0).toInt = 1) ∨ ((0 ≤ p1.toInt ∧ p1.toInt ≤ 3 ∧ 0 ≤ p2.toInt ∧ (1 < p1.toInt ∨ p2.toInt < (σ.1 1).toInt) ∧ (p1.toInt ≤ 1 ∨ p2.toInt < (σ.1 5).toInt) ∧ 0 ≤ p3.toInt ∧ p3.toInt < (σ.1 3).toInt) ∧ (σ_928.1 0).toInt = 0) := by omega
              have E1 : σ9_907.1 1 = σ.1 1 := fd_tN eσ9_907 (by decide)
              have E4 : σ9_907.1 4 = σ.1 4 := fd_tN eσ9_907 (by decide)
              have E2 : σ9_907.2.1 = σ.2.1 := by subst eσ9_907; rfl
              have E3 : σ9_907.2.2 4 = σ.2.2 4 := by subst eσ9_907; rfl
              have E0 : (0 : Int32).toNatClampNeg = 0 := by decide
              rw [E2, E3, E1, E4, E0] at x_920
              have G1 : σ_917.1 1 = σ.1 1 := (g_919.1 1 (by decide)).trans E1
              have G4 : σ_917.1 4 = σ.1 4 := (g_919.1 4 (by decide)).trans E4
              have H1 : σ_917.2.1 1 = σ.2.1 1 := (g_919.2.1 1 (by decide)).trans (congrFun E2 1)
              have H2 : σ_917.2.1 2 = σ.2.1 2 := (g_919.2.1 2 (by decide)).trans (congrFun E2 2)
              have H3 : σ_917.2.1 3 = σ.2.1 3 := (g_919.2.1 3 (by decide)).trans (congrFun E2 3)
              have H5 : σ_917.2.1 5 = σ.2.1 5 := (g_919.2.1 5 (by decide)).trans (congrFun E2 5)
              have H7 : σ_917.2.1 7 = σ.2.1 7 := (g_919.2.1 7 (by decide)).trans (congrFun E2 7)
              have H8 : σ_917.2.1 8 = σ.2.1 8 := (g_919.2.1 8 (by decide)).trans (congrFun E2 8)
              have K4 : σ_917.2.2 4 = σ.2.2 4 := (g_919.2.2 4 (by decide)).trans E3
              rw [G1, G4, H1, H2, H3, H7, H8, K4] at x_931
              have w_939 : fd_H (((σ_928.1 0).toInt = 0 → ∀ r w : Nat → Int64, fd_E (σ.2.1 1) (σ.2.1 2) (σ.2.1 3) r (σ.2.2 4) (σ.1 1).toNatClampNeg → (0 ≤ (fd_qa p1 p2 (σ.2.1 7)).toInt ∧ (fd_qa p1 p2 (σ.2.1 7)).toInt < (σ.1 1).toInt) → (0 ≤ (fd_qa p1 p2 (σ.2.1 8)).toInt ∧ (fd_qa p1 p2 (σ.2.1 8)).toInt < (σ.1 1).toInt) → fd_F (σ.2.1 1) (σ.2.1 2) (σ.2.1 3) (σ.2.2 4) (fd_qa p1 p2 (σ.2.1 7)).toNatClampNeg (fd_qr p1 (r (fd_qa p1 p2 (σ.2.1 7)).toNatClampNeg) (r (fd_qa p1 p2 (σ.2.1 8)).toNatClampNeg)) (fd_qa p1 p2 (σ.2.1 8)).toNatClampNeg (fd_qr p1 (r (fd_qa p1 p2 (σ.2.1 7)).toNatClampNeg) (r (fd_qa p1 p2 (σ.2.1 8)).toNatClampNeg)) w (σ.1 1).toNatClampNeg → (σ.2.1 5 p3.toNatClampNeg).toNatClampNeg < (σ.1 1).toNatClampNeg → ((σ_928.2.2 9 (σ_928.2.1 5 p3.toNatClampNeg).toNatClampNeg) ^^^ (σ_928.2.2 10 (σ_928.2.1 5 p3.toNatClampNeg).toNatClampNeg)) = (r (σ.2.1 5 p3.toNatClampNeg).toNatClampNeg ^^^ w (σ.2.1 5 p3.toNatClampNeg).toNatClampNeg) &&& fd_mk (σ.1 4))) := fd_hd (fun _ => fun r w hE ha hb hF ho => by
                                                              obtain ⟨u1, u2, u3⟩ := x_931 (by omega) r w (x_920 (by decide) r hE (fun i hi => absurd hi (Nat.not_lt_zero i))) ha hb hE.2.1 hF
                                                              rw [u3, H5, u1 _ ho, u2, x_920 (by decide) r hE (fun i hi => absurd hi (Nat.not_lt_zero i)) _ ho, fd_xm])
              exact fd_ok_some ⟨i_929, f_932, x_938, w_939⟩
    ·
      have d_940 : ¬ p1.toInt = (1 : Int32).toInt := fun q => c_471 (Int32.toInt_inj.mp q)
      try unfold f_X11_shows_0_J20
      refine fd_ok_ite (fun c_941 => ?_) (fun c_941 => ?_)
      ·
        have d_942 := congrArg Int32.toInt c_941
        try unfold f_X11_shows_0_J30
        refine fd_ok_bd ?_
        try unfold f_X11_isIn
        refine fd_ok_ite (fun c_943 => ?_) (fun c_943 => ?_)
        ·
          have d_944 := Int32.lt_iff_toInt_lt.mp c_943
          refine fd_ok_pb ?_
          refine fd_ok_itp (by decide) ?_
          try unfold f_X11_shows_0_J45
          try unfold f_X11_shows_0_J46
          refine fd_ok_itp (by decide) ?_
          try unfold f_X11_shows_0_J69
          try unfold f_X11_shows_0_J70
          refine fd_ok_lt (fun σ9_945 eσ9_945 => ?_)
          have i_946 : fd_InvM σ9_945 := fd_inv_sI eσ9_945 i0 (fd_rng _)
          have f_947 : fd_fr [0, 209, 210] σ σ9_945 := fd_fr_tr f0 (fd_fr_sI eσ9_945 (by decide))
          have t_948 : (σ9_945.1 0).toInt = (1 : Int32).toInt := congrArg Int32.toInt (fd_tI eσ9_945)
          have t_949 : (σ9_945.1 1).toInt = (σ.1 1).toInt := congrArg Int32.toInt (fd_tN eσ9_945 (by decide))
          have t_950 : (σ9_945.1 3).toInt = (σ.1 3).toInt := congrArg Int32.toInt (fd_tN eσ9_945 (by decide))
          have t_951 : (σ9_945.1 5).toInt = (σ.1 5).toInt := congrArg Int32.toInt (fd_tN eσ9_945 (by decide))
          have y_952 := fd_yIL (d := 10) eσ9_945 (rfl : σ.2.2 10 = _)
          have r_953 := fd_rng (σ9_945.1 0)
          refine fd_ok_itn (Int32.not_le.mpr (Int32.lt_iff_toInt_lt.mpr (by omega))) ?_
          have x_954 : (¬ (0 ≤ p1.toInt ∧ p1.toInt ≤ 3 ∧ 0 ≤ p2.toInt ∧ (1 < p1.toInt ∨ p2.toInt < (σ.1 1).toInt) ∧ (p1.toInt ≤ 1 ∨ p2.toInt < (σ.1 5).toInt) ∧ 0 ≤ p3.toInt ∧ p3.toInt < (σ.1 3).toInt) ∧ (σ9_945.1 0).toInt = 1) ∨ ((0 ≤ p1.toInt ∧ p1.toInt ≤ 3 ∧ 0 ≤ p2.toInt ∧ (1 < p1.toInt ∨ p2.toInt < (σ.1 1).toInt) ∧ (p1.toInt ≤ 1 ∨ p2.toInt < (σ.1 5).toInt) ∧ 0 ≤ p3.toInt ∧ p3.toInt < (σ.1 3).toInt) ∧ (σ9_945.1 0).toInt = 0) := by omega
          have w_955 : fd_H (((σ9_945.1 0).toInt = 0 → ∀ r w : Nat → Int64, fd_E (σ.2.1 1) (σ.2.1 2) (σ.2.1 3) r (σ.2.2 4) (σ.1 1).toNatClampNeg → (0 ≤ (fd_qa p1 p2 (σ.2.1 7)).toInt ∧ (fd_qa p1 p2 (σ.2.1 7)).toInt < (σ.1 1).toInt) → (0 ≤ (fd_qa p1 p2 (σ.2.1 8)).toInt ∧ (fd_qa p1 p2 (σ.2.1 8)).toInt < (σ.1 1).toInt) → fd_F (σ.2.1 1) (σ.2.1 2) (σ.2.1 3) (σ.2.2 4) (fd_qa p1 p2 (σ.2.1 7)).toNatClampNeg (fd_qr p1 (r (fd_qa p1 p2 (σ.2.1 7)).toNatClampNeg) (r (fd_qa p1 p2 (σ.2.1 8)).toNatClampNeg)) (fd_qa p1 p2 (σ.2.1 8)).toNatClampNeg (fd_qr p1 (r (fd_qa p1 p2 (σ.2.1 7)).toNatClampNeg) (r (fd_qa p1 p2 (σ.2.1 8)).toNatClampNeg)) w (σ.1 1).toNatClampNeg → (σ.2.1 5 p3.toNatClampNeg).toNatClampNeg < (σ.1 1).toNatClampNeg → (0 : Int64) = (r (σ.2.1 5 p3.toNatClampNeg).toNatClampNeg ^^^ w (σ.2.1 5 p3.toNatClampNeg).toNatClampNeg) &&& fd_mk (σ.1 4))) := fd_hd (fun h => absurd h (by omega))
          exact fd_ok_some ⟨i_946, f_947, x_954, w_955⟩
        ·
          have d_956 := Int32.le_iff_toInt_le.mp (Int32.not_lt.mp c_943)
          have r_957 : (0 : Int) ≤ (σ.1 5).toInt ∧ (σ.1 5).toInt ≤ 40 := i0.1 5
          refine fd_ok_ite (fun c_958 => ?_) (fun c_958 => ?_)
          ·
            have d_959 := Int32.le_iff_toInt_le.mp c_958
            refine fd_ok_pb ?_
            refine fd_ok_itp (by decide) ?_
            try unfold f_X11_shows_0_J45
            try unfold f_X11_shows_0_J46
            refine fd_ok_itp (by decide) ?_
            try unfold f_X11_shows_0_J69
            try unfold f_X11_shows_0_J70
            refine fd_ok_lt (fun σ9_960 eσ9_960 => ?_)
            have i_961 : fd_InvM σ9_960 := fd_inv_sI eσ9_960 i0 (fd_rng _)
            have f_962 : fd_fr [0, 209, 210] σ σ9_960 := fd_fr_tr f0 (fd_fr_sI eσ9_960 (by decide))
            have t_963 : (σ9_960.1 0).toInt = (1 : Int32).toInt := congrArg Int32.toInt (fd_tI eσ9_960)
            have t_964 : (σ9_960.1 1).toInt = (σ.1 1).toInt := congrArg Int32.toInt (fd_tN eσ9_960 (by decide))
            have t_965 : (σ9_960.1 3).toInt = (σ.1 3).toInt := congrArg Int32.toInt (fd_tN eσ9_960 (by decide))
            have t_966 : (σ9_960.1 5).toInt = (σ.1 5).toInt := congrArg Int32.toInt (fd_tN eσ9_960 (by decide))
            have y_967 := fd_yIL (d := 10) eσ9_960 (rfl : σ.2.2 10 = _)
            have r_968 := fd_rng (σ9_960.1 0)
            refine fd_ok_itn (Int32.not_le.mpr (Int32.lt_iff_toInt_lt.mpr (by omega))) ?_
            have x_969 : (¬ (0 ≤ p1.toInt ∧ p1.toInt ≤ 3 ∧ 0 ≤ p2.toInt ∧ (1 < p1.toInt ∨ p2.toInt < (σ.1 1).toInt) ∧ (p1.toInt ≤ 1 ∨ p2.toInt < (σ.1 5).toInt) ∧ 0 ≤ p3.toInt ∧ p3.toInt < (σ.1 3).toInt) ∧ (σ9_960.1 0).toInt = 1) ∨ ((0 ≤ p1.toInt ∧ p1.toInt ≤ 3 ∧ 0 ≤ p2.toInt ∧ (1 < p1.toInt ∨ p2.toInt < (σ.1 1).toInt) ∧ (p1.toInt ≤ 1 ∨ p2.toInt < (σ.1 5).toInt) ∧ 0 ≤ p3.toInt ∧ p3.toInt < (σ.1 3).toInt) ∧ (σ9_960.1 0).toInt = 0) := by omega
            have w_970 : fd_H (((σ9_960.1 0).toInt = 0 → ∀ r w : Nat → Int64, fd_E (σ.2.1 1) (σ.2.1 2) (σ.2.1 3) r (σ.2.2 4) (σ.1 1).toNatClampNeg → (0 ≤ (fd_qa p1 p2 (σ.2.1 7)).toInt ∧ (fd_qa p1 p2 (σ.2.1 7)).toInt < (σ.1 1).toInt) → (0 ≤ (fd_qa p1 p2 (σ.2.1 8)).toInt ∧ (fd_qa p1 p2 (σ.2.1 8)).toInt < (σ.1 1).toInt) → fd_F (σ.2.1 1) (σ.2.1 2) (σ.2.1 3) (σ.2.2 4) (fd_qa p1 p2 (σ.2.1 7)).toNatClampNeg (fd_qr p1 (r (fd_qa p1 p2 (σ.2.1 7)).toNatClampNeg) (r (fd_qa p1 p2 (σ.2.1 8)).toNatClampNeg)) (fd_qa p1 p2 (σ.2.1 8)).toNatClampNeg (fd_qr p1 (r (fd_qa p1 p2 (σ.2.1 7)).toNatClampNeg) (r (fd_qa p1 p2 (σ.2.1 8)).toNatClampNeg)) w (σ.1 1).toNatClampNeg → (σ.2.1 5 p3.toNatClampNeg).toNatClampNeg < (σ.1 1).toNatClampNeg → (0 : Int64) = (r (σ.2.1 5 p3.toNatClampNeg).toNatClampNeg ^^^ w (σ.2.1 5 p3.toNatClampNeg).toNatClampNeg) &&& fd_mk (σ.1 4))) := fd_hd (fun h => absurd h (by omega))
            exact fd_ok_some ⟨i_961, f_962, x_969, w_970⟩
          ·
            have d_971 := Int32.lt_iff_toInt_lt.mp (Int32.not_le.mp c_958)
            refine fd_ok_pb ?_
            refine fd_ok_itn (by decide) ?_
            try unfold f_X11_shows_0_J41
            try unfold f_X11_shows_0_J46
            refine fd_ok_itn (by decide) ?_
            refine fd_ok_bd ?_
            try unfold f_X11_isIn
            refine fd_ok_ite (fun c_972 => ?_) (fun c_972 => ?_)
            ·
              have d_973 := Int32.lt_iff_toInt_lt.mp c_972
              refine fd_ok_pb ?_
              refine fd_ok_itp (by decide) ?_
              try unfold f_X11_shows_0_J69
              try unfold f_X11_shows_0_J70
              refine fd_ok_lt (fun σ9_974 eσ9_974 => ?_)
              have i_975 : fd_InvM σ9_974 := fd_inv_sI eσ9_974 i0 (fd_rng _)
              have f_976 : fd_fr [0, 209, 210] σ σ9_974 := fd_fr_tr f0 (fd_fr_sI eσ9_974 (by decide))
              have t_977 : (σ9_974.1 0).toInt = (1 : Int32).toInt := congrArg Int32.toInt (fd_tI eσ9_974)
              have t_978 : (σ9_974.1 1).toInt = (σ.1 1).toInt := congrArg Int32.toInt (fd_tN eσ9_974 (by decide))
              have t_979 : (σ9_974.1 3).toInt = (σ.1 3).toInt := congrArg Int32.toInt (fd_tN eσ9_974 (by decide))
              have t_980 : (σ9_974.1 5).toInt = (σ.1 5).toInt := congrArg Int32.toInt (fd_tN eσ9_974 (by decide))
              have y_981 := fd_yIL (d := 10) eσ9_974 (rfl : σ.2.2 10 = _)
              have r_982 := fd_rng (σ9_974.1 0)
              refine fd_ok_itn (Int32.not_le.mpr (Int32.lt_iff_toInt_lt.mpr (by omega))) ?_
              have x_983 : (¬ (0 ≤ p1.toInt ∧ p1.toInt ≤ 3 ∧ 0 ≤ p2.toInt ∧ (1 < p1.toInt ∨ p2.toInt < (σ.1 1).toInt) ∧ (p1.toInt ≤ 1 ∨ p2.toInt < (σ.1 5).toInt) ∧ 0 ≤ p3.toInt ∧ p3.toInt < (σ.1 3).toInt) ∧ (σ9_974.1 0).toInt = 1) ∨ ((0 ≤ p1.toInt ∧ p1.toInt ≤ 3 ∧ 0 ≤ p2.toInt ∧ (1 < p1.toInt ∨ p2.toInt < (σ.1 1).toInt) ∧ (p1.toInt ≤ 1 ∨ p2.toInt < (σ.1 5).toInt) ∧ 0 ≤ p3.toInt ∧ p3.toInt < (σ.1 3).toInt) ∧ (σ9_974.1 0).toInt = 0) := by omega
              have w_984 : fd_H (((σ9_974.1 0).toInt = 0 → ∀ r w : Nat → Int64, fd_E (σ.2.1 1) (σ.2.1 2) (σ.2.1 3) r (σ.2.2 4) (σ.1 1).toNatClampNeg → (0 ≤ (fd_qa p1 p2 (σ.2.1 7)).toInt ∧ (fd_qa p1 p2 (σ.2.1 7)).toInt < (σ.1 1).toInt) → (0 ≤ (fd_qa p1 p2 (σ.2.1 8)).toInt ∧ (fd_qa p1 p2 (σ.2.1 8)).toInt < (σ.1 1).toInt) → fd_F (σ.2.1 1) (σ.2.1 2) (σ.2.1 3) (σ.2.2 4) (fd_qa p1 p2 (σ.2.1 7)).toNatClampNeg (fd_qr p1 (r (fd_qa p1 p2 (σ.2.1 7)).toNatClampNeg) (r (fd_qa p1 p2 (σ.2.1 8)).toNatClampNeg)) (fd_qa p1 p2 (σ.2.1 8)).toNatClampNeg (fd_qr p1 (r (fd_qa p1 p2 (σ.2.1 7)).toNatClampNeg) (r (fd_qa p1 p2 (σ.2.1 8)).toNatClampNeg)) w (σ.1 1).toNatClampNeg → (σ.2.1 5 p3.toNatClampNeg).toNatClampNeg < (σ.1 1).toNatClampNeg → (0 : Int64) = (r (σ.2.1 5 p3.toNatClampNeg).toNatClampNeg ^^^ w (σ.2.1 5 p3.toNatClampNeg).toNatClampNeg) &&& fd_mk (σ.1 4))) := fd_hd (fun h => absurd h (by omega))
              exact fd_ok_some ⟨i_975, f_976, x_983, w_984⟩
            ·
              have d_985 := Int32.le_iff_toInt_le.mp (Int32.not_lt.mp c_972)
              have r_986 : (0 : Int) ≤ (σ.1 3).toInt ∧ (σ.1 3).toInt ≤ 32 := i0.1 3
              refine fd_ok_ite (fun c_987 => ?_) (fun c_987 => ?_)
              ·
                have d_988 := Int32.le_iff_toInt_le.mp c_987
                refine fd_ok_pb ?_
                refine fd_ok_itp (by decide) ?_
                try unfold f_X11_shows_0_J69
                try unfold f_X11_shows_0_J70
                refine fd_ok_lt (fun σ9_989 eσ9_989 => ?_)
                have i_990 : fd_InvM σ9_989 := fd_inv_sI eσ9_989 i0 (fd_rng _)
                have f_991 : fd_fr [0, 209, 210] σ σ9_989 := fd_fr_tr f0 (fd_fr_sI eσ9_989 (by decide))
                have t_992 : (σ9_989.1 0).toInt = (1 : Int32).toInt := congrArg Int32.toInt (fd_tI eσ9_989)
                have t_993 : (σ9_989.1 1).toInt = (σ.1 1).toInt := congrArg Int32.toInt (fd_tN eσ9_989 (by decide))
                have t_994 : (σ9_989.1 3).toInt = (σ.1 3).toInt := congrArg Int32.toInt (fd_tN eσ9_989 (by decide))
                have t_995 : (σ9_989.1 5).toInt = (σ.1 5).toInt := congrArg Int32.toInt (fd_tN eσ9_989 (by decide))
                have y_996 := fd_yIL (d := 10) eσ9_989 (rfl : σ.2.2 10 = _)
                have r_997 := fd_rng (σ9_989.1 0)
                refine fd_ok_itn (Int32.not_le.mpr (Int32.lt_iff_toInt_lt.mpr (by omega))) ?_
                have x_998 : (¬ (0 ≤ p1.toInt ∧ p1.toInt ≤ 3 ∧ 0 ≤ p2.toInt ∧ (1 < p1.toInt ∨ p2.toInt < (σ.1 1).toInt) ∧ (p1.toInt ≤ 1 ∨ p2.toInt < (σ.1 5).toInt) ∧ 0 ≤ p3.toInt ∧ p3.toInt < (σ.1 3).toInt) ∧ (σ9_989.1 0).toInt = 1) ∨ ((0 ≤ p1.toInt ∧ p1.toInt ≤ 3 ∧ 0 ≤ p2.toInt ∧ (1 < p1.toInt ∨ p2.toInt < (σ.1 1).toInt) ∧ (p1.toInt ≤ 1 ∨ p2.toInt < (σ.1 5).toInt) ∧ 0 ≤ p3.toInt ∧ p3.toInt < (σ.1 3).toInt) ∧ (σ9_989.1 0).toInt = 0) := by omega
                have w_999 : fd_H (((σ9_989.1 0).toInt = 0 → ∀ r w : Nat → Int64, fd_E (σ.2.1 1) (σ.2.1 2) (σ.2.1 3) r (σ.2.2 4) (σ.1 1).toNatClampNeg → (0 ≤ (fd_qa p1 p2 (σ.2.1 7)).toInt ∧ (fd_qa p1 p2 (σ.2.1 7)).toInt < (σ.1 1).toInt) → (0 ≤ (fd_qa p1 p2 (σ.2.1 8)).toInt ∧ (fd_qa p1 p2 (σ.2.1 8)).toInt < (σ.1 1).toInt) → fd_F (σ.2.1 1) (σ.2.1 2) (σ.2.1 3) (σ.2.2 4) (fd_qa p1 p2 (σ.2.1 7)).toNatClampNeg (fd_qr p1 (r (fd_qa p1 p2 (σ.2.1 7)).toNatClampNeg) (r (fd_qa p1 p2 (σ.2.1 8)).toNatClampNeg)) (fd_qa p1 p2 (σ.2.1 8)).toNatClampNeg (fd_qr p1 (r (fd_qa p1 p2 (σ.2.1 7)).toNatClampNeg) (r (fd_qa p1 p2 (σ.2.1 8)).toNatClampNeg)) w (σ.1 1).toNatClampNeg → (σ.2.1 5 p3.toNatClampNeg).toNatClampNeg < (σ.1 1).toNatClampNeg → (0 : Int64) = (r (σ.2.1 5 p3.toNatClampNeg).toNatClampNeg ^^^ w (σ.2.1 5 p3.toNatClampNeg).toNatClampNeg) &&& fd_mk (σ.1 4))) := fd_hd (fun h => absurd h (by omega))
                exact fd_ok_some ⟨i_990, f_991, x_998, w_999⟩
              ·
                have d_1000 := Int32.lt_iff_toInt_lt.mp (Int32.not_le.mp c_987)
                refine fd_ok_pb ?_
                refine fd_ok_itn (by decide) ?_
                try unfold f_X11_shows_0_J70
                refine fd_ok_lt (fun σ9_1001 eσ9_1001 => ?_)
                have i_1002 : fd_InvM σ9_1001 := fd_inv_sI eσ9_1001 i0 (fd_rng _)
                have f_1003 : fd_fr [0, 209, 210] σ σ9_1001 := fd_fr_tr f0 (fd_fr_sI eσ9_1001 (by decide))
                have t_1004 : (σ9_1001.1 0).toInt = (0 : Int32).toInt := congrArg Int32.toInt (fd_tI eσ9_1001)
                have t_1005 : (σ9_1001.1 1).toInt = (σ.1 1).toInt := congrArg Int32.toInt (fd_tN eσ9_1001 (by decide))
                have t_1006 : (σ9_1001.1 3).toInt = (σ.1 3).toInt := congrArg Int32.toInt (fd_tN eσ9_1001 (by decide))
                have t_1007 : (σ9_1001.1 5).toInt = (σ.1 5).toInt := congrArg Int32.toInt (fd_tN eσ9_1001 (by decide))
                have y_1008 := fd_yIL (d := 10) eσ9_1001 (rfl : σ.2.2 10 = _)
                have r_1009 := fd_rng (σ9_1001.1 0)
                refine fd_ok_itp (Int32.le_iff_toInt_le.mpr (by omega)) ?_
                refine fd_ok_bd ?_
                try unfold f_X11_workPlain_0
                refine fd_ok_cl (s_X11_workPlain_0_L2 N hN N _ _ i_1002 (by omega) (by omega) (by omega)) ?_
                rintro v_1010 σ_1011 ⟨i_1012, g_1013, x_1014⟩
                have f_1015 : fd_fr [0, 209, 210] σ σ_1011 := fd_fr_tr f_1003 (fd_fr_mono g_1013 (by decide))
                have y_1016 := (g_1013.2.2 10 (by decide)).trans y_1008
                have t_1017 : (σ_1011.1 0).toInt = (σ9_1001.1 0).toInt := congrArg Int32.toInt (g_1013.1 0 (by decide))
                have t_1018 : (σ_1011.1 1).toInt = (σ9_1001.1 1).toInt := congrArg Int32.toInt (g_1013.1 1 (by decide))
                have t_1019 : (σ_1011.1 3).toInt = (σ9_1001.1 3).toInt := congrArg Int32.toInt (g_1013.1 3 (by decide))
                have t_1020 : (σ_1011.1 5).toInt = (σ9_1001.1 5).toInt := congrArg Int32.toInt (g_1013.1 5 (by decide))
                refine fd_ok_bd ?_
                refine fd_ok_cl (s_X11_workFault_0 N hN _ _ _ i_1012 (by omega)) ?_
                rintro v_1021 σ_1022 ⟨i_1023, g_1024, x_1025⟩
                have f_1026 : fd_fr [0, 209, 210] σ σ_1022 := fd_fr_tr f_1015 (fd_fr_mono g_1024 (by decide))
                have t_1027 : (σ_1022.1 0).toInt = (σ_1011.1 0).toInt := congrArg Int32.toInt (g_1024.1 0 (by decide))
                have t_1028 : (σ_1022.1 1).toInt = (σ_1011.1 1).toInt := congrArg Int32.toInt (g_1024.1 1 (by decide))
                have t_1029 : (σ_1022.1 3).toInt = (σ_1011.1 3).toInt := congrArg Int32.toInt (g_1024.1 3 (by decide))
                have t_1030 : (σ_1022.1 5).toInt = (σ_1011.1 5).toInt := congrArg Int32.toInt (g_1024.1 5 (by decide))
                refine fd_ok_gd (vp_in_iff.mpr ⟨by omega, by omega⟩) ?_
                have r_1031 : (0 : Int) ≤ (σ_1022.2.1 5 p3.toNatClampNeg).toInt ∧ (σ_1022.2.1 5 p3.toNatClampNeg).toInt ≤ 199 := i_1023.2.1 5 _
                refine fd_ok_gd (vp_in_iff.mpr ⟨by omega, by omega⟩) ?_
                refine fd_ok_gd (vp_in_iff.mpr ⟨by omega, by omega⟩) ?_
                refine fd_ok_gd (vp_in_iff.mpr ⟨by omega, by omega⟩) ?_
                have x_1032 : (¬ (0 ≤ p1.toInt ∧ p1.toInt ≤ 3 ∧ 0 ≤ p2.toInt ∧ (1 < p1.toInt ∨ p2.toInt < (σ.1 1).toInt) ∧ (p1.toInt ≤ 1 ∨ p2.toInt < (σ.1 5).toInt) ∧ 0 ≤ p3.toInt ∧ p3.toInt < (σ.1 3).toInt) ∧ (σ_1022.1 0).toInt = 1) ∨ ((0 ≤ p1.toInt ∧ p1.toInt ≤ 3 ∧ 0 ≤ p2.toInt ∧ (1 < p1.toInt ∨ p2.toInt < (σ.1 1).toInt) ∧ (p1.toInt ≤ 1 ∨ p2.toInt < (σ.1 5).toInt) ∧ 0 ≤ p3.toInt ∧ p3.toInt < (σ.1 3).toInt) ∧ (σ_1022.1 0).toInt = 0) := by omega
                have E1 : σ9_1001.1 1 = σ.1 1 := fd_tN eσ9_1001 (by decide)
                have E4 : σ9_1001.1 4 = σ.1 4 := fd_tN eσ9_1001 (by decide)
                have E2 : σ9_1001.2.1 = σ.2.1 := by subst eσ9_1001; rfl
                have E3 : σ9_1001.2.2 4 = σ.2.2 4 := by subst eσ9_1001; rfl
                have E0 : (0 : Int32).toNatClampNeg = 0 := by decide
                rw [E2, E3, E1, E4, E0] at x_1014
                have G1 : σ_1011.1 1 = σ.1 1 := (g_1013.1 1 (by decide)).trans E1
                have G4 : σ_1011.1 4 = σ.1 4 := (g_1013.1 4 (by decide)).trans E4
                have H1 : σ_1011.2.1 1 = σ.2.1 1 := (g_1013.2.1 1 (by decide)).trans (congrFun E2 1)
                have H2 : σ_1011.2.1 2 = σ.2.1 2 := (g_1013.2.1 2 (by decide)).trans (congrFun E2 2)
                have H3 : σ_1011.2.1 3 = σ.2.1 3 := (g_1013.2.1 3 (by decide)).trans (congrFun E2 3)
                have H5 : σ_1011.2.1 5 = σ.2.1 5 := (g_1013.2.1 5 (by decide)).trans (congrFun E2 5)
                have H7 : σ_1011.2.1 7 = σ.2.1 7 := (g_1013.2.1 7 (by decide)).trans (congrFun E2 7)
                have H8 : σ_1011.2.1 8 = σ.2.1 8 := (g_1013.2.1 8 (by decide)).trans (congrFun E2 8)
                have K4 : σ_1011.2.2 4 = σ.2.2 4 := (g_1013.2.2 4 (by decide)).trans E3
                rw [G1, G4, H1, H2, H3, H7, H8, K4] at x_1025
                have w_1033 : fd_H (((σ_1022.1 0).toInt = 0 → ∀ r w : Nat → Int64, fd_E (σ.2.1 1) (σ.2.1 2) (σ.2.1 3) r (σ.2.2 4) (σ.1 1).toNatClampNeg → (0 ≤ (fd_qa p1 p2 (σ.2.1 7)).toInt ∧ (fd_qa p1 p2 (σ.2.1 7)).toInt < (σ.1 1).toInt) → (0 ≤ (fd_qa p1 p2 (σ.2.1 8)).toInt ∧ (fd_qa p1 p2 (σ.2.1 8)).toInt < (σ.1 1).toInt) → fd_F (σ.2.1 1) (σ.2.1 2) (σ.2.1 3) (σ.2.2 4) (fd_qa p1 p2 (σ.2.1 7)).toNatClampNeg (fd_qr p1 (r (fd_qa p1 p2 (σ.2.1 7)).toNatClampNeg) (r (fd_qa p1 p2 (σ.2.1 8)).toNatClampNeg)) (fd_qa p1 p2 (σ.2.1 8)).toNatClampNeg (fd_qr p1 (r (fd_qa p1 p2 (σ.2.1 7)).toNatClampNeg) (r (fd_qa p1 p2 (σ.2.1 8)).toNatClampNeg)) w (σ.1 1).toNatClampNeg → (σ.2.1 5 p3.toNatClampNeg).toNatClampNeg < (σ.1 1).toNatClampNeg → ((σ_1022.2.2 9 (σ_1022.2.1 5 p3.toNatClampNeg).toNatClampNeg) ^^^ (σ_1022.2.2 10 (σ_1022.2.1 5 p3.toNatClampNeg).toNatClampNeg)) = (r (σ.2.1 5 p3.toNatClampNeg).toNatClampNeg ^^^ w (σ.2.1 5 p3.toNatClampNeg).toNatClampNeg) &&& fd_mk (σ.1 4))) := fd_hd (fun _ => fun r w hE ha hb hF ho => by
                                                              obtain ⟨u1, u2, u3⟩ := x_1025 (by omega) r w (x_1014 (by decide) r hE (fun i hi => absurd hi (Nat.not_lt_zero i))) ha hb hE.2.1 hF
                                                              rw [u3, H5, u1 _ ho, u2, x_1014 (by decide) r hE (fun i hi => absurd hi (Nat.not_lt_zero i)) _ ho, fd_xm])
                exact fd_ok_some ⟨i_1023, f_1026, x_1032, w_1033⟩
      ·
        have d_1034 : ¬ p1.toInt = (2 : Int32).toInt := fun q => c_941 (Int32.toInt_inj.mp q)
        refine fd_ok_ite (fun c_1035 => ?_) (fun c_1035 => ?_)
        ·
          have d_1036 := congrArg Int32.toInt c_1035
          try unfold f_X11_shows_0_J30
          refine fd_ok_bd ?_
          try unfold f_X11_isIn
          refine fd_ok_ite (fun c_1037 => ?_) (fun c_1037 => ?_)
          ·
            have d_1038 := Int32.lt_iff_toInt_lt.mp c_1037
            refine fd_ok_pb ?_
            refine fd_ok_itp (by decide) ?_
            try unfold f_X11_shows_0_J45
            try unfold f_X11_shows_0_J46
            refine fd_ok_itp (by decide) ?_
            try unfold f_X11_shows_0_J69
            try unfold f_X11_shows_0_J70
            refine fd_ok_lt (fun σ9_1039 eσ9_1039 => ?_)
            have i_1040 : fd_InvM σ9_1039 := fd_inv_sI eσ9_1039 i0 (fd_rng _)
            have f_1041 : fd_fr [0, 209, 210] σ σ9_1039 := fd_fr_tr f0 (fd_fr_sI eσ9_1039 (by decide))
            have t_1042 : (σ9_1039.1 0).toInt = (1 : Int32).toInt := congrArg Int32.toInt (fd_tI eσ9_1039)
            have t_1043 : (σ9_1039.1 1).toInt = (σ.1 1).toInt := congrArg Int32.toInt (fd_tN eσ9_1039 (by decide))
            have t_1044 : (σ9_1039.1 3).toInt = (σ.1 3).toInt := congrArg Int32.toInt (fd_tN eσ9_1039 (by decide))
            have t_1045 : (σ9_1039.1 5).toInt = (σ.1 5).toInt := congrArg Int32.toInt (fd_tN eσ9_1039 (by decide))
            have y_1046 := fd_yIL (d := 10) eσ9_1039 (rfl : σ.2.2 10 = _)
            have r_1047 := fd_rng (σ9_1039.1 0)
            refine fd_ok_itn (Int32.not_le.mpr (Int32.lt_iff_toInt_lt.mpr (by omega))) ?_
            have x_1048 : (¬ (0 ≤ p1.toInt ∧ p1.toInt ≤ 3 ∧ 0 ≤ p2.toInt ∧ (1 < p1.toInt ∨ p2.toInt < (σ.1 1).toInt) ∧ (p1.toInt ≤ 1 ∨ p2.toInt < (σ.1 5).toInt) ∧ 0 ≤ p3.toInt ∧ p3.toInt < (σ.1 3).toInt) ∧ (σ9_1039.1 0).toInt = 1) ∨ ((0 ≤ p1.toInt ∧ p1.toInt ≤ 3 ∧ 0 ≤ p2.toInt ∧ (1 < p1.toInt ∨ p2.toInt < (σ.1 1).toInt) ∧ (p1.toInt ≤ 1 ∨ p2.toInt < (σ.1 5).toInt) ∧ 0 ≤ p3.toInt ∧ p3.toInt < (σ.1 3).toInt) ∧ (σ9_1039.1 0).toInt = 0) := by omega
            have w_1049 : fd_H (((σ9_1039.1 0).toInt = 0 → ∀ r w : Nat → Int64, fd_E (σ.2.1 1) (σ.2.1 2) (σ.2.1 3) r (σ.2.2 4) (σ.1 1).toNatClampNeg → (0 ≤ (fd_qa p1 p2 (σ.2.1 7)).toInt ∧ (fd_qa p1 p2 (σ.2.1 7)).toInt < (σ.1 1).toInt) → (0 ≤ (fd_qa p1 p2 (σ.2.1 8)).toInt ∧ (fd_qa p1 p2 (σ.2.1 8)).toInt < (σ.1 1).toInt) → fd_F (σ.2.1 1) (σ.2.1 2) (σ.2.1 3) (σ.2.2 4) (fd_qa p1 p2 (σ.2.1 7)).toNatClampNeg (fd_qr p1 (r (fd_qa p1 p2 (σ.2.1 7)).toNatClampNeg) (r (fd_qa p1 p2 (σ.2.1 8)).toNatClampNeg)) (fd_qa p1 p2 (σ.2.1 8)).toNatClampNeg (fd_qr p1 (r (fd_qa p1 p2 (σ.2.1 7)).toNatClampNeg) (r (fd_qa p1 p2 (σ.2.1 8)).toNatClampNeg)) w (σ.1 1).toNatClampNeg → (σ.2.1 5 p3.toNatClampNeg).toNatClampNeg < (σ.1 1).toNatClampNeg → (0 : Int64) = (r (σ.2.1 5 p3.toNatClampNeg).toNatClampNeg ^^^ w (σ.2.1 5 p3.toNatClampNeg).toNatClampNeg) &&& fd_mk (σ.1 4))) := fd_hd (fun h => absurd h (by omega))
            exact fd_ok_some ⟨i_1040, f_1041, x_1048, w_1049⟩
          ·
            have d_1050 := Int32.le_iff_toInt_le.mp (Int32.not_lt.mp c_1037)
            have r_1051 : (0 : Int) ≤ (σ.1 5).toInt ∧ (σ.1 5).toInt ≤ 40 := i0.1 5
            refine fd_ok_ite (fun c_1052 => ?_) (fun c_1052 => ?_)
            ·
              have d_1053 := Int32.le_iff_toInt_le.mp c_1052
              refine fd_ok_pb ?_
              refine fd_ok_itp (by decide) ?_
              try unfold f_X11_shows_0_J45
              try unfold f_X11_shows_0_J46
              refine fd_ok_itp (by decide) ?_
              try unfold f_X11_shows_0_J69
              try unfold f_X11_shows_0_J70
              refine fd_ok_lt (fun σ9_1054 eσ9_1054 => ?_)
              have i_1055 : fd_InvM σ9_1054 := fd_inv_sI eσ9_1054 i0 (fd_rng _)
              have f_1056 : fd_fr [0, 209, 210] σ σ9_1054 := fd_fr_tr f0 (fd_fr_sI eσ9_1054 (by decide))
              have t_1057 : (σ9_1054.1 0).toInt = (1 : Int32).toInt := congrArg Int32.toInt (fd_tI eσ9_1054)
              have t_1058 : (σ9_1054.1 1).toInt = (σ.1 1).toInt := congrArg Int32.toInt (fd_tN eσ9_1054 (by decide))
              have t_1059 : (σ9_1054.1 3).toInt = (σ.1 3).toInt := congrArg Int32.toInt (fd_tN eσ9_1054 (by decide))
              have t_1060 : (σ9_1054.1 5).toInt = (σ.1 5).toInt := congrArg Int32.toInt (fd_tN eσ9_1054 (by decide))
              have y_1061 := fd_yIL (d := 10) eσ9_1054 (rfl : σ.2.2 10 = _)
              have r_1062 := fd_rng (σ9_1054.1 0)
              refine fd_ok_itn (Int32.not_le.mpr (Int32.lt_iff_toInt_lt.mpr (by omega))) ?_
              have x_1063 : (¬ (0 ≤ p1.toInt ∧ p1.toInt ≤ 3 ∧ 0 ≤ p2.toInt ∧ (1 < p1.toInt ∨ p2.toInt < (σ.1 1).toInt) ∧ (p1.toInt ≤ 1 ∨ p2.toInt < (σ.1 5).toInt) ∧ 0 ≤ p3.toInt ∧ p3.toInt < (σ.1 3).toInt) ∧ (σ9_1054.1 0).toInt = 1) ∨ ((0 ≤ p1.toInt ∧ p1.toInt ≤ 3 ∧ 0 ≤ p2.toInt ∧ (1 < p1.toInt ∨ p2.toInt < (σ.1 1).toInt) ∧ (p1.toInt ≤ 1 ∨ p2.toInt < (σ.1 5).toInt) ∧ 0 ≤ p3.toInt ∧ p3.toInt < (σ.1 3).toInt) ∧ (σ9_1054.1 0).toInt = 0) := by omega
              have w_1064 : fd_H (((σ9_1054.1 0).toInt = 0 → ∀ r w : Nat → Int64, fd_E (σ.2.1 1) (σ.2.1 2) (σ.2.1 3) r (σ.2.2 4) (σ.1 1).toNatClampNeg → (0 ≤ (fd_qa p1 p2 (σ.2.1 7)).toInt ∧ (fd_qa p1 p2 (σ.2.1 7)).toInt < (σ.1 1).toInt) → (0 ≤ (fd_qa p1 p2 (σ.2.1 8)).toInt ∧ (fd_qa p1 p2 (σ.2.1 8)).toInt < (σ.1 1).toInt) → fd_F (σ.2.1 1) (σ.2.1 2) (σ.2.1 3) (σ.2.2 4) (fd_qa p1 p2 (σ.2.1 7)).toNatClampNeg (fd_qr p1 (r (fd_qa p1 p2 (σ.2.1 7)).toNatClampNeg) (r (fd_qa p1 p2 (σ.2.1 8)).toNatClampNeg)) (fd_qa p1 p2 (σ.2.1 8)).toNatClampNeg (fd_qr p1 (r (fd_qa p1 p2 (σ.2.1 7)).toNatClampNeg) (r (fd_qa p1 p2 (σ.2.1 8)).toNatClampNeg)) w (σ.1 1).toNatClampNeg → (σ.2.1 5 p3.toNatClampNeg).toNatClampNeg < (σ.1 1).toNatClampNeg → (0 : Int64) = (r (σ.2.1 5 p3.toNatClampNeg).toNatClampNeg ^^^ w (σ.2.1 5 p3.toNatClampNeg).toNatClampNeg) &&& fd_mk (σ.1 4))) := fd_hd (fun h => absurd h (by omega))
              exact fd_ok_some ⟨i_1055, f_1056, x_1063, w_1064⟩
            ·
              have d_1065 := Int32.lt_iff_toInt_lt.mp (Int32.not_le.mp c_1052)
              refine fd_ok_pb ?_
              refine fd_ok_itn (by decide) ?_
              try unfold f_X11_shows_0_J41
              try unfold f_X11_shows_0_J46
              refine fd_ok_itn (by decide) ?_
              refine fd_ok_bd ?_
              try unfold f_X11_isIn
              refine fd_ok_ite (fun c_1066 => ?_) (fun c_1066 => ?_)
              ·
                have d_1067 := Int32.lt_iff_toInt_lt.mp c_1066
                refine fd_ok_pb ?_
                refine fd_ok_itp (by decide) ?_
                try unfold f_X11_shows_0_J69
                try unfold f_X11_shows_0_J70
                refine fd_ok_lt (fun σ9_1068 eσ9_1068 => ?_)
                have i_1069 : fd_InvM σ9_1068 := fd_inv_sI eσ9_1068 i0 (fd_rng _)
                have f_1070 : fd_fr [0, 209, 210] σ σ9_1068 := fd_fr_tr f0 (fd_fr_sI eσ9_1068 (by decide))
                have t_1071 : (σ9_1068.1 0).toInt = (1 : Int32).toInt := congrArg Int32.toInt (fd_tI eσ9_1068)
                have t_1072 : (σ9_1068.1 1).toInt = (σ.1 1).toInt := congrArg Int32.toInt (fd_tN eσ9_1068 (by decide))
                have t_1073 : (σ9_1068.1 3).toInt = (σ.1 3).toInt := congrArg Int32.toInt (fd_tN eσ9_1068 (by decide))
                have t_1074 : (σ9_1068.1 5).toInt = (σ.1 5).toInt := congrArg Int32.toInt (fd_tN eσ9_1068 (by decide))
                have y_1075 := fd_yIL (d := 10) eσ9_1068 (rfl : σ.2.2 10 = _)
                have r_1076 := fd_rng (σ9_1068.1 0)
                refine fd_ok_itn (Int32.not_le.mpr (Int32.lt_iff_toInt_lt.mpr (by omega))) ?_
                have x_1077 : (¬ (0 ≤ p1.toInt ∧ p1.toInt ≤ 3 ∧ 0 ≤ p2.toInt ∧ (1 < p1.toInt ∨ p2.toInt < (σ.1 1).toInt) ∧ (p1.toInt ≤ 1 ∨ p2.toInt < (σ.1 5).toInt) ∧ 0 ≤ p3.toInt ∧ p3.toInt < (σ.1 3).toInt) ∧ (σ9_1068.1 0).toInt = 1) ∨ ((0 ≤ p1.toInt ∧ p1.toInt ≤ 3 ∧ 0 ≤ p2.toInt ∧ (1 < p1.toInt ∨ p2.toInt < (σ.1 1).toInt) ∧ (p1.toInt ≤ 1 ∨ p2.toInt < (σ.1 5).toInt) ∧ 0 ≤ p3.toInt ∧ p3.toInt < (σ.1 3).toInt) ∧ (σ9_1068.1 0).toInt = 0) := by omega
                have w_1078 : fd_H (((σ9_1068.1 0).toInt = 0 → ∀ r w : Nat → Int64, fd_E (σ.2.1 1) (σ.2.1 2) (σ.2.1 3) r (σ.2.2 4) (σ.1 1).toNatClampNeg → (0 ≤ (fd_qa p1 p2 (σ.2.1 7)).toInt ∧ (fd_qa p1 p2 (σ.2.1 7)).toInt < (σ.1 1).toInt) → (0 ≤ (fd_qa p1 p2 (σ.2.1 8)).toInt ∧ (fd_qa p1 p2 (σ.2.1 8)).toInt < (σ.1 1).toInt) → fd_F (σ.2.1 1) (σ.2.1 2) (σ.2.1 3) (σ.2.2 4) (fd_qa p1 p2 (σ.2.1 7)).toNatClampNeg (fd_qr p1 (r (fd_qa p1 p2 (σ.2.1 7)).toNatClampNeg) (r (fd_qa p1 p2 (σ.2.1 8)).toNatClampNeg)) (fd_qa p1 p2 (σ.2.1 8)).toNatClampNeg (fd_qr p1 (r (fd_qa p1 p2 (σ.2.1 7)).toNatClampNeg) (r (fd_qa p1 p2 (σ.2.1 8)).toNatClampNeg)) w (σ.1 1).toNatClampNeg → (σ.2.1 5 p3.toNatClampNeg).toNatClampNeg < (σ.1 1).toNatClampNeg → (0 : Int64) = (r (σ.2.1 5 p3.toNatClampNeg).toNatClampNeg ^^^ w (σ.2.1 5 p3.toNatClampNeg).toNatClampNeg) &&& fd_mk (σ.1 4))) := fd_hd (fun h => absurd h (by omega))
                exact fd_ok_some ⟨i_1069, f_1070, x_1077, w_1078⟩
              ·
                have d_1079 := Int32.le_iff_toInt_le.mp (Int32.not_lt.mp c_1066)
                have r_1080 : (0 : Int) ≤ (σ.1 3).toInt ∧ (σ.1 3).toInt ≤ 32 := i0.1 3
                refine fd_ok_ite (fun c_1081 => ?_) (fun c_1081 => ?_)
                ·
                  have d_1082 := Int32.le_iff_toInt_le.mp c_1081
                  refine fd_ok_pb ?_
                  refine fd_ok_itp (by decide) ?_
                  try unfold f_X11_shows_0_J69
                  try unfold f_X11_shows_0_J70
                  refine fd_ok_lt (fun σ9_1083 eσ9_1083 => ?_)
                  have i_1084 : fd_InvM σ9_1083 := fd_inv_sI eσ9_1083 i0 (fd_rng _)
                  have f_1085 : fd_fr [0, 209, 210] σ σ9_1083 := fd_fr_tr f0 (fd_fr_sI eσ9_1083 (by decide))
                  have t_1086 : (σ9_1083.1 0).toInt = (1 : Int32).toInt := congrArg Int32.toInt (fd_tI eσ9_1083)
                  have t_1087 : (σ9_1083.1 1).toInt = (σ.1 1).toInt := congrArg Int32.toInt (fd_tN eσ9_1083 (by decide))
                  have t_1088 : (σ9_1083.1 3).toInt = (σ.1 3).toInt := congrArg Int32.toInt (fd_tN eσ9_1083 (by decide))
                  have t_1089 : (σ9_1083.1 5).toInt = (σ.1 5).toInt := congrArg Int32.toInt (fd_tN eσ9_1083 (by decide))
                  have y_1090 := fd_yIL (d := 10) eσ9_1083 (rfl : σ.2.2 10 = _)
                  have r_1091 := fd_rng (σ9_1083.1 0)
                  refine fd_ok_itn (Int32.not_le.mpr (Int32.lt_iff_toInt_lt.mpr (by omega))) ?_
                  have x_1092 : (¬ (0 ≤ p1.toInt ∧ p1.toInt ≤ 3 ∧ 0 ≤ p2.toInt ∧ (1 < p1.toInt ∨ p2.toInt < (σ.1 1).toInt) ∧ (p1.toInt ≤ 1 ∨ p2.toInt < (σ.1 5).toInt) ∧ 0 ≤ p3.toInt ∧ p3.toInt < (σ.1 3).toInt) ∧ (σ9_1083.1 0).toInt = 1) ∨ ((0 ≤ p1.toInt ∧ p1.toInt ≤ 3 ∧ 0 ≤ p2.toInt ∧ (1 < p1.toInt ∨ p2.toInt < (σ.1 1).toInt) ∧ (p1.toInt ≤ 1 ∨ p2.toInt < (σ.1 5).toInt) ∧ 0 ≤ p3.toInt ∧ p3.toInt < (σ.1 3).toInt) ∧ (σ9_1083.1 0).toInt = 0) := by omega
                  have w_1093 : fd_H (((σ9_1083.1 0).toInt = 0 → ∀ r w : Nat → Int64, fd_E (σ.2.1 1) (σ.2.1 2) (σ.2.1 3) r (σ.2.2 4) (σ.1 1).toNatClampNeg → (0 ≤ (fd_qa p1 p2 (σ.2.1 7)).toInt ∧ (fd_qa p1 p2 (σ.2.1 7)).toInt < (σ.1 1).toInt) → (0 ≤ (fd_qa p1 p2 (σ.2.1 8)).toInt ∧ (fd_qa p1 p2 (σ.2.1 8)).toInt < (σ.1 1).toInt) → fd_F (σ.2.1 1) (σ.2.1 2) (σ.2.1 3) (σ.2.2 4) (fd_qa p1 p2 (σ.2.1 7)).toNatClampNeg (fd_qr p1 (r (fd_qa p1 p2 (σ.2.1 7)).toNatClampNeg) (r (fd_qa p1 p2 (σ.2.1 8)).toNatClampNeg)) (fd_qa p1 p2 (σ.2.1 8)).toNatClampNeg (fd_qr p1 (r (fd_qa p1 p2 (σ.2.1 7)).toNatClampNeg) (r (fd_qa p1 p2 (σ.2.1 8)).toNatClampNeg)) w (σ.1 1).toNatClampNeg → (σ.2.1 5 p3.toNatClampNeg).toNatClampNeg < (σ.1 1).toNatClampNeg → (0 : Int64) = (r (σ.2.1 5 p3.toNatClampNeg).toNatClampNeg ^^^ w (σ.2.1 5 p3.toNatClampNeg).toNatClampNeg) &&& fd_mk (σ.1 4))) := fd_hd (fun h => absurd h (by omega))
                  exact fd_ok_some ⟨i_1084, f_1085, x_1092, w_1093⟩
                ·
                  have d_1094 := Int32.lt_iff_toInt_lt.mp (Int32.not_le.mp c_1081)
                  refine fd_ok_pb ?_
                  refine fd_ok_itn (by decide) ?_
                  try unfold f_X11_shows_0_J70
                  refine fd_ok_lt (fun σ9_1095 eσ9_1095 => ?_)
                  have i_1096 : fd_InvM σ9_1095 := fd_inv_sI eσ9_1095 i0 (fd_rng _)
                  have f_1097 : fd_fr [0, 209, 210] σ σ9_1095 := fd_fr_tr f0 (fd_fr_sI eσ9_1095 (by decide))
                  have t_1098 : (σ9_1095.1 0).toInt = (0 : Int32).toInt := congrArg Int32.toInt (fd_tI eσ9_1095)
                  have t_1099 : (σ9_1095.1 1).toInt = (σ.1 1).toInt := congrArg Int32.toInt (fd_tN eσ9_1095 (by decide))
                  have t_1100 : (σ9_1095.1 3).toInt = (σ.1 3).toInt := congrArg Int32.toInt (fd_tN eσ9_1095 (by decide))
                  have t_1101 : (σ9_1095.1 5).toInt = (σ.1 5).toInt := congrArg Int32.toInt (fd_tN eσ9_1095 (by decide))
                  have y_1102 := fd_yIL (d := 10) eσ9_1095 (rfl : σ.2.2 10 = _)
                  have r_1103 := fd_rng (σ9_1095.1 0)
                  refine fd_ok_itp (Int32.le_iff_toInt_le.mpr (by omega)) ?_
                  refine fd_ok_bd ?_
                  try unfold f_X11_workPlain_0
                  refine fd_ok_cl (s_X11_workPlain_0_L2 N hN N _ _ i_1096 (by omega) (by omega) (by omega)) ?_
                  rintro v_1104 σ_1105 ⟨i_1106, g_1107, x_1108⟩
                  have f_1109 : fd_fr [0, 209, 210] σ σ_1105 := fd_fr_tr f_1097 (fd_fr_mono g_1107 (by decide))
                  have y_1110 := (g_1107.2.2 10 (by decide)).trans y_1102
                  have t_1111 : (σ_1105.1 0).toInt = (σ9_1095.1 0).toInt := congrArg Int32.toInt (g_1107.1 0 (by decide))
                  have t_1112 : (σ_1105.1 1).toInt = (σ9_1095.1 1).toInt := congrArg Int32.toInt (g_1107.1 1 (by decide))
                  have t_1113 : (σ_1105.1 3).toInt = (σ9_1095.1 3).toInt := congrArg Int32.toInt (g_1107.1 3 (by decide))
                  have t_1114 : (σ_1105.1 5).toInt = (σ9_1095.1 5).toInt := congrArg Int32.toInt (g_1107.1 5 (by decide))
                  refine fd_ok_bd ?_
                  refine fd_ok_cl (s_X11_workFault_0 N hN _ _ _ i_1106 (by omega)) ?_
                  rintro v_1115 σ_1116 ⟨i_1117, g_1118, x_1119⟩
                  have f_1120 : fd_fr [0, 209, 210] σ σ_1116 := fd_fr_tr f_1109 (fd_fr_mono g_1118 (by decide))
                  have t_1121 : (σ_1116.1 0).toInt = (σ_1105.1 0).toInt := congrArg Int32.toInt (g_1118.1 0 (by decide))
                  have t_1122 : (σ_1116.1 1).toInt = (σ_1105.1 1).toInt := congrArg Int32.toInt (g_1118.1 1 (by decide))
                  have t_1123 : (σ_1116.1 3).toInt = (σ_1105.1 3).toInt := congrArg Int32.toInt (g_1118.1 3 (by decide))
                  have t_1124 : (σ_1116.1 5).toInt = (σ_1105.1 5).toInt := congrArg Int32.toInt (g_1118.1 5 (by decide))
                  refine fd_ok_gd (vp_in_iff.mpr ⟨by omega, by omega⟩) ?_
                  have r_1125 : (0 : Int) ≤ (σ_1116.2.1 5 p3.toNatClampNeg).toInt ∧ (σ_1116.2.1 5 p3.toNatClampNeg).toInt ≤ 199 := i_1117.2.1 5 _
                  refine fd_ok_gd (vp_in_iff.mpr ⟨by omega, by omega⟩) ?_
                  refine fd_ok_gd (vp_in_iff.mpr ⟨by omega, by omega⟩) ?_
                  refine fd_ok_gd (vp_in_iff.mpr ⟨by omega, by omega⟩) ?_
                  have x_1126 : (¬ (0 ≤ p1.toInt ∧ p1.toInt ≤ 3 ∧ 0 ≤ p2.toInt ∧ (1 < p1.toInt ∨ p2.toInt < (σ.1 1).toInt) ∧ (p1.toInt ≤ 1 ∨ p2.toInt < (σ.1 5).toInt) ∧ 0 ≤ p3.toInt ∧ p3.toInt < (σ.1 3).toInt) ∧ (σ_1116.1 0).toInt = 1) ∨ ((0 ≤ p1.toInt ∧ p1.toInt ≤ 3 ∧ 0 ≤ p2.toInt ∧ (1 < p1.toInt ∨ p2.toInt < (σ.1 1).toInt) ∧ (p1.toInt ≤ 1 ∨ p2.toInt < (σ.1 5).toInt) ∧ 0 ≤ p3.toInt ∧ p3.toInt < (σ.1 3).toInt) ∧ (σ_1116.1 0).toInt = 0) := by omega
                  have E1 : σ9_1095.1 1 = σ.1 1 := fd_tN eσ9_1095 (by decide)
                  have E4 : σ9_1095.1 4 = σ.1 4 := fd_tN eσ9_1095 (by decide)
                  have E2 : σ9_1095.2.1 = σ.2.1 := by subst eσ9_1095; rfl
                  have E3 : σ9_1095.2.2 4 = σ.2.2 4 := by subst eσ9_1095; rfl
                  have E0 : (0 : Int32).toNatClampNeg = 0 := by decide
                  rw [E2, E3, E1, E4, E0] at x_1108
                  have G1 : σ_1105.1 1 = σ.1 1 := (g_1107.1 1 (by decide)).trans E1
                  have G4 : σ_1105.1 4 = σ.1 4 := (g_1107.1 4 (by decide)).trans E4
                  have H1 : σ_1105.2.1 1 = σ.2.1 1 := (g_1107.2.1 1 (by decide)).trans (congrFun E2 1)
                  have H2 : σ_1105.2.1 2 = σ.2.1 2 := (g_1107.2.1 2 (by decide)).trans (congrFun E2 2)
                  have H3 : σ_1105.2.1 3 = σ.2.1 3 := (g_1107.2.1 3 (by decide)).trans (congrFun E2 3)
                  have H5 : σ_1105.2.1 5 = σ.2.1 5 := (g_1107.2.1 5 (by decide)).trans (congrFun E2 5)
                  have H7 : σ_1105.2.1 7 = σ.2.1 7 := (g_1107.2.1 7 (by decide)).trans (congrFun E2 7)
                  have H8 : σ_1105.2.1 8 = σ.2.1 8 := (g_1107.2.1 8 (by decide)).trans (congrFun E2 8)
                  have K4 : σ_1105.2.2 4 = σ.2.2 4 := (g_1107.2.2 4 (by decide)).trans E3
                  rw [G1, G4, H1, H2, H3, H7, H8, K4] at x_1119
                  have w_1127 : fd_H (((σ_1116.1 0).toInt = 0 → ∀ r w : Nat → Int64, fd_E (σ.2.1 1) (σ.2.1 2) (σ.2.1 3) r (σ.2.2 4) (σ.1 1).toNatClampNeg → (0 ≤ (fd_qa p1 p2 (σ.2.1 7)).toInt ∧ (fd_qa p1 p2 (σ.2.1 7)).toInt < (σ.1 1).toInt) → (0 ≤ (fd_qa p1 p2 (σ.2.1 8)).toInt ∧ (fd_qa p1 p2 (σ.2.1 8)).toInt < (σ.1 1).toInt) → fd_F (σ.2.1 1) (σ.2.1 2) (σ.2.1 3) (σ.2.2 4) (fd_qa p1 p2 (σ.2.1 7)).toNatClampNeg (fd_qr p1 (r (fd_qa p1 p2 (σ.2.1 7)).toNatClampNeg) (r (fd_qa p1 p2 (σ.2.1 8)).toNatClampNeg)) (fd_qa p1 p2 (σ.2.1 8)).toNatClampNeg (fd_qr p1 (r (fd_qa p1 p2 (σ.2.1 7)).toNatClampNeg) (r (fd_qa p1 p2 (σ.2.1 8)).toNatClampNeg)) w (σ.1 1).toNatClampNeg → (σ.2.1 5 p3.toNatClampNeg).toNatClampNeg < (σ.1 1).toNatClampNeg → ((σ_1116.2.2 9 (σ_1116.2.1 5 p3.toNatClampNeg).toNatClampNeg) ^^^ (σ_1116.2.2 10 (σ_1116.2.1 5 p3.toNatClampNeg).toNatClampNeg)) = (r (σ.2.1 5 p3.toNatClampNeg).toNatClampNeg ^^^ w (σ.2.1 5 p3.toNatClampNeg).toNatClampNeg) &&& fd_mk (σ.1 4))) := fd_hd (fun _ => fun r w hE ha hb hF ho => by
                                                              obtain ⟨u1, u2, u3⟩ := x_1119 (by omega) r w (x_1108 (by decide) r hE (fun i hi => absurd hi (Nat.not_lt_zero i))) ha hb hE.2.1 hF
                                                              rw [u3, H5, u1 _ ho, u2, x_1108 (by decide) r hE (fun i hi => absurd hi (Nat.not_lt_zero i)) _ ho, fd_xm])
                  exact fd_ok_some ⟨i_1117, f_1120, x_1126, w_1127⟩
        ·
          have d_1128 : ¬ p1.toInt = (3 : Int32).toInt := fun q => c_1035 (Int32.toInt_inj.mp q)
          try unfold f_X11_shows_0_J45
          try unfold f_X11_shows_0_J46
          refine fd_ok_itp (by decide) ?_
          try unfold f_X11_shows_0_J69
          try unfold f_X11_shows_0_J70
          refine fd_ok_lt (fun σ9_1129 eσ9_1129 => ?_)
          have i_1130 : fd_InvM σ9_1129 := fd_inv_sI eσ9_1129 i0 (fd_rng _)
          have f_1131 : fd_fr [0, 209, 210] σ σ9_1129 := fd_fr_tr f0 (fd_fr_sI eσ9_1129 (by decide))
          have t_1132 : (σ9_1129.1 0).toInt = (1 : Int32).toInt := congrArg Int32.toInt (fd_tI eσ9_1129)
          have t_1133 : (σ9_1129.1 1).toInt = (σ.1 1).toInt := congrArg Int32.toInt (fd_tN eσ9_1129 (by decide))
          have t_1134 : (σ9_1129.1 3).toInt = (σ.1 3).toInt := congrArg Int32.toInt (fd_tN eσ9_1129 (by decide))
          have t_1135 : (σ9_1129.1 5).toInt = (σ.1 5).toInt := congrArg Int32.toInt (fd_tN eσ9_1129 (by decide))
          have y_1136 := fd_yIL (d := 10) eσ9_1129 (rfl : σ.2.2 10 = _)
          have r_1137 := fd_rng (σ9_1129.1 0)
          refine fd_ok_itn (Int32.not_le.mpr (Int32.lt_iff_toInt_lt.mpr (by omega))) ?_
          have x_1138 : (¬ (0 ≤ p1.toInt ∧ p1.toInt ≤ 3 ∧ 0 ≤ p2.toInt ∧ (1 < p1.toInt ∨ p2.toInt < (σ.1 1).toInt) ∧ (p1.toInt ≤ 1 ∨ p2.toInt < (σ.1 5).toInt) ∧ 0 ≤ p3.toInt ∧ p3.toInt < (σ.1 3).toInt) ∧ (σ9_1129.1 0).toInt = 1) ∨ ((0 ≤ p1.toInt ∧ p1.toInt ≤ 3 ∧ 0 ≤ p2.toInt ∧ (1 < p1.toInt ∨ p2.toInt < (σ.1 1).toInt) ∧ (p1.toInt ≤ 1 ∨ p2.toInt < (σ.1 5).toInt) ∧ 0 ≤ p3.toInt ∧ p3.toInt < (σ.1 3).toInt) ∧ (σ9_1129.1 0).toInt = 0) := by omega
          have w_1139 : fd_H (((σ9_1129.1 0).toInt = 0 → ∀ r w : Nat → Int64, fd_E (σ.2.1 1) (σ.2.1 2) (σ.2.1 3) r (σ.2.2 4) (σ.1 1).toNatClampNeg → (0 ≤ (fd_qa p1 p2 (σ.2.1 7)).toInt ∧ (fd_qa p1 p2 (σ.2.1 7)).toInt < (σ.1 1).toInt) → (0 ≤ (fd_qa p1 p2 (σ.2.1 8)).toInt ∧ (fd_qa p1 p2 (σ.2.1 8)).toInt < (σ.1 1).toInt) → fd_F (σ.2.1 1) (σ.2.1 2) (σ.2.1 3) (σ.2.2 4) (fd_qa p1 p2 (σ.2.1 7)).toNatClampNeg (fd_qr p1 (r (fd_qa p1 p2 (σ.2.1 7)).toNatClampNeg) (r (fd_qa p1 p2 (σ.2.1 8)).toNatClampNeg)) (fd_qa p1 p2 (σ.2.1 8)).toNatClampNeg (fd_qr p1 (r (fd_qa p1 p2 (σ.2.1 7)).toNatClampNeg) (r (fd_qa p1 p2 (σ.2.1 8)).toNatClampNeg)) w (σ.1 1).toNatClampNeg → (σ.2.1 5 p3.toNatClampNeg).toNatClampNeg < (σ.1 1).toNatClampNeg → (0 : Int64) = (r (σ.2.1 5 p3.toNatClampNeg).toNatClampNeg ^^^ w (σ.2.1 5 p3.toNatClampNeg).toNatClampNeg) &&& fd_mk (σ.1 4))) := fd_hd (fun h => absurd h (by omega))
          exact fd_ok_some ⟨i_1130, f_1131, x_1138, w_1139⟩
set_option maxHeartbeats 4000000 in
theorem s_X11_run_0 (N : Nat) (hN : 1000 ≤ N) (σ : fd_St) (i0 : fd_InvM σ) : fd_ok (f_X11_run_0 N σ) (fun v s => fd_InvM s ∧ fd_fr [0, 6, 7, 8, 9, 10, 112, 113, 114, 115, 116, 117, 118, 209, 210] σ s ∧ (True)) := by
  have lit0 : (0 : Int32).toInt = 0 := by decide
  have lit1 : (1 : Int32).toInt = 1 := by decide
  have f0 : fd_fr [0, 6, 7, 8, 9, 10, 112, 113, 114, 115, 116, 117, 118, 209, 210] σ σ := fd_fr_rf
  unfold f_X11_run_0
  refine fd_ok_lt (fun σ1_1 eσ1_1 => ?_)
  have i_2 : fd_InvM σ1_1 := fd_inv_sI eσ1_1 i0 (fd_rng _)
  have f_3 : fd_fr [0, 6, 7, 8, 9, 10, 112, 113, 114, 115, 116, 117, 118, 209, 210] σ σ1_1 := fd_fr_tr f0 (fd_fr_sI eσ1_1 (by decide))
  have t_4 : (σ1_1.1 7).toInt = (σ.1 7).toInt := congrArg Int32.toInt (fd_tN eσ1_1 (by decide))
  refine fd_ok_bd ?_
  try unfold f_X11_workPlain_0
  refine fd_ok_cl (s_X11_workPlain_0_L2 N hN N _ _ i_2 (by omega) (by omega) (by omega)) ?_
  rintro v_5 σ_6 ⟨i_7, g_8, x_9⟩
  have f_10 : fd_fr [0, 6, 7, 8, 9, 10, 112, 113, 114, 115, 116, 117, 118, 209, 210] σ σ_6 := fd_fr_tr f_3 (fd_fr_mono g_8 (by decide))
  have t_11 : (σ_6.1 7).toInt = (σ1_1.1 7).toInt := congrArg Int32.toInt (g_8.1 7 (by decide))
  refine fd_ok_lt (fun σ7_12 eσ7_12 => ?_)
  have i_13 : fd_InvM σ7_12 := fd_inv_sI eσ7_12 i_7 ⟨(by omega : (0 : Int) ≤ (0 : Int32).toInt), (by omega : (0 : Int32).toInt ≤ 480)⟩
  have f_14 : fd_fr [0, 6, 7, 8, 9, 10, 112, 113, 114, 115, 116, 117, 118, 209, 210] σ σ7_12 := fd_fr_tr f_10 (fd_fr_sI eσ7_12 (by decide))
  have t_15 : (σ7_12.1 7).toInt = (0 : Int32).toInt := congrArg Int32.toInt (fd_tI eσ7_12)
  refine fd_ok_mono (s_X11_run_0_L16 N hN N _ _ i_13 (by omega) (by omega) (by omega) (by omega)) ?_
  rintro v s ⟨hi, hf, hx⟩
  exact ⟨hi, fd_fr_tr f_14 (fd_fr_mono hf (by decide)), trivial⟩
