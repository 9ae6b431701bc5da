set_option maxHeartbeats 4000000 in
theorem s_X2_hold_1 (N : Nat) (hN : 1000 ≤ N) (p1 : Int32) (p2 : Int64) (p4 : Int32) (p5 : Int64) (σ : fd_St) (i0 : fd_InvC σ) (h0 : 0 ≤ p1.toInt) (h1 : p1.toInt ≤ 199) (h2 : 0 ≤ p4.toInt) (h3 : p4.toInt ≤ 199) : fd_ok (f_X2_hold_1 N p1 p2 p4 p5 σ) (fun v s => fd_InvC s ∧ fd_fr [216] σ s ∧ (True)) := by
  have lit0 : (0 : Int32).toInt = 0 := by decide
  have lit1 : (1 : Int32).toInt = 1 := by decide
  have f0 : fd_fr [216] σ σ := fd_fr_rf
  unfold f_X2_hold_1
  refine fd_ok_gd (Int32.not_lt.mpr (Int32.le_iff_toInt_le.mpr (by omega))) ?_
  refine fd_ok_gd (Int32.not_lt.mpr (Int32.le_iff_toInt_le.mpr (by omega))) ?_
  have r_1 : (0 : Int) ≤ (σ.1 1).toInt ∧ (σ.1 1).toInt ≤ 200 := i0.1 1
  refine fd_ok_gd (Int32.not_lt.mpr (Int32.le_iff_toInt_le.mpr (by omega))) ?_
  refine fd_ok_gd (fd_clamp (by omega)) ?_
  refine fd_ok_gd (fd_clamp (by omega)) ?_
  refine fd_ok_lt (fun σ6_2 eσ6_2 => ?_)
  have i_3 : fd_InvC σ6_2 := fd_inv_cL eσ6_2 i0
  have f_4 : fd_fr [216] σ σ6_2 := fd_fr_tr f0 (fd_fr_cL eσ6_2 (by decide))
  have t_5 : (σ6_2.1 1).toInt = (σ.1 1).toInt := by subst eσ6_2; rfl
  refine fd_ok_lt (fun x7_6 ex7_6 => ?_)
  have t_7 := fd_mm ex7_6
  refine fd_ok_mono (s_X2_hold_1_L25 N hN N _ _ _ _ _ _ i_3 (by omega) (by omega) (by omega)) ?_
  rintro v s ⟨hi, hf, hx⟩
  exact ⟨hi, fd_fr_tr f_4 (fd_fr_mono hf (by decide)), trivial⟩
set_option maxHeartbeats 4000000 in
theorem s_X3_tryFault_4 (N : Nat) (hN : 1000 ≤ N) (p1 : Int32) (p2 : Int32) (σ : fd_St) (i0 : fd_InvC σ) (h0 : 0 ≤ p2.toInt) (h1 : p2.toInt ≤ 199) (h2 : 1 < p1.toInt → p2.toInt < 40) : fd_ok (f_X3_tryFault_4 N p1 p2 σ) (fun v s => fd_InvC s ∧ fd_fr [216] σ s ∧ (True)) := by
  have lit0 : (0 : Int32).toInt = 0 := by decide
  have lit1 : (1 : Int32).toInt = 1 := by decide
  have lit2 : (2 : Int32).toInt = 2 := by decide
  have f0 : fd_fr [216] σ σ := fd_fr_rf
  unfold f_X3_tryFault_4
  refine fd_ok_ite (fun c_1 => ?_) (fun c_1 => ?_)
  ·
    have d_2 := Int32.lt_iff_toInt_lt.mp c_1
    refine fd_ok_bd ?_
    try unfold f_X4_first_3
    refine fd_ok_gd (vp_in_iff.mpr ⟨by omega, by omega⟩) ?_
    refine fd_ok_pb ?_
    refine fd_ok_bd ?_
    try unfold f_X4_second_3
    refine fd_ok_gd (vp_in_iff.mpr ⟨by omega, by omega⟩) ?_
    refine fd_ok_pb ?_
    refine fd_ok_bd ?_
    try unfold f_X2_holdJoined_1
    refine fd_ok_ite (fun c_3 => ?_) (fun c_3 => ?_)
    ·
      have d_4 := congrArg Int32.toInt c_3
      have r_5 : (0 : Int) ≤ (σ.2.1 20 p2.toNatClampNeg).toInt ∧ (σ.2.1 20 p2.toNatClampNeg).toInt ≤ 199 := i0.2.1 20 _
      refine fd_ok_gd (vp_in_iff.mpr ⟨by omega, by omega⟩) ?_
      have r_6 : (0 : Int) ≤ (σ.2.1 21 p2.toNatClampNeg).toInt ∧ (σ.2.1 21 p2.toNatClampNeg).toInt ≤ 199 := i0.2.1 21 _
      refine fd_ok_gd (vp_in_iff.mpr ⟨by omega, by omega⟩) ?_
      try unfold f_X2_holdJoined_1_J34
      refine fd_ok_bd ?_
      refine fd_ok_cl (s_X2_hold_1 N hN _ _ _ _ _ i0 (by omega) (by omega) (by omega) (by omega)) ?_
      rintro v_7 σ_8 ⟨i_9, g_10, x_11⟩
      have f_12 : fd_fr [216] σ σ_8 := fd_fr_tr f0 (fd_fr_mono g_10 (by decide))
      refine fd_ok_pb ?_
      exact fd_ok_some ⟨i_9, f_12, trivial⟩
    ·
      have r_14 : (0 : Int) ≤ (σ.2.1 20 p2.toNatClampNeg).toInt ∧ (σ.2.1 20 p2.toNatClampNeg).toInt ≤ 199 := i0.2.1 20 _
      refine fd_ok_gd (vp_in_iff.mpr ⟨by omega, by omega⟩) ?_
      have r_15 : (0 : Int) ≤ (σ.2.1 21 p2.toNatClampNeg).toInt ∧ (σ.2.1 21 p2.toNatClampNeg).toInt ≤ 199 := i0.2.1 21 _
      refine fd_ok_gd (vp_in_iff.mpr ⟨by omega, by omega⟩) ?_
      try unfold f_X2_holdJoined_1_J34
      refine fd_ok_bd ?_
      refine fd_ok_cl (s_X2_hold_1 N hN _ _ _ _ _ i0 (by omega) (by omega) (by omega) (by omega)) ?_
      rintro v_16 σ_17 ⟨i_18, g_19, x_20⟩
      have f_21 : fd_fr [216] σ σ_17 := fd_fr_tr f0 (fd_fr_mono g_19 (by decide))
      refine fd_ok_pb ?_
      exact fd_ok_some ⟨i_18, f_21, trivial⟩
  ·
    have d_22 := Int32.le_iff_toInt_le.mp (Int32.not_lt.mp c_1)
    refine fd_ok_bd ?_
    try unfold f_X2_holdStuck_1
    refine fd_ok_bd ?_
    try unfold f_X2_stuckRow
    refine fd_ok_ite (fun c_23 => ?_) (fun c_23 => ?_)
    ·
      have d_24 := congrArg Int32.toInt c_23
      refine fd_ok_pb ?_
      refine fd_ok_bd ?_
      try unfold f_X2_stuckRow
      refine fd_ok_ite (fun c_25 => ?_) (fun c_25 => ?_)
      ·
        have d_26 := congrArg Int32.toInt c_25
        refine fd_ok_pb ?_
        refine fd_ok_bd ?_
        refine fd_ok_cl (s_X2_hold_1 N hN _ _ _ _ _ i0 (by omega) (by omega) (by omega) (by omega)) ?_
        rintro v_27 σ_28 ⟨i_29, g_30, x_31⟩
        have f_32 : fd_fr [216] σ σ_28 := fd_fr_tr f0 (fd_fr_mono g_30 (by decide))
        refine fd_ok_pb ?_
        exact fd_ok_some ⟨i_29, f_32, trivial⟩
      ·
        have d_33 : ¬ p1.toInt = (0 : Int32).toInt := fun q => c_25 (Int32.toInt_inj.mp q)
        refine fd_ok_pb ?_
        refine fd_ok_bd ?_
        refine fd_ok_cl (s_X2_hold_1 N hN _ _ _ _ _ i0 (by omega) (by omega) (by omega) (by omega)) ?_
        rintro v_34 σ_35 ⟨i_36, g_37, x_38⟩
        have f_39 : fd_fr [216] σ σ_35 := fd_fr_tr f0 (fd_fr_mono g_37 (by decide))
        refine fd_ok_pb ?_
        exact fd_ok_some ⟨i_36, f_39, trivial⟩
    ·
      have d_40 : ¬ p1.toInt = (0 : Int32).toInt := fun q => c_23 (Int32.toInt_inj.mp q)
      refine fd_ok_pb ?_
      refine fd_ok_bd ?_
      try unfold f_X2_stuckRow
      refine fd_ok_ite (fun c_41 => ?_) (fun c_41 => ?_)
      ·
        have d_42 := congrArg Int32.toInt c_41
        refine fd_ok_pb ?_
        refine fd_ok_bd ?_
        refine fd_ok_cl (s_X2_hold_1 N hN _ _ _ _ _ i0 (by omega) (by omega) (by omega) (by omega)) ?_
        rintro v_43 σ_44 ⟨i_45, g_46, x_47⟩
        have f_48 : fd_fr [216] σ σ_44 := fd_fr_tr f0 (fd_fr_mono g_46 (by decide))
        refine fd_ok_pb ?_
        exact fd_ok_some ⟨i_45, f_48, trivial⟩
      ·
        have d_49 : ¬ p1.toInt = (0 : Int32).toInt := fun q => c_41 (Int32.toInt_inj.mp q)
        refine fd_ok_pb ?_
        refine fd_ok_bd ?_
        refine fd_ok_cl (s_X2_hold_1 N hN _ _ _ _ _ i0 (by omega) (by omega) (by omega) (by omega)) ?_
        rintro v_50 σ_51 ⟨i_52, g_53, x_54⟩
        have f_55 : fd_fr [216] σ σ_51 := fd_fr_tr f0 (fd_fr_mono g_53 (by decide))
        refine fd_ok_pb ?_
        exact fd_ok_some ⟨i_52, f_55, trivial⟩
set_option maxHeartbeats 4000000 in
theorem s_J13_bitCount_95d88_C (N : Nat) (hN : 1000 ≤ N) (p0 : Int64) (σ : fd_St) (i0 : fd_InvC σ) : fd_ok (f_J13_bitCount_95d88_C N p0 σ) (fun v s => fd_InvC s ∧ fd_fr [] σ s ∧ (True)) := by
  have lit0 : (0 : Int32).toInt = 0 := by decide
  have lit1 : (1 : Int32).toInt = 1 := by decide
  have f0 : fd_fr [] σ σ := fd_fr_rf
  unfold f_J13_bitCount_95d88_C
  refine fd_ok_lt (fun x1_1 ex1_1 => ?_)
  refine fd_ok_lt (fun x2_2 ex2_2 => ?_)
  refine fd_ok_lt (fun x3_3 ex3_3 => ?_)
  refine fd_ok_lt (fun x4_4 ex4_4 => ?_)
  refine fd_ok_lt (fun x5_5 ex5_5 => ?_)
  refine fd_ok_lt (fun x6_6 ex6_6 => ?_)
  exact fd_ok_some ⟨i0, f0, trivial⟩
set_option maxHeartbeats 4000000 in
theorem s_X3_compareWithFails_4_L17 (N : Nat) (hN : 1000 ≤ N) : ∀ (n : Nat) (y1 : Int64) (y3 : Int32) (σ : fd_St), fd_InvC σ → (0 ≤ y3.toInt) → (y3.toInt ≤ 32) → 32 - y3.toInt < (n : Int) → fd_ok (f_X3_compareWithFails_4_L17 N n y1 y3 σ) (fun v s => fd_InvC s ∧ fd_fr [12, 13, 14] σ s ∧ (True)) := by
  have lit0 : (0 : Int32).toInt = 0 := by decide
  have lit1 : (1 : Int32).toInt = 1 := by decide
  intro n
  induction n with
  | zero =>
    intro y1 y3 σ i0 h0 h1 hm
    omega
  | succ n ih =>
    intro y1 y3 σ i0 h0 h1 hm
    have f0 : fd_fr [12, 13, 14] σ σ := fd_fr_rf
    unfold f_X3_compareWithFails_4_L17
    refine fd_ok_bd ?_
    try unfold f_X5_size_2
    refine fd_ok_pb ?_
    have r_1 : (0 : Int) ≤ (σ.1 4).toInt ∧ (σ.1 4).toInt ≤ 32 := i0.1 4
    refine fd_ok_ite (fun c_2 => ?_) (fun c_2 => ?_)
    ·
      have d_3 := Int32.le_iff_toInt_le.mp c_2
      exact fd_ok_some ⟨i0, f0, trivial⟩
    ·
      have d_4 := Int32.lt_iff_toInt_lt.mp (Int32.not_le.mp c_2)
      refine fd_ok_bd ?_
      try unfold f_X5_net_2
      refine fd_ok_gd (vp_in_iff.mpr ⟨by omega, by omega⟩) ?_
      refine fd_ok_pb ?_
      refine fd_ok_bd ?_
      try unfold f_X2_changed_1
      have r_5 : (0 : Int) ≤ (σ.2.1 18 y3.toNatClampNeg).toInt ∧ (σ.2.1 18 y3.toNatClampNeg).toInt ≤ 199 := i0.2.1 18 _
      refine fd_ok_gd (vp_in_iff.mpr ⟨by omega, by omega⟩) ?_
      refine fd_ok_gd (vp_in_iff.mpr ⟨by omega, by omega⟩) ?_
      refine fd_ok_bd ?_
      refine fd_ok_cl (s_X2_counted_1 N hN _ i0) ?_
      rintro v_6 σ_7 ⟨i_8, g_9, x_10⟩
      have f_11 : fd_fr [12, 13, 14] σ σ_7 := fd_fr_tr f0 (fd_fr_mono g_9 (by decide))
      have t_12 : (σ_7.1 4).toInt = (σ.1 4).toInt := congrArg Int32.toInt (g_9.1 4 (by decide))
      have t_13 : (σ_7.1 18).toInt = (σ.1 18).toInt := congrArg Int32.toInt (g_9.1 18 (by decide))
      refine fd_ok_pb ?_
      refine fd_ok_bd ?_
      try unfold f_X5_fails_2
      refine fd_ok_gd (vp_in_iff.mpr ⟨by omega, by omega⟩) ?_
      refine fd_ok_pb ?_
      refine fd_ok_bd ?_
      try unfold f_X9_add_8
      refine fd_ok_bd ?_
      refine fd_ok_cl (s_J13_bitCount_95d88_C N hN _ _ i_8) ?_
      rintro v_14 σ_15 ⟨i_16, g_17, x_18⟩
      have f_19 : fd_fr [12, 13, 14] σ σ_15 := fd_fr_tr f_11 (fd_fr_mono g_17 (by decide))
      have t_20 : (σ_15.1 4).toInt = (σ_7.1 4).toInt := congrArg Int32.toInt (g_17.1 4 (by decide))
      have t_21 : (σ_15.1 18).toInt = (σ_7.1 18).toInt := congrArg Int32.toInt (g_17.1 18 (by decide))
      refine fd_ok_lt (fun σ6_22 eσ6_22 => ?_)
      have i_23 : fd_InvC σ6_22 := fd_inv_sI eσ6_22 i_16 (fd_rng _)
      have f_24 : fd_fr [12, 13, 14] σ σ6_22 := fd_fr_tr f_19 (fd_fr_sI eσ6_22 (by decide))
      have t_25 : (σ6_22.1 4).toInt = (σ_15.1 4).toInt := congrArg Int32.toInt (fd_tN eσ6_22 (by decide))
      have t_26 : (σ6_22.1 18).toInt = (σ_15.1 18).toInt := congrArg Int32.toInt (fd_tN eσ6_22 (by decide))
      refine fd_ok_bd ?_
      refine fd_ok_cl (s_J13_bitCount_95d88_C N hN _ _ i_23) ?_
      rintro v_27 σ_28 ⟨i_29, g_30, x_31⟩
      have f_32 : fd_fr [12, 13, 14] σ σ_28 := fd_fr_tr f_24 (fd_fr_mono g_30 (by decide))
      have t_33 : (σ_28.1 4).toInt = (σ6_22.1 4).toInt := congrArg Int32.toInt (g_30.1 4 (by decide))
      have t_34 : (σ_28.1 18).toInt = (σ6_22.1 18).toInt := congrArg Int32.toInt (g_30.1 18 (by decide))
      refine fd_ok_lt (fun σ12_35 eσ12_35 => ?_)
      have i_36 : fd_InvC σ12_35 := fd_inv_sI eσ12_35 i_29 (fd_rng _)
      have f_37 : fd_fr [12, 13, 14] σ σ12_35 := fd_fr_tr f_32 (fd_fr_sI eσ12_35 (by decide))
      have t_38 : (σ12_35.1 4).toInt = (σ_28.1 4).toInt := congrArg Int32.toInt (fd_tN eσ12_35 (by decide))
      have t_39 : (σ12_35.1 18).toInt = (σ_28.1 18).toInt := congrArg Int32.toInt (fd_tN eσ12_35 (by decide))
      refine fd_ok_bd ?_
      refine fd_ok_cl (s_J13_bitCount_95d88_C N hN _ _ i_36) ?_
      rintro v_40 σ_41 ⟨i_42, g_43, x_44⟩
      have f_45 : fd_fr [12, 13, 14] σ σ_41 := fd_fr_tr f_37 (fd_fr_mono g_43 (by decide))
      have t_46 : (σ_41.1 4).toInt = (σ12_35.1 4).toInt := congrArg Int32.toInt (g_43.1 4 (by decide))
      have t_47 : (σ_41.1 18).toInt = (σ12_35.1 18).toInt := congrArg Int32.toInt (g_43.1 18 (by decide))
      refine fd_ok_lt (fun σ18_48 eσ18_48 => ?_)
      have i_49 : fd_InvC σ18_48 := fd_inv_sI eσ18_48 i_42 (fd_rng _)
      have f_50 : fd_fr [12, 13, 14] σ σ18_48 := fd_fr_tr f_45 (fd_fr_sI eσ18_48 (by decide))
      have t_51 : (σ18_48.1 4).toInt = (σ_41.1 4).toInt := congrArg Int32.toInt (fd_tN eσ18_48 (by decide))
      have t_52 : (σ18_48.1 18).toInt = (σ_41.1 18).toInt := congrArg Int32.toInt (fd_tN eσ18_48 (by decide))
      refine fd_ok_pb ?_
      refine fd_ok_lt (fun x37_53 ex37_53 => ?_)
      have t_54 := fd_la ex37_53 (by omega) (by omega)
      refine fd_ok_mono (ih _ _ _ i_49 (by omega) (by omega) (by omega)) ?_
      rintro v s ⟨hi, hf, hx⟩
      exact ⟨hi, fd_fr_tr f_50 hf, trivial⟩
set_option maxHeartbeats 4000000 in
theorem s_X3_compareWithFails_4 (N : Nat) (hN : 1000 ≤ N) (σ : fd_St) (i0 : fd_InvC σ) : fd_ok (f_X3_compareWithFails_4 N σ) (fun v s => fd_InvC s ∧ fd_fr [12, 13, 14] σ s ∧ (True)) := by
  have lit0 : (0 : Int32).toInt = 0 := by decide
  have lit1 : (1 : Int32).toInt = 1 := by decide
  have f0 : fd_fr [12, 13, 14] σ σ := fd_fr_rf
  unfold f_X3_compareWithFails_4
  refine fd_ok_bd ?_
  refine fd_ok_cl (s_X2_counted_1 N hN _ i0) ?_
  rintro v_1 σ_2 ⟨i_3, g_4, x_5⟩
  have f_6 : fd_fr [12, 13, 14] σ σ_2 := fd_fr_tr f0 (fd_fr_mono g_4 (by decide))
  refine fd_ok_bd ?_
  try unfold f_X9_reset_8
  refine fd_ok_lt (fun σ1_7 eσ1_7 => ?_)
  have i_8 : fd_InvC σ1_7 := fd_inv_sI eσ1_7 i_3 (fd_rng _)
  have f_9 : fd_fr [12, 13, 14] σ σ1_7 := fd_fr_tr f_6 (fd_fr_sI eσ1_7 (by decide))
  refine fd_ok_lt (fun σ2_10 eσ2_10 => ?_)
  have i_11 : fd_InvC σ2_10 := fd_inv_sI eσ2_10 i_8 (fd_rng _)
  have f_12 : fd_fr [12, 13, 14] σ σ2_10 := fd_fr_tr f_9 (fd_fr_sI eσ2_10 (by decide))
  refine fd_ok_lt (fun σ3_13 eσ3_13 => ?_)
  have i_14 : fd_InvC σ3_13 := fd_inv_sI eσ3_13 i_11 (fd_rng _)
  have f_15 : fd_fr [12, 13, 14] σ σ3_13 := fd_fr_tr f_12 (fd_fr_sI eσ3_13 (by decide))
  refine fd_ok_pb ?_
  refine fd_ok_mono (s_X3_compareWithFails_4_L17 N hN N _ _ _ i_14 (by omega) (by omega) (by omega)) ?_
  rintro v s ⟨hi, hf, hx⟩
  exact ⟨hi, fd_fr_tr f_15 (fd_fr_mono hf (by decide)), trivial⟩
set_option maxHeartbeats 4000000 in
theorem s_X8_sum_5 (N : Nat) (hN : 1000 ≤ N) (p1 : Int32) (σ : fd_St) (i0 : fd_InvC σ) (h0 : 0 ≤ p1.toInt) (h1 : p1.toInt ≤ 479) : fd_ok (f_X8_sum_5 N p1 σ) (fun v s => fd_InvC s ∧ fd_fr [] σ s ∧ (True)) := by
  have lit0 : (0 : Int32).toInt = 0 := by decide
  have lit1 : (1 : Int32).toInt = 1 := by decide
  have f0 : fd_fr [] σ σ := fd_fr_rf
  unfold f_X8_sum_5
  refine fd_ok_bd ?_
  try unfold f_X8_missed_5
  refine fd_ok_gd (vp_in_iff.mpr ⟨by omega, by omega⟩) ?_
  have r_1 : (0 : Int) ≤ (σ.2.1 28 p1.toNatClampNeg).toInt ∧ (σ.2.1 28 p1.toNatClampNeg).toInt ≤ 479 := i0.2.1 28 _
  refine fd_ok_gd (vp_in_iff.mpr ⟨by omega, by omega⟩) ?_
  refine fd_ok_pb ?_
  refine fd_ok_bd ?_
  try unfold f_X8_wrong_5
  refine fd_ok_gd (vp_in_iff.mpr ⟨by omega, by omega⟩) ?_
  refine fd_ok_gd (vp_in_iff.mpr ⟨by omega, by omega⟩) ?_
  refine fd_ok_pb ?_
  exact fd_ok_some ⟨i0, f0, trivial⟩
set_option maxHeartbeats 4000000 in
theorem s_X8_add_5_8_L65 (N : Nat) (hN : 1000 ≤ N) : ∀ (n : Nat) (y4 : Int32) (σ : fd_St), fd_InvC σ → (0 ≤ y4.toInt) → (y4.toInt ≤ 479) → ((σ.1 6).toInt ≤ 479) → y4.toInt < (n : Int) → fd_ok (f_X8_add_5_8_L65 N n y4 σ) (fun v s => fd_InvC s ∧ fd_fr [6, 128] σ s ∧ ((s.1 6).toInt = (σ.1 6).toInt + 1)) := by
  have litm1 : (-1 : Int32).toInt = -1 := by decide
  have lit0 : (0 : Int32).toInt = 0 := by decide
  have lit1 : (1 : Int32).toInt = 1 := by decide
  have lit2 : (2 : Int32).toInt = 2 := by decide
  intro n
  induction n with
  | zero =>
    intro y4 σ i0 h0 h1 h2 hm
    omega
  | succ n ih =>
    intro y4 σ i0 h0 h1 h2 hm
    have f0 : fd_fr [6, 128] σ σ := fd_fr_rf
    unfold f_X8_add_5_8_L65
    refine fd_ok_ite (fun c_1 => ?_) (fun c_1 => ?_)
    ·
      have d_2 := Int32.le_iff_toInt_le.mp c_1
      try unfold f_X8_add_5_8_J107
      refine fd_ok_gd (vp_in_iff.mpr ⟨by omega, by omega⟩) ?_
      refine fd_ok_lt (fun σ29_3 eσ29_3 => ?_)
      have r_6 : (0 : Int) ≤ (σ.1 6).toInt ∧ (σ.1 6).toInt ≤ 480 := i0.1 6
      have i_4 : fd_InvC σ29_3 := fd_inv_sA eσ29_3 i0 (by decide) (by decide) ⟨(by omega : (0 : Int) ≤ (σ.1 6).toInt), (by omega : (σ.1 6).toInt ≤ 479)⟩
      have f_5 : fd_fr [6, 128] σ σ29_3 := fd_fr_tr f0 (fd_fr_sA eσ29_3 (by decide))
      have t_7 : (σ29_3.1 6).toInt = (σ.1 6).toInt := by subst eσ29_3; rfl
      refine fd_ok_lt (fun σ30_8 eσ30_8 => ?_)
      have r_11 : (0 : Int) ≤ (σ29_3.1 6).toInt ∧ (σ29_3.1 6).toInt ≤ 480 := i_4.1 6
      have u_12 := Jvm.Kit.i32_add (x := (σ29_3.1 6)) (y := (1 : Int32)) (by omega) (by omega)
      have i_9 : fd_InvC σ30_8 := fd_inv_sI eσ30_8 i_4 ⟨(by omega : (0 : Int) ≤ ((σ29_3.1 6) + (1 : Int32)).toInt), (by omega : ((σ29_3.1 6) + (1 : Int32)).toInt ≤ 480)⟩
      have f_10 : fd_fr [6, 128] σ σ30_8 := fd_fr_tr f_5 (fd_fr_sI eσ30_8 (by decide))
      have t_13 : (σ30_8.1 6).toInt = ((σ29_3.1 6) + (1 : Int32)).toInt := congrArg Int32.toInt (fd_tI eσ30_8)
      have x_14 : (σ30_8.1 6).toInt = (σ.1 6).toInt + 1 := by omega
      exact fd_ok_some ⟨i_9, f_10, x_14⟩
    ·
      have d_15 := Int32.lt_iff_toInt_lt.mp (Int32.not_le.mp c_1)
      refine fd_ok_bd ?_
      have u_16 := Jvm.Kit.i32_sub (x := y4) (y := (1 : Int32)) (by omega) (by omega)
      refine fd_ok_cl (s_X8_sum_5 N hN _ _ i0 (by omega) (by omega)) ?_
      rintro v_17 σ_18 ⟨i_19, g_20, x_21⟩
      have f_22 : fd_fr [6, 128] σ σ_18 := fd_fr_tr f0 (fd_fr_mono g_20 (by decide))
      have t_23 : (σ_18.1 6).toInt = (σ.1 6).toInt := congrArg Int32.toInt (g_20.1 6 (by decide))
      refine fd_ok_bd ?_
      try unfold f_X9_sum_8
      refine fd_ok_pb ?_
      refine fd_ok_ite (fun c_24 => ?_) (fun c_24 => ?_)
      ·
        try unfold f_X8_add_5_8_J107
        refine fd_ok_gd (vp_in_iff.mpr ⟨by omega, by omega⟩) ?_
        refine fd_ok_lt (fun σ29_26 eσ29_26 => ?_)
        have r_29 : (0 : Int) ≤ (σ_18.1 6).toInt ∧ (σ_18.1 6).toInt ≤ 480 := i_19.1 6
        have i_27 : fd_InvC σ29_26 := fd_inv_sA eσ29_26 i_19 (by decide) (by decide) ⟨(by omega : (0 : Int) ≤ (σ_18.1 6).toInt), (by omega : (σ_18.1 6).toInt ≤ 479)⟩
        have f_28 : fd_fr [6, 128] σ σ29_26 := fd_fr_tr f_22 (fd_fr_sA eσ29_26 (by decide))
        have t_30 : (σ29_26.1 6).toInt = (σ_18.1 6).toInt := by subst eσ29_26; rfl
        refine fd_ok_lt (fun σ30_31 eσ30_31 => ?_)
        have r_34 : (0 : Int) ≤ (σ29_26.1 6).toInt ∧ (σ29_26.1 6).toInt ≤ 480 := i_27.1 6
        have u_35 := Jvm.Kit.i32_add (x := (σ29_26.1 6)) (y := (1 : Int32)) (by omega) (by omega)
        have i_32 : fd_InvC σ30_31 := fd_inv_sI eσ30_31 i_27 ⟨(by omega : (0 : Int) ≤ ((σ29_26.1 6) + (1 : Int32)).toInt), (by omega : ((σ29_26.1 6) + (1 : Int32)).toInt ≤ 480)⟩
        have f_33 : fd_fr [6, 128] σ σ30_31 := fd_fr_tr f_28 (fd_fr_sI eσ30_31 (by decide))
        have t_36 : (σ30_31.1 6).toInt = ((σ29_26.1 6) + (1 : Int32)).toInt := congrArg Int32.toInt (fd_tI eσ30_31)
        have x_37 : (σ30_31.1 6).toInt = (σ.1 6).toInt + 1 := by omega
        exact fd_ok_some ⟨i_32, f_33, x_37⟩
      ·
        refine fd_ok_gd (vp_in_iff.mpr ⟨by omega, by omega⟩) ?_
        refine fd_ok_gd (vp_in_iff.mpr ⟨by omega, by omega⟩) ?_
        refine fd_ok_lt (fun σ44_39 eσ44_39 => ?_)
        have r_42 : (0 : Int) ≤ (σ_18.2.1 28 (y4 - (1 : Int32)).toNatClampNeg).toInt ∧ (σ_18.2.1 28 (y4 - (1 : Int32)).toNatClampNeg).toInt ≤ 479 := i_19.2.1 28 _
        have i_40 : fd_InvC σ44_39 := fd_inv_sA eσ44_39 i_19 (by decide) (by decide) ⟨(by omega : (0 : Int) ≤ (σ_18.2.1 28 (y4 - (1 : Int32)).toNatClampNeg).toInt), (by omega : (σ_18.2.1 28 (y4 - (1 : Int32)).toNatClampNeg).toInt ≤ 479)⟩
        have f_41 : fd_fr [6, 128] σ σ44_39 := fd_fr_tr f_22 (fd_fr_sA eσ44_39 (by decide))
        have t_43 : (σ44_39.1 6).toInt = (σ_18.1 6).toInt := by subst eσ44_39; rfl
        refine fd_ok_lt (fun x45_44 ex45_44 => ?_)
        have t_45 := fd_la ex45_44 (by omega) (by omega)
        refine fd_ok_mono (ih _ _ i_40 (by omega) (by omega) (by omega) (by omega)) ?_
        rintro v s ⟨hi, hf, hx⟩
        have xx : (s.1 6).toInt = (σ.1 6).toInt + 1 := by omega
        exact ⟨hi, fd_fr_tr f_41 hf, xx⟩
