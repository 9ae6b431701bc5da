set_option maxHeartbeats 4000000 in
theorem s_X6_putByBottom_11_L5 (N : Nat) (hN : 1000 ≤ N) : ∀ (n : Nat) (y1 : Int32) (y2 : Int32) (σ : fd_St), fd_InvC σ → (0 ≤ y2.toInt) → (y2.toInt ≤ 59) → (0 ≤ y1.toInt) → (y1.toInt ≤ 59) → y2.toInt < (n : Int) → fd_ok (f_X6_putByBottom_11_L5 N n y1 y2 σ) (fun v s => fd_InvC s ∧ fd_fr [137] σ s ∧ (True)) := by
  have litm1 : (-1 : Int32).toInt = -1 := by decide
  have lit0 : (0 : Int32).toInt = 0 := by decide
  have lit1 : (1 : Int32).toInt = 1 := by decide
  intro n
  induction n with
  | zero =>
    intro y1 y2 σ i0 h0 h1 h2 h3 hm
    omega
  | succ n ih =>
    intro y1 y2 σ i0 h0 h1 h2 h3 hm
    have f0 : fd_fr [137] σ σ := fd_fr_rf
    unfold f_X6_putByBottom_11_L5
    refine fd_ok_ite (fun c_1 => ?_) (fun c_1 => ?_)
    ·
      have d_2 := Int32.le_iff_toInt_le.mp c_1
      try unfold f_X6_putByBottom_11_J51
      refine fd_ok_gd (vp_in_iff.mpr ⟨by omega, by omega⟩) ?_
      refine fd_ok_lt (fun σ4_3 eσ4_3 => ?_)
      have i_4 : fd_InvC σ4_3 := fd_inv_sA eσ4_3 i0 (by decide) (by decide) ⟨(by omega : (0 : Int) ≤ y1.toInt), (by omega : y1.toInt ≤ 59)⟩
      have f_5 : fd_fr [137] σ σ4_3 := fd_fr_tr f0 (fd_fr_sA eσ4_3 (by decide))
      exact fd_ok_some ⟨i_4, f_5, trivial⟩
    ·
      have d_6 := Int32.lt_iff_toInt_lt.mp (Int32.not_le.mp c_1)
      have u_7 := Jvm.Kit.i32_sub (x := y2) (y := (1 : Int32)) (by omega) (by omega)
      refine fd_ok_gd (vp_in_iff.mpr ⟨by omega, by omega⟩) ?_
      have r_8 : (0 : Int) ≤ (σ.2.1 37 (y2 - (1 : Int32)).toNatClampNeg).toInt ∧ (σ.2.1 37 (y2 - (1 : Int32)).toNatClampNeg).toInt ≤ 59 := i0.2.1 37 _
      refine fd_ok_gd (vp_in_iff.mpr ⟨by omega, by omega⟩) ?_
      refine fd_ok_gd (vp_in_iff.mpr ⟨by omega, by omega⟩) ?_
      refine fd_ok_ite (fun c_9 => ?_) (fun c_9 => ?_)
      ·
        have d_10 := Int32.le_iff_toInt_le.mp c_9
        try unfold f_X6_putByBottom_11_J51
        refine fd_ok_gd (vp_in_iff.mpr ⟨by omega, by omega⟩) ?_
        refine fd_ok_lt (fun σ4_11 eσ4_11 => ?_)
        have i_12 : fd_InvC σ4_11 := fd_inv_sA eσ4_11 i0 (by decide) (by decide) ⟨(by omega : (0 : Int) ≤ y1.toInt), (by omega : y1.toInt ≤ 59)⟩
        have f_13 : fd_fr [137] σ σ4_11 := fd_fr_tr f0 (fd_fr_sA eσ4_11 (by decide))
        exact fd_ok_some ⟨i_12, f_13, trivial⟩
      ·
        have d_14 := Int32.lt_iff_toInt_lt.mp (Int32.not_le.mp c_9)
        refine fd_ok_gd (vp_in_iff.mpr ⟨by omega, by omega⟩) ?_
        refine fd_ok_gd (vp_in_iff.mpr ⟨by omega, by omega⟩) ?_
        refine fd_ok_lt (fun σ11_15 eσ11_15 => ?_)
        have i_16 : fd_InvC σ11_15 := fd_inv_sA eσ11_15 i0 (by decide) (by decide) ⟨(by omega : (0 : Int) ≤ (σ.2.1 37 (y2 - (1 : Int32)).toNatClampNeg).toInt), (by omega : (σ.2.1 37 (y2 - (1 : Int32)).toNatClampNeg).toInt ≤ 59)⟩
        have f_17 : fd_fr [137] σ σ11_15 := fd_fr_tr f0 (fd_fr_sA eσ11_15 (by decide))
        refine fd_ok_lt (fun x12_18 ex12_18 => ?_)
        have t_19 := fd_la ex12_18 (by omega) (by omega)
        refine fd_ok_mono (ih _ _ _ i_16 (by omega) (by omega) (by omega) (by omega) (by omega)) ?_
        rintro v s ⟨hi, hf, hx⟩
        exact ⟨hi, fd_fr_tr f_17 hf, trivial⟩
set_option maxHeartbeats 4000000 in
theorem s_X6_choose_11_L8 (N : Nat) (hN : 1000 ≤ N) : ∀ (n : Nat) (y1 : Int32) (y2 : Int32) (y3 : Int32) (y4 : Int32) (σ : fd_St), fd_InvC σ → (0 ≤ y4.toInt) → (y4.toInt ≤ 60) → ((σ.1 19).toInt ≤ y4.toInt) → 60 - y4.toInt < (n : Int) → fd_ok (f_X6_choose_11_L8 N n y1 y2 y3 y4 σ) (fun v s => fd_InvC s ∧ fd_fr [19, 137, 138] σ s ∧ (True)) := by
  have lit0 : (0 : Int32).toInt = 0 := by decide
  have lit1 : (1 : Int32).toInt = 1 := by decide
  have lit2 : (2 : Int32).toInt = 2 := by decide
  intro n
  induction n with
  | zero =>
    intro y1 y2 y3 y4 σ i0 h0 h1 h2 hm
    omega
  | succ n ih =>
    intro y1 y2 y3 y4 σ i0 h0 h1 h2 hm
    have f0 : fd_fr [19, 137, 138] σ σ := fd_fr_rf
    unfold f_X6_choose_11_L8
    have r_1 : (0 : Int) ≤ (σ.1 18).toInt ∧ (σ.1 18).toInt ≤ 60 := i0.1 18
    refine fd_ok_ite (fun c_2 => ?_) (fun c_2 => ?_)
    ·
      have d_3 := Int32.le_iff_toInt_le.mp c_2
      exact fd_ok_some ⟨i0, f0, trivial⟩
    ·
      have d_4 := Int32.lt_iff_toInt_lt.mp (Int32.not_le.mp c_2)
      refine fd_ok_gd (vp_in_iff.mpr ⟨by omega, by omega⟩) ?_
      refine fd_ok_ite (fun c_5 => ?_) (fun c_5 => ?_)
      ·
        have d_6 := congrArg Int32.toInt c_5
        try unfold f_X6_choose_11_J39
        refine fd_ok_gd (vp_in_iff.mpr ⟨by omega, by omega⟩) ?_
        refine fd_ok_bd ?_
        try unfold f_X6_putEdge_11
        have r_7 : (0 : Int) ≤ (σ.1 19).toInt ∧ (σ.1 19).toInt ≤ 60 := i0.1 19
        have u_8 := fd_mul2 (y := (σ.1 19)) (by omega) (by omega)
        refine fd_ok_cl (s_X6_putEdge_11_L2 N hN N _ _ _ i0 (by omega) (by omega) (by omega)) ?_
        rintro v_9 σ_10 ⟨i_11, g_12, x_13⟩
        have f_14 : fd_fr [19, 137, 138] σ σ_10 := fd_fr_tr f0 (fd_fr_mono g_12 (by decide))
        have t_15 : (σ_10.1 18).toInt = (σ.1 18).toInt := congrArg Int32.toInt (g_12.1 18 (by decide))
        have t_16 : (σ_10.1 19).toInt = (σ.1 19).toInt := congrArg Int32.toInt (g_12.1 19 (by decide))
        refine fd_ok_gd (vp_in_iff.mpr ⟨by omega, by omega⟩) ?_
        refine fd_ok_bd ?_
        try unfold f_X6_putEdge_11
        have r_17 : (0 : Int) ≤ (σ_10.1 19).toInt ∧ (σ_10.1 19).toInt ≤ 60 := i_11.1 19
        have u_18 := fd_mul2 (y := (σ_10.1 19)) (by omega) (by omega)
        have u_19 := Jvm.Kit.i32_add (x := ((2 : Int32) * (σ_10.1 19))) (y := (1 : Int32)) (by omega) (by omega)
        refine fd_ok_cl (s_X6_putEdge_11_L2 N hN N _ _ _ i_11 (by omega) (by omega) (by omega)) ?_
        rintro v_20 σ_21 ⟨i_22, g_23, x_24⟩
        have f_25 : fd_fr [19, 137, 138] σ σ_21 := fd_fr_tr f_14 (fd_fr_mono g_23 (by decide))
        have t_26 : (σ_21.1 18).toInt = (σ_10.1 18).toInt := congrArg Int32.toInt (g_23.1 18 (by decide))
        have t_27 : (σ_21.1 19).toInt = (σ_10.1 19).toInt := congrArg Int32.toInt (g_23.1 19 (by decide))
        refine fd_ok_bd ?_
        try unfold f_X6_putByBottom_11
        have r_29 : (0 : Int) ≤ (σ_21.1 19).toInt ∧ (σ_21.1 19).toInt ≤ 60 := i_22.1 19
        refine fd_ok_lt (fun x1_28 ex1_28 => ?_)
        have t_30 : x1_28.toInt = (σ_21.1 19).toInt := congrArg Int32.toInt ex1_28
        refine fd_ok_cl (s_X6_putByBottom_11_L5 N hN N _ _ _ i_22 (by omega) (by omega) (by omega) (by omega) (by omega)) ?_
        rintro v_31 σ_32 ⟨i_33, g_34, x_35⟩
        have f_36 : fd_fr [19, 137, 138] σ σ_32 := fd_fr_tr f_25 (fd_fr_mono g_34 (by decide))
        have t_37 : (σ_32.1 18).toInt = (σ_21.1 18).toInt := congrArg Int32.toInt (g_34.1 18 (by decide))
        have t_38 : (σ_32.1 19).toInt = (σ_21.1 19).toInt := congrArg Int32.toInt (g_34.1 19 (by decide))
        refine fd_ok_lt (fun σ22_39 eσ22_39 => ?_)
        have r_42 : (0 : Int) ≤ (σ_32.1 19).toInt ∧ (σ_32.1 19).toInt ≤ 60 := i_33.1 19
        have u_43 := Jvm.Kit.i32_add (x := (σ_32.1 19)) (y := (1 : Int32)) (by omega) (by omega)
        have i_40 : fd_InvC σ22_39 := fd_inv_sI eσ22_39 i_33 ⟨(by omega : (0 : Int) ≤ ((σ_32.1 19) + (1 : Int32)).toInt), (by omega : ((σ_32.1 19) + (1 : Int32)).toInt ≤ 60)⟩
        have f_41 : fd_fr [19, 137, 138] σ σ22_39 := fd_fr_tr f_36 (fd_fr_sI eσ22_39 (by decide))
        have t_44 : (σ22_39.1 18).toInt = (σ_32.1 18).toInt := congrArg Int32.toInt (fd_tN eσ22_39 (by decide))
        have t_45 : (σ22_39.1 19).toInt = ((σ_32.1 19) + (1 : Int32)).toInt := congrArg Int32.toInt (fd_tI eσ22_39)
        try unfold f_X6_choose_11_J95
        refine fd_ok_lt (fun x23_46 ex23_46 => ?_)
        have t_47 := fd_la ex23_46 (by omega) (by omega)
        refine fd_ok_mono (ih _ _ _ _ _ i_40 (by omega) (by omega) (by omega) (by omega)) ?_
        rintro v s ⟨hi, hf, hx⟩
        exact ⟨hi, fd_fr_tr f_41 hf, trivial⟩
      ·
        refine fd_ok_gd (vp_in_iff.mpr ⟨by omega, by omega⟩) ?_
        refine fd_ok_ite (fun c_49 => ?_) (fun c_49 => ?_)
        ·
          have d_50 := congrArg Int32.toInt c_49
          try unfold f_X6_choose_11_J39
          refine fd_ok_gd (vp_in_iff.mpr ⟨by omega, by omega⟩) ?_
          refine fd_ok_bd ?_
          try unfold f_X6_putEdge_11
          have r_51 : (0 : Int) ≤ (σ.1 19).toInt ∧ (σ.1 19).toInt ≤ 60 := i0.1 19
          have u_52 := fd_mul2 (y := (σ.1 19)) (by omega) (by omega)
          refine fd_ok_cl (s_X6_putEdge_11_L2 N hN N _ _ _ i0 (by omega) (by omega) (by omega)) ?_
          rintro v_53 σ_54 ⟨i_55, g_56, x_57⟩
          have f_58 : fd_fr [19, 137, 138] σ σ_54 := fd_fr_tr f0 (fd_fr_mono g_56 (by decide))
          have t_59 : (σ_54.1 18).toInt = (σ.1 18).toInt := congrArg Int32.toInt (g_56.1 18 (by decide))
          have t_60 : (σ_54.1 19).toInt = (σ.1 19).toInt := congrArg Int32.toInt (g_56.1 19 (by decide))
          refine fd_ok_gd (vp_in_iff.mpr ⟨by omega, by omega⟩) ?_
          refine fd_ok_bd ?_
          try unfold f_X6_putEdge_11
          have r_61 : (0 : Int) ≤ (σ_54.1 19).toInt ∧ (σ_54.1 19).toInt ≤ 60 := i_55.1 19
          have u_62 := fd_mul2 (y := (σ_54.1 19)) (by omega) (by omega)
          have u_63 := Jvm.Kit.i32_add (x := ((2 : Int32) * (σ_54.1 19))) (y := (1 : Int32)) (by omega) (by omega)
          refine fd_ok_cl (s_X6_putEdge_11_L2 N hN N _ _ _ i_55 (by omega) (by omega) (by omega)) ?_
          rintro v_64 σ_65 ⟨i_66, g_67, x_68⟩
          have f_69 : fd_fr [19, 137, 138] σ σ_65 := fd_fr_tr f_58 (fd_fr_mono g_67 (by decide))
          have t_70 : (σ_65.1 18).toInt = (σ_54.1 18).toInt := congrArg Int32.toInt (g_67.1 18 (by decide))
          have t_71 : (σ_65.1 19).toInt = (σ_54.1 19).toInt := congrArg Int32.toInt (g_67.1 19 (by decide))
          refine fd_ok_bd ?_
          try unfold f_X6_putByBottom_11
          have r_73 : (0 : Int) ≤ (σ_65.1 19).toInt ∧ (σ_65.1 19).toInt ≤ 60 := i_66.1 19
          refine fd_ok_lt (fun x1_72 ex1_72 => ?_)
          have t_74 : x1_72.toInt = (σ_65.1 19).toInt := congrArg Int32.toInt ex1_72
          refine fd_ok_cl (s_X6_putByBottom_11_L5 N hN N _ _ _ i_66 (by omega) (by omega) (by omega) (by omega) (by omega)) ?_
          rintro v_75 σ_76 ⟨i_77, g_78, x_79⟩
          have f_80 : fd_fr [19, 137, 138] σ σ_76 := fd_fr_tr f_69 (fd_fr_mono g_78 (by decide))
          have t_81 : (σ_76.1 18).toInt = (σ_65.1 18).toInt := congrArg Int32.toInt (g_78.1 18 (by decide))
          have t_82 : (σ_76.1 19).toInt = (σ_65.1 19).toInt := congrArg Int32.toInt (g_78.1 19 (by decide))
          refine fd_ok_lt (fun σ22_83 eσ22_83 => ?_)
          have r_86 : (0 : Int) ≤ (σ_76.1 19).toInt ∧ (σ_76.1 19).toInt ≤ 60 := i_77.1 19
          have u_87 := Jvm.Kit.i32_add (x := (σ_76.1 19)) (y := (1 : Int32)) (by omega) (by omega)
          have i_84 : fd_InvC σ22_83 := fd_inv_sI eσ22_83 i_77 ⟨(by omega : (0 : Int) ≤ ((σ_76.1 19) + (1 : Int32)).toInt), (by omega : ((σ_76.1 19) + (1 : Int32)).toInt ≤ 60)⟩
          have f_85 : fd_fr [19, 137, 138] σ σ22_83 := fd_fr_tr f_80 (fd_fr_sI eσ22_83 (by decide))
          have t_88 : (σ22_83.1 18).toInt = (σ_76.1 18).toInt := congrArg Int32.toInt (fd_tN eσ22_83 (by decide))
          have t_89 : (σ22_83.1 19).toInt = ((σ_76.1 19) + (1 : Int32)).toInt := congrArg Int32.toInt (fd_tI eσ22_83)
          try unfold f_X6_choose_11_J95
          refine fd_ok_lt (fun x23_90 ex23_90 => ?_)
          have t_91 := fd_la ex23_90 (by omega) (by omega)
          refine fd_ok_mono (ih _ _ _ _ _ i_84 (by omega) (by omega) (by omega) (by omega)) ?_
          rintro v s ⟨hi, hf, hx⟩
          exact ⟨hi, fd_fr_tr f_85 hf, trivial⟩
        ·
          try unfold f_X6_choose_11_J95
          refine fd_ok_lt (fun x23_93 ex23_93 => ?_)
          have t_94 := fd_la ex23_93 (by omega) (by omega)
          refine fd_ok_mono (ih _ _ _ _ _ i0 (by omega) (by omega) (by omega) (by omega)) ?_
          rintro v s ⟨hi, hf, hx⟩
          exact ⟨hi, fd_fr_tr f0 hf, trivial⟩
set_option maxHeartbeats 4000000 in
theorem s_X6_heightAt_11_L9 (N : Nat) (hN : 1000 ≤ N) : ∀ (n : Nat) (y1 : Int32) (y2 : Int32) (y3 : Int32) (y4 : Int32) (y5 : Int32) (σ : fd_St), fd_InvC σ → (0 ≤ y5.toInt) → (y5.toInt ≤ 60) → 60 - y5.toInt < (n : Int) → fd_ok (f_X6_heightAt_11_L9 N n y1 y2 y3 y4 y5 σ) (fun v s => fd_InvC s ∧ fd_fr [] σ s ∧ (True)) := by
  have lit0 : (0 : Int32).toInt = 0 := by decide
  have lit1 : (1 : Int32).toInt = 1 := by decide
  intro n
  induction n with
  | zero =>
    intro y1 y2 y3 y4 y5 σ i0 h0 h1 hm
    omega
  | succ n ih =>
    intro y1 y2 y3 y4 y5 σ i0 h0 h1 hm
    have f0 : fd_fr [] σ σ := fd_fr_rf
    unfold f_X6_heightAt_11_L9
    have r_1 : (0 : Int) ≤ (σ.1 19).toInt ∧ (σ.1 19).toInt ≤ 60 := i0.1 19
    refine fd_ok_ite (fun c_2 => ?_) (fun c_2 => ?_)
    ·
      have d_3 := Int32.le_iff_toInt_le.mp c_2
      exact fd_ok_some ⟨i0, f0, trivial⟩
    ·
      have d_4 := Int32.lt_iff_toInt_lt.mp (Int32.not_le.mp c_2)
      refine fd_ok_gd (vp_in_iff.mpr ⟨by omega, by omega⟩) ?_
      have r_6 : (0 : Int) ≤ (σ.2.1 37 y5.toNatClampNeg).toInt ∧ (σ.2.1 37 y5.toNatClampNeg).toInt ≤ 59 := i0.2.1 37 _
      refine fd_ok_lt (fun x4_5 ex4_5 => ?_)
      have t_7 : x4_5.toInt = (σ.2.1 37 y5.toNatClampNeg).toInt := congrArg Int32.toInt ex4_5
      refine fd_ok_gd (vp_in_iff.mpr ⟨by omega, by omega⟩) ?_
      refine fd_ok_ite (fun c_8 => ?_) (fun c_8 => ?_)
      ·
        try unfold f_X6_heightAt_11_J97
        refine fd_ok_lt (fun x7_10 ex7_10 => ?_)
        have t_11 := fd_la ex7_10 (by omega) (by omega)
        refine fd_ok_mono (ih _ _ _ _ _ _ i0 (by omega) (by omega) (by omega)) ?_
        rintro v s ⟨hi, hf, hx⟩
        exact ⟨hi, fd_fr_tr f0 hf, trivial⟩
      ·
        refine fd_ok_gd (vp_in_iff.mpr ⟨by omega, by omega⟩) ?_
        refine fd_ok_ite (fun c_13 => ?_) (fun c_13 => ?_)
        ·
          try unfold f_X6_heightAt_11_J97
          refine fd_ok_lt (fun x7_15 ex7_15 => ?_)
          have t_16 := fd_la ex7_15 (by omega) (by omega)
          refine fd_ok_mono (ih _ _ _ _ _ _ i0 (by omega) (by omega) (by omega)) ?_
          rintro v s ⟨hi, hf, hx⟩
          exact ⟨hi, fd_fr_tr f0 hf, trivial⟩
        ·
          refine fd_ok_gd (vp_in_iff.mpr ⟨by omega, by omega⟩) ?_
          refine fd_ok_lt (fun x11_18 ex11_18 => ?_)
          have t_19 := fd_mm ex11_18
          refine fd_ok_gd (vp_in_iff.mpr ⟨by omega, by omega⟩) ?_
          refine fd_ok_lt (fun x13_20 ex13_20 => ?_)
          have t_21 := fd_mm ex13_20
          refine fd_ok_lt (fun x14_22 ex14_22 => ?_)
          have t_23 : x14_22.toInt = (y3 + (x13_20 - x11_18)).toInt := congrArg Int32.toInt ex14_22
          try unfold f_X6_heightAt_11_J97
          refine fd_ok_lt (fun x7_24 ex7_24 => ?_)
          have t_25 := fd_la ex7_24 (by omega) (by omega)
          refine fd_ok_mono (ih _ _ _ _ _ _ i0 (by omega) (by omega) (by omega)) ?_
          rintro v s ⟨hi, hf, hx⟩
          exact ⟨hi, fd_fr_tr f0 hf, trivial⟩
set_option maxHeartbeats 4000000 in
theorem s_X6_coveredByEither_11_L13 (N : Nat) (hN : 1000 ≤ N) : ∀ (n : Nat) (y3 : Int32) (y4 : Int32) (y5 : Int32) (σ : fd_St), fd_InvC σ → (1 ≤ y5.toInt) → (y5.toInt ≤ 120) → 120 - y5.toInt < (n : Int) → fd_ok (f_X6_coveredByEither_11_L13 N n y3 y4 y5 σ) (fun v s => fd_InvC s ∧ fd_fr [] σ s ∧ (True)) := by
  have lit0 : (0 : Int32).toInt = 0 := by decide
  have lit1 : (1 : Int32).toInt = 1 := by decide
  have lit2 : (2 : Int32).toInt = 2 := by decide
  intro n
  induction n with
  | zero =>
    intro y3 y4 y5 σ i0 h0 h1 hm
    omega
  | succ n ih =>
    intro y3 y4 y5 σ i0 h0 h1 hm
    have f0 : fd_fr [] σ σ := fd_fr_rf
    unfold f_X6_coveredByEither_11_L13
    have r_1 : (0 : Int) ≤ (σ.1 19).toInt ∧ (σ.1 19).toInt ≤ 60 := i0.1 19
    have u_2 := fd_mul2 (y := (σ.1 19)) (by omega) (by omega)
    refine fd_ok_ite (fun c_3 => ?_) (fun c_3 => ?_)
    ·
      have d_4 := Int32.le_iff_toInt_le.mp c_3
      exact fd_ok_some ⟨i0, f0, trivial⟩
    ·
      have d_5 := Int32.lt_iff_toInt_lt.mp (Int32.not_le.mp c_3)
      refine fd_ok_gd (vp_in_iff.mpr ⟨by omega, by omega⟩) ?_
      have u_6 := Jvm.Kit.i32_sub (x := y5) (y := (1 : Int32)) (by omega) (by omega)
      refine fd_ok_gd (vp_in_iff.mpr ⟨by omega, by omega⟩) ?_
      refine fd_ok_lt (fun x9_7 ex9_7 => ?_)
      have t_8 : x9_7.toInt = ((σ.2.1 38 y5.toNatClampNeg) - (σ.2.1 38 (y5 - (1 : Int32)).toNatClampNeg)).toInt := congrArg Int32.toInt ex9_7
      refine fd_ok_ite (fun c_9 => ?_) (fun c_9 => ?_)
      ·
        have d_10 := Int32.le_iff_toInt_le.mp c_9
        try unfold f_X6_coveredByEither_11_J70
        refine fd_ok_lt (fun x11_11 ex11_11 => ?_)
        have t_12 := fd_la ex11_11 (by omega) (by omega)
        refine fd_ok_mono (ih _ _ _ _ i0 (by omega) (by omega) (by omega)) ?_
        rintro v s ⟨hi, hf, hx⟩
        exact ⟨hi, fd_fr_tr f0 hf, trivial⟩
      ·
        have d_13 := Int32.lt_iff_toInt_lt.mp (Int32.not_le.mp c_9)
        refine fd_ok_gd (vp_in_iff.mpr ⟨by omega, by omega⟩) ?_
        refine fd_ok_bd ?_
        try unfold f_X6_heightAt_11
        refine fd_ok_lt (fun x1_14 ex1_14 => ?_)
        have t_15 : x1_14.toInt = (-y3).toInt := congrArg Int32.toInt ex1_14
        refine fd_ok_cl (s_X6_heightAt_11_L9 N hN N _ _ _ _ _ _ i0 (by omega) (by omega) (by omega)) ?_
        rintro v_16 σ_17 ⟨i_18, g_19, x_20⟩
        have f_21 : fd_fr [] σ σ_17 := fd_fr_tr f0 (fd_fr_mono g_19 (by decide))
        have t_22 : (σ_17.1 19).toInt = (σ.1 19).toInt := congrArg Int32.toInt (g_19.1 19 (by decide))
        refine fd_ok_lt (fun x18_23 ex18_23 => ?_)
        have t_24 : x18_23.toInt = (y4 + (x9_7 * v_16)).toInt := congrArg Int32.toInt ex18_23
        try unfold f_X6_coveredByEither_11_J70
        refine fd_ok_lt (fun x11_25 ex11_25 => ?_)
        have t_26 := fd_la ex11_25 (by omega) (by omega)
        refine fd_ok_mono (ih _ _ _ _ i_18 (by omega) (by omega) (by omega)) ?_
        rintro v s ⟨hi, hf, hx⟩
        exact ⟨hi, fd_fr_tr f_21 hf, trivial⟩
set_option maxHeartbeats 4000000 in
theorem s_J7_fill_53178_C_29_L5 (N : Nat) (hN : 1000 ≤ N) : ∀ (n : Nat) (y1 : Int32) (y2 : Int32) (y3 : Int32) (σ : fd_St), fd_InvC σ → (0 ≤ y2.toInt) → (y2.toInt ≤ 200) → (y3.toInt = 200) → 200 - y2.toInt < (n : Int) → fd_ok (f_J7_fill_53178_C_29_L5 N n y1 y2 y3 σ) (fun v s => fd_InvC s ∧ fd_fr [129] σ s ∧ (True)) := by
  have lit0 : (0 : Int32).toInt = 0 := by decide
  have lit1 : (1 : Int32).toInt = 1 := by decide
  intro n
  induction n with
  | zero =>
    intro y1 y2 y3 σ i0 h0 h1 h2 hm
    omega
  | succ n ih =>
    intro y1 y2 y3 σ i0 h0 h1 h2 hm
    have f0 : fd_fr [129] σ σ := fd_fr_rf
    unfold f_J7_fill_53178_C_29_L5
    refine fd_ok_ite (fun c_1 => ?_) (fun c_1 => ?_)
    ·
      have d_2 := Int32.le_iff_toInt_le.mp c_1
      exact fd_ok_some ⟨i0, f0, trivial⟩
    ·
      have d_3 := Int32.lt_iff_toInt_lt.mp (Int32.not_le.mp c_1)
      refine fd_ok_gd (vp_in_iff.mpr ⟨by omega, by omega⟩) ?_
      refine fd_ok_lt (fun σ3_4 eσ3_4 => ?_)
      have i_5 : fd_InvC σ3_4 := fd_inv_sA eσ3_4 i0 (by decide) (by decide) (fd_rng _)
      have f_6 : fd_fr [129] σ σ3_4 := fd_fr_tr f0 (fd_fr_sA eσ3_4 (by decide))
      refine fd_ok_lt (fun x4_7 ex4_7 => ?_)
      have t_8 := fd_la ex4_7 (by omega) (by omega)
      refine fd_ok_mono (ih _ _ _ _ i_5 (by omega) (by omega) (by omega) (by omega)) ?_
      rintro v s ⟨hi, hf, hx⟩
      exact ⟨hi, fd_fr_tr f_6 hf, trivial⟩
set_option maxHeartbeats 4000000 in
theorem s_X3_findSuspects_4_L22 (N : Nat) (hN : 1000 ≤ N) (k9 : Int32 → fd_St → Option (Unit × fd_St)) (σ0 : fd_St) (Q : Unit → fd_St → Prop) (b : Int) (hk9 : ∀ (z1 : Int32) (τ : fd_St), fd_InvC τ → fd_fr [6, 12, 13, 14, 123, 124, 125, 126, 127, 128, 216] σ0 τ → (b < z1.toInt) → (0 ≤ z1.toInt) → (z1.toInt ≤ 4) → ((z1.toInt = 0 → (τ.1 6).toInt ≤ 0) ∧ (z1.toInt = 1 → (τ.1 6).toInt ≤ 200 + 0) ∧ (z1.toInt = 2 → (τ.1 6).toInt ≤ 400 + 0) ∧ (z1.toInt = 3 → (τ.1 6).toInt ≤ 440 + 0)) → fd_ok (k9 z1 τ) Q) : ∀ (n : Nat) (y1 : Int32) (y2 : Int32) (y3 : Int32) (σ : fd_St), fd_InvC σ → fd_fr [6, 12, 13, 14, 123, 124, 125, 126, 127, 128, 216] σ0 σ → (b ≤ y1.toInt) → (0 ≤ y1.toInt) → (y1.toInt ≤ 3) → (0 ≤ y3.toInt) → (y3.toInt ≤ y2.toInt) → (y2.toInt ≤ 200) → (1 < y1.toInt → y2.toInt ≤ 40) → (y3.toInt ≤ 200) → ((y1.toInt = 0 → (σ.1 6).toInt ≤ y3.toInt) ∧ (y1.toInt = 1 → (σ.1 6).toInt ≤ 200 + y3.toInt) ∧ (y1.toInt = 2 → (σ.1 6).toInt ≤ 400 + y3.toInt) ∧ (y1.toInt = 3 → (σ.1 6).toInt ≤ 440 + y3.toInt)) → 200 - y3.toInt < (n : Int) → fd_ok (f_X3_findSuspects_4_L22 N k9 n y1 y2 y3 σ) Q := by
  have lit0 : (0 : Int32).toInt = 0 := by decide
  have lit1 : (1 : Int32).toInt = 1 := by decide
  intro n
  induction n with
  | zero =>
    intro y1 y2 y3 σ i0 f0 h0 h1 h2 h3 h4 h5 h6 h7 h8 hm
    omega
  | succ n ih =>
    intro y1 y2 y3 σ i0 f0 h0 h1 h2 h3 h4 h5 h6 h7 h8 hm
    unfold f_X3_findSuspects_4_L22
    refine fd_ok_ite (fun c_1 => ?_) (fun c_1 => ?_)
    ·
      have d_2 := Int32.le_iff_toInt_le.mp c_1
      refine fd_ok_lt (fun x13_3 ex13_3 => ?_)
      have t_4 := fd_la ex13_3 (by omega) (by omega)
      exact hk9 _ _ i0 f0 (by omega) (by omega) (by omega) (by omega)
    ·
      have d_5 := Int32.lt_iff_toInt_lt.mp (Int32.not_le.mp c_1)
      refine fd_ok_bd ?_
      refine fd_ok_cl (s_X3_tryFault_4 N hN _ _ _ i0 (by omega) (by omega) (by omega)) ?_
      rintro v_6 σ_7 ⟨i_8, g_9, x_10⟩
      have f_11 : fd_fr [6, 12, 13, 14, 123, 124, 125, 126, 127, 128, 216] σ0 σ_7 := fd_fr_tr f0 (fd_fr_mono g_9 (by decide))
      have t_12 : (σ_7.1 1).toInt = (σ.1 1).toInt := congrArg Int32.toInt (g_9.1 1 (by decide))
      have t_13 : (σ_7.1 5).toInt = (σ.1 5).toInt := congrArg Int32.toInt (g_9.1 5 (by decide))
      have t_14 : (σ_7.1 6).toInt = (σ.1 6).toInt := congrArg Int32.toInt (g_9.1 6 (by decide))
      refine fd_ok_bd ?_
      refine fd_ok_cl (s_X3_compareWithFails_4 N hN _ i_8) ?_
      rintro v_15 σ_16 ⟨i_17, g_18, x_19⟩
      have f_20 : fd_fr [6, 12, 13, 14, 123, 124, 125, 126, 127, 128, 216] σ0 σ_16 := fd_fr_tr f_11 (fd_fr_mono g_18 (by decide))
      have t_21 : (σ_16.1 1).toInt = (σ_7.1 1).toInt := congrArg Int32.toInt (g_18.1 1 (by decide))
      have t_22 : (σ_16.1 5).toInt = (σ_7.1 5).toInt := congrArg Int32.toInt (g_18.1 5 (by decide))
      have t_23 : (σ_16.1 6).toInt = (σ_7.1 6).toInt := congrArg Int32.toInt (g_18.1 6 (by decide))
      refine fd_ok_bd ?_
      try unfold f_X9_explained_8
      refine fd_ok_pb ?_
      refine fd_ok_ite (fun c_24 => ?_) (fun c_24 => ?_)
      ·
        have d_25 := Int32.le_iff_toInt_le.mp c_24
        try unfold f_X3_findSuspects_4_J60
        refine fd_ok_lt (fun x30_26 ex30_26 => ?_)
        have t_27 := fd_la ex30_26 (by omega) (by omega)
        exact ih _ _ _ _ i_17 f_20 (by omega) (by omega) (by omega) (by omega) (by omega) (by omega) (by omega) (by omega) (by omega) (by omega)
      ·
        have d_28 := Int32.lt_iff_toInt_lt.mp (Int32.not_le.mp c_24)
        refine fd_ok_bd ?_
        refine fd_ok_cl (s_X8_add_5_8 N hN _ _ _ i_17 (by omega) (by omega) (by omega) (by omega) (by omega) (by omega)) ?_
        rintro v_29 σ_30 ⟨i_31, g_32, x_33⟩
        have f_34 : fd_fr [6, 12, 13, 14, 123, 124, 125, 126, 127, 128, 216] σ0 σ_30 := fd_fr_tr f_20 (fd_fr_mono g_32 (by decide))
        have t_35 : (σ_30.1 1).toInt = (σ_16.1 1).toInt := congrArg Int32.toInt (g_32.1 1 (by decide))
        have t_36 : (σ_30.1 5).toInt = (σ_16.1 5).toInt := congrArg Int32.toInt (g_32.1 5 (by decide))
        try unfold f_X3_findSuspects_4_J60
        refine fd_ok_lt (fun x30_37 ex30_37 => ?_)
        have t_38 := fd_la ex30_37 (by omega) (by omega)
        exact ih _ _ _ _ i_31 f_34 (by omega) (by omega) (by omega) (by omega) (by omega) (by omega) (by omega) (by omega) (by omega) (by omega)
set_option maxHeartbeats 4000000 in
theorem s_X3_findSuspects_4_L9 (N : Nat) (hN : 1000 ≤ N) : ∀ (n : Nat) (y1 : Int32) (σ : fd_St), fd_InvC σ → (0 ≤ y1.toInt) → (y1.toInt ≤ 4) → ((y1.toInt = 0 → (σ.1 6).toInt ≤ 0) ∧ (y1.toInt = 1 → (σ.1 6).toInt ≤ 200 + 0) ∧ (y1.toInt = 2 → (σ.1 6).toInt ≤ 400 + 0) ∧ (y1.toInt = 3 → (σ.1 6).toInt ≤ 440 + 0)) → 4 - y1.toInt < (n : Int) → fd_ok (f_X3_findSuspects_4_L9 N n y1 σ) (fun v s => fd_InvC s ∧ fd_fr [6, 12, 13, 14, 123, 124, 125, 126, 127, 128, 216] σ s ∧ (True)) := by
  have lit0 : (0 : Int32).toInt = 0 := by decide
  have lit1 : (1 : Int32).toInt = 1 := by decide
  have lit3 : (3 : Int32).toInt = 3 := by decide
  intro n
  induction n with
  | zero =>
    intro y1 σ i0 h0 h1 h2 hm
    omega
  | succ n ih =>
    intro y1 σ i0 h0 h1 h2 hm
    have f0 : fd_fr [6, 12, 13, 14, 123, 124, 125, 126, 127, 128, 216] σ σ := fd_fr_rf
    unfold f_X3_findSuspects_4_L9
    refine fd_ok_ite (fun c_1 => ?_) (fun c_1 => ?_)
    ·
      have d_2 := Int32.lt_iff_toInt_lt.mp c_1
      exact fd_ok_some ⟨i0, f0, trivial⟩
    ·
      have d_3 := Int32.le_iff_toInt_le.mp (Int32.not_lt.mp c_1)
      refine fd_ok_bd ?_
      try unfold f_X3_faultsOf_4
      refine fd_ok_ite (fun c_4 => ?_) (fun c_4 => ?_)
      ·
        have d_5 := Int32.lt_iff_toInt_lt.mp c_4
        refine fd_ok_bd ?_
        try unfold f_X4_size_3
        refine fd_ok_pb ?_
        refine fd_ok_pb ?_
        have r_6 : (0 : Int) ≤ (σ.1 5).toInt ∧ (σ.1 5).toInt ≤ 40 := i0.1 5
        refine s_X3_findSuspects_4_L22 N hN (f_X3_findSuspects_4_L9 N n) σ _ y1.toInt (fun z1 τ jI jF j0 j1 j2 j3 => ?_) N _ _ _ _ i0 f0 (by omega) (by omega) (by omega) (by omega) (by omega) (by omega) (by omega) (by omega) (by omega) (by omega)
        refine fd_ok_mono (ih z1 τ jI (by omega) (by omega) (by omega) (by omega)) ?_
        rintro v s ⟨hi, hf, hx⟩
        exact ⟨hi, fd_fr_tr jF hf, trivial⟩
      ·
        have d_7 := Int32.le_iff_toInt_le.mp (Int32.not_lt.mp c_4)
        refine fd_ok_bd ?_
        try unfold f_X2_nets_1
        refine fd_ok_pb ?_
        refine fd_ok_pb ?_
        have r_8 : (0 : Int) ≤ (σ.1 1).toInt ∧ (σ.1 1).toInt ≤ 200 := i0.1 1
        refine s_X3_findSuspects_4_L22 N hN (f_X3_findSuspects_4_L9 N n) σ _ y1.toInt (fun z1 τ jI jF j0 j1 j2 j3 => ?_) N _ _ _ _ i0 f0 (by omega) (by omega) (by omega) (by omega) (by omega) (by omega) (by omega) (by omega) (by omega) (by omega)
        refine fd_ok_mono (ih z1 τ jI (by omega) (by omega) (by omega) (by omega)) ?_
        rintro v s ⟨hi, hf, hx⟩
        exact ⟨hi, fd_fr_tr jF hf, trivial⟩
